set_option maxHeartbeats 4000000 in
set_option maxRecDepth 100000 in
theorem g_kindOfSign (l : Launch) (D : va_G) (k : Nat → ClassId) (sz : Nat) (v : Int32)  : MI l yX4_kindOfSign wsX4_kindOfSign ({ frames := 0, cells := 0, slots := 0, locals := 0 }) D k [.int v] [] sz (fun (r : Int32) (u : Unit) => True) (fun (u : Unit) => []) := by
  refine Met.ofW (cc := cX4_kindOfSign) (maxL := 1) (ret := (some .int)) (by decide) rfl ?_
  intro p e s m args below meth c s₁ B hml hv
  obtain ⟨rfl, hsz, hP, hK, hD0, hN⟩ := hv
  have hx := B.exec
  have hb := B.bytes
  have hr := B.returns
  have hlocks := B.notSynchronized
  have hts := atoms_spec (ws := wsX4_kindOfSign) B.pre
  have hown : s.vm.findClass RX4 = some m.cls := findClass_of_methodNamed B.named
  subst hsz
  have hD := hD0.self (sz := s.heap.size)
  generalize hAe : va_A [] s.heap.size = A at hD ⊢
  have hA : ∀ q : Nat, s.heap.size ≤ q → A q := fun q h => by rw [← hAe]; exact Or.inr h
  have hS : va_S A s.heap s.heap [] := va_S.rf
  have hl := lv_entry ([.int v]) (n := 1) (Nat.le_of_ble_eq_true rfl)
  rw [lg_entry_eq]
  generalize (lg_sl ([.int v]) ++ List.replicate (1 - (lg_sl ([.int v])).length) Slot.unset).toArray = ls at hl ⊢
  have hl : lv_has ls 1 [(0, .int v)] := hl
  have hP : va_P D vwCl [] s.heap := hP
  refine lv_iload_n hx hb dX4_kindOfSign_0 rfl (lv_at hl 0 rfl) ?_
  refine lv_bipush (v := 97) hx hb dX4_kindOfSign_1 (by decide) ?_
  refine lv_icmp_lt (tgt := 14) hx hb dX4_kindOfSign_3 (by decide) (fun c_1 => ?_) (fun c_1 => ?_)
  · refine lv_iload_n hx hb dX4_kindOfSign_14 rfl (lv_at hl 0 rfl) ?_
    refine lv_bipush (v := 48) hx hb dX4_kindOfSign_15 (by decide) ?_
    refine lv_icmp_lt (tgt := 28) hx hb dX4_kindOfSign_17 (by decide) (fun c_2 => ?_) (fun c_2 => ?_)
    · refine lv_iload_n hx hb dX4_kindOfSign_28 rfl (lv_at hl 0 rfl) ?_
      refine lv_bipush (v := 59) hx hb dX4_kindOfSign_29 (by decide) ?_
      refine lv_icmp_ne (tgt := 38) hx hb dX4_kindOfSign_31 (by decide) (fun c_3 => ?_) (fun c_3 => ?_)
      · refine lv_iconst (v := 4) hx hb dX4_kindOfSign_38 (by decide) ?_
        exact hs_iret hx hb hr hlocks hK hP hD hS () [] rfl (by decide) dX4_kindOfSign_39 (trivial)
      · refine lv_iconst (v := 3) hx hb dX4_kindOfSign_34 (by decide) ?_
        refine lv_goto (tgt := 39) hx hb dX4_kindOfSign_35 (by decide) ?_
        exact hs_iret hx hb hr hlocks hK hP hD hS () [] rfl (by decide) dX4_kindOfSign_39 (trivial)
    · refine lv_iload_n hx hb dX4_kindOfSign_20 rfl (lv_at hl 0 rfl) ?_
      refine lv_bipush (v := 57) hx hb dX4_kindOfSign_21 (by decide) ?_
      refine lv_icmp_gt (tgt := 28) hx hb dX4_kindOfSign_23 (by decide) (fun c_4 => ?_) (fun c_4 => ?_)
      · refine lv_iload_n hx hb dX4_kindOfSign_28 rfl (lv_at hl 0 rfl) ?_
        refine lv_bipush (v := 59) hx hb dX4_kindOfSign_29 (by decide) ?_
        refine lv_icmp_ne (tgt := 38) hx hb dX4_kindOfSign_31 (by decide) (fun c_5 => ?_) (fun c_5 => ?_)
        · refine lv_iconst (v := 4) hx hb dX4_kindOfSign_38 (by decide) ?_
          exact hs_iret hx hb hr hlocks hK hP hD hS () [] rfl (by decide) dX4_kindOfSign_39 (trivial)
        · refine lv_iconst (v := 3) hx hb dX4_kindOfSign_34 (by decide) ?_
          refine lv_goto (tgt := 39) hx hb dX4_kindOfSign_35 (by decide) ?_
          exact hs_iret hx hb hr hlocks hK hP hD hS () [] rfl (by decide) dX4_kindOfSign_39 (trivial)
      · refine lv_iconst (v := 2) hx hb dX4_kindOfSign_26 (by decide) ?_
        exact hs_iret hx hb hr hlocks hK hP hD hS () [] rfl (by decide) dX4_kindOfSign_27 (trivial)
  · refine lv_iload_n hx hb dX4_kindOfSign_6 rfl (lv_at hl 0 rfl) ?_
    refine lv_bipush (v := 122) hx hb dX4_kindOfSign_7 (by decide) ?_
    refine lv_icmp_gt (tgt := 14) hx hb dX4_kindOfSign_9 (by decide) (fun c_6 => ?_) (fun c_6 => ?_)
    · refine lv_iload_n hx hb dX4_kindOfSign_14 rfl (lv_at hl 0 rfl) ?_
      refine lv_bipush (v := 48) hx hb dX4_kindOfSign_15 (by decide) ?_
      refine lv_icmp_lt (tgt := 28) hx hb dX4_kindOfSign_17 (by decide) (fun c_7 => ?_) (fun c_7 => ?_)
      · refine lv_iload_n hx hb dX4_kindOfSign_28 rfl (lv_at hl 0 rfl) ?_
        refine lv_bipush (v := 59) hx hb dX4_kindOfSign_29 (by decide) ?_
        refine lv_icmp_ne (tgt := 38) hx hb dX4_kindOfSign_31 (by decide) (fun c_8 => ?_) (fun c_8 => ?_)
        · refine lv_iconst (v := 4) hx hb dX4_kindOfSign_38 (by decide) ?_
          exact hs_iret hx hb hr hlocks hK hP hD hS () [] rfl (by decide) dX4_kindOfSign_39 (trivial)
        · refine lv_iconst (v := 3) hx hb dX4_kindOfSign_34 (by decide) ?_
          refine lv_goto (tgt := 39) hx hb dX4_kindOfSign_35 (by decide) ?_
          exact hs_iret hx hb hr hlocks hK hP hD hS () [] rfl (by decide) dX4_kindOfSign_39 (trivial)
      · refine lv_iload_n hx hb dX4_kindOfSign_20 rfl (lv_at hl 0 rfl) ?_
        refine lv_bipush (v := 57) hx hb dX4_kindOfSign_21 (by decide) ?_
        refine lv_icmp_gt (tgt := 28) hx hb dX4_kindOfSign_23 (by decide) (fun c_9 => ?_) (fun c_9 => ?_)
        · refine lv_iload_n hx hb dX4_kindOfSign_28 rfl (lv_at hl 0 rfl) ?_
          refine lv_bipush (v := 59) hx hb dX4_kindOfSign_29 (by decide) ?_
          refine lv_icmp_ne (tgt := 38) hx hb dX4_kindOfSign_31 (by decide) (fun c_10 => ?_) (fun c_10 => ?_)
          · refine lv_iconst (v := 4) hx hb dX4_kindOfSign_38 (by decide) ?_
            exact hs_iret hx hb hr hlocks hK hP hD hS () [] rfl (by decide) dX4_kindOfSign_39 (trivial)
          · refine lv_iconst (v := 3) hx hb dX4_kindOfSign_34 (by decide) ?_
            refine lv_goto (tgt := 39) hx hb dX4_kindOfSign_35 (by decide) ?_
            exact hs_iret hx hb hr hlocks hK hP hD hS () [] rfl (by decide) dX4_kindOfSign_39 (trivial)
        · refine lv_iconst (v := 2) hx hb dX4_kindOfSign_26 (by decide) ?_
          exact hs_iret hx hb hr hlocks hK hP hD hS () [] rfl (by decide) dX4_kindOfSign_27 (trivial)
    · refine lv_iconst (v := 1) hx hb dX4_kindOfSign_12 (by decide) ?_
      exact hs_iret hx hb hr hlocks hK hP hD hS () [] rfl (by decide) dX4_kindOfSign_13 (trivial)

set_option maxHeartbeats 4000000 in
set_option maxRecDepth 100000 in
theorem g_isLong (l : Launch) (D : va_G) (k : Nat → ClassId) (sz : Nat) (a : Nat) (a_bytes : Nat) (a_len : Nat) (a_kd : Int32) (a_st : Nat) (a_be : Nat) (a_va : Int32)  : MI l yX4_isLong wsX4_isLong ({ frames := 0, cells := 0, slots := 0, locals := 0 }) D k [.ref a] [(a, .inr (3, [.ref a_bytes, .int (nI a_len), .int a_kd, .int (nI a_st), .int (nI a_be), .int a_va]))] sz (fun (r : Int32) (u : Unit) => True) (fun (u : Unit) => [(a, .inr (3, [.ref a_bytes, .int (nI a_len), .int a_kd, .int (nI a_st), .int (nI a_be), .int a_va]))]) := by
  refine Met.ofW (cc := cX4_isLong) (maxL := 1) (ret := (some .boolean)) (by decide) rfl ?_
  intro p e s m args below meth c s₁ B hml hv
  obtain ⟨rfl, hsz, hP, hK, hD0, hN⟩ := hv
  have hx := B.exec
  have hb := B.bytes
  have hr := B.returns
  have hlocks := B.notSynchronized
  have hts := atoms_spec (ws := wsX4_isLong) B.pre
  have hown : s.vm.findClass RX4 = some m.cls := findClass_of_methodNamed B.named
  have hiX4 : ∀ w ∈ u_ws RX4 TX4 6, w ∈ wsX4_isLong := by decide +kernel
  have fl31 := hts (.fieldLink RX4 31 "HalfScales$Tape" "kind" "I") (by decide +kernel)
  subst hsz
  have hD := hD0.self (sz := s.heap.size)
  generalize hAe : va_A [(a, .inr (3, [.ref a_bytes, .int (nI a_len), .int a_kd, .int (nI a_st), .int (nI a_be), .int a_va]))] s.heap.size = A at hD ⊢
  have hA : ∀ q : Nat, s.heap.size ≤ q → A q := fun q h => by rw [← hAe]; exact Or.inr h
  have hS : va_S A s.heap s.heap [] := va_S.rf
  have hl := lv_entry ([.ref a]) (n := 1) (Nat.le_of_ble_eq_true rfl)
  rw [lg_entry_eq]
  generalize (lg_sl ([.ref a]) ++ List.replicate (1 - (lg_sl ([.ref a])).length) Slot.unset).toArray = ls at hl ⊢
  have hl : lv_has ls 1 [(0, .ref a)] := hl
  have hP : va_P D vwCl [(a, .inr (3, [.ref a_bytes, .int (nI a_len), .int a_kd, .int (nI a_st), .int (nI a_be), .int a_va]))] s.heap := hP
  refine lv_aload_n hx hb dX4_isLong_0 rfl (lv_at hl 0 rfl) ?_
  refine va_get (D := D) (ci := 3) (v := .int a_kd) (C := RX4) (T := TX4) (N := 6) hx hb hts hiX4 hown hK hP 0 rfl rfl 2 (by decide) fl31 (fun _ h9 => h9) rfl dX4_isLong_1 ?_
  refine lv_iconst (v := 1) hx hb dX4_isLong_4 (by decide) ?_
  refine lv_icmp_eq (tgt := 16) hx hb dX4_isLong_5 (by decide) (fun c_1 => ?_) (fun c_1 => ?_)
  · refine lv_iconst (v := 1) hx hb dX4_isLong_16 (by decide) ?_
    refine lv_goto (tgt := 21) hx hb dX4_isLong_17 (by decide) ?_
    exact hs_zret hx hb hr hlocks hK hP hD hS () [0] rfl (by decide) dX4_isLong_21 rfl (trivial)
  · refine lv_aload_n hx hb dX4_isLong_8 rfl (lv_at hl 0 rfl) ?_
    refine va_get (D := D) (ci := 3) (v := .int a_kd) (C := RX4) (T := TX4) (N := 6) hx hb hts hiX4 hown hK hP 0 rfl rfl 2 (by decide) fl31 (fun _ h9 => h9) rfl dX4_isLong_9 ?_
    refine lv_iconst (v := 2) hx hb dX4_isLong_12 (by decide) ?_
    refine lv_icmp_ne (tgt := 20) hx hb dX4_isLong_13 (by decide) (fun c_2 => ?_) (fun c_2 => ?_)
    · refine lv_iconst (v := 0) hx hb dX4_isLong_20 (by decide) ?_
      exact hs_zret hx hb hr hlocks hK hP hD hS () [0] rfl (by decide) dX4_isLong_21 rfl (trivial)
    · refine lv_iconst (v := 1) hx hb dX4_isLong_16 (by decide) ?_
      refine lv_goto (tgt := 21) hx hb dX4_isLong_17 (by decide) ?_
      exact hs_zret hx hb hr hlocks hK hP hD hS () [0] rfl (by decide) dX4_isLong_21 rfl (trivial)

set_option maxHeartbeats 4000000 in
set_option maxRecDepth 100000 in
theorem g_measure (l : Launch) (D : va_G) (k : Nat → ClassId) (sz : Nat) (a : Nat) (a_bytes : Nat) (a_len : Nat) (a_kd : Int32) (a_st : Nat) (a_be : Nat) (a_va : Int32) (a_f : Nat → Int32) (hb160 : a_be ≤ 160) (hsb0 : a_st ≤ a_be) : MV l yX4_measure wsX4_measure ({ frames := 0, cells := 0, slots := 0, locals := 0 }) D k [.ref a] [(a, .inr (3, [.ref a_bytes, .int (nI a_len), .int a_kd, .int (nI a_st), .int (nI a_be), .int a_va])), (a_bytes, .inl (k 0, 160, .inl (a_f)))] sz (fun (u : Int32 × Int32) => True) (fun (u : Int32 × Int32) => [(a, .inr (3, [.ref a_bytes, .int (nI a_len), .int u.1, .int (nI a_st), .int (nI a_be), .int u.2])), (a_bytes, .inl (k 0, 160, .inl (a_f)))]) := by
  refine Met.ofW (cc := cX4_measure) (maxL := 2) (ret := none) (by decide) rfl ?_
  intro p e s m args below meth c s₁ B hml hv
  obtain ⟨rfl, hsz, hP, hK, hD0, hN⟩ := hv
  have hx := B.exec
  have hb := B.bytes
  have hr := B.returns
  have hlocks := B.notSynchronized
  have hts := atoms_spec (ws := wsX4_measure) B.pre
  have hown : s.vm.findClass RX4 = some m.cls := findClass_of_methodNamed B.named
  have hiX4 : ∀ w ∈ u_ws RX4 TX4 6, w ∈ wsX4_measure := by decide +kernel
  have fl15 := hts (.fieldLink RX4 15 "HalfScales$Tape" "behind" "I") (by decide +kernel)
  have fl22 := hts (.fieldLink RX4 22 "HalfScales$Tape" "start" "I") (by decide +kernel)
  have fl28 := hts (.fieldLink RX4 28 "HalfScales$Tape" "value" "I") (by decide +kernel)
  have fl9 := hts (.fieldLink RX4 9 "HalfScales$Tape" "bytes" "[I") (by decide +kernel)
  have fl31 := hts (.fieldLink RX4 31 "HalfScales$Tape" "kind" "I") (by decide +kernel)
  subst hsz
  have hD := hD0.self (sz := s.heap.size)
  generalize hAe : va_A [(a, .inr (3, [.ref a_bytes, .int (nI a_len), .int a_kd, .int (nI a_st), .int (nI a_be), .int a_va])), (a_bytes, .inl (k 0, 160, .inl (a_f)))] s.heap.size = A at hD ⊢
  have hA : ∀ q : Nat, s.heap.size ≤ q → A q := fun q h => by rw [← hAe]; exact Or.inr h
  have hS : va_S A s.heap s.heap [] := va_S.rf
  have hl := lv_entry ([.ref a]) (n := 2) (Nat.le_of_ble_eq_true rfl)
  rw [lg_entry_eq]
  generalize (lg_sl ([.ref a]) ++ List.replicate (2 - (lg_sl ([.ref a])).length) Slot.unset).toArray = ls at hl ⊢
  have hl : lv_has ls 2 [(0, .ref a)] := hl
  have hP : va_P D vwCl [(a, .inr (3, [.ref a_bytes, .int (nI a_len), .int a_kd, .int (nI a_st), .int (nI a_be), .int a_va])), (a_bytes, .inl (k 0, 160, .inl (a_f)))] s.heap := hP
  refine lv_aload_n hx hb dX4_measure_0 rfl (lv_at hl 0 rfl) ?_
  refine va_get (D := D) (ci := 3) (v := .int (nI a_be)) (C := RX4) (T := TX4) (N := 6) hx hb hts hiX4 hown hK hP 0 rfl rfl 4 (by decide) fl15 (fun _ h9 => h9) rfl dX4_measure_1 ?_
  refine lv_aload_n hx hb dX4_measure_4 rfl (lv_at hl 0 rfl) ?_
  refine va_get (D := D) (ci := 3) (v := .int (nI a_st)) (C := RX4) (T := TX4) (N := 6) hx hb hts hiX4 hown hK hP 0 rfl rfl 3 (by decide) fl22 (fun _ h9 => h9) rfl dX4_measure_5 ?_
  refine lv_isub hx hb dX4_measure_8 ?_
  refine hs_topi (nI (a_be - a_st)) (pk_sub (a := a_be) (b := a_st) (by omega)) ?_
  refine lv_iconst (v := 2) hx hb dX4_measure_9 (by decide) ?_
  refine lv_icmp_le (tgt := 19) hx hb dX4_measure_10 (by decide) (fun c_1 => ?_) (fun c_1 => ?_)
  · have nc_1 : (a_be - a_st) ≤ 2 := (nI_leI (a := (a_be - a_st)) (b := 2) (by omega) (by omega)).mp c_1
    refine lv_aload_n hx hb dX4_measure_19 rfl (lv_at hl 0 rfl) ?_
    refine va_get (D := D) (ci := 3) (v := .int (nI a_st)) (C := RX4) (T := TX4) (N := 6) hx hb hts hiX4 hown hK hP 0 rfl rfl 3 (by decide) fl22 (fun _ h9 => h9) rfl dX4_measure_20 ?_
    refine lv_istore_n (lv' := [(1, .int (nI a_st)), (0, .ref a)]) hx hb dX4_measure_23 rfl hl (by decide) rfl (fun ls hl => ?_)
    refine hs_while (σ := Nat × Int32) (fun x => x.1 ≤ a_be) (fun x => a_be - x.1) (fun x => [(a, .inr (3, [.ref a_bytes, .int (nI a_len), .int a_kd, .int (nI a_st), .int (nI a_be), .int (x.2)])), (a_bytes, .inl (k 0, 160, .inl (a_f)))]) (fun x => [(1, .int (nI (x.1))), (0, .ref a)]) ?_ (a_st, a_va) ?_ hP hD hS hl
    · intro x hI ih24 H locs ls hP hD hS hl
      obtain ⟨i, va⟩ := x
      try dsimp only at hI
      have hP : va_P D vwCl [(a, .inr (3, [.ref a_bytes, .int (nI a_len), .int a_kd, .int (nI a_st), .int (nI a_be), .int va])), (a_bytes, .inl (k 0, 160, .inl (a_f)))] H := hP
      have hD : va_D A [(a, .inr (3, [.ref a_bytes, .int (nI a_len), .int a_kd, .int (nI a_st), .int (nI a_be), .int va])), (a_bytes, .inl (k 0, 160, .inl (a_f)))] := hD
      have hl : lv_has ls 2 [(1, .int (nI i)), (0, .ref a)] := hl
      refine lv_iload_n hx hb dX4_measure_24 rfl (lv_at hl 0 rfl) ?_
      refine lv_aload_n hx hb dX4_measure_25 rfl (lv_at hl 1 rfl) ?_
      refine va_get (D := D) (ci := 3) (v := .int (nI a_be)) (C := RX4) (T := TX4) (N := 6) hx hb hts hiX4 hown hK hP 0 rfl rfl 4 (by decide) fl15 (fun _ h9 => h9) rfl dX4_measure_26 ?_
      refine lv_icmp_ge (tgt := 59) hx hb dX4_measure_29 (by decide) (fun c_2 => ?_) (fun c_2 => ?_)
      · have nc_2 : a_be ≤ i := (nI_leI (a := a_be) (b := i) (by omega) (by omega)).mp c_2
        exact hs_vret hx hb hr hlocks hK hP hD hS (a_kd, va) [0, 1] rfl (by decide) dX4_measure_59 (trivial)
      · have nc_2 : ¬ a_be ≤ i := fun hq9 => c_2 ((nI_leI (a := a_be) (b := i) (by omega) (by omega)).mpr hq9)
        refine lv_aload_n hx hb dX4_measure_32 rfl (lv_at hl 1 rfl) ?_
        refine lv_aload_n hx hb dX4_measure_33 rfl (lv_at hl 1 rfl) ?_
        refine va_get (D := D) (ci := 3) (v := .int va) (C := RX4) (T := TX4) (N := 6) hx hb hts hiX4 hown hK hP 0 rfl rfl 5 (by decide) fl28 (fun _ h9 => h9) rfl dX4_measure_34 ?_
        refine lv_bipush (v := 10) hx hb dX4_measure_37 (by decide) ?_
        refine lv_imul hx hb dX4_measure_39 ?_
        refine lv_aload_n hx hb dX4_measure_40 rfl (lv_at hl 1 rfl) ?_
        refine va_get (D := D) (ci := 3) (v := .ref a_bytes) (C := RX4) (T := TX4) (N := 6) hx hb hts hiX4 hown hK hP 0 rfl rfl 0 (by decide) fl9 (fun _ h9 => h9) rfl dX4_measure_41 ?_
        refine lv_iload_n hx hb dX4_measure_44 rfl (lv_at hl 0 rfl) ?_
        refine va_iald hx hb hK hP 1 0 rfl rfl (vp_in_nI (show i < 160 by omega) (by decide)) dX4_measure_45 ?_
        refine lv_iadd hx hb dX4_measure_46 ?_
        refine lv_bipush (v := 48) hx hb dX4_measure_47 (by decide) ?_
        refine lv_isub hx hb dX4_measure_49 ?_
        refine va_put (D := D) (ci := 3) (v := .int (((va * 10) + (a_f (nI i).toNatClampNeg)) - 48)) (ty := .int) (C := RX4) (T := TX4) (N := 6) hx hb hts hiX4 tyX4 tyX4_ok nmX4 hown hK hP hD hS 0 rfl rfl 5 (by decide) fl28 (fun _ h9 => h9) rfl (by decide +kernel) rfl rfl (Nat.le_of_ble_eq_true rfl) dX4_measure_50 (fun H locs hP hD hS => ?_)
        have hP : va_P D vwCl [(a, .inr (3, [.ref a_bytes, .int (nI a_len), .int a_kd, .int (nI a_st), .int (nI a_be), .int (((va * 10) + (a_f (nI i).toNatClampNeg)) - 48)])), (a_bytes, .inl (k 0, 160, .inl (a_f)))] H := hP
        have hD : va_D A [(a, .inr (3, [.ref a_bytes, .int (nI a_len), .int a_kd, .int (nI a_st), .int (nI a_be), .int (((va * 10) + (a_f (nI i).toNatClampNeg)) - 48)])), (a_bytes, .inl (k 0, 160, .inl (a_f)))] := hD
        refine lv_iinc (v := nI (i + 1)) (lv' := [(1, .int (nI (i + 1))), (0, .ref a)]) hx hb dX4_measure_53 hl (k := 0) rfl (nI_add (i) 1) (by decide) rfl (fun ls hl => ?_)
        refine lv_goto (tgt := 24) hx hb dX4_measure_56 (by decide) ?_
        exact ih24 (i + 1, ((va * 10) + (a_f (nI i).toNatClampNeg)) - 48) (by (try dsimp only); first | omega | (refine ⟨?_, ?_⟩ <;> first | omega | assumption)) (by (try dsimp only); omega) _ _ _ hP hD hS (lv_sub hl [0, 1] rfl)
    · (try dsimp only); first | omega | (refine ⟨?_, ?_⟩ <;> first | omega | assumption)
  · have nc_1 : ¬ (a_be - a_st) ≤ 2 := fun hq9 => c_1 ((nI_leI (a := (a_be - a_st)) (b := 2) (by omega) (by omega)).mpr hq9)
    refine lv_aload_n hx hb dX4_measure_13 rfl (lv_at hl 0 rfl) ?_
    refine lv_iconst (v := 4) hx hb dX4_measure_14 (by decide) ?_
    refine va_put (D := D) (ci := 3) (v := .int 4) (ty := .int) (C := RX4) (T := TX4) (N := 6) hx hb hts hiX4 tyX4 tyX4_ok nmX4 hown hK hP hD hS 0 rfl rfl 2 (by decide) fl31 (fun _ h9 => h9) rfl (by decide +kernel) rfl rfl (Nat.le_of_ble_eq_true rfl) dX4_measure_15 (fun H locs hP hD hS => ?_)
    have hP : va_P D vwCl [(a, .inr (3, [.ref a_bytes, .int (nI a_len), .int 4, .int (nI a_st), .int (nI a_be), .int a_va])), (a_bytes, .inl (k 0, 160, .inl (a_f)))] H := hP
    have hD : va_D A [(a, .inr (3, [.ref a_bytes, .int (nI a_len), .int 4, .int (nI a_st), .int (nI a_be), .int a_va])), (a_bytes, .inl (k 0, 160, .inl (a_f)))] := hD
    exact hs_vret hx hb hr hlocks hK hP hD hS (4, a_va) [0, 1] rfl (by decide) dX4_measure_18 (trivial)

set_option maxHeartbeats 4000000 in
set_option maxRecDepth 100000 in
theorem g_advance (l : Launch) (D : va_G) (k : Nat → ClassId) (sz : Nat) (a : Nat) (a_bytes : Nat) (a_len : Nat) (a_kd : Int32) (a_st : Nat) (a_be : Nat) (a_va : Int32) (a_f : Nat → Int32) (hl160 : a_len ≤ 160) (hbl0 : a_be ≤ a_len) : MV l yX4_advance wsX4_advance ({ frames := 1, cells := 0, slots := 0, locals := 21 }) D k [.ref a] [(a, .inr (3, [.ref a_bytes, .int (nI a_len), .int a_kd, .int (nI a_st), .int (nI a_be), .int a_va])), (a_bytes, .inl (k 0, 160, .inl (a_f)))] sz (fun (u : Int32 × Nat × Nat × Int32) => u.2.1 ≤ u.2.2.1 ∧ u.2.2.1 ≤ a_len) (fun (u : Int32 × Nat × Nat × Int32) => [(a, .inr (3, [.ref a_bytes, .int (nI a_len), .int u.1, .int (nI (u.2.1)), .int (nI (u.2.2.1)), .int u.2.2.2])), (a_bytes, .inl (k 0, 160, .inl (a_f)))]) := by
  refine Met.ofW (cc := cX4_advance) (maxL := 1) (ret := none) (by decide) rfl ?_
  intro p e s m args below meth c s₁ B hml hv
  obtain ⟨rfl, hsz, hP, hK, hD0, hN⟩ := hv
  have hx := B.exec
  have hb := B.bytes
  have hr := B.returns
  have hlocks := B.notSynchronized
  have hts := atoms_spec (ws := wsX4_advance) B.pre
  have hown : s.vm.findClass RX4 = some m.cls := findClass_of_methodNamed B.named
  have hiX4 : ∀ w ∈ u_ws RX4 TX4 6, w ∈ wsX4_advance := by decide +kernel
  have fl15 := hts (.fieldLink RX4 15 "HalfScales$Tape" "behind" "I") (by decide +kernel)
  have fl22 := hts (.fieldLink RX4 22 "HalfScales$Tape" "start" "I") (by decide +kernel)
  have fl25 := hts (.fieldLink RX4 25 "HalfScales$Tape" "length" "I") (by decide +kernel)
  have fl28 := hts (.fieldLink RX4 28 "HalfScales$Tape" "value" "I") (by decide +kernel)
  have fl9 := hts (.fieldLink RX4 9 "HalfScales$Tape" "bytes" "[I") (by decide +kernel)
  have fl31 := hts (.fieldLink RX4 31 "HalfScales$Tape" "kind" "I") (by decide +kernel)
  subst hsz
  have hD := hD0.self (sz := s.heap.size)
  generalize hAe : va_A [(a, .inr (3, [.ref a_bytes, .int (nI a_len), .int a_kd, .int (nI a_st), .int (nI a_be), .int a_va])), (a_bytes, .inl (k 0, 160, .inl (a_f)))] s.heap.size = A at hD ⊢
  have hA : ∀ q : Nat, s.heap.size ≤ q → A q := fun q h => by rw [← hAe]; exact Or.inr h
  have hS : va_S A s.heap s.heap [] := va_S.rf
  have hl := lv_entry ([.ref a]) (n := 1) (Nat.le_of_ble_eq_true rfl)
  rw [lg_entry_eq]
  generalize (lg_sl ([.ref a]) ++ List.replicate (1 - (lg_sl ([.ref a])).length) Slot.unset).toArray = ls at hl ⊢
  have hl : lv_has ls 1 [(0, .ref a)] := hl
  have hP : va_P D vwCl [(a, .inr (3, [.ref a_bytes, .int (nI a_len), .int a_kd, .int (nI a_st), .int (nI a_be), .int a_va])), (a_bytes, .inl (k 0, 160, .inl (a_f)))] s.heap := hP
  refine lv_aload_n hx hb dX4_advance_0 rfl (lv_at hl 0 rfl) ?_
  refine lv_aload_n hx hb dX4_advance_1 rfl (lv_at hl 0 rfl) ?_
  refine va_get (D := D) (ci := 3) (v := .int (nI a_be)) (C := RX4) (T := TX4) (N := 6) hx hb hts hiX4 hown hK hP 0 rfl rfl 4 (by decide) fl15 (fun _ h9 => h9) rfl dX4_advance_2 ?_
  refine va_put (D := D) (ci := 3) (v := .int (nI a_be)) (ty := .int) (C := RX4) (T := TX4) (N := 6) hx hb hts hiX4 tyX4 tyX4_ok nmX4 hown hK hP hD hS 0 rfl rfl 3 (by decide) fl22 (fun _ h9 => h9) rfl (by decide +kernel) rfl rfl (Nat.le_of_ble_eq_true rfl) dX4_advance_5 (fun H locs hP hD hS => ?_)
  have hP : va_P D vwCl [(a, .inr (3, [.ref a_bytes, .int (nI a_len), .int a_kd, .int (nI a_be), .int (nI a_be), .int a_va])), (a_bytes, .inl (k 0, 160, .inl (a_f)))] H := hP
  have hD : va_D A [(a, .inr (3, [.ref a_bytes, .int (nI a_len), .int a_kd, .int (nI a_be), .int (nI a_be), .int a_va])), (a_bytes, .inl (k 0, 160, .inl (a_f)))] := hD
  refine hs_while (σ := Nat) (fun x => x ≤ a_len) (fun x => a_len - x) (fun x => [(a, .inr (3, [.ref a_bytes, .int (nI a_len), .int a_kd, .int (nI (x)), .int (nI a_be), .int a_va])), (a_bytes, .inl (k 0, 160, .inl (a_f)))]) (fun x => [(0, .ref a)]) ?_ (a_be) ?_ hP hD hS hl
  · intro x hI ih8 H locs ls hP hD hS hl
    obtain ⟨sx, rfl⟩ : ∃ z, z = x := ⟨_, rfl⟩
    try dsimp only at hI
    have hP : va_P D vwCl [(a, .inr (3, [.ref a_bytes, .int (nI a_len), .int a_kd, .int (nI sx), .int (nI a_be), .int a_va])), (a_bytes, .inl (k 0, 160, .inl (a_f)))] H := hP
    have hD : va_D A [(a, .inr (3, [.ref a_bytes, .int (nI a_len), .int a_kd, .int (nI sx), .int (nI a_be), .int a_va])), (a_bytes, .inl (k 0, 160, .inl (a_f)))] := hD
    have hl : lv_has ls 1 [(0, .ref a)] := hl
    refine lv_aload_n hx hb dX4_advance_8 rfl (lv_at hl 0 rfl) ?_
    refine va_get (D := D) (ci := 3) (v := .int (nI sx)) (C := RX4) (T := TX4) (N := 6) hx hb hts hiX4 hown hK hP 0 rfl rfl 3 (by decide) fl22 (fun _ h9 => h9) rfl dX4_advance_9 ?_
    refine lv_aload_n hx hb dX4_advance_12 rfl (lv_at hl 0 rfl) ?_
    refine va_get (D := D) (ci := 3) (v := .int (nI a_len)) (C := RX4) (T := TX4) (N := 6) hx hb hts hiX4 hown hK hP 0 rfl rfl 1 (by decide) fl25 (fun _ h9 => h9) rfl dX4_advance_13 ?_
    refine lv_icmp_ge (tgt := 46) hx hb dX4_advance_16 (by decide) (fun c_1 => ?_) (fun c_1 => ?_)
    · have nc_1 : a_len ≤ sx := (nI_leI (a := a_len) (b := sx) (by omega) (by omega)).mp c_1
      refine lv_aload_n hx hb dX4_advance_46 rfl (lv_at hl 0 rfl) ?_
      refine lv_aload_n hx hb dX4_advance_47 rfl (lv_at hl 0 rfl) ?_
      refine va_get (D := D) (ci := 3) (v := .int (nI sx)) (C := RX4) (T := TX4) (N := 6) hx hb hts hiX4 hown hK hP 0 rfl rfl 3 (by decide) fl22 (fun _ h9 => h9) rfl dX4_advance_48 ?_
      refine va_put (D := D) (ci := 3) (v := .int (nI sx)) (ty := .int) (C := RX4) (T := TX4) (N := 6) hx hb hts hiX4 tyX4 tyX4_ok nmX4 hown hK hP hD hS 0 rfl rfl 4 (by decide) fl15 (fun _ h9 => h9) rfl (by decide +kernel) rfl rfl (Nat.le_of_ble_eq_true rfl) dX4_advance_51 (fun H locs hP hD hS => ?_)
      have hP : va_P D vwCl [(a, .inr (3, [.ref a_bytes, .int (nI a_len), .int a_kd, .int (nI sx), .int (nI sx), .int a_va])), (a_bytes, .inl (k 0, 160, .inl (a_f)))] H := hP
      have hD : va_D A [(a, .inr (3, [.ref a_bytes, .int (nI a_len), .int a_kd, .int (nI sx), .int (nI sx), .int a_va])), (a_bytes, .inl (k 0, 160, .inl (a_f)))] := hD
      refine lv_aload_n hx hb dX4_advance_54 rfl (lv_at hl 0 rfl) ?_
      refine lv_iconst (v := 0) hx hb dX4_advance_55 (by decide) ?_
      refine va_put (D := D) (ci := 3) (v := .int 0) (ty := .int) (C := RX4) (T := TX4) (N := 6) hx hb hts hiX4 tyX4 tyX4_ok nmX4 hown hK hP hD hS 0 rfl rfl 5 (by decide) fl28 (fun _ h9 => h9) rfl (by decide +kernel) rfl rfl (Nat.le_of_ble_eq_true rfl) dX4_advance_56 (fun H locs hP hD hS => ?_)
      have hP : va_P D vwCl [(a, .inr (3, [.ref a_bytes, .int (nI a_len), .int a_kd, .int (nI sx), .int (nI sx), .int 0])), (a_bytes, .inl (k 0, 160, .inl (a_f)))] H := hP
      have hD : va_D A [(a, .inr (3, [.ref a_bytes, .int (nI a_len), .int a_kd, .int (nI sx), .int (nI sx), .int 0])), (a_bytes, .inl (k 0, 160, .inl (a_f)))] := hD
      refine lv_aload_n hx hb dX4_advance_59 rfl (lv_at hl 0 rfl) ?_
      refine va_get (D := D) (ci := 3) (v := .int (nI sx)) (C := RX4) (T := TX4) (N := 6) hx hb hts hiX4 hown hK hP 0 rfl rfl 3 (by decide) fl22 (fun _ h9 => h9) rfl dX4_advance_60 ?_
      refine lv_aload_n hx hb dX4_advance_63 rfl (lv_at hl 0 rfl) ?_
      refine va_get (D := D) (ci := 3) (v := .int (nI a_len)) (C := RX4) (T := TX4) (N := 6) hx hb hts hiX4 hown hK hP 0 rfl rfl 1 (by decide) fl25 (fun _ h9 => h9) rfl dX4_advance_64 ?_
      refine lv_icmp_lt (tgt := 76) hx hb dX4_advance_67 (by decide) (fun c_2 => ?_) (fun c_2 => ?_)
      · have nc_2 : sx < a_len := (nI_ltI (a := sx) (b := a_len) (by omega) (by omega)).mp c_2
        refine lv_aload_n hx hb dX4_advance_76 rfl (lv_at hl 0 rfl) ?_
        refine lv_aload_n hx hb dX4_advance_77 rfl (lv_at hl 0 rfl) ?_
        refine va_get (D := D) (ci := 3) (v := .ref a_bytes) (C := RX4) (T := TX4) (N := 6) hx hb hts hiX4 hown hK hP 0 rfl rfl 0 (by decide) fl9 (fun _ h9 => h9) rfl dX4_advance_78 ?_
        refine lv_aload_n hx hb dX4_advance_81 rfl (lv_at hl 0 rfl) ?_
        refine va_get (D := D) (ci := 3) (v := .int (nI sx)) (C := RX4) (T := TX4) (N := 6) hx hb hts hiX4 hown hK hP 0 rfl rfl 3 (by decide) fl22 (fun _ h9 => h9) rfl dX4_advance_82 ?_
        refine va_iald hx hb hK hP 1 0 rfl rfl (vp_in_nI (show sx < 160 by omega) (by decide)) dX4_advance_85 ?_
        refine hs_pi (va_runS (As := [.int (a_f (nI sx).toNatClampNeg)]) (rest := [.ref a]) ⟨hx, hb, hml, hown, hts⟩ (g_kindOfSign l D k _ (a_f (nI sx).toNatClampNeg)) (va_cwS 1 hts gX4_advance_X4_kindOfSign rfl rfl rfl (by decide +kernel) ⟨Nat.le_of_ble_eq_true rfl, Nat.le_of_ble_eq_true rfl⟩) (hs_preS hK hN (hs_subP (w := []) hP [] rfl) (hD.sub (ws' := []) [] (by decide) rfl)) rfl rfl hl.1 rfl (lv_room (Nat.le_of_ble_eq_true rfl)) dX4_advance_86 ⟨Nat.le_of_ble_eq_true rfl, Nat.le_of_ble_eq_true rfl⟩) hP hD hS hA (fun r_3 u_5 H locs hw_4 hP hS => ?_)
        refine va_put (D := D) (ci := 3) (v := .int r_3) (ty := .int) (C := RX4) (T := TX4) (N := 6) hx hb hts hiX4 tyX4 tyX4_ok nmX4 hown hK hP hD hS 0 rfl rfl 2 (by decide) fl31 (fun _ h9 => h9) rfl (by decide +kernel) rfl rfl (Nat.le_of_ble_eq_true rfl) dX4_advance_89 (fun H locs hP hD hS => ?_)
        have hP : va_P D vwCl [(a, .inr (3, [.ref a_bytes, .int (nI a_len), .int r_3, .int (nI sx), .int (nI sx), .int 0])), (a_bytes, .inl (k 0, 160, .inl (a_f)))] H := hP
        have hD : va_D A [(a, .inr (3, [.ref a_bytes, .int (nI a_len), .int r_3, .int (nI sx), .int (nI sx), .int 0])), (a_bytes, .inl (k 0, 160, .inl (a_f)))] := hD
        refine hs_while (σ := Nat) (fun x => sx ≤ x ∧ x < a_len) (fun x => a_len - x) (fun x => [(a, .inr (3, [.ref a_bytes, .int (nI a_len), .int r_3, .int (nI sx), .int (nI (x)), .int 0])), (a_bytes, .inl (k 0, 160, .inl (a_f)))]) (fun x => [(0, .ref a)]) ?_ (sx) ?_ hP hD hS hl
        · intro x hI ih92 H locs ls hP hD hS hl
          obtain ⟨bx, rfl⟩ : ∃ z, z = x := ⟨_, rfl⟩
          try dsimp only at hI
          have hP : va_P D vwCl [(a, .inr (3, [.ref a_bytes, .int (nI a_len), .int r_3, .int (nI sx), .int (nI bx), .int 0])), (a_bytes, .inl (k 0, 160, .inl (a_f)))] H := hP
          have hD : va_D A [(a, .inr (3, [.ref a_bytes, .int (nI a_len), .int r_3, .int (nI sx), .int (nI bx), .int 0])), (a_bytes, .inl (k 0, 160, .inl (a_f)))] := hD
          have hl : lv_has ls 1 [(0, .ref a)] := hl
          refine lv_aload_n hx hb dX4_advance_92 rfl (lv_at hl 0 rfl) ?_
          refine lv_dup hx hb dX4_advance_93 rfl ?_
          refine va_get (D := D) (ci := 3) (v := .int (nI bx)) (C := RX4) (T := TX4) (N := 6) hx hb hts hiX4 hown hK hP 0 rfl rfl 4 (by decide) fl15 (fun _ h9 => h9) rfl dX4_advance_94 ?_
          refine lv_iconst (v := 1) hx hb dX4_advance_97 (by decide) ?_
          refine lv_iadd hx hb dX4_advance_98 ?_
          refine hs_topi (nI (bx + 1)) (nI_add (bx) (1)) ?_
          refine va_put (D := D) (ci := 3) (v := .int (nI (bx + 1))) (ty := .int) (C := RX4) (T := TX4) (N := 6) hx hb hts hiX4 tyX4 tyX4_ok nmX4 hown hK hP hD hS 0 rfl rfl 4 (by decide) fl15 (fun _ h9 => h9) rfl (by decide +kernel) rfl rfl (Nat.le_of_ble_eq_true rfl) dX4_advance_99 (fun H locs hP hD hS => ?_)
          have hP : va_P D vwCl [(a, .inr (3, [.ref a_bytes, .int (nI a_len), .int r_3, .int (nI sx), .int (nI (bx + 1)), .int 0])), (a_bytes, .inl (k 0, 160, .inl (a_f)))] H := hP
          have hD : va_D A [(a, .inr (3, [.ref a_bytes, .int (nI a_len), .int r_3, .int (nI sx), .int (nI (bx + 1)), .int 0])), (a_bytes, .inl (k 0, 160, .inl (a_f)))] := hD
          refine lv_aload_n hx hb dX4_advance_102 rfl (lv_at hl 0 rfl) ?_
          refine hs_ci (va_runV (As := []) (rest := []) ⟨hx, hb, hml, hown, hts⟩ (g_isLong l D k _ a a_bytes a_len r_3 sx (bx + 1) 0) (cwV 0 hts gX4_advance_X4_isLong rfl rfl rfl (by decide +kernel) ⟨Nat.le_of_ble_eq_true rfl, Nat.le_of_ble_eq_true rfl⟩) (hs_preV hK hN (hs_subP (w := [(a, .inr (3, [.ref a_bytes, .int (nI a_len), .int r_3, .int (nI sx), .int (nI (bx + 1)), .int 0]))]) hP [0] rfl) (hD.sub (ws' := [(a, .inr (3, [.ref a_bytes, .int (nI a_len), .int r_3, .int (nI sx), .int (nI (bx + 1)), .int 0]))]) [0] (by decide) rfl) (ci := 3) (q0 := 0) rfl rfl) rfl rfl hl.1 rfl (lv_room (Nat.le_of_ble_eq_true rfl)) dX4_advance_103 ⟨Nat.le_of_ble_eq_true rfl, Nat.le_of_ble_eq_true rfl⟩) hP hD hS hA [0] [1] [(a_bytes, .inl (k 0, 160, .inl (a_f)))] rfl rfl (by decide) (by decide) [1, 0] (fun u_8 => [(a, .inr (3, [.ref a_bytes, .int (nI a_len), .int r_3, .int (nI sx), .int (nI (bx + 1)), .int 0])), (a_bytes, .inl (k 0, 160, .inl (a_f)))]) (fun _ => rfl) (by decide) (fun r_6 u_8 H locs hw_7 hP hD hS => ?_)
          have hP : va_P D vwCl [(a, .inr (3, [.ref a_bytes, .int (nI a_len), .int r_3, .int (nI sx), .int (nI (bx + 1)), .int 0])), (a_bytes, .inl (k 0, 160, .inl (a_f)))] H := hP
          have hD : va_D A [(a, .inr (3, [.ref a_bytes, .int (nI a_len), .int r_3, .int (nI sx), .int (nI (bx + 1)), .int 0])), (a_bytes, .inl (k 0, 160, .inl (a_f)))] := hD
          refine lv_if_eq (tgt := 139) hx hb dX4_advance_106 (by decide) (fun c_9 => ?_) (fun c_9 => ?_)
          · refine lv_aload_n hx hb dX4_advance_139 rfl (lv_at hl 0 rfl) ?_
            refine va_get (D := D) (ci := 3) (v := .int r_3) (C := RX4) (T := TX4) (N := 6) hx hb hts hiX4 hown hK hP 0 rfl rfl 2 (by decide) fl31 (fun _ h9 => h9) rfl dX4_advance_140 ?_
            refine lv_iconst (v := 2) hx hb dX4_advance_143 (by decide) ?_
            refine lv_icmp_ne (tgt := 151) hx hb dX4_advance_144 (by decide) (fun c_10 => ?_) (fun c_10 => ?_)
            · exact hs_vret hx hb hr hlocks hK hP hD hS (r_3, sx, bx + 1, 0) [0, 1] rfl (by decide) dX4_advance_151 (by (try dsimp only); omega)
            · refine lv_aload_n hx hb dX4_advance_147 rfl (lv_at hl 0 rfl) ?_
              refine hs_cv (va_runV (As := []) (rest := []) ⟨hx, hb, hml, hown, hts⟩ (g_measure l D k _ a a_bytes a_len r_3 sx (bx + 1) 0 a_f (by omega) (by omega)) (cwV 0 hts gX4_advance_X4_measure rfl rfl rfl (by decide +kernel) ⟨Nat.le_of_ble_eq_true rfl, Nat.le_of_ble_eq_true rfl⟩) (hs_preV hK hN (hs_subP (w := [(a, .inr (3, [.ref a_bytes, .int (nI a_len), .int r_3, .int (nI sx), .int (nI (bx + 1)), .int 0])), (a_bytes, .inl (k 0, 160, .inl (a_f)))]) hP [0, 1] rfl) (hD.sub (ws' := [(a, .inr (3, [.ref a_bytes, .int (nI a_len), .int r_3, .int (nI sx), .int (nI (bx + 1)), .int 0])), (a_bytes, .inl (k 0, 160, .inl (a_f)))]) [0, 1] (by decide) rfl) (ci := 3) (q0 := 0) rfl rfl) rfl rfl hl.1 rfl (lv_room (Nat.le_of_ble_eq_true rfl)) dX4_advance_148 ⟨Nat.le_of_ble_eq_true rfl, Nat.le_of_ble_eq_true rfl⟩) hP hD hS hA [0, 1] [] [] rfl rfl (by decide) (by decide) [0, 1] (fun u_13 => [(a, .inr (3, [.ref a_bytes, .int (nI a_len), .int u_13.1, .int (nI sx), .int (nI (bx + 1)), .int u_13.2])), (a_bytes, .inl (k 0, 160, .inl (a_f)))]) (fun _ => rfl) (by decide) (fun u_13 H locs hw_12 hP hD hS => ?_)
              have hP : va_P D vwCl [(a, .inr (3, [.ref a_bytes, .int (nI a_len), .int u_13.1, .int (nI sx), .int (nI (bx + 1)), .int u_13.2])), (a_bytes, .inl (k 0, 160, .inl (a_f)))] H := hP
              have hD : va_D A [(a, .inr (3, [.ref a_bytes, .int (nI a_len), .int u_13.1, .int (nI sx), .int (nI (bx + 1)), .int u_13.2])), (a_bytes, .inl (k 0, 160, .inl (a_f)))] := hD
              exact hs_vret hx hb hr hlocks hK hP hD hS (u_13.1, sx, bx + 1, u_13.2) [0, 1] rfl (by decide) dX4_advance_151 (by (try dsimp only); omega)
          · refine lv_aload_n hx hb dX4_advance_109 rfl (lv_at hl 0 rfl) ?_
            refine va_get (D := D) (ci := 3) (v := .int (nI (bx + 1))) (C := RX4) (T := TX4) (N := 6) hx hb hts hiX4 hown hK hP 0 rfl rfl 4 (by decide) fl15 (fun _ h9 => h9) rfl dX4_advance_110 ?_
            refine lv_aload_n hx hb dX4_advance_113 rfl (lv_at hl 0 rfl) ?_
            refine va_get (D := D) (ci := 3) (v := .int (nI a_len)) (C := RX4) (T := TX4) (N := 6) hx hb hts hiX4 hown hK hP 0 rfl rfl 1 (by decide) fl25 (fun _ h9 => h9) rfl dX4_advance_114 ?_
            refine lv_icmp_ge (tgt := 139) hx hb dX4_advance_117 (by decide) (fun c_14 => ?_) (fun c_14 => ?_)
            · have nc_14 : a_len ≤ (bx + 1) := (nI_leI (a := a_len) (b := (bx + 1)) (by omega) (by omega)).mp c_14
              refine lv_aload_n hx hb dX4_advance_139 rfl (lv_at hl 0 rfl) ?_
              refine va_get (D := D) (ci := 3) (v := .int r_3) (C := RX4) (T := TX4) (N := 6) hx hb hts hiX4 hown hK hP 0 rfl rfl 2 (by decide) fl31 (fun _ h9 => h9) rfl dX4_advance_140 ?_
              refine lv_iconst (v := 2) hx hb dX4_advance_143 (by decide) ?_
              refine lv_icmp_ne (tgt := 151) hx hb dX4_advance_144 (by decide) (fun c_15 => ?_) (fun c_15 => ?_)
              · exact hs_vret hx hb hr hlocks hK hP hD hS (r_3, sx, bx + 1, 0) [0, 1] rfl (by decide) dX4_advance_151 (by (try dsimp only); omega)
              · refine lv_aload_n hx hb dX4_advance_147 rfl (lv_at hl 0 rfl) ?_
                refine hs_cv (va_runV (As := []) (rest := []) ⟨hx, hb, hml, hown, hts⟩ (g_measure l D k _ a a_bytes a_len r_3 sx (bx + 1) 0 a_f (by omega) (by omega)) (cwV 0 hts gX4_advance_X4_measure rfl rfl rfl (by decide +kernel) ⟨Nat.le_of_ble_eq_true rfl, Nat.le_of_ble_eq_true rfl⟩) (hs_preV hK hN (hs_subP (w := [(a, .inr (3, [.ref a_bytes, .int (nI a_len), .int r_3, .int (nI sx), .int (nI (bx + 1)), .int 0])), (a_bytes, .inl (k 0, 160, .inl (a_f)))]) hP [0, 1] rfl) (hD.sub (ws' := [(a, .inr (3, [.ref a_bytes, .int (nI a_len), .int r_3, .int (nI sx), .int (nI (bx + 1)), .int 0])), (a_bytes, .inl (k 0, 160, .inl (a_f)))]) [0, 1] (by decide) rfl) (ci := 3) (q0 := 0) rfl rfl) rfl rfl hl.1 rfl (lv_room (Nat.le_of_ble_eq_true rfl)) dX4_advance_148 ⟨Nat.le_of_ble_eq_true rfl, Nat.le_of_ble_eq_true rfl⟩) hP hD hS hA [0, 1] [] [] rfl rfl (by decide) (by decide) [0, 1] (fun u_18 => [(a, .inr (3, [.ref a_bytes, .int (nI a_len), .int u_18.1, .int (nI sx), .int (nI (bx + 1)), .int u_18.2])), (a_bytes, .inl (k 0, 160, .inl (a_f)))]) (fun _ => rfl) (by decide) (fun u_18 H locs hw_17 hP hD hS => ?_)
                have hP : va_P D vwCl [(a, .inr (3, [.ref a_bytes, .int (nI a_len), .int u_18.1, .int (nI sx), .int (nI (bx + 1)), .int u_18.2])), (a_bytes, .inl (k 0, 160, .inl (a_f)))] H := hP
                have hD : va_D A [(a, .inr (3, [.ref a_bytes, .int (nI a_len), .int u_18.1, .int (nI sx), .int (nI (bx + 1)), .int u_18.2])), (a_bytes, .inl (k 0, 160, .inl (a_f)))] := hD
                exact hs_vret hx hb hr hlocks hK hP hD hS (u_18.1, sx, bx + 1, u_18.2) [0, 1] rfl (by decide) dX4_advance_151 (by (try dsimp only); omega)
            · have nc_14 : ¬ a_len ≤ (bx + 1) := fun hq9 => c_14 ((nI_leI (a := a_len) (b := (bx + 1)) (by omega) (by omega)).mpr hq9)
              refine lv_aload_n hx hb dX4_advance_120 rfl (lv_at hl 0 rfl) ?_
              refine va_get (D := D) (ci := 3) (v := .ref a_bytes) (C := RX4) (T := TX4) (N := 6) hx hb hts hiX4 hown hK hP 0 rfl rfl 0 (by decide) fl9 (fun _ h9 => h9) rfl dX4_advance_121 ?_
              refine lv_aload_n hx hb dX4_advance_124 rfl (lv_at hl 0 rfl) ?_
              refine va_get (D := D) (ci := 3) (v := .int (nI (bx + 1))) (C := RX4) (T := TX4) (N := 6) hx hb hts hiX4 hown hK hP 0 rfl rfl 4 (by decide) fl15 (fun _ h9 => h9) rfl dX4_advance_125 ?_
              refine va_iald hx hb hK hP 1 0 rfl rfl (vp_in_nI (show (bx + 1) < 160 by omega) (by decide)) dX4_advance_128 ?_
              refine hs_pi (va_runS (As := [.int (a_f (nI (bx + 1)).toNatClampNeg)]) (rest := []) ⟨hx, hb, hml, hown, hts⟩ (g_kindOfSign l D k _ (a_f (nI (bx + 1)).toNatClampNeg)) (va_cwS 1 hts gX4_advance_X4_kindOfSign rfl rfl rfl (by decide +kernel) ⟨Nat.le_of_ble_eq_true rfl, Nat.le_of_ble_eq_true rfl⟩) (hs_preS hK hN (hs_subP (w := []) hP [] rfl) (hD.sub (ws' := []) [] (by decide) rfl)) rfl rfl hl.1 rfl (lv_room (Nat.le_of_ble_eq_true rfl)) dX4_advance_129 ⟨Nat.le_of_ble_eq_true rfl, Nat.le_of_ble_eq_true rfl⟩) hP hD hS hA (fun r_19 u_21 H locs hw_20 hP hS => ?_)
              refine lv_aload_n hx hb dX4_advance_132 rfl (lv_at hl 0 rfl) ?_
              refine va_get (D := D) (ci := 3) (v := .int r_3) (C := RX4) (T := TX4) (N := 6) hx hb hts hiX4 hown hK hP 0 rfl rfl 2 (by decide) fl31 (fun _ h9 => h9) rfl dX4_advance_133 ?_
              refine lv_icmp_eq (tgt := 92) hx hb dX4_advance_136 (by decide) (fun c_22 => ?_) (fun c_22 => ?_)
              · exact ih92 (bx + 1) (by (try dsimp only); first | omega | (refine ⟨?_, ?_⟩ <;> first | omega | assumption)) (by (try dsimp only); omega) _ _ _ hP hD hS (lv_sub hl [0] rfl)
              · refine lv_aload_n hx hb dX4_advance_139 rfl (lv_at hl 0 rfl) ?_
                refine va_get (D := D) (ci := 3) (v := .int r_3) (C := RX4) (T := TX4) (N := 6) hx hb hts hiX4 hown hK hP 0 rfl rfl 2 (by decide) fl31 (fun _ h9 => h9) rfl dX4_advance_140 ?_
                refine lv_iconst (v := 2) hx hb dX4_advance_143 (by decide) ?_
                refine lv_icmp_ne (tgt := 151) hx hb dX4_advance_144 (by decide) (fun c_23 => ?_) (fun c_23 => ?_)
                · exact hs_vret hx hb hr hlocks hK hP hD hS (r_3, sx, bx + 1, 0) [0, 1] rfl (by decide) dX4_advance_151 (by (try dsimp only); omega)
                · refine lv_aload_n hx hb dX4_advance_147 rfl (lv_at hl 0 rfl) ?_
                  refine hs_cv (va_runV (As := []) (rest := []) ⟨hx, hb, hml, hown, hts⟩ (g_measure l D k _ a a_bytes a_len r_3 sx (bx + 1) 0 a_f (by omega) (by omega)) (cwV 0 hts gX4_advance_X4_measure rfl rfl rfl (by decide +kernel) ⟨Nat.le_of_ble_eq_true rfl, Nat.le_of_ble_eq_true rfl⟩) (hs_preV hK hN (hs_subP (w := [(a, .inr (3, [.ref a_bytes, .int (nI a_len), .int r_3, .int (nI sx), .int (nI (bx + 1)), .int 0])), (a_bytes, .inl (k 0, 160, .inl (a_f)))]) hP [0, 1] rfl) (hD.sub (ws' := [(a, .inr (3, [.ref a_bytes, .int (nI a_len), .int r_3, .int (nI sx), .int (nI (bx + 1)), .int 0])), (a_bytes, .inl (k 0, 160, .inl (a_f)))]) [0, 1] (by decide) rfl) (ci := 3) (q0 := 0) rfl rfl) rfl rfl hl.1 rfl (lv_room (Nat.le_of_ble_eq_true rfl)) dX4_advance_148 ⟨Nat.le_of_ble_eq_true rfl, Nat.le_of_ble_eq_true rfl⟩) hP hD hS hA [0, 1] [] [] rfl rfl (by decide) (by decide) [0, 1] (fun u_26 => [(a, .inr (3, [.ref a_bytes, .int (nI a_len), .int u_26.1, .int (nI sx), .int (nI (bx + 1)), .int u_26.2])), (a_bytes, .inl (k 0, 160, .inl (a_f)))]) (fun _ => rfl) (by decide) (fun u_26 H locs hw_25 hP hD hS => ?_)
                  have hP : va_P D vwCl [(a, .inr (3, [.ref a_bytes, .int (nI a_len), .int u_26.1, .int (nI sx), .int (nI (bx + 1)), .int u_26.2])), (a_bytes, .inl (k 0, 160, .inl (a_f)))] H := hP
                  have hD : va_D A [(a, .inr (3, [.ref a_bytes, .int (nI a_len), .int u_26.1, .int (nI sx), .int (nI (bx + 1)), .int u_26.2])), (a_bytes, .inl (k 0, 160, .inl (a_f)))] := hD
                  exact hs_vret hx hb hr hlocks hK hP hD hS (u_26.1, sx, bx + 1, u_26.2) [0, 1] rfl (by decide) dX4_advance_151 (by (try dsimp only); omega)
        · (try dsimp only); first | omega | (refine ⟨?_, ?_⟩ <;> first | omega | assumption)
      · have nc_2 : ¬ sx < a_len := fun hq9 => c_2 ((nI_ltI (a := sx) (b := a_len) (by omega) (by omega)).mpr hq9)
        refine lv_aload_n hx hb dX4_advance_70 rfl (lv_at hl 0 rfl) ?_
        refine lv_iconst (v := 0) hx hb dX4_advance_71 (by decide) ?_
        refine va_put (D := D) (ci := 3) (v := .int 0) (ty := .int) (C := RX4) (T := TX4) (N := 6) hx hb hts hiX4 tyX4 tyX4_ok nmX4 hown hK hP hD hS 0 rfl rfl 2 (by decide) fl31 (fun _ h9 => h9) rfl (by decide +kernel) rfl rfl (Nat.le_of_ble_eq_true rfl) dX4_advance_72 (fun H locs hP hD hS => ?_)
        have hP : va_P D vwCl [(a, .inr (3, [.ref a_bytes, .int (nI a_len), .int 0, .int (nI sx), .int (nI sx), .int 0])), (a_bytes, .inl (k 0, 160, .inl (a_f)))] H := hP
        have hD : va_D A [(a, .inr (3, [.ref a_bytes, .int (nI a_len), .int 0, .int (nI sx), .int (nI sx), .int 0])), (a_bytes, .inl (k 0, 160, .inl (a_f)))] := hD
        exact hs_vret hx hb hr hlocks hK hP hD hS (0, sx, sx, 0) [0, 1] rfl (by decide) dX4_advance_75 (by (try dsimp only); omega)
    · have nc_1 : ¬ a_len ≤ sx := fun hq9 => c_1 ((nI_leI (a := a_len) (b := sx) (by omega) (by omega)).mpr hq9)
      refine lv_aload_n hx hb dX4_advance_19 rfl (lv_at hl 0 rfl) ?_
      refine va_get (D := D) (ci := 3) (v := .ref a_bytes) (C := RX4) (T := TX4) (N := 6) hx hb hts hiX4 hown hK hP 0 rfl rfl 0 (by decide) fl9 (fun _ h9 => h9) rfl dX4_advance_20 ?_
      refine lv_aload_n hx hb dX4_advance_23 rfl (lv_at hl 0 rfl) ?_
      refine va_get (D := D) (ci := 3) (v := .int (nI sx)) (C := RX4) (T := TX4) (N := 6) hx hb hts hiX4 hown hK hP 0 rfl rfl 3 (by decide) fl22 (fun _ h9 => h9) rfl dX4_advance_24 ?_
      refine va_iald hx hb hK hP 1 0 rfl rfl (vp_in_nI (show sx < 160 by omega) (by decide)) dX4_advance_27 ?_
      refine lv_bipush (v := 32) hx hb dX4_advance_28 (by decide) ?_
      refine lv_icmp_ne (tgt := 46) hx hb dX4_advance_30 (by decide) (fun c_27 => ?_) (fun c_27 => ?_)
      · refine lv_aload_n hx hb dX4_advance_46 rfl (lv_at hl 0 rfl) ?_
        refine lv_aload_n hx hb dX4_advance_47 rfl (lv_at hl 0 rfl) ?_
        refine va_get (D := D) (ci := 3) (v := .int (nI sx)) (C := RX4) (T := TX4) (N := 6) hx hb hts hiX4 hown hK hP 0 rfl rfl 3 (by decide) fl22 (fun _ h9 => h9) rfl dX4_advance_48 ?_
        refine va_put (D := D) (ci := 3) (v := .int (nI sx)) (ty := .int) (C := RX4) (T := TX4) (N := 6) hx hb hts hiX4 tyX4 tyX4_ok nmX4 hown hK hP hD hS 0 rfl rfl 4 (by decide) fl15 (fun _ h9 => h9) rfl (by decide +kernel) rfl rfl (Nat.le_of_ble_eq_true rfl) dX4_advance_51 (fun H locs hP hD hS => ?_)
        have hP : va_P D vwCl [(a, .inr (3, [.ref a_bytes, .int (nI a_len), .int a_kd, .int (nI sx), .int (nI sx), .int a_va])), (a_bytes, .inl (k 0, 160, .inl (a_f)))] H := hP
        have hD : va_D A [(a, .inr (3, [.ref a_bytes, .int (nI a_len), .int a_kd, .int (nI sx), .int (nI sx), .int a_va])), (a_bytes, .inl (k 0, 160, .inl (a_f)))] := hD
        refine lv_aload_n hx hb dX4_advance_54 rfl (lv_at hl 0 rfl) ?_
        refine lv_iconst (v := 0) hx hb dX4_advance_55 (by decide) ?_
        refine va_put (D := D) (ci := 3) (v := .int 0) (ty := .int) (C := RX4) (T := TX4) (N := 6) hx hb hts hiX4 tyX4 tyX4_ok nmX4 hown hK hP hD hS 0 rfl rfl 5 (by decide) fl28 (fun _ h9 => h9) rfl (by decide +kernel) rfl rfl (Nat.le_of_ble_eq_true rfl) dX4_advance_56 (fun H locs hP hD hS => ?_)
        have hP : va_P D vwCl [(a, .inr (3, [.ref a_bytes, .int (nI a_len), .int a_kd, .int (nI sx), .int (nI sx), .int 0])), (a_bytes, .inl (k 0, 160, .inl (a_f)))] H := hP
        have hD : va_D A [(a, .inr (3, [.ref a_bytes, .int (nI a_len), .int a_kd, .int (nI sx), .int (nI sx), .int 0])), (a_bytes, .inl (k 0, 160, .inl (a_f)))] := hD
        refine lv_aload_n hx hb dX4_advance_59 rfl (lv_at hl 0 rfl) ?_
        refine va_get (D := D) (ci := 3) (v := .int (nI sx)) (C := RX4) (T := TX4) (N := 6) hx hb hts hiX4 hown hK hP 0 rfl rfl 3 (by decide) fl22 (fun _ h9 => h9) rfl dX4_advance_60 ?_
        refine lv_aload_n hx hb dX4_advance_63 rfl (lv_at hl 0 rfl) ?_
        refine va_get (D := D) (ci := 3) (v := .int (nI a_len)) (C := RX4) (T := TX4) (N := 6) hx hb hts hiX4 hown hK hP 0 rfl rfl 1 (by decide) fl25 (fun _ h9 => h9) rfl dX4_advance_64 ?_
        refine lv_icmp_lt (tgt := 76) hx hb dX4_advance_67 (by decide) (fun c_28 => ?_) (fun c_28 => ?_)
        · have nc_28 : sx < a_len := (nI_ltI (a := sx) (b := a_len) (by omega) (by omega)).mp c_28
          refine lv_aload_n hx hb dX4_advance_76 rfl (lv_at hl 0 rfl) ?_
          refine lv_aload_n hx hb dX4_advance_77 rfl (lv_at hl 0 rfl) ?_
          refine va_get (D := D) (ci := 3) (v := .ref a_bytes) (C := RX4) (T := TX4) (N := 6) hx hb hts hiX4 hown hK hP 0 rfl rfl 0 (by decide) fl9 (fun _ h9 => h9) rfl dX4_advance_78 ?_
          refine lv_aload_n hx hb dX4_advance_81 rfl (lv_at hl 0 rfl) ?_
          refine va_get (D := D) (ci := 3) (v := .int (nI sx)) (C := RX4) (T := TX4) (N := 6) hx hb hts hiX4 hown hK hP 0 rfl rfl 3 (by decide) fl22 (fun _ h9 => h9) rfl dX4_advance_82 ?_
          refine va_iald hx hb hK hP 1 0 rfl rfl (vp_in_nI (show sx < 160 by omega) (by decide)) dX4_advance_85 ?_
          refine hs_pi (va_runS (As := [.int (a_f (nI sx).toNatClampNeg)]) (rest := [.ref a]) ⟨hx, hb, hml, hown, hts⟩ (g_kindOfSign l D k _ (a_f (nI sx).toNatClampNeg)) (va_cwS 1 hts gX4_advance_X4_kindOfSign rfl rfl rfl (by decide +kernel) ⟨Nat.le_of_ble_eq_true rfl, Nat.le_of_ble_eq_true rfl⟩) (hs_preS hK hN (hs_subP (w := []) hP [] rfl) (hD.sub (ws' := []) [] (by decide) rfl)) rfl rfl hl.1 rfl (lv_room (Nat.le_of_ble_eq_true rfl)) dX4_advance_86 ⟨Nat.le_of_ble_eq_true rfl, Nat.le_of_ble_eq_true rfl⟩) hP hD hS hA (fun r_29 u_31 H locs hw_30 hP hS => ?_)
          refine va_put (D := D) (ci := 3) (v := .int r_29) (ty := .int) (C := RX4) (T := TX4) (N := 6) hx hb hts hiX4 tyX4 tyX4_ok nmX4 hown hK hP hD hS 0 rfl rfl 2 (by decide) fl31 (fun _ h9 => h9) rfl (by decide +kernel) rfl rfl (Nat.le_of_ble_eq_true rfl) dX4_advance_89 (fun H locs hP hD hS => ?_)
          have hP : va_P D vwCl [(a, .inr (3, [.ref a_bytes, .int (nI a_len), .int r_29, .int (nI sx), .int (nI sx), .int 0])), (a_bytes, .inl (k 0, 160, .inl (a_f)))] H := hP
          have hD : va_D A [(a, .inr (3, [.ref a_bytes, .int (nI a_len), .int r_29, .int (nI sx), .int (nI sx), .int 0])), (a_bytes, .inl (k 0, 160, .inl (a_f)))] := hD
          refine hs_while (σ := Nat) (fun x => sx ≤ x ∧ x < a_len) (fun x => a_len - x) (fun x => [(a, .inr (3, [.ref a_bytes, .int (nI a_len), .int r_29, .int (nI sx), .int (nI (x)), .int 0])), (a_bytes, .inl (k 0, 160, .inl (a_f)))]) (fun x => [(0, .ref a)]) ?_ (sx) ?_ hP hD hS hl
          · intro x hI ih92 H locs ls hP hD hS hl
            obtain ⟨bx, rfl⟩ : ∃ z, z = x := ⟨_, rfl⟩
            try dsimp only at hI
            have hP : va_P D vwCl [(a, .inr (3, [.ref a_bytes, .int (nI a_len), .int r_29, .int (nI sx), .int (nI bx), .int 0])), (a_bytes, .inl (k 0, 160, .inl (a_f)))] H := hP
            have hD : va_D A [(a, .inr (3, [.ref a_bytes, .int (nI a_len), .int r_29, .int (nI sx), .int (nI bx), .int 0])), (a_bytes, .inl (k 0, 160, .inl (a_f)))] := hD
            have hl : lv_has ls 1 [(0, .ref a)] := hl
            refine lv_aload_n hx hb dX4_advance_92 rfl (lv_at hl 0 rfl) ?_
            refine lv_dup hx hb dX4_advance_93 rfl ?_
            refine va_get (D := D) (ci := 3) (v := .int (nI bx)) (C := RX4) (T := TX4) (N := 6) hx hb hts hiX4 hown hK hP 0 rfl rfl 4 (by decide) fl15 (fun _ h9 => h9) rfl dX4_advance_94 ?_
            refine lv_iconst (v := 1) hx hb dX4_advance_97 (by decide) ?_
            refine lv_iadd hx hb dX4_advance_98 ?_
            refine hs_topi (nI (bx + 1)) (nI_add (bx) (1)) ?_
            refine va_put (D := D) (ci := 3) (v := .int (nI (bx + 1))) (ty := .int) (C := RX4) (T := TX4) (N := 6) hx hb hts hiX4 tyX4 tyX4_ok nmX4 hown hK hP hD hS 0 rfl rfl 4 (by decide) fl15 (fun _ h9 => h9) rfl (by decide +kernel) rfl rfl (Nat.le_of_ble_eq_true rfl) dX4_advance_99 (fun H locs hP hD hS => ?_)
            have hP : va_P D vwCl [(a, .inr (3, [.ref a_bytes, .int (nI a_len), .int r_29, .int (nI sx), .int (nI (bx + 1)), .int 0])), (a_bytes, .inl (k 0, 160, .inl (a_f)))] H := hP
            have hD : va_D A [(a, .inr (3, [.ref a_bytes, .int (nI a_len), .int r_29, .int (nI sx), .int (nI (bx + 1)), .int 0])), (a_bytes, .inl (k 0, 160, .inl (a_f)))] := hD
            refine lv_aload_n hx hb dX4_advance_102 rfl (lv_at hl 0 rfl) ?_
            refine hs_ci (va_runV (As := []) (rest := []) ⟨hx, hb, hml, hown, hts⟩ (g_isLong l D k _ a a_bytes a_len r_29 sx (bx + 1) 0) (cwV 0 hts gX4_advance_X4_isLong rfl rfl rfl (by decide +kernel) ⟨Nat.le_of_ble_eq_true rfl, Nat.le_of_ble_eq_true rfl⟩) (hs_preV hK hN (hs_subP (w := [(a, .inr (3, [.ref a_bytes, .int (nI a_len), .int r_29, .int (nI sx), .int (nI (bx + 1)), .int 0]))]) hP [0] rfl) (hD.sub (ws' := [(a, .inr (3, [.ref a_bytes, .int (nI a_len), .int r_29, .int (nI sx), .int (nI (bx + 1)), .int 0]))]) [0] (by decide) rfl) (ci := 3) (q0 := 0) rfl rfl) rfl rfl hl.1 rfl (lv_room (Nat.le_of_ble_eq_true rfl)) dX4_advance_103 ⟨Nat.le_of_ble_eq_true rfl, Nat.le_of_ble_eq_true rfl⟩) hP hD hS hA [0] [1] [(a_bytes, .inl (k 0, 160, .inl (a_f)))] rfl rfl (by decide) (by decide) [1, 0] (fun u_34 => [(a, .inr (3, [.ref a_bytes, .int (nI a_len), .int r_29, .int (nI sx), .int (nI (bx + 1)), .int 0])), (a_bytes, .inl (k 0, 160, .inl (a_f)))]) (fun _ => rfl) (by decide) (fun r_32 u_34 H locs hw_33 hP hD hS => ?_)
            have hP : va_P D vwCl [(a, .inr (3, [.ref a_bytes, .int (nI a_len), .int r_29, .int (nI sx), .int (nI (bx + 1)), .int 0])), (a_bytes, .inl (k 0, 160, .inl (a_f)))] H := hP
            have hD : va_D A [(a, .inr (3, [.ref a_bytes, .int (nI a_len), .int r_29, .int (nI sx), .int (nI (bx + 1)), .int 0])), (a_bytes, .inl (k 0, 160, .inl (a_f)))] := hD
            refine lv_if_eq (tgt := 139) hx hb dX4_advance_106 (by decide) (fun c_35 => ?_) (fun c_35 => ?_)
            · refine lv_aload_n hx hb dX4_advance_139 rfl (lv_at hl 0 rfl) ?_
              refine va_get (D := D) (ci := 3) (v := .int r_29) (C := RX4) (T := TX4) (N := 6) hx hb hts hiX4 hown hK hP 0 rfl rfl 2 (by decide) fl31 (fun _ h9 => h9) rfl dX4_advance_140 ?_
              refine lv_iconst (v := 2) hx hb dX4_advance_143 (by decide) ?_
              refine lv_icmp_ne (tgt := 151) hx hb dX4_advance_144 (by decide) (fun c_36 => ?_) (fun c_36 => ?_)
              · exact hs_vret hx hb hr hlocks hK hP hD hS (r_29, sx, bx + 1, 0) [0, 1] rfl (by decide) dX4_advance_151 (by (try dsimp only); omega)
              · refine lv_aload_n hx hb dX4_advance_147 rfl (lv_at hl 0 rfl) ?_
                refine hs_cv (va_runV (As := []) (rest := []) ⟨hx, hb, hml, hown, hts⟩ (g_measure l D k _ a a_bytes a_len r_29 sx (bx + 1) 0 a_f (by omega) (by omega)) (cwV 0 hts gX4_advance_X4_measure rfl rfl rfl (by decide +kernel) ⟨Nat.le_of_ble_eq_true rfl, Nat.le_of_ble_eq_true rfl⟩) (hs_preV hK hN (hs_subP (w := [(a, .inr (3, [.ref a_bytes, .int (nI a_len), .int r_29, .int (nI sx), .int (nI (bx + 1)), .int 0])), (a_bytes, .inl (k 0, 160, .inl (a_f)))]) hP [0, 1] rfl) (hD.sub (ws' := [(a, .inr (3, [.ref a_bytes, .int (nI a_len), .int r_29, .int (nI sx), .int (nI (bx + 1)), .int 0])), (a_bytes, .inl (k 0, 160, .inl (a_f)))]) [0, 1] (by decide) rfl) (ci := 3) (q0 := 0) rfl rfl) rfl rfl hl.1 rfl (lv_room (Nat.le_of_ble_eq_true rfl)) dX4_advance_148 ⟨Nat.le_of_ble_eq_true rfl, Nat.le_of_ble_eq_true rfl⟩) hP hD hS hA [0, 1] [] [] rfl rfl (by decide) (by decide) [0, 1] (fun u_39 => [(a, .inr (3, [.ref a_bytes, .int (nI a_len), .int u_39.1, .int (nI sx), .int (nI (bx + 1)), .int u_39.2])), (a_bytes, .inl (k 0, 160, .inl (a_f)))]) (fun _ => rfl) (by decide) (fun u_39 H locs hw_38 hP hD hS => ?_)
                have hP : va_P D vwCl [(a, .inr (3, [.ref a_bytes, .int (nI a_len), .int u_39.1, .int (nI sx), .int (nI (bx + 1)), .int u_39.2])), (a_bytes, .inl (k 0, 160, .inl (a_f)))] H := hP
                have hD : va_D A [(a, .inr (3, [.ref a_bytes, .int (nI a_len), .int u_39.1, .int (nI sx), .int (nI (bx + 1)), .int u_39.2])), (a_bytes, .inl (k 0, 160, .inl (a_f)))] := hD
                exact hs_vret hx hb hr hlocks hK hP hD hS (u_39.1, sx, bx + 1, u_39.2) [0, 1] rfl (by decide) dX4_advance_151 (by (try dsimp only); omega)
            · refine lv_aload_n hx hb dX4_advance_109 rfl (lv_at hl 0 rfl) ?_
              refine va_get (D := D) (ci := 3) (v := .int (nI (bx + 1))) (C := RX4) (T := TX4) (N := 6) hx hb hts hiX4 hown hK hP 0 rfl rfl 4 (by decide) fl15 (fun _ h9 => h9) rfl dX4_advance_110 ?_
              refine lv_aload_n hx hb dX4_advance_113 rfl (lv_at hl 0 rfl) ?_
              refine va_get (D := D) (ci := 3) (v := .int (nI a_len)) (C := RX4) (T := TX4) (N := 6) hx hb hts hiX4 hown hK hP 0 rfl rfl 1 (by decide) fl25 (fun _ h9 => h9) rfl dX4_advance_114 ?_
              refine lv_icmp_ge (tgt := 139) hx hb dX4_advance_117 (by decide) (fun c_40 => ?_) (fun c_40 => ?_)
              · have nc_40 : a_len ≤ (bx + 1) := (nI_leI (a := a_len) (b := (bx + 1)) (by omega) (by omega)).mp c_40
                refine lv_aload_n hx hb dX4_advance_139 rfl (lv_at hl 0 rfl) ?_
                refine va_get (D := D) (ci := 3) (v := .int r_29) (C := RX4) (T := TX4) (N := 6) hx hb hts hiX4 hown hK hP 0 rfl rfl 2 (by decide) fl31 (fun _ h9 => h9) rfl dX4_advance_140 ?_
                refine lv_iconst (v := 2) hx hb dX4_advance_143 (by decide) ?_
                refine lv_icmp_ne (tgt := 151) hx hb dX4_advance_144 (by decide) (fun c_41 => ?_) (fun c_41 => ?_)
                · exact hs_vret hx hb hr hlocks hK hP hD hS (r_29, sx, bx + 1, 0) [0, 1] rfl (by decide) dX4_advance_151 (by (try dsimp only); omega)
                · refine lv_aload_n hx hb dX4_advance_147 rfl (lv_at hl 0 rfl) ?_
                  refine hs_cv (va_runV (As := []) (rest := []) ⟨hx, hb, hml, hown, hts⟩ (g_measure l D k _ a a_bytes a_len r_29 sx (bx + 1) 0 a_f (by omega) (by omega)) (cwV 0 hts gX4_advance_X4_measure rfl rfl rfl (by decide +kernel) ⟨Nat.le_of_ble_eq_true rfl, Nat.le_of_ble_eq_true rfl⟩) (hs_preV hK hN (hs_subP (w := [(a, .inr (3, [.ref a_bytes, .int (nI a_len), .int r_29, .int (nI sx), .int (nI (bx + 1)), .int 0])), (a_bytes, .inl (k 0, 160, .inl (a_f)))]) hP [0, 1] rfl) (hD.sub (ws' := [(a, .inr (3, [.ref a_bytes, .int (nI a_len), .int r_29, .int (nI sx), .int (nI (bx + 1)), .int 0])), (a_bytes, .inl (k 0, 160, .inl (a_f)))]) [0, 1] (by decide) rfl) (ci := 3) (q0 := 0) rfl rfl) rfl rfl hl.1 rfl (lv_room (Nat.le_of_ble_eq_true rfl)) dX4_advance_148 ⟨Nat.le_of_ble_eq_true rfl, Nat.le_of_ble_eq_true rfl⟩) hP hD hS hA [0, 1] [] [] rfl rfl (by decide) (by decide) [0, 1] (fun u_44 => [(a, .inr (3, [.ref a_bytes, .int (nI a_len), .int u_44.1, .int (nI sx), .int (nI (bx + 1)), .int u_44.2])), (a_bytes, .inl (k 0, 160, .inl (a_f)))]) (fun _ => rfl) (by decide) (fun u_44 H locs hw_43 hP hD hS => ?_)
                  have hP : va_P D vwCl [(a, .inr (3, [.ref a_bytes, .int (nI a_len), .int u_44.1, .int (nI sx), .int (nI (bx + 1)), .int u_44.2])), (a_bytes, .inl (k 0, 160, .inl (a_f)))] H := hP
                  have hD : va_D A [(a, .inr (3, [.ref a_bytes, .int (nI a_len), .int u_44.1, .int (nI sx), .int (nI (bx + 1)), .int u_44.2])), (a_bytes, .inl (k 0, 160, .inl (a_f)))] := hD
                  exact hs_vret hx hb hr hlocks hK hP hD hS (u_44.1, sx, bx + 1, u_44.2) [0, 1] rfl (by decide) dX4_advance_151 (by (try dsimp only); omega)
              · have nc_40 : ¬ a_len ≤ (bx + 1) := fun hq9 => c_40 ((nI_leI (a := a_len) (b := (bx + 1)) (by omega) (by omega)).mpr hq9)
                refine lv_aload_n hx hb dX4_advance_120 rfl (lv_at hl 0 rfl) ?_
                refine va_get (D := D) (ci := 3) (v := .ref a_bytes) (C := RX4) (T := TX4) (N := 6) hx hb hts hiX4 hown hK hP 0 rfl rfl 0 (by decide) fl9 (fun _ h9 => h9) rfl dX4_advance_121 ?_
                refine lv_aload_n hx hb dX4_advance_124 rfl (lv_at hl 0 rfl) ?_
                refine va_get (D := D) (ci := 3) (v := .int (nI (bx + 1))) (C := RX4) (T := TX4) (N := 6) hx hb hts hiX4 hown hK hP 0 rfl rfl 4 (by decide) fl15 (fun _ h9 => h9) rfl dX4_advance_125 ?_
                refine va_iald hx hb hK hP 1 0 rfl rfl (vp_in_nI (show (bx + 1) < 160 by omega) (by decide)) dX4_advance_128 ?_
                refine hs_pi (va_runS (As := [.int (a_f (nI (bx + 1)).toNatClampNeg)]) (rest := []) ⟨hx, hb, hml, hown, hts⟩ (g_kindOfSign l D k _ (a_f (nI (bx + 1)).toNatClampNeg)) (va_cwS 1 hts gX4_advance_X4_kindOfSign rfl rfl rfl (by decide +kernel) ⟨Nat.le_of_ble_eq_true rfl, Nat.le_of_ble_eq_true rfl⟩) (hs_preS hK hN (hs_subP (w := []) hP [] rfl) (hD.sub (ws' := []) [] (by decide) rfl)) rfl rfl hl.1 rfl (lv_room (Nat.le_of_ble_eq_true rfl)) dX4_advance_129 ⟨Nat.le_of_ble_eq_true rfl, Nat.le_of_ble_eq_true rfl⟩) hP hD hS hA (fun r_45 u_47 H locs hw_46 hP hS => ?_)
                refine lv_aload_n hx hb dX4_advance_132 rfl (lv_at hl 0 rfl) ?_
                refine va_get (D := D) (ci := 3) (v := .int r_29) (C := RX4) (T := TX4) (N := 6) hx hb hts hiX4 hown hK hP 0 rfl rfl 2 (by decide) fl31 (fun _ h9 => h9) rfl dX4_advance_133 ?_
                refine lv_icmp_eq (tgt := 92) hx hb dX4_advance_136 (by decide) (fun c_48 => ?_) (fun c_48 => ?_)
                · exact ih92 (bx + 1) (by (try dsimp only); first | omega | (refine ⟨?_, ?_⟩ <;> first | omega | assumption)) (by (try dsimp only); omega) _ _ _ hP hD hS (lv_sub hl [0] rfl)
                · refine lv_aload_n hx hb dX4_advance_139 rfl (lv_at hl 0 rfl) ?_
                  refine va_get (D := D) (ci := 3) (v := .int r_29) (C := RX4) (T := TX4) (N := 6) hx hb hts hiX4 hown hK hP 0 rfl rfl 2 (by decide) fl31 (fun _ h9 => h9) rfl dX4_advance_140 ?_
                  refine lv_iconst (v := 2) hx hb dX4_advance_143 (by decide) ?_
                  refine lv_icmp_ne (tgt := 151) hx hb dX4_advance_144 (by decide) (fun c_49 => ?_) (fun c_49 => ?_)
                  · exact hs_vret hx hb hr hlocks hK hP hD hS (r_29, sx, bx + 1, 0) [0, 1] rfl (by decide) dX4_advance_151 (by (try dsimp only); omega)
                  · refine lv_aload_n hx hb dX4_advance_147 rfl (lv_at hl 0 rfl) ?_
                    refine hs_cv (va_runV (As := []) (rest := []) ⟨hx, hb, hml, hown, hts⟩ (g_measure l D k _ a a_bytes a_len r_29 sx (bx + 1) 0 a_f (by omega) (by omega)) (cwV 0 hts gX4_advance_X4_measure rfl rfl rfl (by decide +kernel) ⟨Nat.le_of_ble_eq_true rfl, Nat.le_of_ble_eq_true rfl⟩) (hs_preV hK hN (hs_subP (w := [(a, .inr (3, [.ref a_bytes, .int (nI a_len), .int r_29, .int (nI sx), .int (nI (bx + 1)), .int 0])), (a_bytes, .inl (k 0, 160, .inl (a_f)))]) hP [0, 1] rfl) (hD.sub (ws' := [(a, .inr (3, [.ref a_bytes, .int (nI a_len), .int r_29, .int (nI sx), .int (nI (bx + 1)), .int 0])), (a_bytes, .inl (k 0, 160, .inl (a_f)))]) [0, 1] (by decide) rfl) (ci := 3) (q0 := 0) rfl rfl) rfl rfl hl.1 rfl (lv_room (Nat.le_of_ble_eq_true rfl)) dX4_advance_148 ⟨Nat.le_of_ble_eq_true rfl, Nat.le_of_ble_eq_true rfl⟩) hP hD hS hA [0, 1] [] [] rfl rfl (by decide) (by decide) [0, 1] (fun u_52 => [(a, .inr (3, [.ref a_bytes, .int (nI a_len), .int u_52.1, .int (nI sx), .int (nI (bx + 1)), .int u_52.2])), (a_bytes, .inl (k 0, 160, .inl (a_f)))]) (fun _ => rfl) (by decide) (fun u_52 H locs hw_51 hP hD hS => ?_)
                    have hP : va_P D vwCl [(a, .inr (3, [.ref a_bytes, .int (nI a_len), .int u_52.1, .int (nI sx), .int (nI (bx + 1)), .int u_52.2])), (a_bytes, .inl (k 0, 160, .inl (a_f)))] H := hP
                    have hD : va_D A [(a, .inr (3, [.ref a_bytes, .int (nI a_len), .int u_52.1, .int (nI sx), .int (nI (bx + 1)), .int u_52.2])), (a_bytes, .inl (k 0, 160, .inl (a_f)))] := hD
                    exact hs_vret hx hb hr hlocks hK hP hD hS (u_52.1, sx, bx + 1, u_52.2) [0, 1] rfl (by decide) dX4_advance_151 (by (try dsimp only); omega)
          · (try dsimp only); first | omega | (refine ⟨?_, ?_⟩ <;> first | omega | assumption)
        · have nc_28 : ¬ sx < a_len := fun hq9 => c_28 ((nI_ltI (a := sx) (b := a_len) (by omega) (by omega)).mpr hq9)
          refine lv_aload_n hx hb dX4_advance_70 rfl (lv_at hl 0 rfl) ?_
          refine lv_iconst (v := 0) hx hb dX4_advance_71 (by decide) ?_
          refine va_put (D := D) (ci := 3) (v := .int 0) (ty := .int) (C := RX4) (T := TX4) (N := 6) hx hb hts hiX4 tyX4 tyX4_ok nmX4 hown hK hP hD hS 0 rfl rfl 2 (by decide) fl31 (fun _ h9 => h9) rfl (by decide +kernel) rfl rfl (Nat.le_of_ble_eq_true rfl) dX4_advance_72 (fun H locs hP hD hS => ?_)
          have hP : va_P D vwCl [(a, .inr (3, [.ref a_bytes, .int (nI a_len), .int 0, .int (nI sx), .int (nI sx), .int 0])), (a_bytes, .inl (k 0, 160, .inl (a_f)))] H := hP
          have hD : va_D A [(a, .inr (3, [.ref a_bytes, .int (nI a_len), .int 0, .int (nI sx), .int (nI sx), .int 0])), (a_bytes, .inl (k 0, 160, .inl (a_f)))] := hD
          exact hs_vret hx hb hr hlocks hK hP hD hS (0, sx, sx, 0) [0, 1] rfl (by decide) dX4_advance_75 (by (try dsimp only); omega)
      · refine lv_aload_n hx hb dX4_advance_33 rfl (lv_at hl 0 rfl) ?_
        refine lv_dup hx hb dX4_advance_34 rfl ?_
        refine va_get (D := D) (ci := 3) (v := .int (nI sx)) (C := RX4) (T := TX4) (N := 6) hx hb hts hiX4 hown hK hP 0 rfl rfl 3 (by decide) fl22 (fun _ h9 => h9) rfl dX4_advance_35 ?_
        refine lv_iconst (v := 1) hx hb dX4_advance_38 (by decide) ?_
        refine lv_iadd hx hb dX4_advance_39 ?_
        refine hs_topi (nI (sx + 1)) (nI_add (sx) (1)) ?_
        refine va_put (D := D) (ci := 3) (v := .int (nI (sx + 1))) (ty := .int) (C := RX4) (T := TX4) (N := 6) hx hb hts hiX4 tyX4 tyX4_ok nmX4 hown hK hP hD hS 0 rfl rfl 3 (by decide) fl22 (fun _ h9 => h9) rfl (by decide +kernel) rfl rfl (Nat.le_of_ble_eq_true rfl) dX4_advance_40 (fun H locs hP hD hS => ?_)
        have hP : va_P D vwCl [(a, .inr (3, [.ref a_bytes, .int (nI a_len), .int a_kd, .int (nI (sx + 1)), .int (nI a_be), .int a_va])), (a_bytes, .inl (k 0, 160, .inl (a_f)))] H := hP
        have hD : va_D A [(a, .inr (3, [.ref a_bytes, .int (nI a_len), .int a_kd, .int (nI (sx + 1)), .int (nI a_be), .int a_va])), (a_bytes, .inl (k 0, 160, .inl (a_f)))] := hD
        refine lv_goto (tgt := 8) hx hb dX4_advance_43 (by decide) ?_
        exact ih8 (sx + 1) (by (try dsimp only); first | omega | (refine ⟨?_, ?_⟩ <;> first | omega | assumption)) (by (try dsimp only); omega) _ _ _ hP hD hS (lv_sub hl [0] rfl)
  · (try dsimp only); first | omega | (refine ⟨?_, ?_⟩ <;> first | omega | assumption)

set_option maxHeartbeats 4000000 in
set_option maxRecDepth 100000 in
theorem g_restart (l : Launch) (D : va_G) (k : Nat → ClassId) (sz : Nat) (a : Nat) (a_bytes : Nat) (a_len : Nat) (a_kd : Int32) (a_st : Nat) (a_be : Nat) (a_va : Int32) (a_f : Nat → Int32) (hl160 : a_len ≤ 160) : MV l yX4_restart wsX4_restart ({ frames := 2, cells := 0, slots := 0, locals := 41 }) D k [.ref a] [(a, .inr (3, [.ref a_bytes, .int (nI a_len), .int a_kd, .int (nI a_st), .int (nI a_be), .int a_va])), (a_bytes, .inl (k 0, 160, .inl (a_f)))] sz (fun (u : Int32 × Nat × Nat × Int32) => u.2.1 ≤ u.2.2.1 ∧ u.2.2.1 ≤ a_len) (fun (u : Int32 × Nat × Nat × Int32) => [(a, .inr (3, [.ref a_bytes, .int (nI a_len), .int u.1, .int (nI (u.2.1)), .int (nI (u.2.2.1)), .int u.2.2.2])), (a_bytes, .inl (k 0, 160, .inl (a_f)))]) := by
  refine Met.ofW (cc := cX4_restart) (maxL := 1) (ret := none) (by decide) rfl ?_
  intro p e s m args below meth c s₁ B hml hv
  obtain ⟨rfl, hsz, hP, hK, hD0, hN⟩ := hv
  have hx := B.exec
  have hb := B.bytes
  have hr := B.returns
  have hlocks := B.notSynchronized
  have hts := atoms_spec (ws := wsX4_restart) B.pre
  have hown : s.vm.findClass RX4 = some m.cls := findClass_of_methodNamed B.named
  have hiX4 : ∀ w ∈ u_ws RX4 TX4 6, w ∈ wsX4_restart := by decide +kernel
  have fl15 := hts (.fieldLink RX4 15 "HalfScales$Tape" "behind" "I") (by decide +kernel)
  subst hsz
  have hD := hD0.self (sz := s.heap.size)
  generalize hAe : va_A [(a, .inr (3, [.ref a_bytes, .int (nI a_len), .int a_kd, .int (nI a_st), .int (nI a_be), .int a_va])), (a_bytes, .inl (k 0, 160, .inl (a_f)))] s.heap.size = A at hD ⊢
  have hA : ∀ q : Nat, s.heap.size ≤ q → A q := fun q h => by rw [← hAe]; exact Or.inr h
  have hS : va_S A s.heap s.heap [] := va_S.rf
  have hl := lv_entry ([.ref a]) (n := 1) (Nat.le_of_ble_eq_true rfl)
  rw [lg_entry_eq]
  generalize (lg_sl ([.ref a]) ++ List.replicate (1 - (lg_sl ([.ref a])).length) Slot.unset).toArray = ls at hl ⊢
  have hl : lv_has ls 1 [(0, .ref a)] := hl
  have hP : va_P D vwCl [(a, .inr (3, [.ref a_bytes, .int (nI a_len), .int a_kd, .int (nI a_st), .int (nI a_be), .int a_va])), (a_bytes, .inl (k 0, 160, .inl (a_f)))] s.heap := hP
  refine lv_aload_n hx hb dX4_restart_0 rfl (lv_at hl 0 rfl) ?_
  refine lv_iconst (v := 0) hx hb dX4_restart_1 (by decide) ?_
  refine va_put (D := D) (ci := 3) (v := .int 0) (ty := .int) (C := RX4) (T := TX4) (N := 6) hx hb hts hiX4 tyX4 tyX4_ok nmX4 hown hK hP hD hS 0 rfl rfl 4 (by decide) fl15 (fun _ h9 => h9) rfl (by decide +kernel) rfl rfl (Nat.le_of_ble_eq_true rfl) dX4_restart_2 (fun H locs hP hD hS => ?_)
  have hP : va_P D vwCl [(a, .inr (3, [.ref a_bytes, .int (nI a_len), .int a_kd, .int (nI a_st), .int 0, .int a_va])), (a_bytes, .inl (k 0, 160, .inl (a_f)))] H := hP
  have hD : va_D A [(a, .inr (3, [.ref a_bytes, .int (nI a_len), .int a_kd, .int (nI a_st), .int 0, .int a_va])), (a_bytes, .inl (k 0, 160, .inl (a_f)))] := hD
  refine lv_aload_n hx hb dX4_restart_5 rfl (lv_at hl 0 rfl) ?_
  refine hs_cv (va_runV (As := []) (rest := []) ⟨hx, hb, hml, hown, hts⟩ (g_advance l D k _ a a_bytes a_len a_kd a_st 0 a_va a_f (by omega) (by omega)) (cwV 0 hts gX4_restart_X4_advance rfl rfl rfl (by decide +kernel) ⟨Nat.le_of_ble_eq_true rfl, Nat.le_of_ble_eq_true rfl⟩) (hs_preV hK hN (hs_subP (w := [(a, .inr (3, [.ref a_bytes, .int (nI a_len), .int a_kd, .int (nI a_st), .int 0, .int a_va])), (a_bytes, .inl (k 0, 160, .inl (a_f)))]) hP [0, 1] rfl) (hD.sub (ws' := [(a, .inr (3, [.ref a_bytes, .int (nI a_len), .int a_kd, .int (nI a_st), .int 0, .int a_va])), (a_bytes, .inl (k 0, 160, .inl (a_f)))]) [0, 1] (by decide) rfl) (ci := 3) (q0 := 0) rfl rfl) rfl rfl hl.1 rfl (lv_room (Nat.le_of_ble_eq_true rfl)) dX4_restart_6 ⟨Nat.le_of_ble_eq_true rfl, Nat.le_of_ble_eq_true rfl⟩) hP hD hS hA [0, 1] [] [] rfl rfl (by decide) (by decide) [0, 1] (fun u_3 => [(a, .inr (3, [.ref a_bytes, .int (nI a_len), .int u_3.1, .int (nI (u_3.2.1)), .int (nI (u_3.2.2.1)), .int u_3.2.2.2])), (a_bytes, .inl (k 0, 160, .inl (a_f)))]) (fun _ => rfl) (by decide) (fun u_3 H locs hw_2 hP hD hS => ?_)
  have hP : va_P D vwCl [(a, .inr (3, [.ref a_bytes, .int (nI a_len), .int u_3.1, .int (nI (u_3.2.1)), .int (nI (u_3.2.2.1)), .int u_3.2.2.2])), (a_bytes, .inl (k 0, 160, .inl (a_f)))] H := hP
  have hD : va_D A [(a, .inr (3, [.ref a_bytes, .int (nI a_len), .int u_3.1, .int (nI (u_3.2.1)), .int (nI (u_3.2.2.1)), .int u_3.2.2.2])), (a_bytes, .inl (k 0, 160, .inl (a_f)))] := hD
  have hw_2 : u_3.2.1 ≤ u_3.2.2.1 ∧ u_3.2.2.1 ≤ a_len := hw_2
  exact hs_vret hx hb hr hlocks hK hP hD hS (u_3.1, u_3.2.1, u_3.2.2.1, u_3.2.2.2) [0, 1] rfl (by decide) dX4_restart_9 (by (try dsimp only); omega)

set_option maxHeartbeats 4000000 in
set_option maxRecDepth 100000 in
theorem g_blame (l : Launch) (D : va_G) (k : Nat → ClassId) (sz : Nat) (ee : Nat) (ee_tape : Nat) (ee_draft : Nat) (ee_to : Int32) (ee_fm : Int32) (ee_pl : Int32) (a_bytes : Nat) (a_len : Nat) (a_kd : Int32) (a_st : Nat) (a_be : Nat) (a_va : Int32) (f : Int32) (hf : ¬ f = 0) : MV l yX5_blame wsX5_blame ({ frames := 0, cells := 0, slots := 0, locals := 0 }) D k [.ref ee, .int f] [(ee, .inr (4, [.ref ee_tape, .ref ee_draft, .int ee_to, .int ee_fm, .int ee_pl])), (ee_tape, .inr (3, [.ref a_bytes, .int (nI a_len), .int a_kd, .int (nI a_st), .int (nI a_be), .int a_va]))] sz (fun (u : Int32 × Int32) => ¬ u.1 = 0) (fun (u : Int32 × Int32) => [(ee, .inr (4, [.ref ee_tape, .ref ee_draft, .int ee_to, .int u.1, .int u.2])), (ee_tape, .inr (3, [.ref a_bytes, .int (nI a_len), .int a_kd, .int (nI a_st), .int (nI a_be), .int a_va]))]) := by
  refine Met.ofW (cc := cX5_blame) (maxL := 2) (ret := none) (by decide) rfl ?_
  intro p e s m args below meth c s₁ B hml hv
  obtain ⟨rfl, hsz, hP, hK, hD0, hN⟩ := hv
  have hx := B.exec
  have hb := B.bytes
  have hr := B.returns
  have hlocks := B.notSynchronized
  have hts := atoms_spec (ws := wsX5_blame) B.pre
  have hown : s.vm.findClass RX5 = some m.cls := findClass_of_methodNamed B.named
  have hiX4 : ∀ w ∈ u_ws RX4 TX4 6, w ∈ wsX5_blame := by decide +kernel
  have hiX5 : ∀ w ∈ u_ws RX5 TX5 5, w ∈ wsX5_blame := by decide +kernel
  have fl32 := hts (.fieldLink RX5 32 "HalfScales$Teller" "faultMet" "I") (by decide +kernel)
  have fl12 := hts (.fieldLink RX5 12 "HalfScales$Teller" "tape" "LHalfScales$Tape;") (by decide +kernel)
  have fl160 := hts (.fieldLink RX5 160 "HalfScales$Tape" "start" "I") (by decide +kernel)
  have fl35 := hts (.fieldLink RX5 35 "HalfScales$Teller" "place" "I") (by decide +kernel)
  subst hsz
  have hD := hD0.self (sz := s.heap.size)
  generalize hAe : va_A [(ee, .inr (4, [.ref ee_tape, .ref ee_draft, .int ee_to, .int ee_fm, .int ee_pl])), (ee_tape, .inr (3, [.ref a_bytes, .int (nI a_len), .int a_kd, .int (nI a_st), .int (nI a_be), .int a_va]))] s.heap.size = A at hD ⊢
  have hA : ∀ q : Nat, s.heap.size ≤ q → A q := fun q h => by rw [← hAe]; exact Or.inr h
  have hS : va_S A s.heap s.heap [] := va_S.rf
  have hl := lv_entry ([.ref ee, .int f]) (n := 2) (Nat.le_of_ble_eq_true rfl)
  rw [lg_entry_eq]
  generalize (lg_sl ([.ref ee, .int f]) ++ List.replicate (2 - (lg_sl ([.ref ee, .int f])).length) Slot.unset).toArray = ls at hl ⊢
  have hl : lv_has ls 2 [(0, .ref ee), (1, .int f)] := hl
  have hP : va_P D vwCl [(ee, .inr (4, [.ref ee_tape, .ref ee_draft, .int ee_to, .int ee_fm, .int ee_pl])), (ee_tape, .inr (3, [.ref a_bytes, .int (nI a_len), .int a_kd, .int (nI a_st), .int (nI a_be), .int a_va]))] s.heap := hP
  refine lv_aload_n hx hb dX5_blame_0 rfl (lv_at hl 0 rfl) ?_
  refine va_get (D := D) (ci := 4) (v := .int ee_fm) (C := RX5) (T := TX5) (N := 5) hx hb hts hiX5 hown hK hP 0 rfl rfl 3 (by decide) fl32 (fun _ h9 => h9) rfl dX5_blame_1 ?_
  refine lv_if_ne (tgt := 23) hx hb dX5_blame_4 (by decide) (fun c_1 => ?_) (fun c_1 => ?_)
  · exact hs_vret hx hb hr hlocks hK hP hD hS (ee_fm, ee_pl) [0, 1] rfl (by decide) dX5_blame_23 (by (try dsimp only); first | exact hf | exact c_1)
  · refine lv_aload_n hx hb dX5_blame_7 rfl (lv_at hl 0 rfl) ?_
    refine lv_iload_n hx hb dX5_blame_8 rfl (lv_at hl 1 rfl) ?_
    refine va_put (D := D) (ci := 4) (v := .int f) (ty := .int) (C := RX5) (T := TX5) (N := 5) hx hb hts hiX5 tyX5 tyX5_ok nmX5 hown hK hP hD hS 0 rfl rfl 3 (by decide) fl32 (fun _ h9 => h9) rfl (by decide +kernel) rfl rfl (Nat.le_of_ble_eq_true rfl) dX5_blame_9 (fun H locs hP hD hS => ?_)
    have hP : va_P D vwCl [(ee, .inr (4, [.ref ee_tape, .ref ee_draft, .int ee_to, .int f, .int ee_pl])), (ee_tape, .inr (3, [.ref a_bytes, .int (nI a_len), .int a_kd, .int (nI a_st), .int (nI a_be), .int a_va]))] H := hP
    have hD : va_D A [(ee, .inr (4, [.ref ee_tape, .ref ee_draft, .int ee_to, .int f, .int ee_pl])), (ee_tape, .inr (3, [.ref a_bytes, .int (nI a_len), .int a_kd, .int (nI a_st), .int (nI a_be), .int a_va]))] := hD
    refine lv_aload_n hx hb dX5_blame_12 rfl (lv_at hl 0 rfl) ?_
    refine lv_aload_n hx hb dX5_blame_13 rfl (lv_at hl 0 rfl) ?_
    refine va_get (D := D) (ci := 4) (v := .ref ee_tape) (C := RX5) (T := TX5) (N := 5) hx hb hts hiX5 hown hK hP 0 rfl rfl 0 (by decide) fl12 (fun _ h9 => h9) rfl dX5_blame_14 ?_
    refine va_get (D := D) (ci := 3) (v := .int (nI a_st)) (C := RX4) (T := TX4) (N := 6) hx hb hts hiX4 hown hK hP 1 rfl rfl 3 (by decide) fl160 (fun _ h9 => h9) rfl dX5_blame_17 ?_
    refine va_put (D := D) (ci := 4) (v := .int (nI a_st)) (ty := .int) (C := RX5) (T := TX5) (N := 5) hx hb hts hiX5 tyX5 tyX5_ok nmX5 hown hK hP hD hS 0 rfl rfl 4 (by decide) fl35 (fun _ h9 => h9) rfl (by decide +kernel) rfl rfl (Nat.le_of_ble_eq_true rfl) dX5_blame_20 (fun H locs hP hD hS => ?_)
    have hP : va_P D vwCl [(ee, .inr (4, [.ref ee_tape, .ref ee_draft, .int ee_to, .int f, .int (nI a_st)])), (ee_tape, .inr (3, [.ref a_bytes, .int (nI a_len), .int a_kd, .int (nI a_st), .int (nI a_be), .int a_va]))] H := hP
    have hD : va_D A [(ee, .inr (4, [.ref ee_tape, .ref ee_draft, .int ee_to, .int f, .int (nI a_st)])), (ee_tape, .inr (3, [.ref a_bytes, .int (nI a_len), .int a_kd, .int (nI a_st), .int (nI a_be), .int a_va]))] := hD
    exact hs_vret hx hb hr hlocks hK hP hD hS (f, nI a_st) [0, 1] rfl (by decide) dX5_blame_23 (by (try dsimp only); first | exact hf | exact c_1)

theorem hs_rng {v : Int32} {lo hi : Nat} (hh : hi < 2 ^ 30) (hl : lo ≤ hi) (h : hsin v (nI lo) (nI hi) = true) : ∃ j : Nat, lo ≤ j ∧ j ≤ hi ∧ v = nI j := by
  have h1 := hsin_toInt h
  rw [nI_toInt (by omega), nI_toInt (by omega)] at h1
  refine ⟨v.toInt.toNat, by omega, by omega, Int32.toInt_inj.mp ?_⟩
  rw [nI_toInt (by omega)]
  omega

set_option maxHeartbeats 4000000 in
set_option maxRecDepth 100000 in
theorem g_blameFor (l : Launch) (D : va_G) (k : Nat → ClassId) (sz : Nat) (ee : Nat) (ee_tape : Nat) (ee_draft : Nat) (ee_to : Int32) (ee_fm : Int32) (ee_pl : Int32) (a_bytes : Nat) (a_len : Nat) (a_kd : Int32) (a_st : Nat) (a_be : Nat) (a_va : Int32) (f : Int32)  : MV l yX5_blameFor wsX5_blameFor ({ frames := 1, cells := 0, slots := 0, locals := 21 }) D k [.ref ee, .int f] [(ee, .inr (4, [.ref ee_tape, .ref ee_draft, .int ee_to, .int ee_fm, .int ee_pl])), (ee_tape, .inr (3, [.ref a_bytes, .int (nI a_len), .int a_kd, .int (nI a_st), .int (nI a_be), .int a_va]))] sz (fun (u : Int32 × Int32) => u.1 = 0 → ee_fm = 0) (fun (u : Int32 × Int32) => [(ee, .inr (4, [.ref ee_tape, .ref ee_draft, .int ee_to, .int u.1, .int u.2])), (ee_tape, .inr (3, [.ref a_bytes, .int (nI a_len), .int a_kd, .int (nI a_st), .int (nI a_be), .int a_va]))]) := by
  refine Met.ofW (cc := cX5_blameFor) (maxL := 2) (ret := none) (by decide) rfl ?_
  intro p e s m args below meth c s₁ B hml hv
  obtain ⟨rfl, hsz, hP, hK, hD0, hN⟩ := hv
  have hx := B.exec
  have hb := B.bytes
  have hr := B.returns
  have hlocks := B.notSynchronized
  have hts := atoms_spec (ws := wsX5_blameFor) B.pre
  have hown : s.vm.findClass RX5 = some m.cls := findClass_of_methodNamed B.named
  have hiX4 : ∀ w ∈ u_ws RX4 TX4 6, w ∈ wsX5_blameFor := by decide +kernel
  have hiX5 : ∀ w ∈ u_ws RX5 TX5 5, w ∈ wsX5_blameFor := by decide +kernel
  have fl12 := hts (.fieldLink RX5 12 "HalfScales$Teller" "tape" "LHalfScales$Tape;") (by decide +kernel)
  have fl41 := hts (.fieldLink RX5 41 "HalfScales$Tape" "kind" "I") (by decide +kernel)
  subst hsz
  have hD := hD0.self (sz := s.heap.size)
  generalize hAe : va_A [(ee, .inr (4, [.ref ee_tape, .ref ee_draft, .int ee_to, .int ee_fm, .int ee_pl])), (ee_tape, .inr (3, [.ref a_bytes, .int (nI a_len), .int a_kd, .int (nI a_st), .int (nI a_be), .int a_va]))] s.heap.size = A at hD ⊢
  have hA : ∀ q : Nat, s.heap.size ≤ q → A q := fun q h => by rw [← hAe]; exact Or.inr h
  have hS : va_S A s.heap s.heap [] := va_S.rf
  have hl := lv_entry ([.ref ee, .int f]) (n := 2) (Nat.le_of_ble_eq_true rfl)
  rw [lg_entry_eq]
  generalize (lg_sl ([.ref ee, .int f]) ++ List.replicate (2 - (lg_sl ([.ref ee, .int f])).length) Slot.unset).toArray = ls at hl ⊢
  have hl : lv_has ls 2 [(0, .ref ee), (1, .int f)] := hl
  have hP : va_P D vwCl [(ee, .inr (4, [.ref ee_tape, .ref ee_draft, .int ee_to, .int ee_fm, .int ee_pl])), (ee_tape, .inr (3, [.ref a_bytes, .int (nI a_len), .int a_kd, .int (nI a_st), .int (nI a_be), .int a_va]))] s.heap := hP
  refine lv_aload_n hx hb dX5_blameFor_0 rfl (lv_at hl 0 rfl) ?_
  refine va_get (D := D) (ci := 4) (v := .ref ee_tape) (C := RX5) (T := TX5) (N := 5) hx hb hts hiX5 hown hK hP 0 rfl rfl 0 (by decide) fl12 (fun _ h9 => h9) rfl dX5_blameFor_1 ?_
  refine va_get (D := D) (ci := 3) (v := .int a_kd) (C := RX4) (T := TX4) (N := 6) hx hb hts hiX4 hown hK hP 1 rfl rfl 2 (by decide) fl41 (fun _ h9 => h9) rfl dX5_blameFor_4 ?_
  refine lv_iconst (v := 4) hx hb dX5_blameFor_7 (by decide) ?_
  refine lv_icmp_ne (tgt := 19) hx hb dX5_blameFor_8 (by decide) (fun c_1 => ?_) (fun c_1 => ?_)
  · refine lv_aload_n hx hb dX5_blameFor_19 rfl (lv_at hl 0 rfl) ?_
    refine va_get (D := D) (ci := 4) (v := .ref ee_tape) (C := RX5) (T := TX5) (N := 5) hx hb hts hiX5 hown hK hP 0 rfl rfl 0 (by decide) fl12 (fun _ h9 => h9) rfl dX5_blameFor_20 ?_
    refine va_get (D := D) (ci := 3) (v := .int a_kd) (C := RX4) (T := TX4) (N := 6) hx hb hts hiX4 hown hK hP 1 rfl rfl 2 (by decide) fl41 (fun _ h9 => h9) rfl dX5_blameFor_23 ?_
    refine lv_iload_n hx hb dX5_blameFor_26 rfl (lv_at hl 1 rfl) ?_
    refine lv_icmp_eq (tgt := 35) hx hb dX5_blameFor_27 (by decide) (fun c_2 => ?_) (fun c_2 => ?_)
    · exact hs_vret hx hb hr hlocks hK hP hD hS (ee_fm, ee_pl) [0, 1] rfl (by decide) dX5_blameFor_35 (by (try dsimp only); first | exact fun h => h)
    · refine lv_aload_n hx hb dX5_blameFor_30 rfl (lv_at hl 0 rfl) ?_
      refine lv_iconst (v := 2) hx hb dX5_blameFor_31 (by decide) ?_
      refine hs_cv (va_runV (As := [.int 2]) (rest := []) ⟨hx, hb, hml, hown, hts⟩ (g_blame l D k _ ee ee_tape ee_draft ee_to ee_fm ee_pl a_bytes a_len a_kd a_st a_be a_va 2 (by decide)) (cwV 1 hts gX5_blameFor_X5_blame rfl rfl rfl (by decide +kernel) ⟨Nat.le_of_ble_eq_true rfl, Nat.le_of_ble_eq_true rfl⟩) (hs_preV hK hN (hs_subP (w := [(ee, .inr (4, [.ref ee_tape, .ref ee_draft, .int ee_to, .int ee_fm, .int ee_pl])), (ee_tape, .inr (3, [.ref a_bytes, .int (nI a_len), .int a_kd, .int (nI a_st), .int (nI a_be), .int a_va]))]) hP [0, 1] rfl) (hD.sub (ws' := [(ee, .inr (4, [.ref ee_tape, .ref ee_draft, .int ee_to, .int ee_fm, .int ee_pl])), (ee_tape, .inr (3, [.ref a_bytes, .int (nI a_len), .int a_kd, .int (nI a_st), .int (nI a_be), .int a_va]))]) [0, 1] (by decide) rfl) (ci := 4) (q0 := 0) rfl rfl) rfl rfl hl.1 rfl (lv_room (Nat.le_of_ble_eq_true rfl)) dX5_blameFor_32 ⟨Nat.le_of_ble_eq_true rfl, Nat.le_of_ble_eq_true rfl⟩) hP hD hS hA [0, 1] [] [] rfl rfl (by decide) (by decide) [0, 1] (fun u_5 => [(ee, .inr (4, [.ref ee_tape, .ref ee_draft, .int ee_to, .int u_5.1, .int u_5.2])), (ee_tape, .inr (3, [.ref a_bytes, .int (nI a_len), .int a_kd, .int (nI a_st), .int (nI a_be), .int a_va]))]) (fun _ => rfl) (by decide) (fun u_5 H locs hw_4 hP hD hS => ?_)
      have hP : va_P D vwCl [(ee, .inr (4, [.ref ee_tape, .ref ee_draft, .int ee_to, .int u_5.1, .int u_5.2])), (ee_tape, .inr (3, [.ref a_bytes, .int (nI a_len), .int a_kd, .int (nI a_st), .int (nI a_be), .int a_va]))] H := hP
      have hD : va_D A [(ee, .inr (4, [.ref ee_tape, .ref ee_draft, .int ee_to, .int u_5.1, .int u_5.2])), (ee_tape, .inr (3, [.ref a_bytes, .int (nI a_len), .int a_kd, .int (nI a_st), .int (nI a_be), .int a_va]))] := hD
      have hw_4 : ¬ u_5.1 = 0 := hw_4
      exact hs_vret hx hb hr hlocks hK hP hD hS (u_5.1, u_5.2) [0, 1] rfl (by decide) dX5_blameFor_35 (by (try dsimp only); first | exact fun h => h | exact fun h => absurd h hw_4 | exact hw_4 | exact hw_4.2 | exact hw_4.2.2)
  · refine lv_aload_n hx hb dX5_blameFor_11 rfl (lv_at hl 0 rfl) ?_
    refine lv_iconst (v := 1) hx hb dX5_blameFor_12 (by decide) ?_
    refine hs_cv (va_runV (As := [.int 1]) (rest := []) ⟨hx, hb, hml, hown, hts⟩ (g_blame l D k _ ee ee_tape ee_draft ee_to ee_fm ee_pl a_bytes a_len a_kd a_st a_be a_va 1 (by decide)) (cwV 1 hts gX5_blameFor_X5_blame rfl rfl rfl (by decide +kernel) ⟨Nat.le_of_ble_eq_true rfl, Nat.le_of_ble_eq_true rfl⟩) (hs_preV hK hN (hs_subP (w := [(ee, .inr (4, [.ref ee_tape, .ref ee_draft, .int ee_to, .int ee_fm, .int ee_pl])), (ee_tape, .inr (3, [.ref a_bytes, .int (nI a_len), .int a_kd, .int (nI a_st), .int (nI a_be), .int a_va]))]) hP [0, 1] rfl) (hD.sub (ws' := [(ee, .inr (4, [.ref ee_tape, .ref ee_draft, .int ee_to, .int ee_fm, .int ee_pl])), (ee_tape, .inr (3, [.ref a_bytes, .int (nI a_len), .int a_kd, .int (nI a_st), .int (nI a_be), .int a_va]))]) [0, 1] (by decide) rfl) (ci := 4) (q0 := 0) rfl rfl) rfl rfl hl.1 rfl (lv_room (Nat.le_of_ble_eq_true rfl)) dX5_blameFor_13 ⟨Nat.le_of_ble_eq_true rfl, Nat.le_of_ble_eq_true rfl⟩) hP hD hS hA [0, 1] [] [] rfl rfl (by decide) (by decide) [0, 1] (fun u_8 => [(ee, .inr (4, [.ref ee_tape, .ref ee_draft, .int ee_to, .int u_8.1, .int u_8.2])), (ee_tape, .inr (3, [.ref a_bytes, .int (nI a_len), .int a_kd, .int (nI a_st), .int (nI a_be), .int a_va]))]) (fun _ => rfl) (by decide) (fun u_8 H locs hw_7 hP hD hS => ?_)
    have hP : va_P D vwCl [(ee, .inr (4, [.ref ee_tape, .ref ee_draft, .int ee_to, .int u_8.1, .int u_8.2])), (ee_tape, .inr (3, [.ref a_bytes, .int (nI a_len), .int a_kd, .int (nI a_st), .int (nI a_be), .int a_va]))] H := hP
    have hD : va_D A [(ee, .inr (4, [.ref ee_tape, .ref ee_draft, .int ee_to, .int u_8.1, .int u_8.2])), (ee_tape, .inr (3, [.ref a_bytes, .int (nI a_len), .int a_kd, .int (nI a_st), .int (nI a_be), .int a_va]))] := hD
    have hw_7 : ¬ u_8.1 = 0 := hw_7
    refine lv_goto (tgt := 35) hx hb dX5_blameFor_16 (by decide) ?_
    exact hs_vret hx hb hr hlocks hK hP hD hS (u_8.1, u_8.2) [0, 1] rfl (by decide) dX5_blameFor_35 (by (try dsimp only); first | exact fun h => h | exact fun h => absurd h hw_7 | exact hw_7 | exact hw_7.2 | exact hw_7.2.2)

set_option maxHeartbeats 4000000 in
set_option maxRecDepth 100000 in
theorem g_takeNumber (l : Launch) (D : va_G) (k : Nat → ClassId) (sz : Nat) (ee : Nat) (ee_tape : Nat) (ee_draft : Nat) (ee_to : Int32) (ee_fm : Int32) (ee_pl : Int32) (a_bytes : Nat) (a_len : Nat) (a_kd : Int32) (a_st : Nat) (a_be : Nat) (a_va : Int32) (a_f : Nat → Int32) (lo : Nat) (hi : Nat) (un : Int32) (hl160 : a_len ≤ 160) (hsb0 : a_st ≤ a_be) (hbl0 : a_be ≤ a_len) (hlh : lo ≤ hi) (hhi : hi < 2 ^ 30) : MI l yX5_takeNumber wsX5_takeNumber ({ frames := 2, cells := 0, slots := 0, locals := 42 }) D k [.ref ee, .int (nI lo), .int (nI hi), .int un] [(ee, .inr (4, [.ref ee_tape, .ref ee_draft, .int ee_to, .int ee_fm, .int ee_pl])), (ee_tape, .inr (3, [.ref a_bytes, .int (nI a_len), .int a_kd, .int (nI a_st), .int (nI a_be), .int a_va])), (a_bytes, .inl (k 0, 160, .inl (a_f)))] sz (fun (r : Int32) (u : Nat × (Int32 × Int32) × (Int32 × Nat × Nat × Int32)) => r = nI u.1 ∧ lo ≤ u.1 ∧ u.1 ≤ hi ∧ u.2.2.2.1 ≤ u.2.2.2.2.1 ∧ u.2.2.2.2.1 ≤ a_len ∧ (u.2.1.1 = 0 → ee_fm = 0)) (fun (u : Nat × (Int32 × Int32) × (Int32 × Nat × Nat × Int32)) => [(ee, .inr (4, [.ref ee_tape, .ref ee_draft, .int ee_to, .int u.2.1.1, .int u.2.1.2])), (ee_tape, .inr (3, [.ref a_bytes, .int (nI a_len), .int u.2.2.1, .int (nI (u.2.2.2.1)), .int (nI (u.2.2.2.2.1)), .int u.2.2.2.2.2])), (a_bytes, .inl (k 0, 160, .inl (a_f)))]) := by
  refine Met.ofW (cc := cX5_takeNumber) (maxL := 5) (ret := (some .int)) (by decide) rfl ?_
  intro p e s m args below meth c s₁ B hml hv
  obtain ⟨rfl, hsz, hP, hK, hD0, hN⟩ := hv
  have hx := B.exec
  have hb := B.bytes
  have hr := B.returns
  have hlocks := B.notSynchronized
  have hts := atoms_spec (ws := wsX5_takeNumber) B.pre
  have hown : s.vm.findClass RX5 = some m.cls := findClass_of_methodNamed B.named
  have hiX4 : ∀ w ∈ u_ws RX4 TX4 6, w ∈ wsX5_takeNumber := by decide +kernel
  have hiX5 : ∀ w ∈ u_ws RX5 TX5 5, w ∈ wsX5_takeNumber := by decide +kernel
  have fl12 := hts (.fieldLink RX5 12 "HalfScales$Teller" "tape" "LHalfScales$Tape;") (by decide +kernel)
  have fl130 := hts (.fieldLink RX5 130 "HalfScales$Tape" "value" "I") (by decide +kernel)
  have fl32 := hts (.fieldLink RX5 32 "HalfScales$Teller" "faultMet" "I") (by decide +kernel)
  have iniX7 := hts (.initialized RX7) (by decide +kernel)
  have st_X7_within := hts (.static yX7_within) (by decide +kernel)
  subst hsz
  have hD := hD0.self (sz := s.heap.size)
  generalize hAe : va_A [(ee, .inr (4, [.ref ee_tape, .ref ee_draft, .int ee_to, .int ee_fm, .int ee_pl])), (ee_tape, .inr (3, [.ref a_bytes, .int (nI a_len), .int a_kd, .int (nI a_st), .int (nI a_be), .int a_va])), (a_bytes, .inl (k 0, 160, .inl (a_f)))] s.heap.size = A at hD ⊢
  have hA : ∀ q : Nat, s.heap.size ≤ q → A q := fun q h => by rw [← hAe]; exact Or.inr h
  have hS : va_S A s.heap s.heap [] := va_S.rf
  have hl := lv_entry ([.ref ee, .int (nI lo), .int (nI hi), .int un]) (n := 5) (Nat.le_of_ble_eq_true rfl)
  rw [lg_entry_eq]
  generalize (lg_sl ([.ref ee, .int (nI lo), .int (nI hi), .int un]) ++ List.replicate (5 - (lg_sl ([.ref ee, .int (nI lo), .int (nI hi), .int un])).length) Slot.unset).toArray = ls at hl ⊢
  have hl : lv_has ls 5 [(0, .ref ee), (1, .int (nI lo)), (2, .int (nI hi)), (3, .int un)] := hl
  have hP : va_P D vwCl [(ee, .inr (4, [.ref ee_tape, .ref ee_draft, .int ee_to, .int ee_fm, .int ee_pl])), (ee_tape, .inr (3, [.ref a_bytes, .int (nI a_len), .int a_kd, .int (nI a_st), .int (nI a_be), .int a_va])), (a_bytes, .inl (k 0, 160, .inl (a_f)))] s.heap := hP
  refine lv_aload_n hx hb dX5_takeNumber_0 rfl (lv_at hl 0 rfl) ?_
  refine lv_iconst (v := 2) hx hb dX5_takeNumber_1 (by decide) ?_
  refine hs_cv (va_runV (As := [.int 2]) (rest := []) ⟨hx, hb, hml, hown, hts⟩ (g_blameFor l D k _ ee ee_tape ee_draft ee_to ee_fm ee_pl a_bytes a_len a_kd a_st a_be a_va 2) (cwV 1 hts gX5_takeNumber_X5_blameFor rfl rfl rfl (by decide +kernel) ⟨Nat.le_of_ble_eq_true rfl, Nat.le_of_ble_eq_true rfl⟩) (hs_preV hK hN (hs_subP (w := [(ee, .inr (4, [.ref ee_tape, .ref ee_draft, .int ee_to, .int ee_fm, .int ee_pl])), (ee_tape, .inr (3, [.ref a_bytes, .int (nI a_len), .int a_kd, .int (nI a_st), .int (nI a_be), .int a_va]))]) hP [0, 1] rfl) (hD.sub (ws' := [(ee, .inr (4, [.ref ee_tape, .ref ee_draft, .int ee_to, .int ee_fm, .int ee_pl])), (ee_tape, .inr (3, [.ref a_bytes, .int (nI a_len), .int a_kd, .int (nI a_st), .int (nI a_be), .int a_va]))]) [0, 1] (by decide) rfl) (ci := 4) (q0 := 0) rfl rfl) rfl rfl hl.1 rfl (lv_room (Nat.le_of_ble_eq_true rfl)) dX5_takeNumber_2 ⟨Nat.le_of_ble_eq_true rfl, Nat.le_of_ble_eq_true rfl⟩) hP hD hS hA [0, 1] [2] [(a_bytes, .inl (k 0, 160, .inl (a_f)))] rfl rfl (by decide) (by decide) [1, 2, 0] (fun u_3 => [(ee, .inr (4, [.ref ee_tape, .ref ee_draft, .int ee_to, .int u_3.1, .int u_3.2])), (ee_tape, .inr (3, [.ref a_bytes, .int (nI a_len), .int a_kd, .int (nI a_st), .int (nI a_be), .int a_va])), (a_bytes, .inl (k 0, 160, .inl (a_f)))]) (fun _ => rfl) (by decide) (fun u_3 H locs hw_2 hP hD hS => ?_)
  have hP : va_P D vwCl [(ee, .inr (4, [.ref ee_tape, .ref ee_draft, .int ee_to, .int u_3.1, .int u_3.2])), (ee_tape, .inr (3, [.ref a_bytes, .int (nI a_len), .int a_kd, .int (nI a_st), .int (nI a_be), .int a_va])), (a_bytes, .inl (k 0, 160, .inl (a_f)))] H := hP
  have hD : va_D A [(ee, .inr (4, [.ref ee_tape, .ref ee_draft, .int ee_to, .int u_3.1, .int u_3.2])), (ee_tape, .inr (3, [.ref a_bytes, .int (nI a_len), .int a_kd, .int (nI a_st), .int (nI a_be), .int a_va])), (a_bytes, .inl (k 0, 160, .inl (a_f)))] := hD
  have hw_2 : u_3.1 = 0 → ee_fm = 0 := hw_2
  refine lv_aload_n hx hb dX5_takeNumber_5 rfl (lv_at hl 0 rfl) ?_
  refine va_get (D := D) (ci := 4) (v := .ref ee_tape) (C := RX5) (T := TX5) (N := 5) hx hb hts hiX5 hown hK hP 0 rfl rfl 0 (by decide) fl12 (fun _ h9 => h9) rfl dX5_takeNumber_6 ?_
  refine va_get (D := D) (ci := 3) (v := .int a_va) (C := RX4) (T := TX4) (N := 6) hx hb hts hiX4 hown hK hP 1 rfl rfl 5 (by decide) fl130 (fun _ h9 => h9) rfl dX5_takeNumber_9 ?_
  refine lv_iload_n hx hb dX5_takeNumber_12 rfl (lv_at hl 1 rfl) ?_
  refine lv_iload_n hx hb dX5_takeNumber_13 rfl (lv_at hl 2 rfl) ?_
  refine hs_pi (va_runSN (As := [.int a_va, .int (nI lo), .int (nI hi)]) (rest := []) ⟨hx, hb, hml, hown, hts⟩ (g_within l D k _ a_va (nI lo) (nI hi)) ⟨(va_cnB 3 hts gX5_takeNumber_X7_within_n137 rfl rfl rfl hN.2.2.2.2.2.1 iniX7 (by decide +kernel) ⟨Nat.le_of_ble_eq_true rfl, Nat.le_of_ble_eq_true rfl⟩), st_X7_within, trivial⟩ (hs_preS hK hN (hs_subP (w := []) hP [] rfl) (hD.sub (ws' := []) [] (by decide) rfl)) rfl rfl hl.1 rfl (lv_room (Nat.le_of_ble_eq_true rfl)) dX5_takeNumber_14 ⟨Nat.le_of_ble_eq_true rfl, Nat.le_of_ble_eq_true rfl⟩) hP hD hS hA (fun r_4 u_6 H locs hw_5 hP hS => ?_)
  refine hs_topi (hsb (hsin a_va (nI lo) (nI hi))) hw_5 ?_
  refine lv_if_eq (tgt := 31) hx hb dX5_takeNumber_17 (by decide) (fun c_7 => ?_) (fun c_7 => ?_)
  · refine lv_aload_n hx hb dX5_takeNumber_31 rfl (lv_at hl 0 rfl) ?_
    refine lv_iconst (v := 3) hx hb dX5_takeNumber_32 (by decide) ?_
    refine hs_cv (va_runV (As := [.int 3]) (rest := []) ⟨hx, hb, hml, hown, hts⟩ (g_blame l D k _ ee ee_tape ee_draft ee_to u_3.1 u_3.2 a_bytes a_len a_kd a_st a_be a_va 3 (by decide)) (cwV 1 hts gX5_takeNumber_X5_blame rfl rfl rfl (by decide +kernel) ⟨Nat.le_of_ble_eq_true rfl, Nat.le_of_ble_eq_true rfl⟩) (hs_preV hK hN (hs_subP (w := [(ee, .inr (4, [.ref ee_tape, .ref ee_draft, .int ee_to, .int u_3.1, .int u_3.2])), (ee_tape, .inr (3, [.ref a_bytes, .int (nI a_len), .int a_kd, .int (nI a_st), .int (nI a_be), .int a_va]))]) hP [0, 1] rfl) (hD.sub (ws' := [(ee, .inr (4, [.ref ee_tape, .ref ee_draft, .int ee_to, .int u_3.1, .int u_3.2])), (ee_tape, .inr (3, [.ref a_bytes, .int (nI a_len), .int a_kd, .int (nI a_st), .int (nI a_be), .int a_va]))]) [0, 1] (by decide) rfl) (ci := 4) (q0 := 0) rfl rfl) rfl rfl hl.1 rfl (lv_room (Nat.le_of_ble_eq_true rfl)) dX5_takeNumber_33 ⟨Nat.le_of_ble_eq_true rfl, Nat.le_of_ble_eq_true rfl⟩) hP hD hS hA [0, 1] [2] [(a_bytes, .inl (k 0, 160, .inl (a_f)))] rfl rfl (by decide) (by decide) [1, 2, 0] (fun u_10 => [(ee, .inr (4, [.ref ee_tape, .ref ee_draft, .int ee_to, .int u_10.1, .int u_10.2])), (ee_tape, .inr (3, [.ref a_bytes, .int (nI a_len), .int a_kd, .int (nI a_st), .int (nI a_be), .int a_va])), (a_bytes, .inl (k 0, 160, .inl (a_f)))]) (fun _ => rfl) (by decide) (fun u_10 H locs hw_9 hP hD hS => ?_)
    have hP : va_P D vwCl [(ee, .inr (4, [.ref ee_tape, .ref ee_draft, .int ee_to, .int u_10.1, .int u_10.2])), (ee_tape, .inr (3, [.ref a_bytes, .int (nI a_len), .int a_kd, .int (nI a_st), .int (nI a_be), .int a_va])), (a_bytes, .inl (k 0, 160, .inl (a_f)))] H := hP
    have hD : va_D A [(ee, .inr (4, [.ref ee_tape, .ref ee_draft, .int ee_to, .int u_10.1, .int u_10.2])), (ee_tape, .inr (3, [.ref a_bytes, .int (nI a_len), .int a_kd, .int (nI a_st), .int (nI a_be), .int a_va])), (a_bytes, .inl (k 0, 160, .inl (a_f)))] := hD
    have hw_9 : ¬ u_10.1 = 0 := hw_9
    refine lv_aload_n hx hb dX5_takeNumber_36 rfl (lv_at hl 0 rfl) ?_
    refine va_get (D := D) (ci := 4) (v := .int u_10.1) (C := RX5) (T := TX5) (N := 5) hx hb hts hiX5 hown hK hP 0 rfl rfl 3 (by decide) fl32 (fun _ h9 => h9) rfl dX5_takeNumber_37 ?_
    refine lv_if_eq (tgt := 45) hx hb dX5_takeNumber_40 (by decide) (fun c_11 => absurd c_11 hw_9) (fun c_11 => ?_)
    refine lv_iload_n hx hb dX5_takeNumber_43 rfl (lv_at hl 1 rfl) ?_
    exact hs_iret hx hb hr hlocks hK hP hD hS (lo, (u_10.1, u_10.2), (a_kd, a_st, a_be, a_va)) [0, 1, 2] rfl (by decide) dX5_takeNumber_44 (⟨rfl, by (try dsimp only); omega, by (try dsimp only); omega, by (try dsimp only); omega, by (try dsimp only); omega, fun h => absurd h hw_9⟩)
  · obtain ⟨j_12, hj_12, hj_12b, rfl⟩ := hs_rng (by omega) (by omega) (hs_nb c_7)
    refine lv_aload_n hx hb dX5_takeNumber_20 rfl (lv_at hl 0 rfl) ?_
    refine va_get (D := D) (ci := 4) (v := .ref ee_tape) (C := RX5) (T := TX5) (N := 5) hx hb hts hiX5 hown hK hP 0 rfl rfl 0 (by decide) fl12 (fun _ h9 => h9) rfl dX5_takeNumber_21 ?_
    refine va_get (D := D) (ci := 3) (v := .int (nI j_12)) (C := RX4) (T := TX4) (N := 6) hx hb hts hiX4 hown hK hP 1 rfl rfl 5 (by decide) fl130 (fun _ h9 => h9) rfl dX5_takeNumber_24 ?_
    refine lv_iload_n hx hb dX5_takeNumber_27 rfl (lv_at hl 3 rfl) ?_
    refine lv_icmp_ne (tgt := 36) hx hb dX5_takeNumber_28 (by decide) (fun c_13 => ?_) (fun c_13 => ?_)
    · refine lv_aload_n hx hb dX5_takeNumber_36 rfl (lv_at hl 0 rfl) ?_
      refine va_get (D := D) (ci := 4) (v := .int u_3.1) (C := RX5) (T := TX5) (N := 5) hx hb hts hiX5 hown hK hP 0 rfl rfl 3 (by decide) fl32 (fun _ h9 => h9) rfl dX5_takeNumber_37 ?_
      refine lv_if_eq (tgt := 45) hx hb dX5_takeNumber_40 (by decide) (fun c_14 => ?_) (fun c_14 => ?_)
      · refine lv_aload_n hx hb dX5_takeNumber_45 rfl (lv_at hl 0 rfl) ?_
        refine va_get (D := D) (ci := 4) (v := .ref ee_tape) (C := RX5) (T := TX5) (N := 5) hx hb hts hiX5 hown hK hP 0 rfl rfl 0 (by decide) fl12 (fun _ h9 => h9) rfl dX5_takeNumber_46 ?_
        refine va_get (D := D) (ci := 3) (v := .int (nI j_12)) (C := RX4) (T := TX4) (N := 6) hx hb hts hiX4 hown hK hP 1 rfl rfl 5 (by decide) fl130 (fun _ h9 => h9) rfl dX5_takeNumber_49 ?_
        refine lv_istore (lv' := [(4, .int (nI j_12)), (0, .ref ee), (1, .int (nI lo)), (2, .int (nI hi)), (3, .int un)]) hx hb dX5_takeNumber_52 hl (by decide) rfl (fun ls hl => ?_)
        refine lv_aload_n hx hb dX5_takeNumber_54 rfl (lv_at hl 1 rfl) ?_
        refine va_get (D := D) (ci := 4) (v := .ref ee_tape) (C := RX5) (T := TX5) (N := 5) hx hb hts hiX5 hown hK hP 0 rfl rfl 0 (by decide) fl12 (fun _ h9 => h9) rfl dX5_takeNumber_55 ?_
        refine hs_cv (va_runV (As := []) (rest := []) ⟨hx, hb, hml, hown, hts⟩ (g_advance l D k _ ee_tape a_bytes a_len a_kd a_st a_be (nI j_12) a_f (by omega) (by omega)) (cwV 0 hts gX5_takeNumber_X4_advance rfl rfl rfl (by decide +kernel) ⟨Nat.le_of_ble_eq_true rfl, Nat.le_of_ble_eq_true rfl⟩) (hs_preV hK hN (hs_subP (w := [(ee_tape, .inr (3, [.ref a_bytes, .int (nI a_len), .int a_kd, .int (nI a_st), .int (nI a_be), .int (nI j_12)])), (a_bytes, .inl (k 0, 160, .inl (a_f)))]) hP [1, 2] rfl) (hD.sub (ws' := [(ee_tape, .inr (3, [.ref a_bytes, .int (nI a_len), .int a_kd, .int (nI a_st), .int (nI a_be), .int (nI j_12)])), (a_bytes, .inl (k 0, 160, .inl (a_f)))]) [1, 2] (by decide) rfl) (ci := 3) (q0 := 0) rfl rfl) rfl rfl hl.1 rfl (lv_room (Nat.le_of_ble_eq_true rfl)) dX5_takeNumber_58 ⟨Nat.le_of_ble_eq_true rfl, Nat.le_of_ble_eq_true rfl⟩) hP hD hS hA [1, 2] [0] [(ee, .inr (4, [.ref ee_tape, .ref ee_draft, .int ee_to, .int u_3.1, .int u_3.2]))] rfl rfl (by decide) (by decide) [0, 1, 2] (fun u_17 => [(ee, .inr (4, [.ref ee_tape, .ref ee_draft, .int ee_to, .int u_3.1, .int u_3.2])), (ee_tape, .inr (3, [.ref a_bytes, .int (nI a_len), .int u_17.1, .int (nI (u_17.2.1)), .int (nI (u_17.2.2.1)), .int u_17.2.2.2])), (a_bytes, .inl (k 0, 160, .inl (a_f)))]) (fun _ => rfl) (by decide) (fun u_17 H locs hw_16 hP hD hS => ?_)
        have hP : va_P D vwCl [(ee, .inr (4, [.ref ee_tape, .ref ee_draft, .int ee_to, .int u_3.1, .int u_3.2])), (ee_tape, .inr (3, [.ref a_bytes, .int (nI a_len), .int u_17.1, .int (nI (u_17.2.1)), .int (nI (u_17.2.2.1)), .int u_17.2.2.2])), (a_bytes, .inl (k 0, 160, .inl (a_f)))] H := hP
        have hD : va_D A [(ee, .inr (4, [.ref ee_tape, .ref ee_draft, .int ee_to, .int u_3.1, .int u_3.2])), (ee_tape, .inr (3, [.ref a_bytes, .int (nI a_len), .int u_17.1, .int (nI (u_17.2.1)), .int (nI (u_17.2.2.1)), .int u_17.2.2.2])), (a_bytes, .inl (k 0, 160, .inl (a_f)))] := hD
        have hw_16 : u_17.2.1 ≤ u_17.2.2.1 ∧ u_17.2.2.1 ≤ a_len := hw_16
        refine lv_iload hx hb dX5_takeNumber_61 (lv_at hl 0 rfl) ?_
        exact hs_iret hx hb hr hlocks hK hP hD hS (j_12, (u_3.1, u_3.2), (u_17.1, u_17.2.1, u_17.2.2.1, u_17.2.2.2)) [0, 1, 2] rfl (by decide) dX5_takeNumber_63 (⟨rfl, by (try dsimp only); omega, by (try dsimp only); omega, by (try dsimp only); omega, by (try dsimp only); omega, fun h => (hw_2 h)⟩)
      · refine lv_iload_n hx hb dX5_takeNumber_43 rfl (lv_at hl 1 rfl) ?_
        exact hs_iret hx hb hr hlocks hK hP hD hS (lo, (u_3.1, u_3.2), (a_kd, a_st, a_be, nI j_12)) [0, 1, 2] rfl (by decide) dX5_takeNumber_44 (⟨rfl, by (try dsimp only); omega, by (try dsimp only); omega, by (try dsimp only); omega, by (try dsimp only); omega, fun h => (hw_2 h)⟩)
    · refine lv_aload_n hx hb dX5_takeNumber_31 rfl (lv_at hl 0 rfl) ?_
      refine lv_iconst (v := 3) hx hb dX5_takeNumber_32 (by decide) ?_
      refine hs_cv (va_runV (As := [.int 3]) (rest := []) ⟨hx, hb, hml, hown, hts⟩ (g_blame l D k _ ee ee_tape ee_draft ee_to u_3.1 u_3.2 a_bytes a_len a_kd a_st a_be (nI j_12) 3 (by decide)) (cwV 1 hts gX5_takeNumber_X5_blame rfl rfl rfl (by decide +kernel) ⟨Nat.le_of_ble_eq_true rfl, Nat.le_of_ble_eq_true rfl⟩) (hs_preV hK hN (hs_subP (w := [(ee, .inr (4, [.ref ee_tape, .ref ee_draft, .int ee_to, .int u_3.1, .int u_3.2])), (ee_tape, .inr (3, [.ref a_bytes, .int (nI a_len), .int a_kd, .int (nI a_st), .int (nI a_be), .int (nI j_12)]))]) hP [0, 1] rfl) (hD.sub (ws' := [(ee, .inr (4, [.ref ee_tape, .ref ee_draft, .int ee_to, .int u_3.1, .int u_3.2])), (ee_tape, .inr (3, [.ref a_bytes, .int (nI a_len), .int a_kd, .int (nI a_st), .int (nI a_be), .int (nI j_12)]))]) [0, 1] (by decide) rfl) (ci := 4) (q0 := 0) rfl rfl) rfl rfl hl.1 rfl (lv_room (Nat.le_of_ble_eq_true rfl)) dX5_takeNumber_33 ⟨Nat.le_of_ble_eq_true rfl, Nat.le_of_ble_eq_true rfl⟩) hP hD hS hA [0, 1] [2] [(a_bytes, .inl (k 0, 160, .inl (a_f)))] rfl rfl (by decide) (by decide) [1, 2, 0] (fun u_20 => [(ee, .inr (4, [.ref ee_tape, .ref ee_draft, .int ee_to, .int u_20.1, .int u_20.2])), (ee_tape, .inr (3, [.ref a_bytes, .int (nI a_len), .int a_kd, .int (nI a_st), .int (nI a_be), .int (nI j_12)])), (a_bytes, .inl (k 0, 160, .inl (a_f)))]) (fun _ => rfl) (by decide) (fun u_20 H locs hw_19 hP hD hS => ?_)
      have hP : va_P D vwCl [(ee, .inr (4, [.ref ee_tape, .ref ee_draft, .int ee_to, .int u_20.1, .int u_20.2])), (ee_tape, .inr (3, [.ref a_bytes, .int (nI a_len), .int a_kd, .int (nI a_st), .int (nI a_be), .int (nI j_12)])), (a_bytes, .inl (k 0, 160, .inl (a_f)))] H := hP
      have hD : va_D A [(ee, .inr (4, [.ref ee_tape, .ref ee_draft, .int ee_to, .int u_20.1, .int u_20.2])), (ee_tape, .inr (3, [.ref a_bytes, .int (nI a_len), .int a_kd, .int (nI a_st), .int (nI a_be), .int (nI j_12)])), (a_bytes, .inl (k 0, 160, .inl (a_f)))] := hD
      have hw_19 : ¬ u_20.1 = 0 := hw_19
      refine lv_aload_n hx hb dX5_takeNumber_36 rfl (lv_at hl 0 rfl) ?_
      refine va_get (D := D) (ci := 4) (v := .int u_20.1) (C := RX5) (T := TX5) (N := 5) hx hb hts hiX5 hown hK hP 0 rfl rfl 3 (by decide) fl32 (fun _ h9 => h9) rfl dX5_takeNumber_37 ?_
      refine lv_if_eq (tgt := 45) hx hb dX5_takeNumber_40 (by decide) (fun c_21 => absurd c_21 hw_19) (fun c_21 => ?_)
      refine lv_iload_n hx hb dX5_takeNumber_43 rfl (lv_at hl 1 rfl) ?_
      exact hs_iret hx hb hr hlocks hK hP hD hS (lo, (u_20.1, u_20.2), (a_kd, a_st, a_be, nI j_12)) [0, 1, 2] rfl (by decide) dX5_takeNumber_44 (⟨rfl, by (try dsimp only); omega, by (try dsimp only); omega, by (try dsimp only); omega, by (try dsimp only); omega, fun h => absurd h hw_19⟩)

set_option maxHeartbeats 4000000 in
set_option maxRecDepth 100000 in
theorem g_takeMark (l : Launch) (D : va_G) (k : Nat → ClassId) (sz : Nat) (ee : Nat) (ee_tape : Nat) (ee_draft : Nat) (ee_to : Int32) (ee_fm : Int32) (ee_pl : Int32) (a_bytes : Nat) (a_len : Nat) (a_kd : Int32) (a_st : Nat) (a_be : Nat) (a_va : Int32) (a_f : Nat → Int32) (hl160 : a_len ≤ 160) (hsb0 : a_st ≤ a_be) (hbl0 : a_be ≤ a_len) : MV l yX5_takeMark wsX5_takeMark ({ frames := 2, cells := 0, slots := 0, locals := 42 }) D k [.ref ee] [(ee, .inr (4, [.ref ee_tape, .ref ee_draft, .int ee_to, .int ee_fm, .int ee_pl])), (ee_tape, .inr (3, [.ref a_bytes, .int (nI a_len), .int a_kd, .int (nI a_st), .int (nI a_be), .int a_va])), (a_bytes, .inl (k 0, 160, .inl (a_f)))] sz (fun (u : (Int32 × Int32) × (Int32 × Nat × Nat × Int32)) => u.2.2.1 ≤ u.2.2.2.1 ∧ u.2.2.2.1 ≤ a_len ∧ (u.1.1 = 0 → ee_fm = 0)) (fun (u : (Int32 × Int32) × (Int32 × Nat × Nat × Int32)) => [(ee, .inr (4, [.ref ee_tape, .ref ee_draft, .int ee_to, .int u.1.1, .int u.1.2])), (ee_tape, .inr (3, [.ref a_bytes, .int (nI a_len), .int u.2.1, .int (nI (u.2.2.1)), .int (nI (u.2.2.2.1)), .int u.2.2.2.2])), (a_bytes, .inl (k 0, 160, .inl (a_f)))]) := by
  refine Met.ofW (cc := cX5_takeMark) (maxL := 1) (ret := none) (by decide) rfl ?_
  intro p e s m args below meth c s₁ B hml hv
  obtain ⟨rfl, hsz, hP, hK, hD0, hN⟩ := hv
  have hx := B.exec
  have hb := B.bytes
  have hr := B.returns
  have hlocks := B.notSynchronized
  have hts := atoms_spec (ws := wsX5_takeMark) B.pre
  have hown : s.vm.findClass RX5 = some m.cls := findClass_of_methodNamed B.named
  have hiX5 : ∀ w ∈ u_ws RX5 TX5 5, w ∈ wsX5_takeMark := by decide +kernel
  have fl32 := hts (.fieldLink RX5 32 "HalfScales$Teller" "faultMet" "I") (by decide +kernel)
  have fl12 := hts (.fieldLink RX5 12 "HalfScales$Teller" "tape" "LHalfScales$Tape;") (by decide +kernel)
  subst hsz
  have hD := hD0.self (sz := s.heap.size)
  generalize hAe : va_A [(ee, .inr (4, [.ref ee_tape, .ref ee_draft, .int ee_to, .int ee_fm, .int ee_pl])), (ee_tape, .inr (3, [.ref a_bytes, .int (nI a_len), .int a_kd, .int (nI a_st), .int (nI a_be), .int a_va])), (a_bytes, .inl (k 0, 160, .inl (a_f)))] s.heap.size = A at hD ⊢
  have hA : ∀ q : Nat, s.heap.size ≤ q → A q := fun q h => by rw [← hAe]; exact Or.inr h
  have hS : va_S A s.heap s.heap [] := va_S.rf
  have hl := lv_entry ([.ref ee]) (n := 1) (Nat.le_of_ble_eq_true rfl)
  rw [lg_entry_eq]
  generalize (lg_sl ([.ref ee]) ++ List.replicate (1 - (lg_sl ([.ref ee])).length) Slot.unset).toArray = ls at hl ⊢
  have hl : lv_has ls 1 [(0, .ref ee)] := hl
  have hP : va_P D vwCl [(ee, .inr (4, [.ref ee_tape, .ref ee_draft, .int ee_to, .int ee_fm, .int ee_pl])), (ee_tape, .inr (3, [.ref a_bytes, .int (nI a_len), .int a_kd, .int (nI a_st), .int (nI a_be), .int a_va])), (a_bytes, .inl (k 0, 160, .inl (a_f)))] s.heap := hP
  refine lv_aload_n hx hb dX5_takeMark_0 rfl (lv_at hl 0 rfl) ?_
  refine lv_iconst (v := 3) hx hb dX5_takeMark_1 (by decide) ?_
  refine hs_cv (va_runV (As := [.int 3]) (rest := []) ⟨hx, hb, hml, hown, hts⟩ (g_blameFor l D k _ ee ee_tape ee_draft ee_to ee_fm ee_pl a_bytes a_len a_kd a_st a_be a_va 3) (cwV 1 hts gX5_takeMark_X5_blameFor rfl rfl rfl (by decide +kernel) ⟨Nat.le_of_ble_eq_true rfl, Nat.le_of_ble_eq_true rfl⟩) (hs_preV hK hN (hs_subP (w := [(ee, .inr (4, [.ref ee_tape, .ref ee_draft, .int ee_to, .int ee_fm, .int ee_pl])), (ee_tape, .inr (3, [.ref a_bytes, .int (nI a_len), .int a_kd, .int (nI a_st), .int (nI a_be), .int a_va]))]) hP [0, 1] rfl) (hD.sub (ws' := [(ee, .inr (4, [.ref ee_tape, .ref ee_draft, .int ee_to, .int ee_fm, .int ee_pl])), (ee_tape, .inr (3, [.ref a_bytes, .int (nI a_len), .int a_kd, .int (nI a_st), .int (nI a_be), .int a_va]))]) [0, 1] (by decide) rfl) (ci := 4) (q0 := 0) rfl rfl) rfl rfl hl.1 rfl (lv_room (Nat.le_of_ble_eq_true rfl)) dX5_takeMark_2 ⟨Nat.le_of_ble_eq_true rfl, Nat.le_of_ble_eq_true rfl⟩) hP hD hS hA [0, 1] [2] [(a_bytes, .inl (k 0, 160, .inl (a_f)))] rfl rfl (by decide) (by decide) [1, 2, 0] (fun u_3 => [(ee, .inr (4, [.ref ee_tape, .ref ee_draft, .int ee_to, .int u_3.1, .int u_3.2])), (ee_tape, .inr (3, [.ref a_bytes, .int (nI a_len), .int a_kd, .int (nI a_st), .int (nI a_be), .int a_va])), (a_bytes, .inl (k 0, 160, .inl (a_f)))]) (fun _ => rfl) (by decide) (fun u_3 H locs hw_2 hP hD hS => ?_)
  have hP : va_P D vwCl [(ee, .inr (4, [.ref ee_tape, .ref ee_draft, .int ee_to, .int u_3.1, .int u_3.2])), (ee_tape, .inr (3, [.ref a_bytes, .int (nI a_len), .int a_kd, .int (nI a_st), .int (nI a_be), .int a_va])), (a_bytes, .inl (k 0, 160, .inl (a_f)))] H := hP
  have hD : va_D A [(ee, .inr (4, [.ref ee_tape, .ref ee_draft, .int ee_to, .int u_3.1, .int u_3.2])), (ee_tape, .inr (3, [.ref a_bytes, .int (nI a_len), .int a_kd, .int (nI a_st), .int (nI a_be), .int a_va])), (a_bytes, .inl (k 0, 160, .inl (a_f)))] := hD
  have hw_2 : u_3.1 = 0 → ee_fm = 0 := hw_2
  refine lv_aload_n hx hb dX5_takeMark_5 rfl (lv_at hl 0 rfl) ?_
  refine va_get (D := D) (ci := 4) (v := .int u_3.1) (C := RX5) (T := TX5) (N := 5) hx hb hts hiX5 hown hK hP 0 rfl rfl 3 (by decide) fl32 (fun _ h9 => h9) rfl dX5_takeMark_6 ?_
  refine lv_if_ne (tgt := 19) hx hb dX5_takeMark_9 (by decide) (fun c_4 => ?_) (fun c_4 => ?_)
  · exact hs_vret hx hb hr hlocks hK hP hD hS ((u_3.1, u_3.2), (a_kd, a_st, a_be, a_va)) [0, 1, 2] rfl (by decide) dX5_takeMark_19 (⟨by (try dsimp only); omega, by (try dsimp only); omega, fun h => (hw_2 h)⟩)
  · refine lv_aload_n hx hb dX5_takeMark_12 rfl (lv_at hl 0 rfl) ?_
    refine va_get (D := D) (ci := 4) (v := .ref ee_tape) (C := RX5) (T := TX5) (N := 5) hx hb hts hiX5 hown hK hP 0 rfl rfl 0 (by decide) fl12 (fun _ h9 => h9) rfl dX5_takeMark_13 ?_
    refine hs_cv (va_runV (As := []) (rest := []) ⟨hx, hb, hml, hown, hts⟩ (g_advance l D k _ ee_tape a_bytes a_len a_kd a_st a_be a_va a_f (by omega) (by omega)) (cwV 0 hts gX5_takeMark_X4_advance rfl rfl rfl (by decide +kernel) ⟨Nat.le_of_ble_eq_true rfl, Nat.le_of_ble_eq_true rfl⟩) (hs_preV hK hN (hs_subP (w := [(ee_tape, .inr (3, [.ref a_bytes, .int (nI a_len), .int a_kd, .int (nI a_st), .int (nI a_be), .int a_va])), (a_bytes, .inl (k 0, 160, .inl (a_f)))]) hP [1, 2] rfl) (hD.sub (ws' := [(ee_tape, .inr (3, [.ref a_bytes, .int (nI a_len), .int a_kd, .int (nI a_st), .int (nI a_be), .int a_va])), (a_bytes, .inl (k 0, 160, .inl (a_f)))]) [1, 2] (by decide) rfl) (ci := 3) (q0 := 0) rfl rfl) rfl rfl hl.1 rfl (lv_room (Nat.le_of_ble_eq_true rfl)) dX5_takeMark_16 ⟨Nat.le_of_ble_eq_true rfl, Nat.le_of_ble_eq_true rfl⟩) hP hD hS hA [1, 2] [0] [(ee, .inr (4, [.ref ee_tape, .ref ee_draft, .int ee_to, .int u_3.1, .int u_3.2]))] rfl rfl (by decide) (by decide) [0, 1, 2] (fun u_7 => [(ee, .inr (4, [.ref ee_tape, .ref ee_draft, .int ee_to, .int u_3.1, .int u_3.2])), (ee_tape, .inr (3, [.ref a_bytes, .int (nI a_len), .int u_7.1, .int (nI (u_7.2.1)), .int (nI (u_7.2.2.1)), .int u_7.2.2.2])), (a_bytes, .inl (k 0, 160, .inl (a_f)))]) (fun _ => rfl) (by decide) (fun u_7 H locs hw_6 hP hD hS => ?_)
    have hP : va_P D vwCl [(ee, .inr (4, [.ref ee_tape, .ref ee_draft, .int ee_to, .int u_3.1, .int u_3.2])), (ee_tape, .inr (3, [.ref a_bytes, .int (nI a_len), .int u_7.1, .int (nI (u_7.2.1)), .int (nI (u_7.2.2.1)), .int u_7.2.2.2])), (a_bytes, .inl (k 0, 160, .inl (a_f)))] H := hP
    have hD : va_D A [(ee, .inr (4, [.ref ee_tape, .ref ee_draft, .int ee_to, .int u_3.1, .int u_3.2])), (ee_tape, .inr (3, [.ref a_bytes, .int (nI a_len), .int u_7.1, .int (nI (u_7.2.1)), .int (nI (u_7.2.2.1)), .int u_7.2.2.2])), (a_bytes, .inl (k 0, 160, .inl (a_f)))] := hD
    have hw_6 : u_7.2.1 ≤ u_7.2.2.1 ∧ u_7.2.2.1 ≤ a_len := hw_6
    exact hs_vret hx hb hr hlocks hK hP hD hS ((u_3.1, u_3.2), (u_7.1, u_7.2.1, u_7.2.2.1, u_7.2.2.2)) [0, 1, 2] rfl (by decide) dX5_takeMark_19 (⟨by (try dsimp only); omega, by (try dsimp only); omega, fun h => (hw_2 h)⟩)
