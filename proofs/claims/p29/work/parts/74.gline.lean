def A_word (f : Nat → Int32) (st be w : Nat) : Bool := decide (be - st = hsln w ∧ ∀ i, i < hsln w → f (st + i) = hsch w i)

set_option maxHeartbeats 4000000 in
set_option maxRecDepth 100000 in
theorem g_isWord (l : Launch) (D : va_G) (k : Nat → ClassId) (sz : Nat) (a : Nat) (a_bytes : Nat) (a_len : Nat) (a_kd : Int32) (a_st : Nat) (a_be : Nat) (a_va : Int32) (a_f : Nat → Int32) (K : (Nat → Nat) × (Nat → Nat)) (w : Nat) (hb160 : a_be ≤ 160) (hsb0 : a_st ≤ a_be) (hw9 : w < 9) : MIS l yX4_isWord wsX4_isWord ({ frames := 4, cells := 0, slots := 0, locals := 85 }) D k K [.ref a, .ref (K.1 w)] [oq3 a a_bytes (nI a_len) a_kd (nI a_st) (nI a_be) a_va, oqI k a_bytes 160 (a_f)] sz (fun (r : Int32) (u : Unit) => r = hsb (A_word a_f a_st a_be w)) (fun (u : Unit) => [oq3 a a_bytes (nI a_len) a_kd (nI a_st) (nI a_be) a_va, oqI k a_bytes 160 (a_f)]) := by
  refine Met.ofW (cc := cX4_isWord) (maxL := 3) (ret := (some .boolean)) hpn_X4 rfl ?_
  intro p e s m args below meth c s₁ B hml hv
  obtain ⟨rfl, ⟨hsz, hP, hK, hD0, hN⟩, hZ⟩ := hv
  have hx := B.exec
  have hb := B.bytes
  have hr := B.returns
  have hlocks := B.notSynchronized
  have hts := atoms_spec (ws := wsX4_isWord) B.pre
  have hown := findClass_of_methodNamed B.named
  have hown : s.vm.findClass RX4 = some m.cls := hown
  have hiX4 : ∀ w ∈ u_ws RX4 TX4 6, w ∈ wsX4_isWord := fun w9 hw9 => List.mem_cons_of_mem _ (igX4 w9 hw9)
  have fl15 := hts (.fieldLink RX4 15 "HalfScales$Tape" "behind" "I") (List.mem_cons_of_mem _ (hs_inG 1 131 rfl rfl))
  have fl22 := hts (.fieldLink RX4 22 "HalfScales$Tape" "start" "I") (List.mem_cons_of_mem _ (hs_inG 1 129 rfl rfl))
  have fl9 := hts (.fieldLink RX4 9 "HalfScales$Tape" "bytes" "[I") (List.mem_cons_of_mem _ (hs_inG 1 123 rfl rfl))
  have hl7 := hsln_le hw9
  subst hsz
  have hD := hD0.self (sz := s.heap.size)
  generalize hAe : va_A [oq3 a a_bytes (nI a_len) a_kd (nI a_st) (nI a_be) a_va, oqI k a_bytes 160 (a_f)] s.heap.size = A at hD hZ ⊢
  have hA : ∀ q : Nat, s.heap.size ≤ q → A q := fun q h => by rw [← hAe]; exact Or.inr h
  have hS : va_S A s.heap s.heap [] := va_S.rf
  have hl := lv_entry ([.ref a, .ref (K.1 w)]) (n := 3) (Nat.le_of_ble_eq_true rfl)
  rw [lg_entry_eq]
  generalize (lg_sl ([.ref a, .ref (K.1 w)]) ++ List.replicate (3 - (lg_sl ([.ref a, .ref (K.1 w)])).length) Slot.unset).toArray = ls at hl ⊢
  have hl : lv_has ls 3 [(0, .ref a), (1, .ref (K.1 w))] := hl
  have hP : va_P D vwCl [oq3 a a_bytes (nI a_len) a_kd (nI a_st) (nI a_be) a_va, oqI k a_bytes 160 (a_f)] s.heap := hP
  refine lv_aload_n hx hb dX4_isWord_0 rfl (lv_at hl 1 rfl) ?_
  refine hs_pi (va_runV (As := []) (rest := []) ⟨hx, hb, hml, hown, hts⟩ (gj_length l D k _ K w (by omega)) (cwV 0 hts gX4_isWord_J0_length_8abf5 rfl rfl rfl ⟨rfl, hq_J0_length_8abf5⟩ ⟨Nat.le_of_ble_eq_true rfl, Nat.le_of_ble_eq_true rfl⟩) (hs_preVS hK hN (hs_subP (w := []) hP [] rfl) (hD.sub (ws' := []) [] rfl rfl) hZ hS (va_free (wc := []) hD hS hA [] rfl) (i := w) (by omega)) rfl rfl hl.1 rfl (lv_room (Nat.le_of_ble_eq_true rfl)) dX4_isWord_1 ⟨Nat.le_of_ble_eq_true rfl, Nat.le_of_ble_eq_true rfl⟩) hP hD hS hA (fun r_1 u_3 H locs hw_2 hP hS => ?_)
  refine hs_topi (nI (hsln w)) hw_2 ?_
  refine lv_aload_n hx hb dX4_isWord_4 rfl (lv_at hl 0 rfl) ?_
  refine va_get (D := D) (ci := 3) (v := .int (nI a_be)) (C := RX4) (T := TX4) (N := 6) hx hb hts hiX4 hown hK hP 0 rfl rfl 4 (Nat.le_of_ble_eq_true rfl) fl15 (fun _ h9 => h9) rfl dX4_isWord_5 ?_
  refine lv_aload_n hx hb dX4_isWord_8 rfl (lv_at hl 0 rfl) ?_
  refine va_get (D := D) (ci := 3) (v := .int (nI a_st)) (C := RX4) (T := TX4) (N := 6) hx hb hts hiX4 hown hK hP 0 rfl rfl 3 (Nat.le_of_ble_eq_true rfl) fl22 (fun _ h9 => h9) rfl dX4_isWord_9 ?_
  refine lv_isub hx hb dX4_isWord_12 ?_
  refine hs_topi (nI (a_be - a_st)) (pk_sub (a := a_be) (b := a_st) (by omega)) ?_
  refine lv_icmp_eq (tgt := 18) hx hb dX4_isWord_13 rfl (fun c_4 => ?_) (fun c_4 => ?_)
  · have nc_4 : (hsln w) = (a_be - a_st) := (nI_eq (a := (hsln w)) (b := (a_be - a_st)) (by omega) (by omega)).mp c_4
    refine lv_iconst (v := 0) hx hb dX4_isWord_18 hki_0 ?_
    refine lv_istore_n (lv' := [(2, .int 0), (0, .ref a), (1, .ref (K.1 w))]) hx hb dX4_isWord_19 rfl hl (Nat.le_of_ble_eq_true rfl) rfl (fun ls hl => ?_)
    refine hs_while (σ := Nat) (fun x => x ≤ hsln w ∧ ∀ q, q < x → a_f (a_st + q) = hsch w q) (fun x => hsln w - x) (fun x => [oq3 a a_bytes (nI a_len) a_kd (nI a_st) (nI a_be) a_va, oqI k a_bytes 160 (a_f)]) (fun x => [(2, .int (nI (x))), (0, .ref a), (1, .ref (K.1 w))]) ?_ (0) ?_ hP hD hS hl
    · intro x hI ih20 H locs ls hP hD hS hl
      obtain ⟨i, rfl⟩ : ∃ z, z = x := ⟨_, rfl⟩
      try dsimp only at hI
      have hP : va_P D vwCl [oq3 a a_bytes (nI a_len) a_kd (nI a_st) (nI a_be) a_va, oqI k a_bytes 160 (a_f)] H := hP
      have hD : va_D A [oq3 a a_bytes (nI a_len) a_kd (nI a_st) (nI a_be) a_va, oqI k a_bytes 160 (a_f)] := hD
      have hl : lv_has ls 3 [(2, .int (nI i)), (0, .ref a), (1, .ref (K.1 w))] := hl
      refine lv_iload_n hx hb dX4_isWord_20 rfl (lv_at hl 0 rfl) ?_
      refine lv_aload_n hx hb dX4_isWord_21 rfl (lv_at hl 2 rfl) ?_
      refine hs_pi (va_runV (As := []) (rest := [.int (nI i)]) ⟨hx, hb, hml, hown, hts⟩ (gj_length l D k _ K w (by omega)) (cwV 0 hts gX4_isWord_J0_length_8abf5 rfl rfl rfl ⟨rfl, hq_J0_length_8abf5⟩ ⟨Nat.le_of_ble_eq_true rfl, Nat.le_of_ble_eq_true rfl⟩) (hs_preVS hK hN (hs_subP (w := []) hP [] rfl) (hD.sub (ws' := []) [] rfl rfl) hZ hS (va_free (wc := []) hD hS hA [] rfl) (i := w) (by omega)) rfl rfl hl.1 rfl (lv_room (Nat.le_of_ble_eq_true rfl)) dX4_isWord_22 ⟨Nat.le_of_ble_eq_true rfl, Nat.le_of_ble_eq_true rfl⟩) hP hD hS hA (fun r_5 u_7 H locs hw_6 hP hS => ?_)
      refine hs_topi (nI (hsln w)) hw_6 ?_
      refine lv_icmp_ge (tgt := 55) hx hb dX4_isWord_25 rfl (fun c_8 => ?_) (fun c_8 => ?_)
      · have nc_8 : (hsln w) ≤ i := (nI_leI (a := (hsln w)) (b := i) (by omega) (by omega)).mp c_8
        refine lv_iconst (v := 1) hx hb dX4_isWord_55 hki_1 ?_
        exact hs_zret hx hb hr hlocks hK hP hD hS () [0, 1] rfl (hs_upnd rfl) dX4_isWord_56 rfl ((by rw [A_word, decide_eq_true ⟨by omega, fun q hq => hI.2 q (by omega)⟩]; rfl))
      · have nc_8 : ¬ (hsln w) ≤ i := fun hq9 => c_8 ((nI_leI (a := (hsln w)) (b := i) (by omega) (by omega)).mpr hq9)
        refine lv_aload_n hx hb dX4_isWord_28 rfl (lv_at hl 1 rfl) ?_
        refine va_get (D := D) (ci := 3) (v := .ref a_bytes) (C := RX4) (T := TX4) (N := 6) hx hb hts hiX4 hown hK hP 0 rfl rfl 0 (Nat.le_of_ble_eq_true rfl) fl9 (fun _ h9 => h9) rfl dX4_isWord_29 ?_
        refine lv_aload_n hx hb dX4_isWord_32 rfl (lv_at hl 1 rfl) ?_
        refine va_get (D := D) (ci := 3) (v := .int (nI a_st)) (C := RX4) (T := TX4) (N := 6) hx hb hts hiX4 hown hK hP 0 rfl rfl 3 (Nat.le_of_ble_eq_true rfl) fl22 (fun _ h9 => h9) rfl dX4_isWord_33 ?_
        refine lv_iload_n hx hb dX4_isWord_36 rfl (lv_at hl 0 rfl) ?_
        refine lv_iadd hx hb dX4_isWord_37 ?_
        refine hs_topi (nI (a_st + i)) (nI_add (a_st) (i)) ?_
        refine va_iald hx hb hK hP 1 0 rfl rfl (vp_in_nI (show (a_st + i) < 160 by omega) (by decide)) dX4_isWord_38 ?_
        refine lv_aload_n hx hb dX4_isWord_39 rfl (lv_at hl 2 rfl) ?_
        refine lv_iload_n hx hb dX4_isWord_40 rfl (lv_at hl 0 rfl) ?_
        refine hs_pi (va_runV (As := [.int (nI i)]) (rest := [.int (a_f (nI (a_st + i)).toNatClampNeg)]) ⟨hx, hb, hml, hown, hts⟩ (gj_charAt l D k _ K w i (by omega) (by omega)) (cwV 1 hts gX4_isWord_J0_charAt_5068e rfl rfl rfl ⟨rfl, hq_J0_charAt_5068e⟩ ⟨Nat.le_of_ble_eq_true rfl, Nat.le_of_ble_eq_true rfl⟩) (hs_preVS hK hN (hs_subP (w := []) hP [] rfl) (hD.sub (ws' := []) [] rfl rfl) hZ hS (va_free (wc := []) hD hS hA [] rfl) (i := w) (by omega)) rfl rfl hl.1 rfl (lv_room (Nat.le_of_ble_eq_true rfl)) dX4_isWord_41 ⟨Nat.le_of_ble_eq_true rfl, Nat.le_of_ble_eq_true rfl⟩) hP hD hS hA (fun r_9 u_11 H locs hw_10 hP hS => ?_)
        refine hs_topi (hsch w i) hw_10 ?_
        refine lv_icmp_eq (tgt := 49) hx hb dX4_isWord_44 rfl (fun c_12 => ?_) (fun c_12 => ?_)
        · refine lv_iinc (v := nI (i + 1)) (lv' := [(2, .int (nI (i + 1))), (0, .ref a), (1, .ref (K.1 w))]) hx hb dX4_isWord_49 hl (k := 0) rfl (nI_add (i) 1) (Nat.le_of_ble_eq_true rfl) rfl (fun ls hl => ?_)
          refine lv_goto (tgt := 20) hx hb dX4_isWord_52 rfl ?_
          exact ih20 (i + 1) (by (try dsimp only); exact ⟨by omega, fun q hq => if e9 : q = i then (by subst e9; have h8 := c_12; rw [nI_clamp (by omega)] at h8; exact h8) else hI.2 q (by omega)⟩) (by (try dsimp only); omega) _ _ _ hP hD hS (lv_sub hl [0, 1, 2] rfl)
        · refine lv_iconst (v := 0) hx hb dX4_isWord_47 hki_0 ?_
          exact hs_zret hx hb hr hlocks hK hP hD hS () [0, 1] rfl (hs_upnd rfl) dX4_isWord_48 rfl ((by rw [A_word, decide_eq_false (fun h9 => c_12 (by rw [nI_clamp (by omega)]; exact h9.2 i (by omega)))]; rfl))
    · (try dsimp only); exact ⟨by omega, fun q hq => absurd hq (by omega)⟩
  · have nc_4 : ¬ (hsln w) = (a_be - a_st) := fun hq9 => c_4 ((nI_eq (a := (hsln w)) (b := (a_be - a_st)) (by omega) (by omega)).mpr hq9)
    refine lv_iconst (v := 0) hx hb dX4_isWord_16 hki_0 ?_
    exact hs_zret hx hb hr hlocks hK hP hD hS () [0, 1] rfl (hs_upnd rfl) dX4_isWord_17 rfl ((by rw [A_word, decide_eq_false (fun h9 => by have := h9.1; omega)]; rfl))
