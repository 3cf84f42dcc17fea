theorem hs_fa0 {la i : Int32} {z : Nat} (h : (if la = -1 then (1 : Int32) else if hslt i z then 0 else 2) = 0) : hslt i z = true ∧ ¬ la = -1 := by
  by_cases h1 : la = -1
  · rw [if_pos h1] at h
    exact absurd h (by decide)
  · rw [if_neg h1] at h
    by_cases h2 : hslt i z = true
    · exact ⟨h2, h1⟩
    · rw [if_neg h2] at h
      exact absurd h (by decide)
/-- what a sheet answers to lay -/
def A_layf (la : Int32) (z : Nat) (i : Int32) : Int32 := if la = -1 then -11 else if hslt i z then 1 else -12
theorem A_layf_no {la i : Int32} {z : Nat} (h : ¬ (if la = -1 then (1 : Int32) else if hslt i z then 0 else 2) = 0) : (-10 : Int32) - (if la = -1 then (1 : Int32) else if hslt i z then 0 else 2) = A_layf la z i := by
  unfold A_layf
  by_cases h1 : la = -1
  · rw [if_pos h1, if_pos h1]; decide
  · rw [if_neg h1, if_neg h1]
    rw [if_neg h1] at h
    by_cases h2 : hslt i z = true
    · rw [if_pos h2] at h
      exact absurd rfl h
    · rw [if_neg h2, if_neg h2]; decide
theorem A_layf_yes {la i : Int32} {z : Nat} (h : hslt i z = true ∧ ¬ la = -1) : (1 : Int32) = A_layf la z i := by
  unfold A_layf
  rw [if_neg h.2, if_pos h.1]

def A_feedG (len : Nat) (c : Int32) : Int32 := if hsin c 0 127 then (if 160 ≤ len then -3 else nI (len + 1)) else -1
def A_feedL (len : Nat) (c : Int32) : Nat := if hsin c 0 127 then (if 160 ≤ len then len else len + 1) else len
def A_endG (len : Nat) (n : Int32) : Int32 := if hsin n 0 (nI len) then nI len else -1
def A_endL (len : Nat) (n : Int32) : Nat := if hsin n 0 (nI len) then n.toNatClampNeg else len

set_option maxHeartbeats 4000000 in
set_option maxRecDepth 100000 in
theorem gp_end (l : Launch) (D : va_G) (k : Nat → ClassId) (sz : Nat) (h : Nat) (h_now : Nat) (h_trial : Nat) (h_images : Nat) (h_imageThere : Nat) (h_teller : Nat) (h_ranks : Nat) (h_court : Nat) (h_sheets : Nat) (h_lf : Int32) (h_lt : Int32) (ee_tape : Nat) (ee_draft : Nat) (ee_to : Int32) (ee_fm : Int32) (ee_pl : Int32) (a_bytes : Nat) (a_len : Nat) (a_kd : Int32) (a_st : Nat) (a_be : Nat) (a_va : Int32) (n : Int32) (hl160 : a_len ≤ 160) : MI l yX7_end wsX7_end ({ frames := 1, cells := 0, slots := 0, locals := 22 }) D k [.ref h, .int n] [oq6 h h_now h_trial h_images h_imageThere h_teller h_ranks h_court h_sheets h_lf h_lt, oq4 h_teller ee_tape ee_draft ee_to ee_fm ee_pl, oq3 ee_tape a_bytes (nI a_len) a_kd (nI a_st) (nI a_be) a_va] sz (fun (r : Int32) (u : Nat) => r = A_endG a_len n ∧ u = A_endL a_len n ∧ u ≤ 160) (fun (u : Nat) => [oq6 h h_now h_trial h_images h_imageThere h_teller h_ranks h_court h_sheets h_lf h_lt, oq4 h_teller ee_tape ee_draft ee_to ee_fm ee_pl, oq3 ee_tape a_bytes (nI u) a_kd (nI a_st) (nI a_be) a_va]) := by
  refine Met.ofW (cc := cX7_end) (maxL := 4) (ret := (some .int)) hpn_X7 rfl ?_
  intro p e s m args below meth c s₁ B hml hv
  obtain ⟨rfl, hsz, hP, hK, hD0, hN⟩ := hv
  have hx := B.exec
  have hb := B.bytes
  have hr := B.returns
  have hlocks := B.notSynchronized
  have hts := atoms_spec (ws := wsX7_end) B.pre
  have hown := findClass_of_methodNamed B.named
  have hown : s.vm.findClass RX7 = some m.cls := hown
  have hiX4 : ∀ w ∈ u_ws RX4 TX4 6, w ∈ wsX7_end := fun w9 hw9 => List.mem_cons_of_mem _ (igX4 w9 hw9)
  have hiX5 : ∀ w ∈ u_ws RX5 TX5 5, w ∈ wsX7_end := fun w9 hw9 => List.mem_cons_of_mem _ (igX5 w9 hw9)
  have hiX7 : ∀ w ∈ u_ws RX7 TX7 10, w ∈ wsX7_end := fun w9 hw9 => List.mem_cons_of_mem _ (igX7 w9 hw9)
  have fl30 := hts (.fieldLink RX7 30 "HalfScales" "teller" "LHalfScales$Teller;") (List.mem_cons_of_mem _ (hs_inG 1 219 rfl rfl))
  have fl55 := hts (.fieldLink RX7 55 "HalfScales$Teller" "tape" "LHalfScales$Tape;") (List.mem_cons_of_mem _ (hs_inG 1 151 rfl rfl))
  have fl63 := hts (.fieldLink RX7 63 "HalfScales$Tape" "length" "I") (List.mem_cons_of_mem _ (hs_inG 1 125 rfl rfl))
  subst hsz
  have hD := hD0.self (sz := s.heap.size)
  generalize hAe : va_A [oq6 h h_now h_trial h_images h_imageThere h_teller h_ranks h_court h_sheets h_lf h_lt, oq4 h_teller ee_tape ee_draft ee_to ee_fm ee_pl, oq3 ee_tape a_bytes (nI a_len) a_kd (nI a_st) (nI a_be) a_va] s.heap.size = A at hD ⊢
  have hA : ∀ q : Nat, s.heap.size ≤ q → A q := fun q h => by rw [← hAe]; exact Or.inr h
  have hS : va_S A s.heap s.heap [] := va_S.rf
  have hl := lv_entry ([.ref h, .int n]) (n := 4) (Nat.le_of_ble_eq_true rfl)
  rw [lg_entry_eq]
  generalize (lg_sl ([.ref h, .int n]) ++ List.replicate (4 - (lg_sl ([.ref h, .int n])).length) Slot.unset).toArray = ls at hl ⊢
  have hl : lv_has ls 4 [(0, .ref h), (1, .int n)] := hl
  have hP : va_P D vwCl [oq6 h h_now h_trial h_images h_imageThere h_teller h_ranks h_court h_sheets h_lf h_lt, oq4 h_teller ee_tape ee_draft ee_to ee_fm ee_pl, oq3 ee_tape a_bytes (nI a_len) a_kd (nI a_st) (nI a_be) a_va] s.heap := hP
  refine lv_aload_n hx hb dX7_end_0 rfl (lv_at hl 0 rfl) ?_
  refine va_get (D := D) (ci := 6) (v := .ref h_teller) (C := RX7) (T := TX7) (N := 10) hx hb hts hiX7 hown hK hP 0 rfl rfl 4 (Nat.le_of_ble_eq_true rfl) fl30 (fun _ h9 => h9) rfl dX7_end_1 ?_
  refine va_get (D := D) (ci := 4) (v := .ref ee_tape) (C := RX5) (T := TX5) (N := 5) hx hb hts hiX5 hown hK hP 1 rfl rfl 0 (Nat.le_of_ble_eq_true rfl) fl55 (fun _ h9 => h9) rfl dX7_end_4 ?_
  refine lv_astore_n (lv' := [(2, .ref ee_tape), (0, .ref h), (1, .int n)]) hx hb dX7_end_7 rfl hl (Nat.le_of_ble_eq_true rfl) rfl (fun ls hl => ?_)
  refine lv_iload_n hx hb dX7_end_8 rfl (lv_at hl 2 rfl) ?_
  refine lv_iconst (v := 0) hx hb dX7_end_9 hki_0 ?_
  refine lv_aload_n hx hb dX7_end_10 rfl (lv_at hl 0 rfl) ?_
  refine va_get (D := D) (ci := 3) (v := .int (nI a_len)) (C := RX4) (T := TX4) (N := 6) hx hb hts hiX4 hown hK hP 2 rfl rfl 1 (Nat.le_of_ble_eq_true rfl) fl63 (fun _ h9 => h9) rfl dX7_end_11 ?_
  refine hs_pi (va_runS (As := [.int n, .int 0, .int (nI a_len)]) (rest := []) ⟨hx, hb, hml, hown, hts⟩ (g_within l D k _ n 0 (nI a_len)) (va_cwS 3 hts gX7_end_X7_within rfl rfl rfl hq_X7_within ⟨Nat.le_of_ble_eq_true rfl, Nat.le_of_ble_eq_true rfl⟩) (hs_preS hK hN (hs_subP (w := []) hP [] rfl) (hD.sub (ws' := []) [] rfl rfl)) rfl rfl hl.1 rfl (lv_room (Nat.le_of_ble_eq_true rfl)) dX7_end_14 ⟨Nat.le_of_ble_eq_true rfl, Nat.le_of_ble_eq_true rfl⟩) hP hD hS hA (fun r_1 u_3 H locs hw_2 hP hS => ?_)
  refine hs_topi (hsb (hsin n 0 (nI a_len))) hw_2 ?_
  refine lv_if_ne (tgt := 22) hx hb dX7_end_17 rfl (fun c_4 => ?_) (fun c_4 => ?_)
  · obtain ⟨j_5, hj_5, hj_5b, rfl⟩ := hs_rng (lo := 0) (hi := a_len) (by omega) (by omega) (hs_nb c_4)
    refine lv_aload_n hx hb dX7_end_22 rfl (lv_at hl 0 rfl) ?_
    refine va_get (D := D) (ci := 3) (v := .int (nI a_len)) (C := RX4) (T := TX4) (N := 6) hx hb hts hiX4 hown hK hP 2 rfl rfl 1 (Nat.le_of_ble_eq_true rfl) fl63 (fun _ h9 => h9) rfl dX7_end_23 ?_
    refine lv_istore_n (lv' := [(3, .int (nI a_len)), (2, .ref ee_tape), (0, .ref h), (1, .int (nI j_5))]) hx hb dX7_end_26 rfl hl (Nat.le_of_ble_eq_true rfl) rfl (fun ls hl => ?_)
    refine lv_aload_n hx hb dX7_end_27 rfl (lv_at hl 1 rfl) ?_
    refine lv_iload_n hx hb dX7_end_28 rfl (lv_at hl 3 rfl) ?_
    refine va_put (D := D) (ci := 3) (v := .int (nI j_5)) (ty := .int) (C := RX4) (T := TX4) (N := 6) hx hb hts hiX4 tyX4 tyX4_ok nmX4 hown hK hP hD hS 2 rfl rfl 1 (Nat.le_of_ble_eq_true rfl) fl63 (fun _ h9 => h9) rfl (by decide +kernel) rfl rfl (Nat.le_of_ble_eq_true rfl) dX7_end_29 (fun H locs hP hD hS => ?_)
    have hP : va_P D vwCl [oq6 h h_now h_trial h_images h_imageThere h_teller h_ranks h_court h_sheets h_lf h_lt, oq4 h_teller ee_tape ee_draft ee_to ee_fm ee_pl, oq3 ee_tape a_bytes (nI j_5) a_kd (nI a_st) (nI a_be) a_va] H := hP
    have hD : va_D A [oq6 h h_now h_trial h_images h_imageThere h_teller h_ranks h_court h_sheets h_lf h_lt, oq4 h_teller ee_tape ee_draft ee_to ee_fm ee_pl, oq3 ee_tape a_bytes (nI j_5) a_kd (nI a_st) (nI a_be) a_va] := hD
    refine lv_iload_n hx hb dX7_end_32 rfl (lv_at hl 0 rfl) ?_
    exact hs_iret hx hb hr hlocks hK hP hD hS (j_5) [0, 1, 2] rfl (hs_upnd rfl) dX7_end_33 (⟨by rw [A_endG, if_pos (hs_nb c_4)], by rw [A_endL, if_pos (hs_nb c_4), nI_clamp (by omega)], by (try dsimp only); omega⟩)
  · refine lv_iconst (v := (-1)) hx hb dX7_end_20 hki_m1 ?_
    exact hs_iret hx hb hr hlocks hK hP hD hS (a_len) [0, 1, 2] rfl (hs_upnd rfl) dX7_end_21 (⟨by rw [A_endG, hs_n0 c_4]; rfl, by rw [A_endL, hs_n0 c_4]; rfl, by (try dsimp only); omega⟩)

set_option maxHeartbeats 4000000 in
set_option maxRecDepth 100000 in
theorem g_imagesThere (l : Launch) (D : va_G) (k : Nat → ClassId) (sz : Nat) (h : Nat) (h_now : Nat) (h_trial : Nat) (h_images : Nat) (h_imageThere : Nat) (h_teller : Nat) (h_ranks : Nat) (h_court : Nat) (h_sheets : Nat) (h_lf : Int32) (h_lt : Int32) (it : Nat → Int32)  : MI l yX7_imagesThere wsX7_imagesThere ({ frames := 0, cells := 0, slots := 0, locals := 0 }) D k [.ref h] [oq6 h h_now h_trial h_images h_imageThere h_teller h_ranks h_court h_sheets h_lf h_lt, oqB k h_imageThere 2 (it)] sz (fun (r : Int32) (u : Unit) => True) (fun (u : Unit) => [oq6 h h_now h_trial h_images h_imageThere h_teller h_ranks h_court h_sheets h_lf h_lt, oqB k h_imageThere 2 (it)]) := by
  refine Met.ofW (cc := cX7_imagesThere) (maxL := 3) (ret := (some .int)) hpn_X7 rfl ?_
  intro p e s m args below meth c s₁ B hml hv
  obtain ⟨rfl, hsz, hP, hK, hD0, hN⟩ := hv
  have hx := B.exec
  have hb := B.bytes
  have hr := B.returns
  have hlocks := B.notSynchronized
  have hts := atoms_spec (ws := wsX7_imagesThere) B.pre
  have hown := findClass_of_methodNamed B.named
  have hown : s.vm.findClass RX7 = some m.cls := hown
  have hiX7 : ∀ w ∈ u_ws RX7 TX7 10, w ∈ wsX7_imagesThere := fun w9 hw9 => List.mem_cons_of_mem _ (igX7 w9 hw9)
  have fl23 := hts (.fieldLink RX7 23 "HalfScales" "imageThere" "[Z") (List.mem_cons_of_mem _ (hs_inG 1 218 rfl rfl))
  subst hsz
  have hD := hD0.self (sz := s.heap.size)
  generalize hAe : va_A [oq6 h h_now h_trial h_images h_imageThere h_teller h_ranks h_court h_sheets h_lf h_lt, oqB k h_imageThere 2 (it)] s.heap.size = A at hD ⊢
  have hA : ∀ q : Nat, s.heap.size ≤ q → A q := fun q h => by rw [← hAe]; exact Or.inr h
  have hS : va_S A s.heap s.heap [] := va_S.rf
  have hl := lv_entry ([.ref h]) (n := 3) (Nat.le_of_ble_eq_true rfl)
  rw [lg_entry_eq]
  generalize (lg_sl ([.ref h]) ++ List.replicate (3 - (lg_sl ([.ref h])).length) Slot.unset).toArray = ls at hl ⊢
  have hl : lv_has ls 3 [(0, .ref h)] := hl
  have hP : va_P D vwCl [oq6 h h_now h_trial h_images h_imageThere h_teller h_ranks h_court h_sheets h_lf h_lt, oqB k h_imageThere 2 (it)] s.heap := hP
  refine lv_iconst (v := 0) hx hb dX7_imagesThere_0 hki_0 ?_
  refine lv_istore_n (lv' := [(1, .int 0), (0, .ref h)]) hx hb dX7_imagesThere_1 rfl hl (Nat.le_of_ble_eq_true rfl) rfl (fun ls hl => ?_)
  refine lv_iconst (v := 0) hx hb dX7_imagesThere_2 hki_0 ?_
  refine lv_istore_n (lv' := [(2, .int 0), (1, .int 0), (0, .ref h)]) hx hb dX7_imagesThere_3 rfl hl (Nat.le_of_ble_eq_true rfl) rfl (fun ls hl => ?_)
  refine hs_while (σ := Int32 × Nat) (fun x => x.2 ≤ 2) (fun x => 2 - x.2) (fun x => [oq6 h h_now h_trial h_images h_imageThere h_teller h_ranks h_court h_sheets h_lf h_lt, oqB k h_imageThere 2 (it)]) (fun x => [(2, .int (nI (x.2))), (1, .int (x.1)), (0, .ref h)]) ?_ (0, 0) ?_ hP hD hS hl
  · intro x hI ih4 H locs ls hP hD hS hl
    obtain ⟨ma, x1⟩ := x
    try dsimp only at hI
    have hP : va_P D vwCl [oq6 h h_now h_trial h_images h_imageThere h_teller h_ranks h_court h_sheets h_lf h_lt, oqB k h_imageThere 2 (it)] H := hP
    have hD : va_D A [oq6 h h_now h_trial h_images h_imageThere h_teller h_ranks h_court h_sheets h_lf h_lt, oqB k h_imageThere 2 (it)] := hD
    have hl : lv_has ls 3 [(2, .int (nI x1)), (1, .int ma), (0, .ref h)] := hl
    refine lv_iload_n hx hb dX7_imagesThere_4 rfl (lv_at hl 0 rfl) ?_
    refine lv_iconst (v := 2) hx hb dX7_imagesThere_5 hki_2 ?_
    refine lv_icmp_ge (tgt := 27) hx hb dX7_imagesThere_6 rfl (fun c_1 => ?_) (fun c_1 => ?_)
    · have nc_1 : 2 ≤ x1 := (nI_leI (a := 2) (b := x1) (by omega) (by omega)).mp c_1
      refine lv_iload_n hx hb dX7_imagesThere_27 rfl (lv_at hl 1 rfl) ?_
      exact hs_iret hx hb hr hlocks hK hP hD hS () [0, 1] rfl (hs_upnd rfl) dX7_imagesThere_28 (trivial)
    · have nc_1 : ¬ 2 ≤ x1 := fun hq9 => c_1 ((nI_leI (a := 2) (b := x1) (by omega) (by omega)).mpr hq9)
      refine lv_aload_n hx hb dX7_imagesThere_9 rfl (lv_at hl 2 rfl) ?_
      refine va_get (D := D) (ci := 6) (v := .ref h_imageThere) (C := RX7) (T := TX7) (N := 10) hx hb hts hiX7 hown hK hP 0 rfl rfl 3 (Nat.le_of_ble_eq_true rfl) fl23 (fun _ h9 => h9) rfl dX7_imagesThere_10 ?_
      refine lv_iload_n hx hb dX7_imagesThere_13 rfl (lv_at hl 0 rfl) ?_
      refine va_zald hx hb hK hP 1 2 rfl rfl (vp_in_nI (show x1 < 2 by omega) (by decide)) dX7_imagesThere_14 ?_
      refine lv_if_eq (tgt := 21) hx hb dX7_imagesThere_15 rfl (fun c_2 => ?_) (fun c_2 => ?_)
      · refine lv_iinc (v := nI (x1 + 1)) (lv' := [(2, .int (nI (x1 + 1))), (1, .int ma), (0, .ref h)]) hx hb dX7_imagesThere_21 hl (k := 0) rfl (nI_add (x1) 1) (Nat.le_of_ble_eq_true rfl) rfl (fun ls hl => ?_)
        refine lv_goto (tgt := 4) hx hb dX7_imagesThere_24 rfl ?_
        exact ih4 (ma, x1 + 1) (by (try dsimp only); first | omega | (refine ⟨?_, ?_⟩ <;> first | omega | assumption)) (by (try dsimp only); omega) _ _ _ hP hD hS (lv_sub hl [0, 1, 2] rfl)
      · refine lv_iinc (v := ma + 1) (lv' := [(1, .int (ma + 1)), (2, .int (nI x1)), (0, .ref h)]) hx hb dX7_imagesThere_18 hl (k := 1) rfl rfl (Nat.le_of_ble_eq_true rfl) rfl (fun ls hl => ?_)
        refine lv_iinc (v := nI (x1 + 1)) (lv' := [(2, .int (nI (x1 + 1))), (1, .int (ma + 1)), (0, .ref h)]) hx hb dX7_imagesThere_21 hl (k := 1) rfl (nI_add (x1) 1) (Nat.le_of_ble_eq_true rfl) rfl (fun ls hl => ?_)
        refine lv_goto (tgt := 4) hx hb dX7_imagesThere_24 rfl ?_
        exact ih4 (ma + 1, x1 + 1) (by (try dsimp only); first | omega | (refine ⟨?_, ?_⟩ <;> first | omega | assumption)) (by (try dsimp only); omega) _ _ _ hP hD hS (lv_sub hl [0, 1, 2] rfl)
  · (try dsimp only); first | omega | (refine ⟨?_, ?_⟩ <;> first | omega | assumption)

set_option maxHeartbeats 4000000 in
set_option maxRecDepth 100000 in
theorem gp_count (l : Launch) (D : va_G) (k : Nat → ClassId) (sz : Nat) (h : Nat) (h_now : Nat) (h_trial : Nat) (h_images : Nat) (h_imageThere : Nat) (h_teller : Nat) (h_ranks : Nat) (h_court : Nat) (h_sheets : Nat) (h_lf : Int32) (h_lt : Int32) (n_a : Nat → Nat) (n_N : Nat → Nat) (n_J : Nat → Int32) (it : Nat → Int32) (ee_tape : Nat) (ee_draft : Nat) (ee_to : Int32) (ee_fm : Int32) (ee_pl : Int32) (a_bytes : Nat) (a_len : Nat) (a_kd : Int32) (a_st : Nat) (a_be : Nat) (a_va : Int32) (sh0 : Nat) (sh1 : Nat) (sh2 : Nat) (sh3 : Nat) (s_row : Nat → Nat) (s_la : Nat → Int32) (s_z : Nat → Nat) (what : Int32)  : MI l yX7_count wsX7_count ({ frames := 1, cells := 0, slots := 0, locals := 22 }) D k [.ref h, .int what] [oq6 h h_now h_trial h_images h_imageThere h_teller h_ranks h_court h_sheets h_lf h_lt, oqT h_now n_a n_N n_J, oqB k h_imageThere 2 (it), oq4 h_teller ee_tape ee_draft ee_to ee_fm ee_pl, oq3 ee_tape a_bytes (nI a_len) a_kd (nI a_st) (nI a_be) a_va, (h_sheets, .inl (k 3, 4, .inr (.inr (.inr (.inr (va_up (va_up (va_up (va_up (fun _ => none) 0 (some sh0)) 1 (some sh1)) 2 (some sh2)) 3 (some sh3))))))), oq2 sh0 (s_row 0) (s_la 0) (nI (s_z 0))] sz (fun (r : Int32) (u : Unit) => True) (fun (u : Unit) => [oq6 h h_now h_trial h_images h_imageThere h_teller h_ranks h_court h_sheets h_lf h_lt, oqT h_now n_a n_N n_J, oqB k h_imageThere 2 (it), oq4 h_teller ee_tape ee_draft ee_to ee_fm ee_pl, oq3 ee_tape a_bytes (nI a_len) a_kd (nI a_st) (nI a_be) a_va, (h_sheets, .inl (k 3, 4, .inr (.inr (.inr (.inr (va_up (va_up (va_up (va_up (fun _ => none) 0 (some sh0)) 1 (some sh1)) 2 (some sh2)) 3 (some sh3))))))), oq2 sh0 (s_row 0) (s_la 0) (nI (s_z 0))]) := by
  refine Met.ofW (cc := cX7_count) (maxL := 2) (ret := (some .int)) hpn_X7 rfl ?_
  intro p e s m args below meth c s₁ B hml hv
  obtain ⟨rfl, hsz, hP, hK, hD0, hN⟩ := hv
  have hx := B.exec
  have hb := B.bytes
  have hr := B.returns
  have hlocks := B.notSynchronized
  have hts := atoms_spec (ws := wsX7_count) B.pre
  have hown := findClass_of_methodNamed B.named
  have hown : s.vm.findClass RX7 = some m.cls := hown
  have hiX3 : ∀ w ∈ u_ws RX3 TX3 3, w ∈ wsX7_count := fun w9 hw9 => List.mem_cons_of_mem _ (igX3 w9 hw9)
  have hiX4 : ∀ w ∈ u_ws RX4 TX4 6, w ∈ wsX7_count := fun w9 hw9 => List.mem_cons_of_mem _ (igX4 w9 hw9)
  have hiX5 : ∀ w ∈ u_ws RX5 TX5 5, w ∈ wsX7_count := fun w9 hw9 => List.mem_cons_of_mem _ (igX5 w9 hw9)
  have hiX6 : ∀ w ∈ u_ws RX6 TX6 15, w ∈ wsX7_count := fun w9 hw9 => List.mem_cons_of_mem _ (igX6 w9 hw9)
  have hiX7 : ∀ w ∈ u_ws RX7 TX7 10, w ∈ wsX7_count := fun w9 hw9 => List.mem_cons_of_mem _ (igX7 w9 hw9)
  have fl10 := hts (.fieldLink RX7 10 "HalfScales" "now" "LHalfScales$Thing;") (List.mem_cons_of_mem _ (hs_inG 1 215 rfl rfl))
  have fl244 := hts (.fieldLink RX7 244 "HalfScales$Thing" "seenCount" "I") (List.mem_cons_of_mem _ (hs_inG 1 77 rfl rfl))
  have fl30 := hts (.fieldLink RX7 30 "HalfScales" "teller" "LHalfScales$Teller;") (List.mem_cons_of_mem _ (hs_inG 1 219 rfl rfl))
  have fl55 := hts (.fieldLink RX7 55 "HalfScales$Teller" "tape" "LHalfScales$Tape;") (List.mem_cons_of_mem _ (hs_inG 1 151 rfl rfl))
  have fl63 := hts (.fieldLink RX7 63 "HalfScales$Tape" "length" "I") (List.mem_cons_of_mem _ (hs_inG 1 125 rfl rfl))
  have fl50 := hts (.fieldLink RX7 50 "HalfScales" "sheets" "[LHalfScales$Sheet;") (List.mem_cons_of_mem _ (hs_inG 1 222 rfl rfl))
  have fl292 := hts (.fieldLink RX7 292 "HalfScales$Sheet" "size" "I") (List.mem_cons_of_mem _ (hs_inG 1 207 rfl rfl))
  subst hsz
  have hD := hD0.self (sz := s.heap.size)
  generalize hAe : va_A [oq6 h h_now h_trial h_images h_imageThere h_teller h_ranks h_court h_sheets h_lf h_lt, oqT h_now n_a n_N n_J, oqB k h_imageThere 2 (it), oq4 h_teller ee_tape ee_draft ee_to ee_fm ee_pl, oq3 ee_tape a_bytes (nI a_len) a_kd (nI a_st) (nI a_be) a_va, (h_sheets, .inl (k 3, 4, .inr (.inr (.inr (.inr (va_up (va_up (va_up (va_up (fun _ => none) 0 (some sh0)) 1 (some sh1)) 2 (some sh2)) 3 (some sh3))))))), oq2 sh0 (s_row 0) (s_la 0) (nI (s_z 0))] s.heap.size = A at hD ⊢
  have hA : ∀ q : Nat, s.heap.size ≤ q → A q := fun q h => by rw [← hAe]; exact Or.inr h
  have hS : va_S A s.heap s.heap [] := va_S.rf
  have hl := lv_entry ([.ref h, .int what]) (n := 2) (Nat.le_of_ble_eq_true rfl)
  rw [lg_entry_eq]
  generalize (lg_sl ([.ref h, .int what]) ++ List.replicate (2 - (lg_sl ([.ref h, .int what])).length) Slot.unset).toArray = ls at hl ⊢
  have hl : lv_has ls 2 [(0, .ref h), (1, .int what)] := hl
  have hP : va_P D vwCl [oq6 h h_now h_trial h_images h_imageThere h_teller h_ranks h_court h_sheets h_lf h_lt, oqT h_now n_a n_N n_J, oqB k h_imageThere 2 (it), oq4 h_teller ee_tape ee_draft ee_to ee_fm ee_pl, oq3 ee_tape a_bytes (nI a_len) a_kd (nI a_st) (nI a_be) a_va, (h_sheets, .inl (k 3, 4, .inr (.inr (.inr (.inr (va_up (va_up (va_up (va_up (fun _ => none) 0 (some sh0)) 1 (some sh1)) 2 (some sh2)) 3 (some sh3))))))), oq2 sh0 (s_row 0) (s_la 0) (nI (s_z 0))] s.heap := hP
  refine lv_iload_n hx hb dX7_count_0 rfl (lv_at hl 1 rfl) ?_
  by_cases sw_1 : what = 0
  · subst sw_1
    refine lv_tableIn (off := 31) (tgt := 32) hx hb dX7_count_1 (by decide) (by decide) (by rfl) (by decide) ?_
    refine lv_aload_n hx hb dX7_count_32 rfl (lv_at hl 0 rfl) ?_
    refine va_get (D := D) (ci := 6) (v := .ref h_now) (C := RX7) (T := TX7) (N := 10) hx hb hts hiX7 hown hK hP 0 rfl rfl 0 (Nat.le_of_ble_eq_true rfl) fl10 (fun _ h9 => h9) rfl dX7_count_33 ?_
    refine va_get (D := D) (ci := 5) (v := .int (nI (n_N 4))) (C := RX6) (T := TX6) (N := 15) hx hb hts hiX6 hown hK hP 1 rfl rfl 14 (Nat.le_of_ble_eq_true rfl) fl244 (fun _ h9 => h9) rfl dX7_count_36 ?_
    exact hs_iret hx hb hr hlocks hK hP hD hS () [0, 1, 2, 3, 4, 5, 6] rfl (hs_upnd rfl) dX7_count_39 (trivial)
  by_cases sw_2 : what = 1
  · subst sw_2
    refine lv_tableIn (off := 39) (tgt := 40) hx hb dX7_count_1 (by decide) (by decide) (by rfl) (by decide) ?_
    refine lv_aload_n hx hb dX7_count_40 rfl (lv_at hl 0 rfl) ?_
    refine hs_ciM (va_runV (As := []) (rest := []) ⟨hx, hb, hml, hown, hts⟩ (g_imagesThere l D k _ h h_now h_trial h_images h_imageThere h_teller h_ranks h_court h_sheets h_lf h_lt it) (cwV 0 hts gX7_count_X7_imagesThere rfl rfl rfl ⟨rfl, hq_X7_imagesThere⟩ ⟨Nat.le_of_ble_eq_true rfl, Nat.le_of_ble_eq_true rfl⟩) (hs_preV hK hN (hs_subP (w := [_, _]) hP [0, 2] rfl) (hD.sub (ws' := [_, _]) [0, 2] (hs_upnd rfl) rfl) (ci := 6) (q0 := 0) rfl rfl) rfl rfl hl.1 rfl (lv_room (Nat.le_of_ble_eq_true rfl)) dX7_count_41 ⟨Nat.le_of_ble_eq_true rfl, Nat.le_of_ble_eq_true rfl⟩) hP hD hS hA [false, true, false, true, true, true, true] [_, _, _, _, _] [_, _] rfl [0, 1] rfl [0, 1] (fun u_5 => [_, _]) (fun _ => rfl) (hs_upnd rfl) [false, true, false, true, true, true, true] (fun u_5 => [_, _, _, _, _, _, _]) (fun _ => rfl) (fun r_3 u_5 H locs hw_4 hP hD hS => ?_)
    exact hs_iret hx hb hr hlocks hK hP hD hS () [0, 1, 2, 3, 4, 5, 6] rfl (hs_upnd rfl) dX7_count_44 (trivial)
  by_cases sw_6 : what = 2
  · subst sw_6
    refine lv_tableIn (off := 44) (tgt := 45) hx hb dX7_count_1 (by decide) (by decide) (by rfl) (by decide) ?_
    refine lv_aload_n hx hb dX7_count_45 rfl (lv_at hl 0 rfl) ?_
    refine va_get (D := D) (ci := 6) (v := .ref h_teller) (C := RX7) (T := TX7) (N := 10) hx hb hts hiX7 hown hK hP 0 rfl rfl 4 (Nat.le_of_ble_eq_true rfl) fl30 (fun _ h9 => h9) rfl dX7_count_46 ?_
    refine va_get (D := D) (ci := 4) (v := .ref ee_tape) (C := RX5) (T := TX5) (N := 5) hx hb hts hiX5 hown hK hP 3 rfl rfl 0 (Nat.le_of_ble_eq_true rfl) fl55 (fun _ h9 => h9) rfl dX7_count_49 ?_
    refine va_get (D := D) (ci := 3) (v := .int (nI a_len)) (C := RX4) (T := TX4) (N := 6) hx hb hts hiX4 hown hK hP 4 rfl rfl 1 (Nat.le_of_ble_eq_true rfl) fl63 (fun _ h9 => h9) rfl dX7_count_52 ?_
    exact hs_iret hx hb hr hlocks hK hP hD hS () [0, 1, 2, 3, 4, 5, 6] rfl (hs_upnd rfl) dX7_count_55 (trivial)
  by_cases sw_7 : what = 3
  · subst sw_7
    refine lv_tableIn (off := 55) (tgt := 56) hx hb dX7_count_1 (by decide) (by decide) (by rfl) (by decide) ?_
    refine lv_aload_n hx hb dX7_count_56 rfl (lv_at hl 0 rfl) ?_
    refine va_get (D := D) (ci := 6) (v := .ref h_sheets) (C := RX7) (T := TX7) (N := 10) hx hb hts hiX7 hown hK hP 0 rfl rfl 7 (Nat.le_of_ble_eq_true rfl) fl50 (fun _ h9 => h9) rfl dX7_count_57 ?_
    refine lv_iconst (v := 0) hx hb dX7_count_60 hki_0 ?_
    refine va_aldq hx hb hK hP 5 3 rfl rfl (hs_in (by decide)) dX7_count_61 ?_
    refine W.eq (g2 := F0 m 62 ls (.ref sh0 :: [])) rfl ?_
    refine hs_ciM (va_runV (As := []) (rest := []) ⟨hx, hb, hml, hown, hts⟩ (g_isNothing l D k _ sh0 (s_row 0) (s_la 0) (s_z 0)) (cwV 0 hts gX7_count_X3_isNothing rfl rfl rfl ⟨rfl, hq_X3_isNothing⟩ ⟨Nat.le_of_ble_eq_true rfl, Nat.le_of_ble_eq_true rfl⟩) (hs_preV hK hN (hs_subP (w := [_]) hP [6] rfl) (hD.sub (ws' := [_]) [6] (hs_upnd rfl) rfl) (ci := 2) (q0 := 0) rfl rfl) rfl rfl hl.1 rfl (lv_room (Nat.le_of_ble_eq_true rfl)) dX7_count_62 ⟨Nat.le_of_ble_eq_true rfl, Nat.le_of_ble_eq_true rfl⟩) hP hD hS hA [true, true, true, true, true, true, false] [_, _, _, _, _, _] [_] rfl [0] rfl [0] (fun u_10 => [_]) (fun _ => rfl) (hs_upnd rfl) [true, true, true, true, true, true, false] (fun u_10 => [_, _, _, _, _, _, _]) (fun _ => rfl) (fun r_8 u_10 H locs hw_9 hP hD hS => ?_)
    refine hs_topi (hsb (decide ((s_la 0) = -1))) hw_9 ?_
    refine lv_if_eq (tgt := 73) hx hb dX7_count_65 rfl (fun c_11 => ?_) (fun c_11 => ?_)
    · refine lv_aload_n hx hb dX7_count_73 rfl (lv_at hl 0 rfl) ?_
      refine va_get (D := D) (ci := 6) (v := .ref h_sheets) (C := RX7) (T := TX7) (N := 10) hx hb hts hiX7 hown hK hP 0 rfl rfl 7 (Nat.le_of_ble_eq_true rfl) fl50 (fun _ h9 => h9) rfl dX7_count_74 ?_
      refine lv_iconst (v := 0) hx hb dX7_count_77 hki_0 ?_
      refine va_aldq hx hb hK hP 5 3 rfl rfl (hs_in (by decide)) dX7_count_78 ?_
      refine W.eq (g2 := F0 m 79 ls (.ref sh0 :: [])) rfl ?_
      refine va_get (D := D) (ci := 2) (v := .int (nI (s_z 0))) (C := RX3) (T := TX3) (N := 3) hx hb hts hiX3 hown hK hP 6 rfl rfl 2 (Nat.le_of_ble_eq_true rfl) fl292 (fun _ h9 => h9) rfl dX7_count_79 ?_
      exact hs_iret hx hb hr hlocks hK hP hD hS () [0, 1, 2, 3, 4, 5, 6] rfl (hs_upnd rfl) dX7_count_82 (trivial)
    · refine lv_bipush (v := (-4)) hx hb dX7_count_68 hkb_m4 ?_
      refine lv_goto (tgt := 82) hx hb dX7_count_70 rfl ?_
      exact hs_iret hx hb hr hlocks hK hP hD hS () [0, 1, 2, 3, 4, 5, 6] rfl (hs_upnd rfl) dX7_count_82 (trivial)
  refine lv_tableOut (tgt := 83) hx hb dX7_count_1 (by have z0 := lv_neT sw_1 (a := 0) rfl; have z1 := lv_neT sw_2 (a := 1) rfl; have z2 := lv_neT sw_6 (a := 2) rfl; have z3 := lv_neT sw_7 (a := 3) rfl; omega) (by decide) ?_
  refine lv_iconst (v := (-1)) hx hb dX7_count_83 hki_m1 ?_
  exact hs_iret hx hb hr hlocks hK hP hD hS () [0, 1, 2, 3, 4, 5, 6] rfl (hs_upnd rfl) dX7_count_84 (trivial)
