theorem hs_fa0 {la i : Int32} {z : Nat} (h : (if la = -1 then (1 : Int32) else if hslt i z then 0 else 2) = 0) : hslt i z = true ∧ ¬ la = -1 := by
  by_cases h1 : la = -1
  · rw [if_pos h1] at h
    exact absurd h (by decide)
  · rw [if_neg h1] at h
    by_cases h2 : hslt i z = true
    · exact ⟨h2, h1⟩
    · rw [if_neg h2] at h
      exact absurd h (by decide)
/-- what a sheet answers to lay -/
def A_layf (la : Int32) (z : Nat) (i : Int32) : Int32 := if la = -1 then -11 else if hslt i z then 1 else -12
theorem A_layf_no {la i : Int32} {z : Nat} (h : ¬ (if la = -1 then (1 : Int32) else if hslt i z then 0 else 2) = 0) : (-10 : Int32) - (if la = -1 then (1 : Int32) else if hslt i z then 0 else 2) = A_layf la z i := by
  unfold A_layf
  by_cases h1 : la = -1
  · rw [if_pos h1, if_pos h1]; decide
  · rw [if_neg h1, if_neg h1]
    rw [if_neg h1] at h
    by_cases h2 : hslt i z = true
    · rw [if_pos h2] at h
      exact absurd rfl h
    · rw [if_neg h2, if_neg h2]; decide
theorem A_layf_yes {la i : Int32} {z : Nat} (h : hslt i z = true ∧ ¬ la = -1) : (1 : Int32) = A_layf la z i := by
  unfold A_layf
  rw [if_neg h.2, if_pos h.1]

def A_feedG (len : Nat) (c : Int32) : Int32 := if hsin c 0 127 then (if 160 ≤ len then -3 else nI (len + 1)) else -1
def A_feedL (len : Nat) (c : Int32) : Nat := if hsin c 0 127 then (if 160 ≤ len then len else len + 1) else len
def A_endG (len : Nat) (n : Int32) : Int32 := if hsin n 0 (nI len) then nI len else -1
def A_endL (len : Nat) (n : Int32) : Nat := if hsin n 0 (nI len) then n.toNatClampNeg else len

set_option maxHeartbeats 4000000 in
set_option maxRecDepth 100000 in
theorem gp_end (l : Launch) (D : va_G) (k : Nat → ClassId) (sz : Nat) (h : Nat) (h_now : Nat) (h_trial : Nat) (h_images : Nat) (h_imageThere : Nat) (h_teller : Nat) (h_ranks : Nat) (h_court : Nat) (h_sheets : Nat) (h_lf : Int32) (h_lt : Int32) (ee_tape : Nat) (ee_draft : Nat) (ee_to : Int32) (ee_fm : Int32) (ee_pl : Int32) (a_bytes : Nat) (a_len : Nat) (a_kd : Int32) (a_st : Nat) (a_be : Nat) (a_va : Int32) (n : Int32) (hl160 : a_len ≤ 160) : MI l yX7_end wsX7_end ({ frames := 1, cells := 0, slots := 0, locals := 22 }) D k [.ref h, .int n] [oq6 h h_now h_trial h_images h_imageThere h_teller h_ranks h_court h_sheets h_lf h_lt, oq4 h_teller ee_tape ee_draft ee_to ee_fm ee_pl, oq3 ee_tape a_bytes (nI a_len) a_kd (nI a_st) (nI a_be) a_va] sz (fun (r : Int32) (u : Nat) => r = A_endG a_len n ∧ u = A_endL a_len n ∧ u ≤ 160) (fun (u : Nat) => [oq6 h h_now h_trial h_images h_imageThere h_teller h_ranks h_court h_sheets h_lf h_lt, oq4 h_teller ee_tape ee_draft ee_to ee_fm ee_pl, oq3 ee_tape a_bytes (nI u) a_kd (nI a_st) (nI a_be) a_va]) := by
  refine Met.ofW (cc := cX7_end) (maxL := 4) (ret := (some .int)) hpn_X7 rfl ?_
  intro p e s m args below meth c s₁ B hml hv
  obtain ⟨rfl, hsz, hP, hK, hD0, hN⟩ := hv
  have hx := B.exec
  have hb := B.bytes
  have hr := B.returns
  have hlocks := B.notSynchronized
  have hts := atoms_spec (ws := wsX7_end) B.pre
  have hown := findClass_of_methodNamed B.named
  have hown : s.vm.findClass RX7 = some m.cls := hown
  have hiX4 : ∀ w ∈ u_ws RX4 TX4 6, w ∈ wsX7_end := fun w9 hw9 => List.mem_cons_of_mem _ (igX4 w9 hw9)
  have hiX5 : ∀ w ∈ u_ws RX5 TX5 5, w ∈ wsX7_end := fun w9 hw9 => List.mem_cons_of_mem _ (igX5 w9 hw9)
  have hiX7 : ∀ w ∈ u_ws RX7 TX7 10, w ∈ wsX7_end := fun w9 hw9 => List.mem_cons_of_mem _ (igX7 w9 hw9)
  have fl30 := hts (.fieldLink RX7 30 "HalfScales" "teller" "LHalfScales$Teller;") (List.mem_cons_of_mem _ (hs_inG 1 219 rfl rfl))
  have fl55 := hts (.fieldLink RX7 55 "HalfScales$Teller" "tape" "LHalfScales$Tape;") (List.mem_cons_of_mem _ (hs_inG 1 151 rfl rfl))
  have fl63 := hts (.fieldLink RX7 63 "HalfScales$Tape" "length" "I") (List.mem_cons_of_mem _ (hs_inG 1 125 rfl rfl))
  subst hsz
  have hD := hD0.self (sz := s.heap.size)
  generalize hAe : va_A [oq6 h h_now h_trial h_images h_imageThere h_teller h_ranks h_court h_sheets h_lf h_lt, oq4 h_teller ee_tape ee_draft ee_to ee_fm ee_pl, oq3 ee_tape a_bytes (nI a_len) a_kd (nI a_st) (nI a_be) a_va] s.heap.size = A at hD ⊢
  have hA : ∀ q : Nat, s.heap.size ≤ q → A q := fun q h => by rw [← hAe]; exact Or.inr h
  have hS : va_S A s.heap s.heap [] := va_S.rf
  have hl := lv_entry ([.ref h, .int n]) (n := 4) (Nat.le_of_ble_eq_true rfl)
  rw [lg_entry_eq]
  generalize (lg_sl ([.ref h, .int n]) ++ List.replicate (4 - (lg_sl ([.ref h, .int n])).length) Slot.unset).toArray = ls at hl ⊢
  have hl : lv_has ls 4 [(0, .ref h), (1, .int n)] := hl
  have hP : va_P D vwCl [oq6 h h_now h_trial h_images h_imageThere h_teller h_ranks h_court h_sheets h_lf h_lt, oq4 h_teller ee_tape ee_draft ee_to ee_fm ee_pl, oq3 ee_tape a_bytes (nI a_len) a_kd (nI a_st) (nI a_be) a_va] s.heap := hP
  refine lv_aload_n hx hb dX7_end_0 rfl (lv_at hl 0 rfl) ?_
  refine va_get (D := D) (ci := 6) (v := .ref h_teller) (C := RX7) (T := TX7) (N := 10) hx hb hts hiX7 hown hK hP 0 rfl rfl 4 (Nat.le_of_ble_eq_true rfl) fl30 (fun _ h9 => h9) rfl dX7_end_1 ?_
  refine va_get (D := D) (ci := 4) (v := .ref ee_tape) (C := RX5) (T := TX5) (N := 5) hx hb hts hiX5 hown hK hP 1 rfl rfl 0 (Nat.le_of_ble_eq_true rfl) fl55 (fun _ h9 => h9) rfl dX7_end_4 ?_
  refine lv_astore_n (lv' := [(2, .ref ee_tape), (0, .ref h), (1, .int n)]) hx hb dX7_end_7 rfl hl (Nat.le_of_ble_eq_true rfl) rfl (fun ls hl => ?_)
  refine lv_iload_n hx hb dX7_end_8 rfl (lv_at hl 2 rfl) ?_
  refine lv_iconst (v := 0) hx hb dX7_end_9 hki_0 ?_
  refine lv_aload_n hx hb dX7_end_10 rfl (lv_at hl 0 rfl) ?_
  refine va_get (D := D) (ci := 3) (v := .int (nI a_len)) (C := RX4) (T := TX4) (N := 6) hx hb hts hiX4 hown hK hP 2 rfl rfl 1 (Nat.le_of_ble_eq_true rfl) fl63 (fun _ h9 => h9) rfl dX7_end_11 ?_
  refine hs_pi (va_runS (As := [.int n, .int 0, .int (nI a_len)]) (rest := []) ⟨hx, hb, hml, hown, hts⟩ (g_within l D k _ n 0 (nI a_len)) (va_cwS 3 hts gX7_end_X7_within rfl rfl rfl hq_X7_within ⟨Nat.le_of_ble_eq_true rfl, Nat.le_of_ble_eq_true rfl⟩) (hs_preS hK hN (hs_subP (w := []) hP [] rfl) (hD.sub (ws' := []) [] rfl rfl)) rfl rfl hl.1 rfl (lv_room (Nat.le_of_ble_eq_true rfl)) dX7_end_14 ⟨Nat.le_of_ble_eq_true rfl, Nat.le_of_ble_eq_true rfl⟩) hP hD hS hA (fun r_1 u_3 H locs hw_2 hP hS => ?_)
  refine hs_topi (hsb (hsin n 0 (nI a_len))) hw_2 ?_
  refine lv_if_ne (tgt := 22) hx hb dX7_end_17 rfl (fun c_4 => ?_) (fun c_4 => ?_)
  · obtain ⟨j_5, hj_5, hj_5b, rfl⟩ := hs_rng (lo := 0) (hi := a_len) (by omega) (by omega) (hs_nb c_4)
    refine lv_aload_n hx hb dX7_end_22 rfl (lv_at hl 0 rfl) ?_
    refine va_get (D := D) (ci := 3) (v := .int (nI a_len)) (C := RX4) (T := TX4) (N := 6) hx hb hts hiX4 hown hK hP 2 rfl rfl 1 (Nat.le_of_ble_eq_true rfl) fl63 (fun _ h9 => h9) rfl dX7_end_23 ?_
    refine lv_istore_n (lv' := [(3, .int (nI a_len)), (2, .ref ee_tape), (0, .ref h), (1, .int (nI j_5))]) hx hb dX7_end_26 rfl hl (Nat.le_of_ble_eq_true rfl) rfl (fun ls hl => ?_)
    refine lv_aload_n hx hb dX7_end_27 rfl (lv_at hl 1 rfl) ?_
    refine lv_iload_n hx hb dX7_end_28 rfl (lv_at hl 3 rfl) ?_
    refine va_put (D := D) (ci := 3) (v := .int (nI j_5)) (ty := .int) (C := RX4) (T := TX4) (N := 6) hx hb hts hiX4 tyX4 tyX4_ok nmX4 hown hK hP hD hS 2 rfl rfl 1 (Nat.le_of_ble_eq_true rfl) fl63 (fun _ h9 => h9) rfl (by decide +kernel) rfl rfl (Nat.le_of_ble_eq_true rfl) dX7_end_29 (fun H locs hP hD hS => ?_)
    have hP : va_P D vwCl [oq6 h h_now h_trial h_images h_imageThere h_teller h_ranks h_court h_sheets h_lf h_lt, oq4 h_teller ee_tape ee_draft ee_to ee_fm ee_pl, oq3 ee_tape a_bytes (nI j_5) a_kd (nI a_st) (nI a_be) a_va] H := hP
    have hD : va_D A [oq6 h h_now h_trial h_images h_imageThere h_teller h_ranks h_court h_sheets h_lf h_lt, oq4 h_teller ee_tape ee_draft ee_to ee_fm ee_pl, oq3 ee_tape a_bytes (nI j_5) a_kd (nI a_st) (nI a_be) a_va] := hD
    refine lv_iload_n hx hb dX7_end_32 rfl (lv_at hl 0 rfl) ?_
    exact hs_iret hx hb hr hlocks hK hP hD hS (j_5) [0, 1, 2] rfl (hs_upnd rfl) dX7_end_33 (⟨by rw [A_endG, if_pos (hs_nb c_4)], by rw [A_endL, if_pos (hs_nb c_4), nI_clamp (by omega)], by (try dsimp only); omega⟩)
  · refine lv_iconst (v := (-1)) hx hb dX7_end_20 hki_m1 ?_
    exact hs_iret hx hb hr hlocks hK hP hD hS (a_len) [0, 1, 2] rfl (hs_upnd rfl) dX7_end_21 (⟨by rw [A_endG, hs_n0 c_4]; rfl, by rw [A_endL, hs_n0 c_4]; rfl, by (try dsimp only); omega⟩)
