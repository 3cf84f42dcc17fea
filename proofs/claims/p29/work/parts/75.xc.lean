set_option maxHeartbeats 4000000 in
set_option maxRecDepth 100000 in
theorem gf_blame (l : Launch) (D : va_G) (k : Nat → ClassId) (sz : Nat) (ee : Nat) (ee_tape : Nat) (ee_draft : Nat) (ee_to : Int32) (ee_fm : Int32) (ee_pl : Int32) (a_bytes : Nat) (a_len : Nat) (a_kd : Int32) (a_st : Nat) (a_be : Nat) (a_va : Int32) (f : Int32)  : MV l yX5_blame wsX5_blame ({ frames := 0, cells := 0, slots := 0, locals := 0 }) D k [.ref ee, .int f] [oq4 ee ee_tape ee_draft ee_to ee_fm ee_pl, oq3 ee_tape a_bytes (nI a_len) a_kd (nI a_st) (nI a_be) a_va] sz (fun (u : Int32 × Int32) => u = cBl ee_fm ee_pl f a_st) (fun (u : Int32 × Int32) => [oq4 ee ee_tape ee_draft ee_to u.1 u.2, oq3 ee_tape a_bytes (nI a_len) a_kd (nI a_st) (nI a_be) a_va]) := by
  refine Met.ofW (cc := cX5_blame) (maxL := 2) (ret := none) hpn_X5 rfl ?_
  intro p e s m args below meth c s₁ B hml hv
  obtain ⟨rfl, hsz, hP, hK, hD0, hN⟩ := hv
  have hx := B.exec
  have hb := B.bytes
  have hr := B.returns
  have hlocks := B.notSynchronized
  have hts := atoms_spec (ws := wsX5_blame) B.pre
  have hown := findClass_of_methodNamed B.named
  have hown : s.vm.findClass RX5 = some m.cls := hown
  have hiX4 : ∀ w ∈ u_ws RX4 TX4 6, w ∈ wsX5_blame := fun w9 hw9 => List.mem_cons_of_mem _ (igX4 w9 hw9)
  have hiX5 : ∀ w ∈ u_ws RX5 TX5 5, w ∈ wsX5_blame := fun w9 hw9 => List.mem_cons_of_mem _ (igX5 w9 hw9)
  have fl32 := hts (.fieldLink RX5 32 "HalfScales$Teller" "faultMet" "I") (List.mem_cons_of_mem _ (hs_inG 1 155 rfl rfl))
  have fl12 := hts (.fieldLink RX5 12 "HalfScales$Teller" "tape" "LHalfScales$Tape;") (List.mem_cons_of_mem _ (hs_inG 1 150 rfl rfl))
  have fl160 := hts (.fieldLink RX5 160 "HalfScales$Tape" "start" "I") (List.mem_cons_of_mem _ (hs_inG 1 130 rfl rfl))
  have fl35 := hts (.fieldLink RX5 35 "HalfScales$Teller" "place" "I") (List.mem_cons_of_mem _ (hs_inG 1 157 rfl rfl))
  subst hsz
  have hD := hD0.self (sz := s.heap.size)
  generalize hAe : va_A [oq4 ee ee_tape ee_draft ee_to ee_fm ee_pl, oq3 ee_tape a_bytes (nI a_len) a_kd (nI a_st) (nI a_be) a_va] s.heap.size = A at hD ⊢
  have hA : ∀ q : Nat, s.heap.size ≤ q → A q := fun q h => by rw [← hAe]; exact Or.inr h
  have hS : va_S A s.heap s.heap [] := va_S.rf
  have hl := lv_entry ([.ref ee, .int f]) (n := 2) (Nat.le_of_ble_eq_true rfl)
  rw [lg_entry_eq]
  generalize (lg_sl ([.ref ee, .int f]) ++ List.replicate (2 - (lg_sl ([.ref ee, .int f])).length) Slot.unset).toArray = ls at hl ⊢
  have hl : lv_has ls 2 [(0, .ref ee), (1, .int f)] := hl
  have hP : va_P D vwCl [oq4 ee ee_tape ee_draft ee_to ee_fm ee_pl, oq3 ee_tape a_bytes (nI a_len) a_kd (nI a_st) (nI a_be) a_va] s.heap := hP
  refine lv_aload_n hx hb dX5_blame_0 rfl (lv_at hl 0 rfl) ?_
  refine va_get (D := D) (ci := 4) (v := .int ee_fm) (C := RX5) (T := TX5) (N := 5) hx hb hts hiX5 hown hK hP 0 rfl rfl 3 (Nat.le_of_ble_eq_true rfl) fl32 (fun _ h9 => h9) rfl dX5_blame_1 ?_
  refine lv_if_ne (tgt := 23) hx hb dX5_blame_4 rfl (fun c_1 => ?_) (fun c_1 => ?_)
  · exact hs_vret hx hb hr hlocks hK hP hD hS (ee_fm, ee_pl) [0, 1] rfl (hs_upnd rfl) dX5_blame_23 (by rw [cBl, if_neg c_1])
  · refine lv_aload_n hx hb dX5_blame_7 rfl (lv_at hl 0 rfl) ?_
    refine lv_iload_n hx hb dX5_blame_8 rfl (lv_at hl 1 rfl) ?_
    refine va_put (D := D) (ci := 4) (v := .int f) (ty := .int) (C := RX5) (T := TX5) (N := 5) hx hb hts hiX5 tyX5 tyX5_ok nmX5 hown hK hP hD hS 0 rfl rfl 3 (Nat.le_of_ble_eq_true rfl) fl32 (fun _ h9 => h9) rfl (by decide +kernel) rfl rfl (Nat.le_of_ble_eq_true rfl) dX5_blame_9 (fun H locs hP hD hS => ?_)
    have hP : va_P D vwCl [oq4 ee ee_tape ee_draft ee_to f ee_pl, oq3 ee_tape a_bytes (nI a_len) a_kd (nI a_st) (nI a_be) a_va] H := hP
    have hD : va_D A [oq4 ee ee_tape ee_draft ee_to f ee_pl, oq3 ee_tape a_bytes (nI a_len) a_kd (nI a_st) (nI a_be) a_va] := hD
    refine lv_aload_n hx hb dX5_blame_12 rfl (lv_at hl 0 rfl) ?_
    refine lv_aload_n hx hb dX5_blame_13 rfl (lv_at hl 0 rfl) ?_
    refine va_get (D := D) (ci := 4) (v := .ref ee_tape) (C := RX5) (T := TX5) (N := 5) hx hb hts hiX5 hown hK hP 0 rfl rfl 0 (Nat.le_of_ble_eq_true rfl) fl12 (fun _ h9 => h9) rfl dX5_blame_14 ?_
    refine va_get (D := D) (ci := 3) (v := .int (nI a_st)) (C := RX4) (T := TX4) (N := 6) hx hb hts hiX4 hown hK hP 1 rfl rfl 3 (Nat.le_of_ble_eq_true rfl) fl160 (fun _ h9 => h9) rfl dX5_blame_17 ?_
    refine va_put (D := D) (ci := 4) (v := .int (nI a_st)) (ty := .int) (C := RX5) (T := TX5) (N := 5) hx hb hts hiX5 tyX5 tyX5_ok nmX5 hown hK hP hD hS 0 rfl rfl 4 (Nat.le_of_ble_eq_true rfl) fl35 (fun _ h9 => h9) rfl (by decide +kernel) rfl rfl (Nat.le_of_ble_eq_true rfl) dX5_blame_20 (fun H locs hP hD hS => ?_)
    have hP : va_P D vwCl [oq4 ee ee_tape ee_draft ee_to f (nI a_st), _] H := hP
    have hD : va_D A [oq4 ee ee_tape ee_draft ee_to f (nI a_st), _] := hD
    exact hs_vret hx hb hr hlocks hK hP hD hS (f, nI a_st) [0, 1] rfl (hs_upnd rfl) dX5_blame_23 (by rw [cBl, if_pos c_1])

set_option maxHeartbeats 4000000 in
set_option maxRecDepth 100000 in
theorem gf_blameFor (l : Launch) (D : va_G) (k : Nat → ClassId) (sz : Nat) (ee : Nat) (ee_tape : Nat) (ee_draft : Nat) (ee_to : Int32) (ee_fm : Int32) (ee_pl : Int32) (a_bytes : Nat) (a_len : Nat) (a_kd : Int32) (a_st : Nat) (a_be : Nat) (a_va : Int32) (f : Int32)  : MV l yX5_blameFor wsX5_blameFor ({ frames := 1, cells := 0, slots := 0, locals := 21 }) D k [.ref ee, .int f] [oq4 ee ee_tape ee_draft ee_to ee_fm ee_pl, oq3 ee_tape a_bytes (nI a_len) a_kd (nI a_st) (nI a_be) a_va] sz (fun (u : Int32 × Int32) => u = cBF ee_fm ee_pl a_kd f a_st) (fun (u : Int32 × Int32) => [oq4 ee ee_tape ee_draft ee_to u.1 u.2, oq3 ee_tape a_bytes (nI a_len) a_kd (nI a_st) (nI a_be) a_va]) := by
  refine Met.ofW (cc := cX5_blameFor) (maxL := 2) (ret := none) hpn_X5 rfl ?_
  intro p e s m args below meth c s₁ B hml hv
  obtain ⟨rfl, hsz, hP, hK, hD0, hN⟩ := hv
  have hx := B.exec
  have hb := B.bytes
  have hr := B.returns
  have hlocks := B.notSynchronized
  have hts := atoms_spec (ws := wsX5_blameFor) B.pre
  have hown := findClass_of_methodNamed B.named
  have hown : s.vm.findClass RX5 = some m.cls := hown
  have hiX4 : ∀ w ∈ u_ws RX4 TX4 6, w ∈ wsX5_blameFor := fun w9 hw9 => List.mem_cons_of_mem _ (igX4 w9 hw9)
  have hiX5 : ∀ w ∈ u_ws RX5 TX5 5, w ∈ wsX5_blameFor := fun w9 hw9 => List.mem_cons_of_mem _ (igX5 w9 hw9)
  have fl12 := hts (.fieldLink RX5 12 "HalfScales$Teller" "tape" "LHalfScales$Tape;") (List.mem_cons_of_mem _ (hs_inG 1 150 rfl rfl))
  have fl41 := hts (.fieldLink RX5 41 "HalfScales$Tape" "kind" "I") (List.mem_cons_of_mem _ (hs_inG 1 127 rfl rfl))
  subst hsz
  have hD := hD0.self (sz := s.heap.size)
  generalize hAe : va_A [oq4 ee ee_tape ee_draft ee_to ee_fm ee_pl, oq3 ee_tape a_bytes (nI a_len) a_kd (nI a_st) (nI a_be) a_va] s.heap.size = A at hD ⊢
  have hA : ∀ q : Nat, s.heap.size ≤ q → A q := fun q h => by rw [← hAe]; exact Or.inr h
  have hS : va_S A s.heap s.heap [] := va_S.rf
  have hl := lv_entry ([.ref ee, .int f]) (n := 2) (Nat.le_of_ble_eq_true rfl)
  rw [lg_entry_eq]
  generalize (lg_sl ([.ref ee, .int f]) ++ List.replicate (2 - (lg_sl ([.ref ee, .int f])).length) Slot.unset).toArray = ls at hl ⊢
  have hl : lv_has ls 2 [(0, .ref ee), (1, .int f)] := hl
  have hP : va_P D vwCl [oq4 ee ee_tape ee_draft ee_to ee_fm ee_pl, oq3 ee_tape a_bytes (nI a_len) a_kd (nI a_st) (nI a_be) a_va] s.heap := hP
  refine lv_aload_n hx hb dX5_blameFor_0 rfl (lv_at hl 0 rfl) ?_
  refine va_get (D := D) (ci := 4) (v := .ref ee_tape) (C := RX5) (T := TX5) (N := 5) hx hb hts hiX5 hown hK hP 0 rfl rfl 0 (Nat.le_of_ble_eq_true rfl) fl12 (fun _ h9 => h9) rfl dX5_blameFor_1 ?_
  refine va_get (D := D) (ci := 3) (v := .int a_kd) (C := RX4) (T := TX4) (N := 6) hx hb hts hiX4 hown hK hP 1 rfl rfl 2 (Nat.le_of_ble_eq_true rfl) fl41 (fun _ h9 => h9) rfl dX5_blameFor_4 ?_
  refine lv_iconst (v := 4) hx hb dX5_blameFor_7 hki_4 ?_
  refine lv_icmp_ne (tgt := 19) hx hb dX5_blameFor_8 rfl (fun c_1 => ?_) (fun c_1 => ?_)
  · refine lv_aload_n hx hb dX5_blameFor_19 rfl (lv_at hl 0 rfl) ?_
    refine va_get (D := D) (ci := 4) (v := .ref ee_tape) (C := RX5) (T := TX5) (N := 5) hx hb hts hiX5 hown hK hP 0 rfl rfl 0 (Nat.le_of_ble_eq_true rfl) fl12 (fun _ h9 => h9) rfl dX5_blameFor_20 ?_
    refine va_get (D := D) (ci := 3) (v := .int a_kd) (C := RX4) (T := TX4) (N := 6) hx hb hts hiX4 hown hK hP 1 rfl rfl 2 (Nat.le_of_ble_eq_true rfl) fl41 (fun _ h9 => h9) rfl dX5_blameFor_23 ?_
    refine lv_iload_n hx hb dX5_blameFor_26 rfl (lv_at hl 1 rfl) ?_
    refine lv_icmp_eq (tgt := 35) hx hb dX5_blameFor_27 rfl (fun c_2 => ?_) (fun c_2 => ?_)
    · exact hs_vret hx hb hr hlocks hK hP hD hS (ee_fm, ee_pl) [0, 1] rfl (hs_upnd rfl) dX5_blameFor_35 (by rw [cBF, if_neg c_1, if_pos c_2])
    · refine lv_aload_n hx hb dX5_blameFor_30 rfl (lv_at hl 0 rfl) ?_
      refine lv_iconst (v := 2) hx hb dX5_blameFor_31 hki_2 ?_
      refine hs_cvM (va_runV (As := [.int 2]) (rest := []) ⟨hx, hb, hml, hown, hts⟩ (gf_blame l D k _ ee ee_tape ee_draft ee_to ee_fm ee_pl a_bytes a_len a_kd a_st a_be a_va 2) (cwV 1 hts gX5_blameFor_X5_blame rfl rfl rfl ⟨rfl, hq_X5_blame⟩ ⟨Nat.le_of_ble_eq_true rfl, Nat.le_of_ble_eq_true rfl⟩) (hs_preV hK hN (hs_subP (w := [_, _]) hP [0, 1] rfl) (hD.sub (ws' := [_, _]) [0, 1] (hs_upnd rfl) rfl) (ci := 4) (q0 := 0) rfl rfl) rfl rfl hl.1 rfl (lv_room (Nat.le_of_ble_eq_true rfl)) dX5_blameFor_32 ⟨Nat.le_of_ble_eq_true rfl, Nat.le_of_ble_eq_true rfl⟩) hP hD hS hA [false, false] [] [_, _] rfl [0, 1] rfl [0, 1] (fun u_5 => [_, _]) (fun _ => rfl) (hs_upnd rfl) [false, false] (fun u_5 => [_, _]) (fun _ => rfl) (fun u_5 H locs hw_4 hP hD hS => ?_)
      have hw_4 : u_5 = cBl ee_fm ee_pl 2 a_st := hw_4
      subst hw_4
      exact hs_vret hx hb hr hlocks hK hP hD hS ((cBl ee_fm ee_pl 2 a_st).1, (cBl ee_fm ee_pl 2 a_st).2) [0, 1] rfl (hs_upnd rfl) dX5_blameFor_35 (by rw [cBF, if_neg c_1, if_neg c_2])
  · refine lv_aload_n hx hb dX5_blameFor_11 rfl (lv_at hl 0 rfl) ?_
    refine lv_iconst (v := 1) hx hb dX5_blameFor_12 hki_1 ?_
    refine hs_cvM (va_runV (As := [.int 1]) (rest := []) ⟨hx, hb, hml, hown, hts⟩ (gf_blame l D k _ ee ee_tape ee_draft ee_to ee_fm ee_pl a_bytes a_len a_kd a_st a_be a_va 1) (cwV 1 hts gX5_blameFor_X5_blame rfl rfl rfl ⟨rfl, hq_X5_blame⟩ ⟨Nat.le_of_ble_eq_true rfl, Nat.le_of_ble_eq_true rfl⟩) (hs_preV hK hN (hs_subP (w := [_, _]) hP [0, 1] rfl) (hD.sub (ws' := [_, _]) [0, 1] (hs_upnd rfl) rfl) (ci := 4) (q0 := 0) rfl rfl) rfl rfl hl.1 rfl (lv_room (Nat.le_of_ble_eq_true rfl)) dX5_blameFor_13 ⟨Nat.le_of_ble_eq_true rfl, Nat.le_of_ble_eq_true rfl⟩) hP hD hS hA [false, false] [] [_, _] rfl [0, 1] rfl [0, 1] (fun u_8 => [_, _]) (fun _ => rfl) (hs_upnd rfl) [false, false] (fun u_8 => [_, _]) (fun _ => rfl) (fun u_8 H locs hw_7 hP hD hS => ?_)
    have hw_7 : u_8 = cBl ee_fm ee_pl 1 a_st := hw_7
    subst hw_7
    refine lv_goto (tgt := 35) hx hb dX5_blameFor_16 rfl ?_
    exact hs_vret hx hb hr hlocks hK hP hD hS ((cBl ee_fm ee_pl 1 a_st).1, (cBl ee_fm ee_pl 1 a_st).2) [0, 1] rfl (hs_upnd rfl) dX5_blameFor_35 (by rw [cBF, if_pos c_1])

theorem cCl_step {f : Nat → Int32} {len n c : Nat} {w : Nat → Int32} {fm pl kd : Int32} {st be : Nat} {va : Int32} (h : fm = 0 ∧ (c < 2 ∨ kd = 2)) : cCl f len (n + 1) c w (fm, pl) (kd, st, be, va) = cCl f len n (c + 1) (upd w c (cTN f len fm pl kd st be va 0 9 (-4)).1) (cTN f len fm pl kd st be va 0 9 (-4)).2.1 (cTN f len fm pl kd st be va 0 9 (-4)).2.2 := by
  rw [cCl]
  exact if_pos h
theorem cCl_stop {f : Nat → Int32} {len n c : Nat} {w : Nat → Int32} {fm pl kd : Int32} {st be : Nat} {va : Int32} (h : n = 0 ∨ ¬ (fm = 0 ∧ (c < 2 ∨ kd = 2))) : cCl f len n c w (fm, pl) (kd, st, be, va) = (c, w, (fm, pl), (kd, st, be, va)) := by
  cases n with
  | zero => rfl
  | succ n =>
    rw [cCl]
    exact if_neg (h.resolve_left (Nat.succ_ne_zero n))
/-- all CELLS -/
def cTC (f : Nat → Int32) (len : Nat) (w : Nat → Int32) (fm pl kd : Int32) (st be : Nat) (va : Int32) : Nat × (Nat → Int32) × (Int32 × Int32) × (Int32 × Nat × Nat × Int32) :=
  ((cCl f len 8 0 w (fm, pl) (kd, st, be, va)).1, (cCl f len 8 0 w (fm, pl) (kd, st, be, va)).2.1, cCE (cCl f len 8 0 w (fm, pl) (kd, st, be, va)).2.2.1 (cCl f len 8 0 w (fm, pl) (kd, st, be, va)).2.2.2, (cCl f len 8 0 w (fm, pl) (kd, st, be, va)).2.2.2)
/-- two NUMBERS of a pair -/
def cTP (f : Nat → Int32) (len : Nat) (fm pl kd : Int32) (st be : Nat) (va : Int32) : Int32 × Int32 × (Int32 × Int32) × (Int32 × Nat × Nat × Int32) :=
  ((cTN f len fm pl kd st be va 0 4 (-4)).1,
   cTN f len (cTN f len fm pl kd st be va 0 4 (-4)).2.1.1 (cTN f len fm pl kd st be va 0 4 (-4)).2.1.2 (cTN f len fm pl kd st be va 0 4 (-4)).2.2.1 (cTN f len fm pl kd st be va 0 4 (-4)).2.2.2.1 (cTN f len fm pl kd st be va 0 4 (-4)).2.2.2.2.1 (cTN f len fm pl kd st be va 0 4 (-4)).2.2.2.2.2 0 4 (cTN f len fm pl kd st be va 0 4 (-4)).1)
theorem cCE_of {r b : Int32 × Int32} {c c2 : Nat} {w w2 : Nat → Int32} {t t2 : Int32 × Nat × Nat × Int32} {x : Nat × (Nat → Int32) × (Int32 × Int32) × (Int32 × Nat × Nat × Int32)} (e : x = (c2, w2, b, t2)) (h : (c, w, r, t) = (c2, w2, cCE b t2, t2)) : (c, w, r, t) = (x.1, x.2.1, cCE x.2.2.1 x.2.2.2, x.2.2.2) := by
  subst e
  exact h

set_option maxHeartbeats 4000000 in
set_option maxRecDepth 100000 in
theorem gf_takeNumber (l : Launch) (D : va_G) (k : Nat → ClassId) (sz : Nat) (ee : Nat) (ee_tape : Nat) (ee_draft : Nat) (ee_to : Int32) (ee_fm : Int32) (ee_pl : Int32) (a_bytes : Nat) (a_len : Nat) (a_kd : Int32) (a_st : Nat) (a_be : Nat) (a_va : Int32) (a_f : Nat → Int32) (lo : Nat) (hi : Nat) (un : Int32) (hl160 : a_len ≤ 160) (hsb0 : a_st ≤ a_be) (hbl0 : a_be ≤ a_len) (hlh : lo ≤ hi) (hhi : hi < 2 ^ 30) : MI l yX5_takeNumber wsX5_takeNumber ({ frames := 2, cells := 0, slots := 0, locals := 42 }) D k [.ref ee, .int (nI lo), .int (nI hi), .int un] [oq4 ee ee_tape ee_draft ee_to ee_fm ee_pl, oq3 ee_tape a_bytes (nI a_len) a_kd (nI a_st) (nI a_be) a_va, oqI k a_bytes 160 (a_f)] sz (fun (r : Int32) (u : Nat × (Int32 × Int32) × (Int32 × Nat × Nat × Int32)) => r = nI u.1 ∧ (nI u.1, u.2.1, u.2.2) = cTN a_f a_len ee_fm ee_pl a_kd a_st a_be a_va lo hi un ∧ lo ≤ u.1 ∧ u.1 ≤ hi ∧ u.2.2.2.1 ≤ u.2.2.2.2.1 ∧ u.2.2.2.2.1 ≤ a_len) (fun (u : Nat × (Int32 × Int32) × (Int32 × Nat × Nat × Int32)) => [oq4 ee ee_tape ee_draft ee_to u.2.1.1 u.2.1.2, oq3 ee_tape a_bytes (nI a_len) u.2.2.1 (nI (u.2.2.2.1)) (nI (u.2.2.2.2.1)) u.2.2.2.2.2, oqI k a_bytes 160 (a_f)]) := by
  refine Met.ofW (cc := cX5_takeNumber) (maxL := 5) (ret := (some .int)) hpn_X5 rfl ?_
  intro p e s m args below meth c s₁ B hml hv
  obtain ⟨rfl, hsz, hP, hK, hD0, hN⟩ := hv
  have hx := B.exec
  have hb := B.bytes
  have hr := B.returns
  have hlocks := B.notSynchronized
  have hts := atoms_spec (ws := wsX5_takeNumber) B.pre
  have hown := findClass_of_methodNamed B.named
  have hown : s.vm.findClass RX5 = some m.cls := hown
  have hiX4 : ∀ w ∈ u_ws RX4 TX4 6, w ∈ wsX5_takeNumber := fun w9 hw9 => List.mem_cons_of_mem _ (igX4 w9 hw9)
  have hiX5 : ∀ w ∈ u_ws RX5 TX5 5, w ∈ wsX5_takeNumber := fun w9 hw9 => List.mem_cons_of_mem _ (igX5 w9 hw9)
  have fl12 := hts (.fieldLink RX5 12 "HalfScales$Teller" "tape" "LHalfScales$Tape;") (List.mem_cons_of_mem _ (hs_inG 1 150 rfl rfl))
  have fl130 := hts (.fieldLink RX5 130 "HalfScales$Tape" "value" "I") (List.mem_cons_of_mem _ (hs_inG 1 133 rfl rfl))
  have fl32 := hts (.fieldLink RX5 32 "HalfScales$Teller" "faultMet" "I") (List.mem_cons_of_mem _ (hs_inG 1 155 rfl rfl))
  have iniX7 := hts (.initialized RX7) (List.mem_cons_of_mem _ (hs_inG 1 1 rfl rfl))
  have st_X7_within := hts (.static yX7_within) (List.mem_cons_of_mem _ (hs_inG 2 11 rfl rfl))
  subst hsz
  have hD := hD0.self (sz := s.heap.size)
  generalize hAe : va_A [oq4 ee ee_tape ee_draft ee_to ee_fm ee_pl, oq3 ee_tape a_bytes (nI a_len) a_kd (nI a_st) (nI a_be) a_va, oqI k a_bytes 160 (a_f)] s.heap.size = A at hD ⊢
  have hA : ∀ q : Nat, s.heap.size ≤ q → A q := fun q h => by rw [← hAe]; exact Or.inr h
  have hS : va_S A s.heap s.heap [] := va_S.rf
  have hl := lv_entry ([.ref ee, .int (nI lo), .int (nI hi), .int un]) (n := 5) (Nat.le_of_ble_eq_true rfl)
  rw [lg_entry_eq]
  generalize (lg_sl ([.ref ee, .int (nI lo), .int (nI hi), .int un]) ++ List.replicate (5 - (lg_sl ([.ref ee, .int (nI lo), .int (nI hi), .int un])).length) Slot.unset).toArray = ls at hl ⊢
  have hl : lv_has ls 5 [(0, .ref ee), (1, .int (nI lo)), (2, .int (nI hi)), (3, .int un)] := hl
  have hP : va_P D vwCl [oq4 ee ee_tape ee_draft ee_to ee_fm ee_pl, oq3 ee_tape a_bytes (nI a_len) a_kd (nI a_st) (nI a_be) a_va, oqI k a_bytes 160 (a_f)] s.heap := hP
  refine lv_aload_n hx hb dX5_takeNumber_0 rfl (lv_at hl 0 rfl) ?_
  refine lv_iconst (v := 2) hx hb dX5_takeNumber_1 hki_2 ?_
  refine hs_cvM (va_runV (As := [.int 2]) (rest := []) ⟨hx, hb, hml, hown, hts⟩ (gf_blameFor l D k _ ee ee_tape ee_draft ee_to ee_fm ee_pl a_bytes a_len a_kd a_st a_be a_va 2) (cwV 1 hts gX5_takeNumber_X5_blameFor rfl rfl rfl ⟨rfl, hq_X5_blameFor⟩ ⟨Nat.le_of_ble_eq_true rfl, Nat.le_of_ble_eq_true rfl⟩) (hs_preV hK hN (hs_subP (w := [_, _]) hP [0, 1] rfl) (hD.sub (ws' := [_, _]) [0, 1] (hs_upnd rfl) rfl) (ci := 4) (q0 := 0) rfl rfl) rfl rfl hl.1 rfl (lv_room (Nat.le_of_ble_eq_true rfl)) dX5_takeNumber_2 ⟨Nat.le_of_ble_eq_true rfl, Nat.le_of_ble_eq_true rfl⟩) hP hD hS hA [false, false, true] [_] [_, _] rfl [0, 1] rfl [0, 1] (fun u_3 => [_, _]) (fun _ => rfl) (hs_upnd rfl) [false, false, true] (fun u_3 => [_, _, _]) (fun _ => rfl) (fun u_3 H locs hw_2 hP hD hS => ?_)
  have hw_2 : u_3 = cBF ee_fm ee_pl a_kd 2 a_st := hw_2
  subst hw_2
  refine lv_aload_n hx hb dX5_takeNumber_5 rfl (lv_at hl 0 rfl) ?_
  refine va_get (D := D) (ci := 4) (v := .ref ee_tape) (C := RX5) (T := TX5) (N := 5) hx hb hts hiX5 hown hK hP 0 rfl rfl 0 (Nat.le_of_ble_eq_true rfl) fl12 (fun _ h9 => h9) rfl dX5_takeNumber_6 ?_
  refine va_get (D := D) (ci := 3) (v := .int a_va) (C := RX4) (T := TX4) (N := 6) hx hb hts hiX4 hown hK hP 1 rfl rfl 5 (Nat.le_of_ble_eq_true rfl) fl130 (fun _ h9 => h9) rfl dX5_takeNumber_9 ?_
  refine lv_iload_n hx hb dX5_takeNumber_12 rfl (lv_at hl 1 rfl) ?_
  refine lv_iload_n hx hb dX5_takeNumber_13 rfl (lv_at hl 2 rfl) ?_
  refine hs_pi (va_runSN (As := [.int a_va, .int (nI lo), .int (nI hi)]) (rest := []) ⟨hx, hb, hml, hown, hts⟩ (g_within l D k _ a_va (nI lo) (nI hi)) ⟨(va_cnB 3 hts gX5_takeNumber_X7_within_n137 rfl rfl rfl hN.2.2.2.2.2.1 iniX7 hq_X7_within ⟨Nat.le_of_ble_eq_true rfl, Nat.le_of_ble_eq_true rfl⟩), st_X7_within, trivial⟩ (hs_preS hK hN (hs_subP (w := []) hP [] rfl) (hD.sub (ws' := []) [] rfl rfl)) rfl rfl hl.1 rfl (lv_room (Nat.le_of_ble_eq_true rfl)) dX5_takeNumber_14 ⟨Nat.le_of_ble_eq_true rfl, Nat.le_of_ble_eq_true rfl⟩) hP hD hS hA (fun r_4 u_6 H locs hw_5 hP hS => ?_)
  refine hs_topi (hsb (hsin a_va (nI lo) (nI hi))) hw_5 ?_
  refine lv_if_eq (tgt := 31) hx hb dX5_takeNumber_17 rfl (fun c_7 => ?_) (fun c_7 => ?_)
  · refine lv_aload_n hx hb dX5_takeNumber_31 rfl (lv_at hl 0 rfl) ?_
    refine lv_iconst (v := 3) hx hb dX5_takeNumber_32 hki_3 ?_
    refine hs_cvM (va_runV (As := [.int 3]) (rest := []) ⟨hx, hb, hml, hown, hts⟩ (gf_blame l D k _ ee ee_tape ee_draft ee_to ((cBF ee_fm ee_pl a_kd 2 a_st).1) ((cBF ee_fm ee_pl a_kd 2 a_st).2) a_bytes a_len a_kd a_st a_be a_va 3) (cwV 1 hts gX5_takeNumber_X5_blame rfl rfl rfl ⟨rfl, hq_X5_blame⟩ ⟨Nat.le_of_ble_eq_true rfl, Nat.le_of_ble_eq_true rfl⟩) (hs_preV hK hN (hs_subP (w := [_, _]) hP [0, 1] rfl) (hD.sub (ws' := [_, _]) [0, 1] (hs_upnd rfl) rfl) (ci := 4) (q0 := 0) rfl rfl) rfl rfl hl.1 rfl (lv_room (Nat.le_of_ble_eq_true rfl)) dX5_takeNumber_33 ⟨Nat.le_of_ble_eq_true rfl, Nat.le_of_ble_eq_true rfl⟩) hP hD hS hA [false, false, true] [_] [_, _] rfl [0, 1] rfl [0, 1] (fun u_10 => [_, _]) (fun _ => rfl) (hs_upnd rfl) [false, false, true] (fun u_10 => [_, _, _]) (fun _ => rfl) (fun u_10 H locs hw_9 hP hD hS => ?_)
    have hw_9 : u_10 = cBl ((cBF ee_fm ee_pl a_kd 2 a_st).1) ((cBF ee_fm ee_pl a_kd 2 a_st).2) 3 a_st := hw_9
    subst hw_9
    refine lv_aload_n hx hb dX5_takeNumber_36 rfl (lv_at hl 0 rfl) ?_
    refine va_get (D := D) (ci := 4) (v := .int (cBl ((cBF ee_fm ee_pl a_kd 2 a_st).1) ((cBF ee_fm ee_pl a_kd 2 a_st).2) 3 a_st).1) (C := RX5) (T := TX5) (N := 5) hx hb hts hiX5 hown hK hP 0 rfl rfl 3 (Nat.le_of_ble_eq_true rfl) fl32 (fun _ h9 => h9) rfl dX5_takeNumber_37 ?_
    refine lv_if_eq (tgt := 45) hx hb dX5_takeNumber_40 rfl (fun c_11 => absurd c_11 (cBl_ne (by decide))) (fun c_11 => ?_)
    refine lv_iload_n hx hb dX5_takeNumber_43 rfl (lv_at hl 1 rfl) ?_
    exact hs_iret hx hb hr hlocks hK hP hD hS (lo, ((cBl ((cBF ee_fm ee_pl a_kd 2 a_st).1) ((cBF ee_fm ee_pl a_kd 2 a_st).2) 3 a_st).1, (cBl ((cBF ee_fm ee_pl a_kd 2 a_st).1) ((cBF ee_fm ee_pl a_kd 2 a_st).2) 3 a_st).2), (a_kd, a_st, a_be, a_va)) [0, 1, 2] rfl (hs_upnd rfl) dX5_takeNumber_44 (⟨rfl, (by have e9 : cLk ee_fm ee_pl a_kd a_st a_va lo hi un = cBl (cBF ee_fm ee_pl a_kd 2 a_st).1 (cBF ee_fm ee_pl a_kd 2 a_st).2 3 a_st := if_neg (fun z9 => absurd z9.1 (by rw [hs_n0 c_7]; decide)); rw [cTN_no (by rw [e9]; exact cBl_ne (by decide)), e9]), by (try dsimp only); omega, by (try dsimp only); omega, by (try dsimp only); omega, by (try dsimp only); omega⟩)
  · obtain ⟨j_12, hj_12, hj_12b, rfl⟩ := hs_rng (by omega) (by omega) (hs_nb c_7)
    refine lv_aload_n hx hb dX5_takeNumber_20 rfl (lv_at hl 0 rfl) ?_
    refine va_get (D := D) (ci := 4) (v := .ref ee_tape) (C := RX5) (T := TX5) (N := 5) hx hb hts hiX5 hown hK hP 0 rfl rfl 0 (Nat.le_of_ble_eq_true rfl) fl12 (fun _ h9 => h9) rfl dX5_takeNumber_21 ?_
    refine va_get (D := D) (ci := 3) (v := .int (nI j_12)) (C := RX4) (T := TX4) (N := 6) hx hb hts hiX4 hown hK hP 1 rfl rfl 5 (Nat.le_of_ble_eq_true rfl) fl130 (fun _ h9 => h9) rfl dX5_takeNumber_24 ?_
    refine lv_iload_n hx hb dX5_takeNumber_27 rfl (lv_at hl 3 rfl) ?_
    refine lv_icmp_ne (tgt := 36) hx hb dX5_takeNumber_28 rfl (fun c_13 => ?_) (fun c_13 => ?_)
    · refine lv_aload_n hx hb dX5_takeNumber_36 rfl (lv_at hl 0 rfl) ?_
      refine va_get (D := D) (ci := 4) (v := .int (cBF ee_fm ee_pl a_kd 2 a_st).1) (C := RX5) (T := TX5) (N := 5) hx hb hts hiX5 hown hK hP 0 rfl rfl 3 (Nat.le_of_ble_eq_true rfl) fl32 (fun _ h9 => h9) rfl dX5_takeNumber_37 ?_
      refine lv_if_eq (tgt := 45) hx hb dX5_takeNumber_40 rfl (fun c_14 => ?_) (fun c_14 => ?_)
      · refine lv_aload_n hx hb dX5_takeNumber_45 rfl (lv_at hl 0 rfl) ?_
        refine va_get (D := D) (ci := 4) (v := .ref ee_tape) (C := RX5) (T := TX5) (N := 5) hx hb hts hiX5 hown hK hP 0 rfl rfl 0 (Nat.le_of_ble_eq_true rfl) fl12 (fun _ h9 => h9) rfl dX5_takeNumber_46 ?_
        refine va_get (D := D) (ci := 3) (v := .int (nI j_12)) (C := RX4) (T := TX4) (N := 6) hx hb hts hiX4 hown hK hP 1 rfl rfl 5 (Nat.le_of_ble_eq_true rfl) fl130 (fun _ h9 => h9) rfl dX5_takeNumber_49 ?_
        refine lv_istore (lv' := [(4, .int (nI j_12)), (0, .ref ee), (1, .int (nI lo)), (2, .int (nI hi)), (3, .int un)]) hx hb dX5_takeNumber_52 hl (Nat.le_of_ble_eq_true rfl) rfl (fun ls hl => ?_)
        refine lv_aload_n hx hb dX5_takeNumber_54 rfl (lv_at hl 1 rfl) ?_
        refine va_get (D := D) (ci := 4) (v := .ref ee_tape) (C := RX5) (T := TX5) (N := 5) hx hb hts hiX5 hown hK hP 0 rfl rfl 0 (Nat.le_of_ble_eq_true rfl) fl12 (fun _ h9 => h9) rfl dX5_takeNumber_55 ?_
        refine hs_cvM (va_runV (As := []) (rest := []) ⟨hx, hb, hml, hown, hts⟩ (gf_advance l D k _ ee_tape a_bytes a_len a_kd a_st a_be (nI j_12) a_f (by omega) (by omega)) (cwV 0 hts gX5_takeNumber_X4_advance rfl rfl rfl ⟨rfl, hq_X4_advance⟩ ⟨Nat.le_of_ble_eq_true rfl, Nat.le_of_ble_eq_true rfl⟩) (hs_preV hK hN (hs_subP (w := [_, _]) hP [1, 2] rfl) (hD.sub (ws' := [_, _]) [1, 2] (hs_upnd rfl) rfl) (ci := 3) (q0 := 0) rfl rfl) rfl rfl hl.1 rfl (lv_room (Nat.le_of_ble_eq_true rfl)) dX5_takeNumber_58 ⟨Nat.le_of_ble_eq_true rfl, Nat.le_of_ble_eq_true rfl⟩) hP hD hS hA [true, false, false] [_] [_, _] rfl [0, 1] rfl [0, 1] (fun u_17 => [_, _]) (fun _ => rfl) (hs_upnd rfl) [true, false, false] (fun u_17 => [_, _, _]) (fun _ => rfl) (fun u_17 H locs hw_16 hP hD hS => ?_)
        have hw_16 : u_17 = htok a_f a_len a_be ∧ u_17.2.1 ≤ u_17.2.2.1 ∧ u_17.2.2.1 ≤ a_len := hw_16
        obtain ⟨rfl, hw_16⟩ := hw_16
        refine lv_iload hx hb dX5_takeNumber_61 (lv_at hl 0 rfl) ?_
        exact hs_iret hx hb hr hlocks hK hP hD hS (j_12, ((cBF ee_fm ee_pl a_kd 2 a_st).1, (cBF ee_fm ee_pl a_kd 2 a_st).2), ((htok a_f a_len a_be).1, (htok a_f a_len a_be).2.1, (htok a_f a_len a_be).2.2.1, (htok a_f a_len a_be).2.2.2)) [0, 1, 2] rfl (hs_upnd rfl) dX5_takeNumber_63 (⟨rfl, (by have e9 : cLk ee_fm ee_pl a_kd a_st (nI j_12) lo hi un = cBF ee_fm ee_pl a_kd 2 a_st := if_pos (⟨hs_nb c_7, c_13⟩ : _ ∧ _); rw [cTN_yes (by rw [e9]; exact c_14), e9]), by (try dsimp only); omega, by (try dsimp only); omega, by (try dsimp only); omega, by (try dsimp only); omega⟩)
      · refine lv_iload_n hx hb dX5_takeNumber_43 rfl (lv_at hl 1 rfl) ?_
        exact hs_iret hx hb hr hlocks hK hP hD hS (lo, ((cBF ee_fm ee_pl a_kd 2 a_st).1, (cBF ee_fm ee_pl a_kd 2 a_st).2), (a_kd, a_st, a_be, nI j_12)) [0, 1, 2] rfl (hs_upnd rfl) dX5_takeNumber_44 (⟨rfl, (by have e9 : cLk ee_fm ee_pl a_kd a_st (nI j_12) lo hi un = cBF ee_fm ee_pl a_kd 2 a_st := if_pos (⟨hs_nb c_7, c_13⟩ : _ ∧ _); rw [cTN_no (by rw [e9]; exact c_14), e9]), by (try dsimp only); omega, by (try dsimp only); omega, by (try dsimp only); omega, by (try dsimp only); omega⟩)
    · refine lv_aload_n hx hb dX5_takeNumber_31 rfl (lv_at hl 0 rfl) ?_
      refine lv_iconst (v := 3) hx hb dX5_takeNumber_32 hki_3 ?_
      refine hs_cvM (va_runV (As := [.int 3]) (rest := []) ⟨hx, hb, hml, hown, hts⟩ (gf_blame l D k _ ee ee_tape ee_draft ee_to ((cBF ee_fm ee_pl a_kd 2 a_st).1) ((cBF ee_fm ee_pl a_kd 2 a_st).2) a_bytes a_len a_kd a_st a_be (nI j_12) 3) (cwV 1 hts gX5_takeNumber_X5_blame rfl rfl rfl ⟨rfl, hq_X5_blame⟩ ⟨Nat.le_of_ble_eq_true rfl, Nat.le_of_ble_eq_true rfl⟩) (hs_preV hK hN (hs_subP (w := [_, _]) hP [0, 1] rfl) (hD.sub (ws' := [_, _]) [0, 1] (hs_upnd rfl) rfl) (ci := 4) (q0 := 0) rfl rfl) rfl rfl hl.1 rfl (lv_room (Nat.le_of_ble_eq_true rfl)) dX5_takeNumber_33 ⟨Nat.le_of_ble_eq_true rfl, Nat.le_of_ble_eq_true rfl⟩) hP hD hS hA [false, false, true] [_] [_, _] rfl [0, 1] rfl [0, 1] (fun u_20 => [_, _]) (fun _ => rfl) (hs_upnd rfl) [false, false, true] (fun u_20 => [_, _, _]) (fun _ => rfl) (fun u_20 H locs hw_19 hP hD hS => ?_)
      have hw_19 : u_20 = cBl ((cBF ee_fm ee_pl a_kd 2 a_st).1) ((cBF ee_fm ee_pl a_kd 2 a_st).2) 3 a_st := hw_19
      subst hw_19
      refine lv_aload_n hx hb dX5_takeNumber_36 rfl (lv_at hl 0 rfl) ?_
      refine va_get (D := D) (ci := 4) (v := .int (cBl ((cBF ee_fm ee_pl a_kd 2 a_st).1) ((cBF ee_fm ee_pl a_kd 2 a_st).2) 3 a_st).1) (C := RX5) (T := TX5) (N := 5) hx hb hts hiX5 hown hK hP 0 rfl rfl 3 (Nat.le_of_ble_eq_true rfl) fl32 (fun _ h9 => h9) rfl dX5_takeNumber_37 ?_
      refine lv_if_eq (tgt := 45) hx hb dX5_takeNumber_40 rfl (fun c_21 => absurd c_21 (cBl_ne (by decide))) (fun c_21 => ?_)
      refine lv_iload_n hx hb dX5_takeNumber_43 rfl (lv_at hl 1 rfl) ?_
      exact hs_iret hx hb hr hlocks hK hP hD hS (lo, ((cBl ((cBF ee_fm ee_pl a_kd 2 a_st).1) ((cBF ee_fm ee_pl a_kd 2 a_st).2) 3 a_st).1, (cBl ((cBF ee_fm ee_pl a_kd 2 a_st).1) ((cBF ee_fm ee_pl a_kd 2 a_st).2) 3 a_st).2), (a_kd, a_st, a_be, nI j_12)) [0, 1, 2] rfl (hs_upnd rfl) dX5_takeNumber_44 (⟨rfl, (by have e9 : cLk ee_fm ee_pl a_kd a_st (nI j_12) lo hi un = cBl (cBF ee_fm ee_pl a_kd 2 a_st).1 (cBF ee_fm ee_pl a_kd 2 a_st).2 3 a_st := if_neg (fun z9 => z9.2 c_13); rw [cTN_no (by rw [e9]; exact cBl_ne (by decide)), e9]), by (try dsimp only); omega, by (try dsimp only); omega, by (try dsimp only); omega, by (try dsimp only); omega⟩)

set_option maxHeartbeats 4000000 in
set_option maxRecDepth 100000 in
theorem gf_takeMark (l : Launch) (D : va_G) (k : Nat → ClassId) (sz : Nat) (ee : Nat) (ee_tape : Nat) (ee_draft : Nat) (ee_to : Int32) (ee_fm : Int32) (ee_pl : Int32) (a_bytes : Nat) (a_len : Nat) (a_kd : Int32) (a_st : Nat) (a_be : Nat) (a_va : Int32) (a_f : Nat → Int32) (hl160 : a_len ≤ 160) (hsb0 : a_st ≤ a_be) (hbl0 : a_be ≤ a_len) : MV l yX5_takeMark wsX5_takeMark ({ frames := 2, cells := 0, slots := 0, locals := 42 }) D k [.ref ee] [oq4 ee ee_tape ee_draft ee_to ee_fm ee_pl, oq3 ee_tape a_bytes (nI a_len) a_kd (nI a_st) (nI a_be) a_va, oqI k a_bytes 160 (a_f)] sz (fun (u : (Int32 × Int32) × (Int32 × Nat × Nat × Int32)) => u = cTM a_f a_len ee_fm ee_pl a_kd a_st a_be a_va ∧ u.2.2.1 ≤ u.2.2.2.1 ∧ u.2.2.2.1 ≤ a_len) (fun (u : (Int32 × Int32) × (Int32 × Nat × Nat × Int32)) => [oq4 ee ee_tape ee_draft ee_to u.1.1 u.1.2, oq3 ee_tape a_bytes (nI a_len) u.2.1 (nI (u.2.2.1)) (nI (u.2.2.2.1)) u.2.2.2.2, oqI k a_bytes 160 (a_f)]) := by
  refine Met.ofW (cc := cX5_takeMark) (maxL := 1) (ret := none) hpn_X5 rfl ?_
  intro p e s m args below meth c s₁ B hml hv
  obtain ⟨rfl, hsz, hP, hK, hD0, hN⟩ := hv
  have hx := B.exec
  have hb := B.bytes
  have hr := B.returns
  have hlocks := B.notSynchronized
  have hts := atoms_spec (ws := wsX5_takeMark) B.pre
  have hown := findClass_of_methodNamed B.named
  have hown : s.vm.findClass RX5 = some m.cls := hown
  have hiX5 : ∀ w ∈ u_ws RX5 TX5 5, w ∈ wsX5_takeMark := fun w9 hw9 => List.mem_cons_of_mem _ (igX5 w9 hw9)
  have fl32 := hts (.fieldLink RX5 32 "HalfScales$Teller" "faultMet" "I") (List.mem_cons_of_mem _ (hs_inG 1 155 rfl rfl))
  have fl12 := hts (.fieldLink RX5 12 "HalfScales$Teller" "tape" "LHalfScales$Tape;") (List.mem_cons_of_mem _ (hs_inG 1 150 rfl rfl))
  subst hsz
  have hD := hD0.self (sz := s.heap.size)
  generalize hAe : va_A [oq4 ee ee_tape ee_draft ee_to ee_fm ee_pl, oq3 ee_tape a_bytes (nI a_len) a_kd (nI a_st) (nI a_be) a_va, oqI k a_bytes 160 (a_f)] s.heap.size = A at hD ⊢
  have hA : ∀ q : Nat, s.heap.size ≤ q → A q := fun q h => by rw [← hAe]; exact Or.inr h
  have hS : va_S A s.heap s.heap [] := va_S.rf
  have hl := lv_entry ([.ref ee]) (n := 1) (Nat.le_of_ble_eq_true rfl)
  rw [lg_entry_eq]
  generalize (lg_sl ([.ref ee]) ++ List.replicate (1 - (lg_sl ([.ref ee])).length) Slot.unset).toArray = ls at hl ⊢
  have hl : lv_has ls 1 [(0, .ref ee)] := hl
  have hP : va_P D vwCl [oq4 ee ee_tape ee_draft ee_to ee_fm ee_pl, oq3 ee_tape a_bytes (nI a_len) a_kd (nI a_st) (nI a_be) a_va, oqI k a_bytes 160 (a_f)] s.heap := hP
  refine lv_aload_n hx hb dX5_takeMark_0 rfl (lv_at hl 0 rfl) ?_
  refine lv_iconst (v := 3) hx hb dX5_takeMark_1 hki_3 ?_
  refine hs_cvM (va_runV (As := [.int 3]) (rest := []) ⟨hx, hb, hml, hown, hts⟩ (gf_blameFor l D k _ ee ee_tape ee_draft ee_to ee_fm ee_pl a_bytes a_len a_kd a_st a_be a_va 3) (cwV 1 hts gX5_takeMark_X5_blameFor rfl rfl rfl ⟨rfl, hq_X5_blameFor⟩ ⟨Nat.le_of_ble_eq_true rfl, Nat.le_of_ble_eq_true rfl⟩) (hs_preV hK hN (hs_subP (w := [_, _]) hP [0, 1] rfl) (hD.sub (ws' := [_, _]) [0, 1] (hs_upnd rfl) rfl) (ci := 4) (q0 := 0) rfl rfl) rfl rfl hl.1 rfl (lv_room (Nat.le_of_ble_eq_true rfl)) dX5_takeMark_2 ⟨Nat.le_of_ble_eq_true rfl, Nat.le_of_ble_eq_true rfl⟩) hP hD hS hA [false, false, true] [_] [_, _] rfl [0, 1] rfl [0, 1] (fun u_3 => [_, _]) (fun _ => rfl) (hs_upnd rfl) [false, false, true] (fun u_3 => [_, _, _]) (fun _ => rfl) (fun u_3 H locs hw_2 hP hD hS => ?_)
  have hw_2 : u_3 = cBF ee_fm ee_pl a_kd 3 a_st := hw_2
  subst hw_2
  refine lv_aload_n hx hb dX5_takeMark_5 rfl (lv_at hl 0 rfl) ?_
  refine va_get (D := D) (ci := 4) (v := .int (cBF ee_fm ee_pl a_kd 3 a_st).1) (C := RX5) (T := TX5) (N := 5) hx hb hts hiX5 hown hK hP 0 rfl rfl 3 (Nat.le_of_ble_eq_true rfl) fl32 (fun _ h9 => h9) rfl dX5_takeMark_6 ?_
  refine lv_if_ne (tgt := 19) hx hb dX5_takeMark_9 rfl (fun c_4 => ?_) (fun c_4 => ?_)
  · exact hs_vret hx hb hr hlocks hK hP hD hS (((cBF ee_fm ee_pl a_kd 3 a_st).1, (cBF ee_fm ee_pl a_kd 3 a_st).2), (a_kd, a_st, a_be, a_va)) [0, 1, 2] rfl (hs_upnd rfl) dX5_takeMark_19 (⟨by rw [cTM, if_neg c_4], by (try dsimp only); omega, by (try dsimp only); omega⟩)
  · refine lv_aload_n hx hb dX5_takeMark_12 rfl (lv_at hl 0 rfl) ?_
    refine va_get (D := D) (ci := 4) (v := .ref ee_tape) (C := RX5) (T := TX5) (N := 5) hx hb hts hiX5 hown hK hP 0 rfl rfl 0 (Nat.le_of_ble_eq_true rfl) fl12 (fun _ h9 => h9) rfl dX5_takeMark_13 ?_
    refine hs_cvM (va_runV (As := []) (rest := []) ⟨hx, hb, hml, hown, hts⟩ (gf_advance l D k _ ee_tape a_bytes a_len a_kd a_st a_be a_va a_f (by omega) (by omega)) (cwV 0 hts gX5_takeMark_X4_advance rfl rfl rfl ⟨rfl, hq_X4_advance⟩ ⟨Nat.le_of_ble_eq_true rfl, Nat.le_of_ble_eq_true rfl⟩) (hs_preV hK hN (hs_subP (w := [_, _]) hP [1, 2] rfl) (hD.sub (ws' := [_, _]) [1, 2] (hs_upnd rfl) rfl) (ci := 3) (q0 := 0) rfl rfl) rfl rfl hl.1 rfl (lv_room (Nat.le_of_ble_eq_true rfl)) dX5_takeMark_16 ⟨Nat.le_of_ble_eq_true rfl, Nat.le_of_ble_eq_true rfl⟩) hP hD hS hA [true, false, false] [_] [_, _] rfl [0, 1] rfl [0, 1] (fun u_7 => [_, _]) (fun _ => rfl) (hs_upnd rfl) [true, false, false] (fun u_7 => [_, _, _]) (fun _ => rfl) (fun u_7 H locs hw_6 hP hD hS => ?_)
    have hw_6 : u_7 = htok a_f a_len a_be ∧ u_7.2.1 ≤ u_7.2.2.1 ∧ u_7.2.2.1 ≤ a_len := hw_6
    obtain ⟨rfl, hw_6⟩ := hw_6
    exact hs_vret hx hb hr hlocks hK hP hD hS (((cBF ee_fm ee_pl a_kd 3 a_st).1, (cBF ee_fm ee_pl a_kd 3 a_st).2), ((htok a_f a_len a_be).1, (htok a_f a_len a_be).2.1, (htok a_f a_len a_be).2.2.1, (htok a_f a_len a_be).2.2.2)) [0, 1, 2] rfl (hs_upnd rfl) dX5_takeMark_19 (⟨by rw [cTM, if_pos c_4], by (try dsimp only); omega, by (try dsimp only); omega⟩)

set_option maxHeartbeats 4000000 in
set_option maxRecDepth 100000 in
theorem gf_takeCells (l : Launch) (D : va_G) (k : Nat → ClassId) (sz : Nat) (ee : Nat) (ee_tape : Nat) (ee_draft : Nat) (ee_to : Int32) (ee_fm : Int32) (ee_pl : Int32) (a_bytes : Nat) (a_len : Nat) (a_kd : Int32) (a_st : Nat) (a_be : Nat) (a_va : Int32) (a_f : Nat → Int32) (d_a : Nat → Nat) (d_N : Nat → Nat) (d_J : Nat → Int32) (d_F : Nat → Nat → Int32) (hl160 : a_len ≤ 160) (hsb0 : a_st ≤ a_be) (hbl0 : a_be ≤ a_len) : MV l yX5_takeCells wsX5_takeCells ({ frames := 3, cells := 0, slots := 0, locals := 66 }) D k [.ref ee] [oq4 ee ee_tape ee_draft ee_to ee_fm ee_pl, oq3 ee_tape a_bytes (nI a_len) a_kd (nI a_st) (nI a_be) a_va, oqI k a_bytes 160 (a_f), oqT ee_draft d_a d_N d_J, oqF0 k d_a d_F, oqF1 k d_a d_F, oqF2 k d_a d_F, oqF3 k d_a d_F, oqF4 k d_a d_F, oqF5 k d_a d_F, oqF6 k d_a d_F] sz (fun (u : (Nat × (Nat → Int32)) × (Int32 × Int32) × (Int32 × Nat × Nat × Int32)) => (u.1.1, u.1.2, u.2.1, u.2.2) = cTC a_f a_len (d_F 0) ee_fm ee_pl a_kd a_st a_be a_va ∧ u.1.1 ≤ 8 ∧ u.2.2.2.1 ≤ u.2.2.2.2.1 ∧ u.2.2.2.2.1 ≤ a_len) (fun (u : (Nat × (Nat → Int32)) × (Int32 × Int32) × (Int32 × Nat × Nat × Int32)) => [oq4 ee ee_tape ee_draft ee_to u.2.1.1 u.2.1.2, oq3 ee_tape a_bytes (nI a_len) u.2.2.1 (nI (u.2.2.2.1)) (nI (u.2.2.2.2.1)) u.2.2.2.2.2, oqI k a_bytes 160 (a_f), oq5 ee_draft (d_a 0) (d_a 1) (d_a 2) (d_a 3) (d_a 4) (d_a 5) (d_a 6) (nI (u.1.1)) (nI (d_N 1)) (d_J 0) (d_J 1) (d_J 2) (nI (d_N 2)) (nI (d_N 3)) (nI (d_N 4)), oqI k (d_a 0) 8 (u.1.2), oqF1 k d_a d_F, oqF2 k d_a d_F, oqF3 k d_a d_F, oqF4 k d_a d_F, oqF5 k d_a d_F, oqF6 k d_a d_F]) := by
  refine Met.ofW (cc := cX5_takeCells) (maxL := 1) (ret := none) hpn_X5 rfl ?_
  intro p e s m args below meth c s₁ B hml hv
  obtain ⟨rfl, hsz, hP, hK, hD0, hN⟩ := hv
  have hx := B.exec
  have hb := B.bytes
  have hr := B.returns
  have hlocks := B.notSynchronized
  have hts := atoms_spec (ws := wsX5_takeCells) B.pre
  have hown := findClass_of_methodNamed B.named
  have hown : s.vm.findClass RX5 = some m.cls := hown
  have hiX4 : ∀ w ∈ u_ws RX4 TX4 6, w ∈ wsX5_takeCells := fun w9 hw9 => List.mem_cons_of_mem _ (igX4 w9 hw9)
  have hiX5 : ∀ w ∈ u_ws RX5 TX5 5, w ∈ wsX5_takeCells := fun w9 hw9 => List.mem_cons_of_mem _ (igX5 w9 hw9)
  have hiX6 : ∀ w ∈ u_ws RX6 TX6 15, w ∈ wsX5_takeCells := fun w9 hw9 => List.mem_cons_of_mem _ (igX6 w9 hw9)
  have fl21 := hts (.fieldLink RX5 21 "HalfScales$Teller" "draft" "LHalfScales$Thing;") (List.mem_cons_of_mem _ (hs_inG 1 152 rfl rfl))
  have fl123 := hts (.fieldLink RX5 123 "HalfScales$Thing" "cellCount" "I") (List.mem_cons_of_mem _ (hs_inG 1 54 rfl rfl))
  have fl12 := hts (.fieldLink RX5 12 "HalfScales$Teller" "tape" "LHalfScales$Tape;") (List.mem_cons_of_mem _ (hs_inG 1 150 rfl rfl))
  have fl41 := hts (.fieldLink RX5 41 "HalfScales$Tape" "kind" "I") (List.mem_cons_of_mem _ (hs_inG 1 127 rfl rfl))
  have fl130 := hts (.fieldLink RX5 130 "HalfScales$Tape" "value" "I") (List.mem_cons_of_mem _ (hs_inG 1 133 rfl rfl))
  have fl32 := hts (.fieldLink RX5 32 "HalfScales$Teller" "faultMet" "I") (List.mem_cons_of_mem _ (hs_inG 1 155 rfl rfl))
  have fl126 := hts (.fieldLink RX5 126 "HalfScales$Thing" "weights" "[I") (List.mem_cons_of_mem _ (hs_inG 1 37 rfl rfl))
  subst hsz
  have hD := hD0.self (sz := s.heap.size)
  generalize hAe : va_A [oq4 ee ee_tape ee_draft ee_to ee_fm ee_pl, oq3 ee_tape a_bytes (nI a_len) a_kd (nI a_st) (nI a_be) a_va, oqI k a_bytes 160 (a_f), oqT ee_draft d_a d_N d_J, oqF0 k d_a d_F, oqF1 k d_a d_F, oqF2 k d_a d_F, oqF3 k d_a d_F, oqF4 k d_a d_F, oqF5 k d_a d_F, oqF6 k d_a d_F] s.heap.size = A at hD ⊢
  have hA : ∀ q : Nat, s.heap.size ≤ q → A q := fun q h => by rw [← hAe]; exact Or.inr h
  have hS : va_S A s.heap s.heap [] := va_S.rf
  have hl := lv_entry ([.ref ee]) (n := 1) (Nat.le_of_ble_eq_true rfl)
  rw [lg_entry_eq]
  generalize (lg_sl ([.ref ee]) ++ List.replicate (1 - (lg_sl ([.ref ee])).length) Slot.unset).toArray = ls at hl ⊢
  have hl : lv_has ls 1 [(0, .ref ee)] := hl
  have hP : va_P D vwCl [oq4 ee ee_tape ee_draft ee_to ee_fm ee_pl, oq3 ee_tape a_bytes (nI a_len) a_kd (nI a_st) (nI a_be) a_va, oqI k a_bytes 160 (a_f), oqT ee_draft d_a d_N d_J, oqF0 k d_a d_F, oqF1 k d_a d_F, oqF2 k d_a d_F, oqF3 k d_a d_F, oqF4 k d_a d_F, oqF5 k d_a d_F, oqF6 k d_a d_F] s.heap := hP
  refine lv_aload_n hx hb dX5_takeCells_0 rfl (lv_at hl 0 rfl) ?_
  refine va_get (D := D) (ci := 4) (v := .ref ee_draft) (C := RX5) (T := TX5) (N := 5) hx hb hts hiX5 hown hK hP 0 rfl rfl 1 (Nat.le_of_ble_eq_true rfl) fl21 (fun _ h9 => h9) rfl dX5_takeCells_1 ?_
  refine lv_iconst (v := 0) hx hb dX5_takeCells_4 hki_0 ?_
  refine va_put (D := D) (ci := 5) (v := .int 0) (ty := .int) (C := RX6) (T := TX6) (N := 15) hx hb hts hiX6 tyX6 tyX6_ok nmX6 hown hK hP hD hS 3 rfl rfl 7 (Nat.le_of_ble_eq_true rfl) fl123 (fun _ h9 => h9) rfl (by decide +kernel) rfl rfl (Nat.le_of_ble_eq_true rfl) dX5_takeCells_5 (fun H locs hP hD hS => ?_)
  have hP : va_P D vwCl [oq4 ee ee_tape ee_draft ee_to ee_fm ee_pl, oq3 ee_tape a_bytes (nI a_len) a_kd (nI a_st) (nI a_be) a_va, oqI k a_bytes 160 (a_f), oq5 ee_draft (d_a 0) (d_a 1) (d_a 2) (d_a 3) (d_a 4) (d_a 5) (d_a 6) 0 (nI (d_N 1)) (d_J 0) (d_J 1) (d_J 2) (nI (d_N 2)) (nI (d_N 3)) (nI (d_N 4)), oqF0 k d_a d_F, oqF1 k d_a d_F, oqF2 k d_a d_F, oqF3 k d_a d_F, oqF4 k d_a d_F, oqF5 k d_a d_F, oqF6 k d_a d_F] H := hP
  have hD : va_D A [oq4 ee ee_tape ee_draft ee_to ee_fm ee_pl, oq3 ee_tape a_bytes (nI a_len) a_kd (nI a_st) (nI a_be) a_va, oqI k a_bytes 160 (a_f), oq5 ee_draft (d_a 0) (d_a 1) (d_a 2) (d_a 3) (d_a 4) (d_a 5) (d_a 6) 0 (nI (d_N 1)) (d_J 0) (d_J 1) (d_J 2) (nI (d_N 2)) (nI (d_N 3)) (nI (d_N 4)), oqF0 k d_a d_F, oqF1 k d_a d_F, oqF2 k d_a d_F, oqF3 k d_a d_F, oqF4 k d_a d_F, oqF5 k d_a d_F, oqF6 k d_a d_F] := hD
  refine hs_while (σ := (Nat → Int32) × Nat × Int32 × Int32 × Int32 × Nat × Nat × Int32) (fun x => x.2.1 ≤ 8 ∧ x.2.2.2.2.2.1 ≤ x.2.2.2.2.2.2.1 ∧ x.2.2.2.2.2.2.1 ≤ a_len ∧ cCl a_f a_len (8 - x.2.1) x.2.1 x.1 (x.2.2.1, x.2.2.2.1) (x.2.2.2.2.1, x.2.2.2.2.2.1, x.2.2.2.2.2.2.1, x.2.2.2.2.2.2.2) = cCl a_f a_len 8 0 (d_F 0) (ee_fm, ee_pl) (a_kd, a_st, a_be, a_va)) (fun x => 8 - x.2.1) (fun x => [oq4 ee ee_tape ee_draft ee_to (x.2.2.1) (x.2.2.2.1), oq3 ee_tape a_bytes (nI a_len) (x.2.2.2.2.1) (nI (x.2.2.2.2.2.1)) (nI (x.2.2.2.2.2.2.1)) (x.2.2.2.2.2.2.2), oqI k a_bytes 160 (a_f), oq5 ee_draft (d_a 0) (d_a 1) (d_a 2) (d_a 3) (d_a 4) (d_a 5) (d_a 6) (nI (x.2.1)) (nI (d_N 1)) (d_J 0) (d_J 1) (d_J 2) (nI (d_N 2)) (nI (d_N 3)) (nI (d_N 4)), oqI k (d_a 0) 8 ((x.1)), oqF1 k d_a d_F, oqF2 k d_a d_F, oqF3 k d_a d_F, oqF4 k d_a d_F, oqF5 k d_a d_F, oqF6 k d_a d_F]) (fun x => [(0, .ref ee)]) ?_ (d_F 0, 0, ee_fm, ee_pl, a_kd, a_st, a_be, a_va) ?_ hP hD hS hl
  · intro x hI ih8 H locs ls hP hD hS hl
    obtain ⟨wf, cx, fx, px, kx, sx, bx, vx⟩ := x
    try dsimp only at hI
    have hP : va_P D vwCl [oq4 ee ee_tape ee_draft ee_to fx px, oq3 ee_tape a_bytes (nI a_len) kx (nI sx) (nI bx) vx, _, oq5 ee_draft (d_a 0) (d_a 1) (d_a 2) (d_a 3) (d_a 4) (d_a 5) (d_a 6) (nI cx) (nI (d_N 1)) (d_J 0) (d_J 1) (d_J 2) (nI (d_N 2)) (nI (d_N 3)) (nI (d_N 4)), oqI k (d_a 0) 8 (wf), _, _, _, _, _, _] H := hP
    have hD : va_D A [oq4 ee ee_tape ee_draft ee_to fx px, oq3 ee_tape a_bytes (nI a_len) kx (nI sx) (nI bx) vx, _, oq5 ee_draft (d_a 0) (d_a 1) (d_a 2) (d_a 3) (d_a 4) (d_a 5) (d_a 6) (nI cx) (nI (d_N 1)) (d_J 0) (d_J 1) (d_J 2) (nI (d_N 2)) (nI (d_N 3)) (nI (d_N 4)), oqI k (d_a 0) 8 (wf), _, _, _, _, _, _] := hD
    have hl : lv_has ls 1 [(0, .ref ee)] := hl
    refine lv_aload_n hx hb dX5_takeCells_8 rfl (lv_at hl 0 rfl) ?_
    refine va_get (D := D) (ci := 4) (v := .ref ee_draft) (C := RX5) (T := TX5) (N := 5) hx hb hts hiX5 hown hK hP 0 rfl rfl 1 (Nat.le_of_ble_eq_true rfl) fl21 (fun _ h9 => h9) rfl dX5_takeCells_9 ?_
    refine va_get (D := D) (ci := 5) (v := .int (nI cx)) (C := RX6) (T := TX6) (N := 15) hx hb hts hiX6 hown hK hP 3 rfl rfl 7 (Nat.le_of_ble_eq_true rfl) fl123 (fun _ h9 => h9) rfl dX5_takeCells_12 ?_
    refine lv_bipush (v := 8) hx hb dX5_takeCells_15 hkb_8 ?_
    refine lv_icmp_ge (tgt := 89) hx hb dX5_takeCells_17 rfl (fun c_1 => ?_) (fun c_1 => ?_)
    · have nc_1 : 8 ≤ cx := (nI_leI (a := 8) (b := cx) (by omega) (by omega)).mp c_1
      refine lv_aload_n hx hb dX5_takeCells_89 rfl (lv_at hl 0 rfl) ?_
      refine va_get (D := D) (ci := 4) (v := .ref ee_tape) (C := RX5) (T := TX5) (N := 5) hx hb hts hiX5 hown hK hP 0 rfl rfl 0 (Nat.le_of_ble_eq_true rfl) fl12 (fun _ h9 => h9) rfl dX5_takeCells_90 ?_
      refine va_get (D := D) (ci := 3) (v := .int kx) (C := RX4) (T := TX4) (N := 6) hx hb hts hiX4 hown hK hP 1 rfl rfl 2 (Nat.le_of_ble_eq_true rfl) fl41 (fun _ h9 => h9) rfl dX5_takeCells_93 ?_
      refine lv_iconst (v := 2) hx hb dX5_takeCells_96 hki_2 ?_
      refine lv_icmp_ne (tgt := 121) hx hb dX5_takeCells_97 rfl (fun c_2 => ?_) (fun c_2 => ?_)
      · exact hs_vret hx hb hr hlocks hK hP hD hS ((cx, wf), ((fx, px), (kx, sx, bx, vx))) [0, 1, 2, 3, 4, 5, 6, 7, 8, 9, 10] rfl (hs_upnd rfl) dX5_takeCells_121 (⟨cCE_of (hI.2.2.2.symm.trans (cCl_stop (Or.inl (by omega)))) (by rw [cCE, if_neg c_2]), by (try dsimp only); omega, by (try dsimp only); omega, by (try dsimp only); omega⟩)
      · refine lv_aload_n hx hb dX5_takeCells_100 rfl (lv_at hl 0 rfl) ?_
        refine lv_aload_n hx hb dX5_takeCells_101 rfl (lv_at hl 0 rfl) ?_
        refine va_get (D := D) (ci := 4) (v := .ref ee_tape) (C := RX5) (T := TX5) (N := 5) hx hb hts hiX5 hown hK hP 0 rfl rfl 0 (Nat.le_of_ble_eq_true rfl) fl12 (fun _ h9 => h9) rfl dX5_takeCells_102 ?_
        refine va_get (D := D) (ci := 3) (v := .int vx) (C := RX4) (T := TX4) (N := 6) hx hb hts hiX4 hown hK hP 1 rfl rfl 5 (Nat.le_of_ble_eq_true rfl) fl130 (fun _ h9 => h9) rfl dX5_takeCells_105 ?_
        refine lv_bipush (v := 9) hx hb dX5_takeCells_108 hkb_9 ?_
        refine lv_icmp_le (tgt := 117) hx hb dX5_takeCells_110 rfl (fun c_3 => ?_) (fun c_3 => ?_)
        · refine lv_iconst (v := 5) hx hb dX5_takeCells_117 hki_5 ?_
          refine hs_cvM (va_runV (As := [.int 5]) (rest := []) ⟨hx, hb, hml, hown, hts⟩ (gf_blame l D k _ ee ee_tape ee_draft ee_to fx px a_bytes a_len kx sx bx vx 5) (cwV 1 hts gX5_takeCells_X5_blame rfl rfl rfl ⟨rfl, hq_X5_blame⟩ ⟨Nat.le_of_ble_eq_true rfl, Nat.le_of_ble_eq_true rfl⟩) (hs_preV hK hN (hs_subP (w := [_, _]) hP [0, 1] rfl) (hD.sub (ws' := [_, _]) [0, 1] (hs_upnd rfl) rfl) (ci := 4) (q0 := 0) rfl rfl) rfl rfl hl.1 rfl (lv_room (Nat.le_of_ble_eq_true rfl)) dX5_takeCells_118 ⟨Nat.le_of_ble_eq_true rfl, Nat.le_of_ble_eq_true rfl⟩) hP hD hS hA [false, false, true, true, true, true, true, true, true, true, true] [_, _, _, _, _, _, _, _, _] [_, _] rfl [0, 1] rfl [0, 1] (fun u_6 => [_, _]) (fun _ => rfl) (hs_upnd rfl) [false, false, true, true, true, true, true, true, true, true, true] (fun u_6 => [_, _, _, _, _, _, _, _, _, _, _]) (fun _ => rfl) (fun u_6 H locs hw_5 hP hD hS => ?_)
          have hw_5 : u_6 = cBl fx px 5 sx := hw_5
          subst hw_5
          exact hs_vret hx hb hr hlocks hK hP hD hS ((cx, wf), (((cBl fx px 5 sx).1, (cBl fx px 5 sx).2), (kx, sx, bx, vx))) [0, 1, 2, 3, 4, 5, 6, 7, 8, 9, 10] rfl (hs_upnd rfl) dX5_takeCells_121 (⟨cCE_of (hI.2.2.2.symm.trans (cCl_stop (Or.inl (by omega)))) (by rw [cCE, if_pos c_2, if_pos c_3]), by (try dsimp only); omega, by (try dsimp only); omega, by (try dsimp only); omega⟩)
        · refine lv_iconst (v := 3) hx hb dX5_takeCells_113 hki_3 ?_
          refine lv_goto (tgt := 118) hx hb dX5_takeCells_114 rfl ?_
          refine hs_cvM (va_runV (As := [.int 3]) (rest := []) ⟨hx, hb, hml, hown, hts⟩ (gf_blame l D k _ ee ee_tape ee_draft ee_to fx px a_bytes a_len kx sx bx vx 3) (cwV 1 hts gX5_takeCells_X5_blame rfl rfl rfl ⟨rfl, hq_X5_blame⟩ ⟨Nat.le_of_ble_eq_true rfl, Nat.le_of_ble_eq_true rfl⟩) (hs_preV hK hN (hs_subP (w := [_, _]) hP [0, 1] rfl) (hD.sub (ws' := [_, _]) [0, 1] (hs_upnd rfl) rfl) (ci := 4) (q0 := 0) rfl rfl) rfl rfl hl.1 rfl (lv_room (Nat.le_of_ble_eq_true rfl)) dX5_takeCells_118 ⟨Nat.le_of_ble_eq_true rfl, Nat.le_of_ble_eq_true rfl⟩) hP hD hS hA [false, false, true, true, true, true, true, true, true, true, true] [_, _, _, _, _, _, _, _, _] [_, _] rfl [0, 1] rfl [0, 1] (fun u_9 => [_, _]) (fun _ => rfl) (hs_upnd rfl) [false, false, true, true, true, true, true, true, true, true, true] (fun u_9 => [_, _, _, _, _, _, _, _, _, _, _]) (fun _ => rfl) (fun u_9 H locs hw_8 hP hD hS => ?_)
          have hw_8 : u_9 = cBl fx px 3 sx := hw_8
          subst hw_8
          exact hs_vret hx hb hr hlocks hK hP hD hS ((cx, wf), (((cBl fx px 3 sx).1, (cBl fx px 3 sx).2), (kx, sx, bx, vx))) [0, 1, 2, 3, 4, 5, 6, 7, 8, 9, 10] rfl (hs_upnd rfl) dX5_takeCells_121 (⟨cCE_of (hI.2.2.2.symm.trans (cCl_stop (Or.inl (by omega)))) (by rw [cCE, if_pos c_2, if_neg c_3]), by (try dsimp only); omega, by (try dsimp only); omega, by (try dsimp only); omega⟩)
    · have nc_1 : ¬ 8 ≤ cx := fun hq9 => c_1 ((nI_leI (a := 8) (b := cx) (by omega) (by omega)).mpr hq9)
      refine lv_aload_n hx hb dX5_takeCells_20 rfl (lv_at hl 0 rfl) ?_
      refine va_get (D := D) (ci := 4) (v := .int fx) (C := RX5) (T := TX5) (N := 5) hx hb hts hiX5 hown hK hP 0 rfl rfl 3 (Nat.le_of_ble_eq_true rfl) fl32 (fun _ h9 => h9) rfl dX5_takeCells_21 ?_
      refine lv_if_ne (tgt := 89) hx hb dX5_takeCells_24 rfl (fun c_10 => ?_) (fun c_10 => ?_)
      · refine lv_aload_n hx hb dX5_takeCells_89 rfl (lv_at hl 0 rfl) ?_
        refine va_get (D := D) (ci := 4) (v := .ref ee_tape) (C := RX5) (T := TX5) (N := 5) hx hb hts hiX5 hown hK hP 0 rfl rfl 0 (Nat.le_of_ble_eq_true rfl) fl12 (fun _ h9 => h9) rfl dX5_takeCells_90 ?_
        refine va_get (D := D) (ci := 3) (v := .int kx) (C := RX4) (T := TX4) (N := 6) hx hb hts hiX4 hown hK hP 1 rfl rfl 2 (Nat.le_of_ble_eq_true rfl) fl41 (fun _ h9 => h9) rfl dX5_takeCells_93 ?_
        refine lv_iconst (v := 2) hx hb dX5_takeCells_96 hki_2 ?_
        refine lv_icmp_ne (tgt := 121) hx hb dX5_takeCells_97 rfl (fun c_11 => ?_) (fun c_11 => ?_)
        · exact hs_vret hx hb hr hlocks hK hP hD hS ((cx, wf), ((fx, px), (kx, sx, bx, vx))) [0, 1, 2, 3, 4, 5, 6, 7, 8, 9, 10] rfl (hs_upnd rfl) dX5_takeCells_121 (⟨cCE_of (hI.2.2.2.symm.trans (cCl_stop (Or.inr (fun z9 => c_10 z9.1)))) (by rw [cCE, if_neg c_11]), by (try dsimp only); omega, by (try dsimp only); omega, by (try dsimp only); omega⟩)
        · refine lv_aload_n hx hb dX5_takeCells_100 rfl (lv_at hl 0 rfl) ?_
          refine lv_aload_n hx hb dX5_takeCells_101 rfl (lv_at hl 0 rfl) ?_
          refine va_get (D := D) (ci := 4) (v := .ref ee_tape) (C := RX5) (T := TX5) (N := 5) hx hb hts hiX5 hown hK hP 0 rfl rfl 0 (Nat.le_of_ble_eq_true rfl) fl12 (fun _ h9 => h9) rfl dX5_takeCells_102 ?_
          refine va_get (D := D) (ci := 3) (v := .int vx) (C := RX4) (T := TX4) (N := 6) hx hb hts hiX4 hown hK hP 1 rfl rfl 5 (Nat.le_of_ble_eq_true rfl) fl130 (fun _ h9 => h9) rfl dX5_takeCells_105 ?_
          refine lv_bipush (v := 9) hx hb dX5_takeCells_108 hkb_9 ?_
          refine lv_icmp_le (tgt := 117) hx hb dX5_takeCells_110 rfl (fun c_12 => ?_) (fun c_12 => ?_)
          · refine lv_iconst (v := 5) hx hb dX5_takeCells_117 hki_5 ?_
            refine hs_cvM (va_runV (As := [.int 5]) (rest := []) ⟨hx, hb, hml, hown, hts⟩ (gf_blame l D k _ ee ee_tape ee_draft ee_to fx px a_bytes a_len kx sx bx vx 5) (cwV 1 hts gX5_takeCells_X5_blame rfl rfl rfl ⟨rfl, hq_X5_blame⟩ ⟨Nat.le_of_ble_eq_true rfl, Nat.le_of_ble_eq_true rfl⟩) (hs_preV hK hN (hs_subP (w := [_, _]) hP [0, 1] rfl) (hD.sub (ws' := [_, _]) [0, 1] (hs_upnd rfl) rfl) (ci := 4) (q0 := 0) rfl rfl) rfl rfl hl.1 rfl (lv_room (Nat.le_of_ble_eq_true rfl)) dX5_takeCells_118 ⟨Nat.le_of_ble_eq_true rfl, Nat.le_of_ble_eq_true rfl⟩) hP hD hS hA [false, false, true, true, true, true, true, true, true, true, true] [_, _, _, _, _, _, _, _, _] [_, _] rfl [0, 1] rfl [0, 1] (fun u_15 => [_, _]) (fun _ => rfl) (hs_upnd rfl) [false, false, true, true, true, true, true, true, true, true, true] (fun u_15 => [_, _, _, _, _, _, _, _, _, _, _]) (fun _ => rfl) (fun u_15 H locs hw_14 hP hD hS => ?_)
            have hw_14 : u_15 = cBl fx px 5 sx := hw_14
            subst hw_14
            exact hs_vret hx hb hr hlocks hK hP hD hS ((cx, wf), (((cBl fx px 5 sx).1, (cBl fx px 5 sx).2), (kx, sx, bx, vx))) [0, 1, 2, 3, 4, 5, 6, 7, 8, 9, 10] rfl (hs_upnd rfl) dX5_takeCells_121 (⟨cCE_of (hI.2.2.2.symm.trans (cCl_stop (Or.inr (fun z9 => c_10 z9.1)))) (by rw [cCE, if_pos c_11, if_pos c_12]), by (try dsimp only); omega, by (try dsimp only); omega, by (try dsimp only); omega⟩)
          · refine lv_iconst (v := 3) hx hb dX5_takeCells_113 hki_3 ?_
            refine lv_goto (tgt := 118) hx hb dX5_takeCells_114 rfl ?_
            refine hs_cvM (va_runV (As := [.int 3]) (rest := []) ⟨hx, hb, hml, hown, hts⟩ (gf_blame l D k _ ee ee_tape ee_draft ee_to fx px a_bytes a_len kx sx bx vx 3) (cwV 1 hts gX5_takeCells_X5_blame rfl rfl rfl ⟨rfl, hq_X5_blame⟩ ⟨Nat.le_of_ble_eq_true rfl, Nat.le_of_ble_eq_true rfl⟩) (hs_preV hK hN (hs_subP (w := [_, _]) hP [0, 1] rfl) (hD.sub (ws' := [_, _]) [0, 1] (hs_upnd rfl) rfl) (ci := 4) (q0 := 0) rfl rfl) rfl rfl hl.1 rfl (lv_room (Nat.le_of_ble_eq_true rfl)) dX5_takeCells_118 ⟨Nat.le_of_ble_eq_true rfl, Nat.le_of_ble_eq_true rfl⟩) hP hD hS hA [false, false, true, true, true, true, true, true, true, true, true] [_, _, _, _, _, _, _, _, _] [_, _] rfl [0, 1] rfl [0, 1] (fun u_18 => [_, _]) (fun _ => rfl) (hs_upnd rfl) [false, false, true, true, true, true, true, true, true, true, true] (fun u_18 => [_, _, _, _, _, _, _, _, _, _, _]) (fun _ => rfl) (fun u_18 H locs hw_17 hP hD hS => ?_)
            have hw_17 : u_18 = cBl fx px 3 sx := hw_17
            subst hw_17
            exact hs_vret hx hb hr hlocks hK hP hD hS ((cx, wf), (((cBl fx px 3 sx).1, (cBl fx px 3 sx).2), (kx, sx, bx, vx))) [0, 1, 2, 3, 4, 5, 6, 7, 8, 9, 10] rfl (hs_upnd rfl) dX5_takeCells_121 (⟨cCE_of (hI.2.2.2.symm.trans (cCl_stop (Or.inr (fun z9 => c_10 z9.1)))) (by rw [cCE, if_pos c_11, if_neg c_12]), by (try dsimp only); omega, by (try dsimp only); omega, by (try dsimp only); omega⟩)
      · refine lv_aload_n hx hb dX5_takeCells_27 rfl (lv_at hl 0 rfl) ?_
        refine va_get (D := D) (ci := 4) (v := .ref ee_draft) (C := RX5) (T := TX5) (N := 5) hx hb hts hiX5 hown hK hP 0 rfl rfl 1 (Nat.le_of_ble_eq_true rfl) fl21 (fun _ h9 => h9) rfl dX5_takeCells_28 ?_
        refine va_get (D := D) (ci := 5) (v := .int (nI cx)) (C := RX6) (T := TX6) (N := 15) hx hb hts hiX6 hown hK hP 3 rfl rfl 7 (Nat.le_of_ble_eq_true rfl) fl123 (fun _ h9 => h9) rfl dX5_takeCells_31 ?_
        refine lv_iconst (v := 2) hx hb dX5_takeCells_34 hki_2 ?_
        refine lv_icmp_lt (tgt := 49) hx hb dX5_takeCells_35 rfl (fun c_19 => ?_) (fun c_19 => ?_)
        · have nc_19 : cx < 2 := (nI_ltI (a := cx) (b := 2) (by omega) (by omega)).mp c_19
          refine lv_aload_n hx hb dX5_takeCells_49 rfl (lv_at hl 0 rfl) ?_
          refine va_get (D := D) (ci := 4) (v := .ref ee_draft) (C := RX5) (T := TX5) (N := 5) hx hb hts hiX5 hown hK hP 0 rfl rfl 1 (Nat.le_of_ble_eq_true rfl) fl21 (fun _ h9 => h9) rfl dX5_takeCells_50 ?_
          refine va_get (D := D) (ci := 5) (v := .ref (d_a 0)) (C := RX6) (T := TX6) (N := 15) hx hb hts hiX6 hown hK hP 3 rfl rfl 0 (Nat.le_of_ble_eq_true rfl) fl126 (fun _ h9 => h9) rfl dX5_takeCells_53 ?_
          refine lv_aload_n hx hb dX5_takeCells_56 rfl (lv_at hl 0 rfl) ?_
          refine va_get (D := D) (ci := 4) (v := .ref ee_draft) (C := RX5) (T := TX5) (N := 5) hx hb hts hiX5 hown hK hP 0 rfl rfl 1 (Nat.le_of_ble_eq_true rfl) fl21 (fun _ h9 => h9) rfl dX5_takeCells_57 ?_
          refine va_get (D := D) (ci := 5) (v := .int (nI cx)) (C := RX6) (T := TX6) (N := 15) hx hb hts hiX6 hown hK hP 3 rfl rfl 7 (Nat.le_of_ble_eq_true rfl) fl123 (fun _ h9 => h9) rfl dX5_takeCells_60 ?_
          refine lv_aload_n hx hb dX5_takeCells_63 rfl (lv_at hl 0 rfl) ?_
          refine lv_iconst (v := 0) hx hb dX5_takeCells_64 hki_0 ?_
          refine lv_bipush (v := 9) hx hb dX5_takeCells_65 hkb_9 ?_
          refine lv_bipush (v := (-4)) hx hb dX5_takeCells_67 hkb_m4 ?_
          refine hs_ciM (va_runV (As := [.int 0, .int 9, .int (-4)]) (rest := [.int (nI cx), .ref (d_a 0)]) ⟨hx, hb, hml, hown, hts⟩ (gf_takeNumber l D k _ ee ee_tape ee_draft ee_to fx px a_bytes a_len kx sx bx vx a_f 0 9 (-4) (by omega) (by omega) (by omega) (by omega) (by omega)) (cwV 3 hts gX5_takeCells_X5_takeNumber rfl rfl rfl ⟨rfl, hq_X5_takeNumber⟩ ⟨Nat.le_of_ble_eq_true rfl, Nat.le_of_ble_eq_true rfl⟩) (hs_preV hK hN (hs_subP (w := [_, _, _]) hP [0, 1, 2] rfl) (hD.sub (ws' := [_, _, _]) [0, 1, 2] (hs_upnd rfl) rfl) (ci := 4) (q0 := 0) rfl rfl) rfl rfl hl.1 rfl (lv_room (Nat.le_of_ble_eq_true rfl)) dX5_takeCells_69 ⟨Nat.le_of_ble_eq_true rfl, Nat.le_of_ble_eq_true rfl⟩) hP hD hS hA [false, false, false, true, true, true, true, true, true, true, true] [_, _, _, _, _, _, _, _] [_, _, _] rfl [0, 1, 2] rfl [0, 1, 2] (fun u_22 => [_, _, _]) (fun _ => rfl) (hs_upnd rfl) [false, false, false, true, true, true, true, true, true, true, true] (fun u_22 => [_, _, _, _, _, _, _, _, _, _, _]) (fun _ => rfl) (fun r_20 u_22 H locs hw_21 hP hD hS => ?_)
          have hw_21 : r_20 = nI u_22.1 ∧ (nI u_22.1, u_22.2.1, u_22.2.2) = cTN a_f a_len fx px kx sx bx vx 0 9 (-4) ∧ 0 ≤ u_22.1 ∧ u_22.1 ≤ 9 ∧ u_22.2.2.2.1 ≤ u_22.2.2.2.2.1 ∧ u_22.2.2.2.2.1 ≤ a_len := hw_21
          refine hs_topi (nI (u_22.1)) hw_21.1 ?_
          refine va_iast hx hb hK hP hD hS 4 0 rfl rfl (vp_in_nI (show cx < 8 by omega) (by decide)) dX5_takeCells_72 (fun H locs hP hD hS => ?_)
          have hP : va_P D vwCl [_, _, _, _, oqI k (d_a 0) 8 (upd wf ((nI cx).toNatClampNeg) (nI (u_22.1))), _, _, _, _, _, _] H := hP
          have hD : va_D A [_, _, _, _, oqI k (d_a 0) 8 (upd wf ((nI cx).toNatClampNeg) (nI (u_22.1))), _, _, _, _, _, _] := hD
          refine lv_aload_n hx hb dX5_takeCells_73 rfl (lv_at hl 0 rfl) ?_
          refine va_get (D := D) (ci := 4) (v := .ref ee_draft) (C := RX5) (T := TX5) (N := 5) hx hb hts hiX5 hown hK hP 0 rfl rfl 1 (Nat.le_of_ble_eq_true rfl) fl21 (fun _ h9 => h9) rfl dX5_takeCells_74 ?_
          refine lv_dup hx hb dX5_takeCells_77 rfl ?_
          refine va_get (D := D) (ci := 5) (v := .int (nI cx)) (C := RX6) (T := TX6) (N := 15) hx hb hts hiX6 hown hK hP 3 rfl rfl 7 (Nat.le_of_ble_eq_true rfl) fl123 (fun _ h9 => h9) rfl dX5_takeCells_78 ?_
          refine lv_iconst (v := 1) hx hb dX5_takeCells_81 hki_1 ?_
          refine lv_iadd hx hb dX5_takeCells_82 ?_
          refine hs_topi (nI (cx + 1)) (nI_add (cx) (1)) ?_
          refine va_put (D := D) (ci := 5) (v := .int (nI (cx + 1))) (ty := .int) (C := RX6) (T := TX6) (N := 15) hx hb hts hiX6 tyX6 tyX6_ok nmX6 hown hK hP hD hS 3 rfl rfl 7 (Nat.le_of_ble_eq_true rfl) fl123 (fun _ h9 => h9) rfl (by decide +kernel) rfl rfl (Nat.le_of_ble_eq_true rfl) dX5_takeCells_83 (fun H locs hP hD hS => ?_)
          have hP : va_P D vwCl [_, _, _, oq5 ee_draft (d_a 0) (d_a 1) (d_a 2) (d_a 3) (d_a 4) (d_a 5) (d_a 6) (nI (cx + 1)) (nI (d_N 1)) (d_J 0) (d_J 1) (d_J 2) (nI (d_N 2)) (nI (d_N 3)) (nI (d_N 4)), _, _, _, _, _, _, _] H := hP
          have hD : va_D A [_, _, _, oq5 ee_draft (d_a 0) (d_a 1) (d_a 2) (d_a 3) (d_a 4) (d_a 5) (d_a 6) (nI (cx + 1)) (nI (d_N 1)) (d_J 0) (d_J 1) (d_J 2) (nI (d_N 2)) (nI (d_N 3)) (nI (d_N 4)), _, _, _, _, _, _, _] := hD
          refine lv_goto (tgt := 8) hx hb dX5_takeCells_86 rfl ?_
          exact ih8 (upd wf ((nI cx).toNatClampNeg) (nI (u_22.1)), cx + 1, u_22.2.1.1, u_22.2.1.2, u_22.2.2.1, u_22.2.2.2.1, u_22.2.2.2.2.1, u_22.2.2.2.2.2) (by (try dsimp only); exact ⟨by omega, by omega, by omega, by rw [← hI.2.2.2, show 8 - cx = (8 - (cx + 1)) + 1 by omega, cCl_step ⟨c_10, Or.inl (by omega)⟩, ← hw_21.2.1, nI_clamp (by omega)]⟩) (by (try dsimp only); omega) _ _ _ hP hD hS (lv_sub hl [0] rfl)
        · have nc_19 : ¬ cx < 2 := fun hq9 => c_19 ((nI_ltI (a := cx) (b := 2) (by omega) (by omega)).mpr hq9)
          refine lv_aload_n hx hb dX5_takeCells_38 rfl (lv_at hl 0 rfl) ?_
          refine va_get (D := D) (ci := 4) (v := .ref ee_tape) (C := RX5) (T := TX5) (N := 5) hx hb hts hiX5 hown hK hP 0 rfl rfl 0 (Nat.le_of_ble_eq_true rfl) fl12 (fun _ h9 => h9) rfl dX5_takeCells_39 ?_
          refine va_get (D := D) (ci := 3) (v := .int kx) (C := RX4) (T := TX4) (N := 6) hx hb hts hiX4 hown hK hP 1 rfl rfl 2 (Nat.le_of_ble_eq_true rfl) fl41 (fun _ h9 => h9) rfl dX5_takeCells_42 ?_
          refine lv_iconst (v := 2) hx hb dX5_takeCells_45 hki_2 ?_
          refine lv_icmp_ne (tgt := 89) hx hb dX5_takeCells_46 rfl (fun c_23 => ?_) (fun c_23 => ?_)
          · refine lv_aload_n hx hb dX5_takeCells_89 rfl (lv_at hl 0 rfl) ?_
            refine va_get (D := D) (ci := 4) (v := .ref ee_tape) (C := RX5) (T := TX5) (N := 5) hx hb hts hiX5 hown hK hP 0 rfl rfl 0 (Nat.le_of_ble_eq_true rfl) fl12 (fun _ h9 => h9) rfl dX5_takeCells_90 ?_
            refine va_get (D := D) (ci := 3) (v := .int kx) (C := RX4) (T := TX4) (N := 6) hx hb hts hiX4 hown hK hP 1 rfl rfl 2 (Nat.le_of_ble_eq_true rfl) fl41 (fun _ h9 => h9) rfl dX5_takeCells_93 ?_
            refine lv_iconst (v := 2) hx hb dX5_takeCells_96 hki_2 ?_
            refine lv_icmp_ne (tgt := 121) hx hb dX5_takeCells_97 rfl (fun c_24 => ?_) (fun c_24 => ?_)
            · exact hs_vret hx hb hr hlocks hK hP hD hS ((cx, wf), ((fx, px), (kx, sx, bx, vx))) [0, 1, 2, 3, 4, 5, 6, 7, 8, 9, 10] rfl (hs_upnd rfl) dX5_takeCells_121 (⟨cCE_of (hI.2.2.2.symm.trans (cCl_stop (Or.inr (fun z9 => z9.2.elim (fun h9 => absurd h9 (by omega)) c_23)))) (by rw [cCE, if_neg c_24]), by (try dsimp only); omega, by (try dsimp only); omega, by (try dsimp only); omega⟩)
            · refine lv_aload_n hx hb dX5_takeCells_100 rfl (lv_at hl 0 rfl) ?_
              refine lv_aload_n hx hb dX5_takeCells_101 rfl (lv_at hl 0 rfl) ?_
              refine va_get (D := D) (ci := 4) (v := .ref ee_tape) (C := RX5) (T := TX5) (N := 5) hx hb hts hiX5 hown hK hP 0 rfl rfl 0 (Nat.le_of_ble_eq_true rfl) fl12 (fun _ h9 => h9) rfl dX5_takeCells_102 ?_
              refine va_get (D := D) (ci := 3) (v := .int vx) (C := RX4) (T := TX4) (N := 6) hx hb hts hiX4 hown hK hP 1 rfl rfl 5 (Nat.le_of_ble_eq_true rfl) fl130 (fun _ h9 => h9) rfl dX5_takeCells_105 ?_
              refine lv_bipush (v := 9) hx hb dX5_takeCells_108 hkb_9 ?_
              refine lv_icmp_le (tgt := 117) hx hb dX5_takeCells_110 rfl (fun c_25 => ?_) (fun c_25 => ?_)
              · refine lv_iconst (v := 5) hx hb dX5_takeCells_117 hki_5 ?_
                refine hs_cvM (va_runV (As := [.int 5]) (rest := []) ⟨hx, hb, hml, hown, hts⟩ (gf_blame l D k _ ee ee_tape ee_draft ee_to fx px a_bytes a_len kx sx bx vx 5) (cwV 1 hts gX5_takeCells_X5_blame rfl rfl rfl ⟨rfl, hq_X5_blame⟩ ⟨Nat.le_of_ble_eq_true rfl, Nat.le_of_ble_eq_true rfl⟩) (hs_preV hK hN (hs_subP (w := [_, _]) hP [0, 1] rfl) (hD.sub (ws' := [_, _]) [0, 1] (hs_upnd rfl) rfl) (ci := 4) (q0 := 0) rfl rfl) rfl rfl hl.1 rfl (lv_room (Nat.le_of_ble_eq_true rfl)) dX5_takeCells_118 ⟨Nat.le_of_ble_eq_true rfl, Nat.le_of_ble_eq_true rfl⟩) hP hD hS hA [false, false, true, true, true, true, true, true, true, true, true] [_, _, _, _, _, _, _, _, _] [_, _] rfl [0, 1] rfl [0, 1] (fun u_28 => [_, _]) (fun _ => rfl) (hs_upnd rfl) [false, false, true, true, true, true, true, true, true, true, true] (fun u_28 => [_, _, _, _, _, _, _, _, _, _, _]) (fun _ => rfl) (fun u_28 H locs hw_27 hP hD hS => ?_)
                have hw_27 : u_28 = cBl fx px 5 sx := hw_27
                subst hw_27
                exact hs_vret hx hb hr hlocks hK hP hD hS ((cx, wf), (((cBl fx px 5 sx).1, (cBl fx px 5 sx).2), (kx, sx, bx, vx))) [0, 1, 2, 3, 4, 5, 6, 7, 8, 9, 10] rfl (hs_upnd rfl) dX5_takeCells_121 (⟨cCE_of (hI.2.2.2.symm.trans (cCl_stop (Or.inr (fun z9 => z9.2.elim (fun h9 => absurd h9 (by omega)) c_23)))) (by rw [cCE, if_pos c_24, if_pos c_25]), by (try dsimp only); omega, by (try dsimp only); omega, by (try dsimp only); omega⟩)
              · refine lv_iconst (v := 3) hx hb dX5_takeCells_113 hki_3 ?_
                refine lv_goto (tgt := 118) hx hb dX5_takeCells_114 rfl ?_
                refine hs_cvM (va_runV (As := [.int 3]) (rest := []) ⟨hx, hb, hml, hown, hts⟩ (gf_blame l D k _ ee ee_tape ee_draft ee_to fx px a_bytes a_len kx sx bx vx 3) (cwV 1 hts gX5_takeCells_X5_blame rfl rfl rfl ⟨rfl, hq_X5_blame⟩ ⟨Nat.le_of_ble_eq_true rfl, Nat.le_of_ble_eq_true rfl⟩) (hs_preV hK hN (hs_subP (w := [_, _]) hP [0, 1] rfl) (hD.sub (ws' := [_, _]) [0, 1] (hs_upnd rfl) rfl) (ci := 4) (q0 := 0) rfl rfl) rfl rfl hl.1 rfl (lv_room (Nat.le_of_ble_eq_true rfl)) dX5_takeCells_118 ⟨Nat.le_of_ble_eq_true rfl, Nat.le_of_ble_eq_true rfl⟩) hP hD hS hA [false, false, true, true, true, true, true, true, true, true, true] [_, _, _, _, _, _, _, _, _] [_, _] rfl [0, 1] rfl [0, 1] (fun u_31 => [_, _]) (fun _ => rfl) (hs_upnd rfl) [false, false, true, true, true, true, true, true, true, true, true] (fun u_31 => [_, _, _, _, _, _, _, _, _, _, _]) (fun _ => rfl) (fun u_31 H locs hw_30 hP hD hS => ?_)
                have hw_30 : u_31 = cBl fx px 3 sx := hw_30
                subst hw_30
                exact hs_vret hx hb hr hlocks hK hP hD hS ((cx, wf), (((cBl fx px 3 sx).1, (cBl fx px 3 sx).2), (kx, sx, bx, vx))) [0, 1, 2, 3, 4, 5, 6, 7, 8, 9, 10] rfl (hs_upnd rfl) dX5_takeCells_121 (⟨cCE_of (hI.2.2.2.symm.trans (cCl_stop (Or.inr (fun z9 => z9.2.elim (fun h9 => absurd h9 (by omega)) c_23)))) (by rw [cCE, if_pos c_24, if_neg c_25]), by (try dsimp only); omega, by (try dsimp only); omega, by (try dsimp only); omega⟩)
          · refine lv_aload_n hx hb dX5_takeCells_49 rfl (lv_at hl 0 rfl) ?_
            refine va_get (D := D) (ci := 4) (v := .ref ee_draft) (C := RX5) (T := TX5) (N := 5) hx hb hts hiX5 hown hK hP 0 rfl rfl 1 (Nat.le_of_ble_eq_true rfl) fl21 (fun _ h9 => h9) rfl dX5_takeCells_50 ?_
            refine va_get (D := D) (ci := 5) (v := .ref (d_a 0)) (C := RX6) (T := TX6) (N := 15) hx hb hts hiX6 hown hK hP 3 rfl rfl 0 (Nat.le_of_ble_eq_true rfl) fl126 (fun _ h9 => h9) rfl dX5_takeCells_53 ?_
            refine lv_aload_n hx hb dX5_takeCells_56 rfl (lv_at hl 0 rfl) ?_
            refine va_get (D := D) (ci := 4) (v := .ref ee_draft) (C := RX5) (T := TX5) (N := 5) hx hb hts hiX5 hown hK hP 0 rfl rfl 1 (Nat.le_of_ble_eq_true rfl) fl21 (fun _ h9 => h9) rfl dX5_takeCells_57 ?_
            refine va_get (D := D) (ci := 5) (v := .int (nI cx)) (C := RX6) (T := TX6) (N := 15) hx hb hts hiX6 hown hK hP 3 rfl rfl 7 (Nat.le_of_ble_eq_true rfl) fl123 (fun _ h9 => h9) rfl dX5_takeCells_60 ?_
            refine lv_aload_n hx hb dX5_takeCells_63 rfl (lv_at hl 0 rfl) ?_
            refine lv_iconst (v := 0) hx hb dX5_takeCells_64 hki_0 ?_
            refine lv_bipush (v := 9) hx hb dX5_takeCells_65 hkb_9 ?_
            refine lv_bipush (v := (-4)) hx hb dX5_takeCells_67 hkb_m4 ?_
            refine hs_ciM (va_runV (As := [.int 0, .int 9, .int (-4)]) (rest := [.int (nI cx), .ref (d_a 0)]) ⟨hx, hb, hml, hown, hts⟩ (gf_takeNumber l D k _ ee ee_tape ee_draft ee_to fx px a_bytes a_len kx sx bx vx a_f 0 9 (-4) (by omega) (by omega) (by omega) (by omega) (by omega)) (cwV 3 hts gX5_takeCells_X5_takeNumber rfl rfl rfl ⟨rfl, hq_X5_takeNumber⟩ ⟨Nat.le_of_ble_eq_true rfl, Nat.le_of_ble_eq_true rfl⟩) (hs_preV hK hN (hs_subP (w := [_, _, _]) hP [0, 1, 2] rfl) (hD.sub (ws' := [_, _, _]) [0, 1, 2] (hs_upnd rfl) rfl) (ci := 4) (q0 := 0) rfl rfl) rfl rfl hl.1 rfl (lv_room (Nat.le_of_ble_eq_true rfl)) dX5_takeCells_69 ⟨Nat.le_of_ble_eq_true rfl, Nat.le_of_ble_eq_true rfl⟩) hP hD hS hA [false, false, false, true, true, true, true, true, true, true, true] [_, _, _, _, _, _, _, _] [_, _, _] rfl [0, 1, 2] rfl [0, 1, 2] (fun u_34 => [_, _, _]) (fun _ => rfl) (hs_upnd rfl) [false, false, false, true, true, true, true, true, true, true, true] (fun u_34 => [_, _, _, _, _, _, _, _, _, _, _]) (fun _ => rfl) (fun r_32 u_34 H locs hw_33 hP hD hS => ?_)
            have hw_33 : r_32 = nI u_34.1 ∧ (nI u_34.1, u_34.2.1, u_34.2.2) = cTN a_f a_len fx px kx sx bx vx 0 9 (-4) ∧ 0 ≤ u_34.1 ∧ u_34.1 ≤ 9 ∧ u_34.2.2.2.1 ≤ u_34.2.2.2.2.1 ∧ u_34.2.2.2.2.1 ≤ a_len := hw_33
            refine hs_topi (nI (u_34.1)) hw_33.1 ?_
            refine va_iast hx hb hK hP hD hS 4 0 rfl rfl (vp_in_nI (show cx < 8 by omega) (by decide)) dX5_takeCells_72 (fun H locs hP hD hS => ?_)
            have hP : va_P D vwCl [_, _, _, _, oqI k (d_a 0) 8 (upd wf ((nI cx).toNatClampNeg) (nI (u_34.1))), _, _, _, _, _, _] H := hP
            have hD : va_D A [_, _, _, _, oqI k (d_a 0) 8 (upd wf ((nI cx).toNatClampNeg) (nI (u_34.1))), _, _, _, _, _, _] := hD
            refine lv_aload_n hx hb dX5_takeCells_73 rfl (lv_at hl 0 rfl) ?_
            refine va_get (D := D) (ci := 4) (v := .ref ee_draft) (C := RX5) (T := TX5) (N := 5) hx hb hts hiX5 hown hK hP 0 rfl rfl 1 (Nat.le_of_ble_eq_true rfl) fl21 (fun _ h9 => h9) rfl dX5_takeCells_74 ?_
            refine lv_dup hx hb dX5_takeCells_77 rfl ?_
            refine va_get (D := D) (ci := 5) (v := .int (nI cx)) (C := RX6) (T := TX6) (N := 15) hx hb hts hiX6 hown hK hP 3 rfl rfl 7 (Nat.le_of_ble_eq_true rfl) fl123 (fun _ h9 => h9) rfl dX5_takeCells_78 ?_
            refine lv_iconst (v := 1) hx hb dX5_takeCells_81 hki_1 ?_
            refine lv_iadd hx hb dX5_takeCells_82 ?_
            refine hs_topi (nI (cx + 1)) (nI_add (cx) (1)) ?_
            refine va_put (D := D) (ci := 5) (v := .int (nI (cx + 1))) (ty := .int) (C := RX6) (T := TX6) (N := 15) hx hb hts hiX6 tyX6 tyX6_ok nmX6 hown hK hP hD hS 3 rfl rfl 7 (Nat.le_of_ble_eq_true rfl) fl123 (fun _ h9 => h9) rfl (by decide +kernel) rfl rfl (Nat.le_of_ble_eq_true rfl) dX5_takeCells_83 (fun H locs hP hD hS => ?_)
            have hP : va_P D vwCl [_, _, _, oq5 ee_draft (d_a 0) (d_a 1) (d_a 2) (d_a 3) (d_a 4) (d_a 5) (d_a 6) (nI (cx + 1)) (nI (d_N 1)) (d_J 0) (d_J 1) (d_J 2) (nI (d_N 2)) (nI (d_N 3)) (nI (d_N 4)), _, _, _, _, _, _, _] H := hP
            have hD : va_D A [_, _, _, oq5 ee_draft (d_a 0) (d_a 1) (d_a 2) (d_a 3) (d_a 4) (d_a 5) (d_a 6) (nI (cx + 1)) (nI (d_N 1)) (d_J 0) (d_J 1) (d_J 2) (nI (d_N 2)) (nI (d_N 3)) (nI (d_N 4)), _, _, _, _, _, _, _] := hD
            refine lv_goto (tgt := 8) hx hb dX5_takeCells_86 rfl ?_
            exact ih8 (upd wf ((nI cx).toNatClampNeg) (nI (u_34.1)), cx + 1, u_34.2.1.1, u_34.2.1.2, u_34.2.2.1, u_34.2.2.2.1, u_34.2.2.2.2.1, u_34.2.2.2.2.2) (by (try dsimp only); exact ⟨by omega, by omega, by omega, by rw [← hI.2.2.2, show 8 - cx = (8 - (cx + 1)) + 1 by omega, cCl_step ⟨c_10, Or.inr c_23⟩, ← hw_33.2.1, nI_clamp (by omega)]⟩) (by (try dsimp only); omega) _ _ _ hP hD hS (lv_sub hl [0] rfl)
  · (try dsimp only); exact ⟨by omega, by omega, by omega, rfl⟩

set_option maxHeartbeats 4000000 in
set_option maxRecDepth 100000 in
theorem gf_takePair (l : Launch) (D : va_G) (k : Nat → ClassId) (sz : Nat) (ee : Nat) (ee_tape : Nat) (ee_draft : Nat) (ee_to : Int32) (ee_fm : Int32) (ee_pl : Int32) (a_bytes : Nat) (a_len : Nat) (a_kd : Int32) (a_st : Nat) (a_be : Nat) (a_va : Int32) (a_f : Nat → Int32) (d_a : Nat → Nat) (d_N : Nat → Nat) (d_J : Nat → Int32) (d_F : Nat → Nat → Int32) (hl160 : a_len ≤ 160) (hsb0 : a_st ≤ a_be) (hbl0 : a_be ≤ a_len) (h8 : d_N 3 < 8) : MV l yX5_takePair wsX5_takePair ({ frames := 3, cells := 0, slots := 0, locals := 66 }) D k [.ref ee] [oq4 ee ee_tape ee_draft ee_to ee_fm ee_pl, oq3 ee_tape a_bytes (nI a_len) a_kd (nI a_st) (nI a_be) a_va, oqI k a_bytes 160 (a_f), oqT ee_draft d_a d_N d_J, oqF0 k d_a d_F, oqF1 k d_a d_F, oqF2 k d_a d_F, oqF3 k d_a d_F, oqF4 k d_a d_F, oqF5 k d_a d_F, oqF6 k d_a d_F] sz (fun (u : (Int32 × Int32) × (Int32 × Nat × Nat × Int32) × (Nat × Nat)) => (nI u.2.2.1, nI u.2.2.2, u.1, u.2.1) = cTP a_f a_len ee_fm ee_pl a_kd a_st a_be a_va ∧ (u.2.2.1 ≤ 4 ∧ u.2.2.2 ≤ 4) ∧ u.2.1.2.1 ≤ u.2.1.2.2.1 ∧ u.2.1.2.2.1 ≤ a_len) (fun (u : (Int32 × Int32) × (Int32 × Nat × Nat × Int32) × (Nat × Nat)) => [oq4 ee ee_tape ee_draft ee_to u.1.1 u.1.2, oq3 ee_tape a_bytes (nI a_len) u.2.1.1 (nI (u.2.1.2.1)) (nI (u.2.1.2.2.1)) u.2.1.2.2.2, oqI k a_bytes 160 (a_f), oq5 ee_draft (d_a 0) (d_a 1) (d_a 2) (d_a 3) (d_a 4) (d_a 5) (d_a 6) (nI (d_N 0)) (nI (d_N 1)) (d_J 0) (d_J 1) (d_J 2) (nI (d_N 2)) (nI (d_N 3 + 1)) (nI (d_N 4)), oqF0 k d_a d_F, oqF1 k d_a d_F, oqI k (d_a 2) 8 (upd (d_F 2) (nI (d_N 3)).toNatClampNeg (nI (u.2.2.1))), oqI k (d_a 3) 8 (upd (d_F 3) (nI (d_N 3)).toNatClampNeg (nI (u.2.2.2))), oqF4 k d_a d_F, oqF5 k d_a d_F, oqF6 k d_a d_F]) := by
  refine Met.ofW (cc := cX5_takePair) (maxL := 3) (ret := none) hpn_X5 rfl ?_
  intro p e s m args below meth c s₁ B hml hv
  obtain ⟨rfl, hsz, hP, hK, hD0, hN⟩ := hv
  have hx := B.exec
  have hb := B.bytes
  have hr := B.returns
  have hlocks := B.notSynchronized
  have hts := atoms_spec (ws := wsX5_takePair) B.pre
  have hown := findClass_of_methodNamed B.named
  have hown : s.vm.findClass RX5 = some m.cls := hown
  have hiX5 : ∀ w ∈ u_ws RX5 TX5 5, w ∈ wsX5_takePair := fun w9 hw9 => List.mem_cons_of_mem _ (igX5 w9 hw9)
  have fl21 := hts (.fieldLink RX5 21 "HalfScales$Teller" "draft" "LHalfScales$Thing;") (List.mem_cons_of_mem _ (hs_inG 1 152 rfl rfl))
  subst hsz
  have hD := hD0.self (sz := s.heap.size)
  generalize hAe : va_A [oq4 ee ee_tape ee_draft ee_to ee_fm ee_pl, oq3 ee_tape a_bytes (nI a_len) a_kd (nI a_st) (nI a_be) a_va, oqI k a_bytes 160 (a_f), oqT ee_draft d_a d_N d_J, oqF0 k d_a d_F, oqF1 k d_a d_F, oqF2 k d_a d_F, oqF3 k d_a d_F, oqF4 k d_a d_F, oqF5 k d_a d_F, oqF6 k d_a d_F] s.heap.size = A at hD ⊢
  have hA : ∀ q : Nat, s.heap.size ≤ q → A q := fun q h => by rw [← hAe]; exact Or.inr h
  have hS : va_S A s.heap s.heap [] := va_S.rf
  have hl := lv_entry ([.ref ee]) (n := 3) (Nat.le_of_ble_eq_true rfl)
  rw [lg_entry_eq]
  generalize (lg_sl ([.ref ee]) ++ List.replicate (3 - (lg_sl ([.ref ee])).length) Slot.unset).toArray = ls at hl ⊢
  have hl : lv_has ls 3 [(0, .ref ee)] := hl
  have hP : va_P D vwCl [oq4 ee ee_tape ee_draft ee_to ee_fm ee_pl, oq3 ee_tape a_bytes (nI a_len) a_kd (nI a_st) (nI a_be) a_va, oqI k a_bytes 160 (a_f), oqT ee_draft d_a d_N d_J, oqF0 k d_a d_F, oqF1 k d_a d_F, oqF2 k d_a d_F, oqF3 k d_a d_F, oqF4 k d_a d_F, oqF5 k d_a d_F, oqF6 k d_a d_F] s.heap := hP
  refine lv_aload_n hx hb dX5_takePair_0 rfl (lv_at hl 0 rfl) ?_
  refine lv_iconst (v := 0) hx hb dX5_takePair_1 hki_0 ?_
  refine lv_iconst (v := 4) hx hb dX5_takePair_2 hki_4 ?_
  refine lv_bipush (v := (-4)) hx hb dX5_takePair_3 hkb_m4 ?_
  refine hs_ciM (va_runV (As := [.int 0, .int 4, .int (-4)]) (rest := []) ⟨hx, hb, hml, hown, hts⟩ (gf_takeNumber l D k _ ee ee_tape ee_draft ee_to ee_fm ee_pl a_bytes a_len a_kd a_st a_be a_va a_f 0 4 (-4) (by omega) (by omega) (by omega) (by omega) (by omega)) (cwV 3 hts gX5_takePair_X5_takeNumber rfl rfl rfl ⟨rfl, hq_X5_takeNumber⟩ ⟨Nat.le_of_ble_eq_true rfl, Nat.le_of_ble_eq_true rfl⟩) (hs_preV hK hN (hs_subP (w := [_, _, _]) hP [0, 1, 2] rfl) (hD.sub (ws' := [_, _, _]) [0, 1, 2] (hs_upnd rfl) rfl) (ci := 4) (q0 := 0) rfl rfl) rfl rfl hl.1 rfl (lv_room (Nat.le_of_ble_eq_true rfl)) dX5_takePair_5 ⟨Nat.le_of_ble_eq_true rfl, Nat.le_of_ble_eq_true rfl⟩) hP hD hS hA [false, false, false, true, true, true, true, true, true, true, true] [_, _, _, _, _, _, _, _] [_, _, _] rfl [0, 1, 2] rfl [0, 1, 2] (fun u_3 => [_, _, _]) (fun _ => rfl) (hs_upnd rfl) [false, false, false, true, true, true, true, true, true, true, true] (fun u_3 => [_, _, _, _, _, _, _, _, _, _, _]) (fun _ => rfl) (fun r_1 u_3 H locs hw_2 hP hD hS => ?_)
  have hw_2 : r_1 = nI u_3.1 ∧ (nI u_3.1, u_3.2.1, u_3.2.2) = cTN a_f a_len ee_fm ee_pl a_kd a_st a_be a_va 0 4 (-4) ∧ 0 ≤ u_3.1 ∧ u_3.1 ≤ 4 ∧ u_3.2.2.2.1 ≤ u_3.2.2.2.2.1 ∧ u_3.2.2.2.2.1 ≤ a_len := hw_2
  refine hs_topi (nI (u_3.1)) hw_2.1 ?_
  refine lv_istore_n (lv' := [(1, .int (nI (u_3.1))), (0, .ref ee)]) hx hb dX5_takePair_8 rfl hl (Nat.le_of_ble_eq_true rfl) rfl (fun ls hl => ?_)
  refine lv_aload_n hx hb dX5_takePair_9 rfl (lv_at hl 1 rfl) ?_
  refine lv_iconst (v := 0) hx hb dX5_takePair_10 hki_0 ?_
  refine lv_iconst (v := 4) hx hb dX5_takePair_11 hki_4 ?_
  refine lv_iload_n hx hb dX5_takePair_12 rfl (lv_at hl 0 rfl) ?_
  refine hs_ciM (va_runV (As := [.int 0, .int 4, .int (nI (u_3.1))]) (rest := []) ⟨hx, hb, hml, hown, hts⟩ (gf_takeNumber l D k _ ee ee_tape ee_draft ee_to u_3.2.1.1 u_3.2.1.2 a_bytes a_len u_3.2.2.1 u_3.2.2.2.1 u_3.2.2.2.2.1 u_3.2.2.2.2.2 a_f 0 4 (nI (u_3.1)) (by omega) (by omega) (by omega) (by omega) (by omega)) (cwV 3 hts gX5_takePair_X5_takeNumber rfl rfl rfl ⟨rfl, hq_X5_takeNumber⟩ ⟨Nat.le_of_ble_eq_true rfl, Nat.le_of_ble_eq_true rfl⟩) (hs_preV hK hN (hs_subP (w := [_, _, _]) hP [0, 1, 2] rfl) (hD.sub (ws' := [_, _, _]) [0, 1, 2] (hs_upnd rfl) rfl) (ci := 4) (q0 := 0) rfl rfl) rfl rfl hl.1 rfl (lv_room (Nat.le_of_ble_eq_true rfl)) dX5_takePair_13 ⟨Nat.le_of_ble_eq_true rfl, Nat.le_of_ble_eq_true rfl⟩) hP hD hS hA [false, false, false, true, true, true, true, true, true, true, true] [_, _, _, _, _, _, _, _] [_, _, _] rfl [0, 1, 2] rfl [0, 1, 2] (fun u_6 => [_, _, _]) (fun _ => rfl) (hs_upnd rfl) [false, false, false, true, true, true, true, true, true, true, true] (fun u_6 => [_, _, _, _, _, _, _, _, _, _, _]) (fun _ => rfl) (fun r_4 u_6 H locs hw_5 hP hD hS => ?_)
  have hw_5 : r_4 = nI u_6.1 ∧ (nI u_6.1, u_6.2.1, u_6.2.2) = cTN a_f a_len u_3.2.1.1 u_3.2.1.2 u_3.2.2.1 u_3.2.2.2.1 u_3.2.2.2.2.1 u_3.2.2.2.2.2 0 4 (nI (u_3.1)) ∧ 0 ≤ u_6.1 ∧ u_6.1 ≤ 4 ∧ u_6.2.2.2.1 ≤ u_6.2.2.2.2.1 ∧ u_6.2.2.2.2.1 ≤ a_len := hw_5
  refine hs_topi (nI (u_6.1)) hw_5.1 ?_
  refine lv_istore_n (lv' := [(2, .int (nI (u_6.1))), (1, .int (nI (u_3.1))), (0, .ref ee)]) hx hb dX5_takePair_16 rfl hl (Nat.le_of_ble_eq_true rfl) rfl (fun ls hl => ?_)
  refine lv_aload_n hx hb dX5_takePair_17 rfl (lv_at hl 2 rfl) ?_
  refine va_get (D := D) (ci := 4) (v := .ref ee_draft) (C := RX5) (T := TX5) (N := 5) hx hb hts hiX5 hown hK hP 0 rfl rfl 1 (Nat.le_of_ble_eq_true rfl) fl21 (fun _ h9 => h9) rfl dX5_takePair_18 ?_
  refine lv_iload_n hx hb dX5_takePair_21 rfl (lv_at hl 1 rfl) ?_
  refine lv_iload_n hx hb dX5_takePair_22 rfl (lv_at hl 0 rfl) ?_
  refine hs_cvM (va_runV (As := [.int (nI (u_3.1)), .int (nI (u_6.1))]) (rest := []) ⟨hx, hb, hml, hown, hts⟩ (g_addPair l D k _ ee_draft d_a d_N d_J d_F (nI (u_3.1)) (nI (u_6.1)) (by omega)) (cwV 2 hts gX5_takePair_X6_addPair rfl rfl rfl ⟨rfl, hq_X6_addPair⟩ ⟨Nat.le_of_ble_eq_true rfl, Nat.le_of_ble_eq_true rfl⟩) (hs_preV hK hN (hs_subP (w := [_, _, _, _, _, _, _, _]) hP [3, 4, 5, 6, 7, 8, 9, 10] rfl) (hD.sub (ws' := [_, _, _, _, _, _, _, _]) [3, 4, 5, 6, 7, 8, 9, 10] (hs_upnd rfl) rfl) (ci := 5) (q0 := 0) rfl rfl) rfl rfl hl.1 rfl (lv_room (Nat.le_of_ble_eq_true rfl)) dX5_takePair_23 ⟨Nat.le_of_ble_eq_true rfl, Nat.le_of_ble_eq_true rfl⟩) hP hD hS hA [true, true, true, false, false, false, false, false, false, false, false] [_, _, _] [_, _, _, _, _, _, _, _] rfl [0, 1, 2, 3, 4, 5, 6, 7] rfl [0, 1, 2, 3, 4, 5, 6, 7] (fun u_9 => [_, _, _, _, _, _, _, _]) (fun _ => rfl) (hs_upnd rfl) [true, true, true, false, false, false, false, false, false, false, false] (fun u_9 => [_, _, _, _, _, _, _, _, _, _, _]) (fun _ => rfl) (fun u_9 H locs hw_8 hP hD hS => ?_)
  exact hs_vret hx hb hr hlocks hK hP hD hS ((u_6.2.1.1, u_6.2.1.2), (u_6.2.2.1, u_6.2.2.2.1, u_6.2.2.2.2.1, u_6.2.2.2.2.2), (u_3.1, u_6.1)) [0, 1, 2, 3, 4, 5, 6, 7, 8, 9, 10] rfl (hs_upnd rfl) dX5_takePair_26 (⟨(by rw [cTP, ← hw_2.2.1, ← hw_5.2.1]), ⟨by (try dsimp only); omega, by (try dsimp only); omega⟩, by (try dsimp only); omega, by (try dsimp only); omega⟩)

set_option maxHeartbeats 4000000 in
set_option maxRecDepth 100000 in
theorem gf_checkName (l : Launch) (D : va_G) (k : Nat → ClassId) (sz : Nat) (ee : Nat) (ee_tape : Nat) (ee_draft : Nat) (ee_to : Int32) (ee_fm : Int32) (ee_pl : Int32) (a_bytes : Nat) (a_len : Nat) (a_kd : Int32) (a_st : Nat) (a_be : Nat) (a_va : Int32) (d_a : Nat → Nat) (d_N : Nat → Nat) (d_J : Nat → Int32) (ln : Int32) (hN0 : thN d_N) : MV l yX5_checkName wsX5_checkName ({ frames := 2, cells := 0, slots := 0, locals := 42 }) D k [.ref ee, .int ln] [oq4 ee ee_tape ee_draft ee_to ee_fm ee_pl, oq3 ee_tape a_bytes (nI a_len) a_kd (nI a_st) (nI a_be) a_va, oqT ee_draft d_a d_N d_J] sz (fun (u : Int32 × Int32 × Int32) => u = cCN ee_fm ee_pl ee_to a_kd a_st (d_N 1) (d_N 3) ln) (fun (u : Int32 × Int32 × Int32) => [oq4 ee ee_tape ee_draft u.2.2 u.1 u.2.1, oq3 ee_tape a_bytes (nI a_len) a_kd (nI a_st) (nI a_be) a_va, oqT ee_draft d_a d_N d_J]) := by
  refine Met.ofW (cc := cX5_checkName) (maxL := 2) (ret := none) hpn_X5 rfl ?_
  intro p e s m args below meth c s₁ B hml hv
  obtain ⟨rfl, hsz, hP, hK, hD0, hN⟩ := hv
  have hx := B.exec
  have hb := B.bytes
  have hr := B.returns
  have hlocks := B.notSynchronized
  have hts := atoms_spec (ws := wsX5_checkName) B.pre
  have hown := findClass_of_methodNamed B.named
  have hown : s.vm.findClass RX5 = some m.cls := hown
  have hiX5 : ∀ w ∈ u_ws RX5 TX5 5, w ∈ wsX5_checkName := fun w9 hw9 => List.mem_cons_of_mem _ (igX5 w9 hw9)
  have hiX6 : ∀ w ∈ u_ws RX6 TX6 15, w ∈ wsX5_checkName := fun w9 hw9 => List.mem_cons_of_mem _ (igX6 w9 hw9)
  have fl28 := hts (.fieldLink RX5 28 "HalfScales$Teller" "toldOnce" "I") (List.mem_cons_of_mem _ (hs_inG 1 154 rfl rfl))
  have fl21 := hts (.fieldLink RX5 21 "HalfScales$Teller" "draft" "LHalfScales$Thing;") (List.mem_cons_of_mem _ (hs_inG 1 152 rfl rfl))
  have fl120 := hts (.fieldLink RX5 120 "HalfScales$Thing" "peopleCount" "I") (List.mem_cons_of_mem _ (hs_inG 1 56 rfl rfl))
  have fl117 := hts (.fieldLink RX5 117 "HalfScales$Thing" "pairCount" "I") (List.mem_cons_of_mem _ (hs_inG 1 74 rfl rfl))
  obtain ⟨I0, I1, ⟨I2, I2b⟩, I3, I4⟩ := hN0
  subst hsz
  have hD := hD0.self (sz := s.heap.size)
  generalize hAe : va_A [oq4 ee ee_tape ee_draft ee_to ee_fm ee_pl, oq3 ee_tape a_bytes (nI a_len) a_kd (nI a_st) (nI a_be) a_va, oqT ee_draft d_a d_N d_J] s.heap.size = A at hD ⊢
  have hA : ∀ q : Nat, s.heap.size ≤ q → A q := fun q h => by rw [← hAe]; exact Or.inr h
  have hS : va_S A s.heap s.heap [] := va_S.rf
  have hl := lv_entry ([.ref ee, .int ln]) (n := 2) (Nat.le_of_ble_eq_true rfl)
  rw [lg_entry_eq]
  generalize (lg_sl ([.ref ee, .int ln]) ++ List.replicate (2 - (lg_sl ([.ref ee, .int ln])).length) Slot.unset).toArray = ls at hl ⊢
  have hl : lv_has ls 2 [(0, .ref ee), (1, .int ln)] := hl
  have hP : va_P D vwCl [oq4 ee ee_tape ee_draft ee_to ee_fm ee_pl, oq3 ee_tape a_bytes (nI a_len) a_kd (nI a_st) (nI a_be) a_va, oqT ee_draft d_a d_N d_J] s.heap := hP
  refine lv_iload_n hx hb dX5_checkName_0 rfl (lv_at hl 1 rfl) ?_
  refine lv_bipush (v := (-4)) hx hb dX5_checkName_1 hkb_m4 ?_
  refine lv_icmp_ne (tgt := 19) hx hb dX5_checkName_3 rfl (fun c_1 => ?_) (fun c_1 => ?_)
  · refine lv_iload_n hx hb dX5_checkName_19 rfl (lv_at hl 1 rfl) ?_
    refine lv_bipush (v := 8) hx hb dX5_checkName_20 hkb_8 ?_
    refine lv_icmp_ne (tgt := 45) hx hb dX5_checkName_22 rfl (fun c_2 => ?_) (fun c_2 => ?_)
    · refine lv_iload_n hx hb dX5_checkName_45 rfl (lv_at hl 1 rfl) ?_
      refine lv_iconst (v := 3) hx hb dX5_checkName_46 hki_3 ?_
      refine lv_icmp_gt (tgt := 69) hx hb dX5_checkName_47 rfl (fun c_3 => ?_) (fun c_3 => ?_)
      · refine lv_aload_n hx hb dX5_checkName_69 rfl (lv_at hl 0 rfl) ?_
        refine va_get (D := D) (ci := 4) (v := .int ee_to) (C := RX5) (T := TX5) (N := 5) hx hb hts hiX5 hown hK hP 0 rfl rfl 2 (Nat.le_of_ble_eq_true rfl) fl28 (fun _ h9 => h9) rfl dX5_checkName_70 ?_
        refine lv_iload_n hx hb dX5_checkName_73 rfl (lv_at hl 1 rfl) ?_
        refine lv_ishr hx hb dX5_checkName_74 ?_
        refine lv_iconst (v := 1) hx hb dX5_checkName_75 hki_1 ?_
        refine lv_iand hx hb dX5_checkName_76 ?_
        refine lv_iconst (v := 1) hx hb dX5_checkName_77 hki_1 ?_
        refine lv_icmp_ne (tgt := 89) hx hb dX5_checkName_78 rfl (fun c_4 => ?_) (fun c_4 => ?_)
        · refine lv_aload_n hx hb dX5_checkName_89 rfl (lv_at hl 0 rfl) ?_
          refine lv_dup hx hb dX5_checkName_90 rfl ?_
          refine va_get (D := D) (ci := 4) (v := .int ee_to) (C := RX5) (T := TX5) (N := 5) hx hb hts hiX5 hown hK hP 0 rfl rfl 2 (Nat.le_of_ble_eq_true rfl) fl28 (fun _ h9 => h9) rfl dX5_checkName_91 ?_
          refine lv_iconst (v := 1) hx hb dX5_checkName_94 hki_1 ?_
          refine lv_iload_n hx hb dX5_checkName_95 rfl (lv_at hl 1 rfl) ?_
          refine lv_ishl hx hb dX5_checkName_96 ?_
          refine lv_ior hx hb dX5_checkName_97 ?_
          refine va_put (D := D) (ci := 4) (v := .int (ee_to ||| (1 <<< (ln &&& 31)))) (ty := .int) (C := RX5) (T := TX5) (N := 5) hx hb hts hiX5 tyX5 tyX5_ok nmX5 hown hK hP hD hS 0 rfl rfl 2 (Nat.le_of_ble_eq_true rfl) fl28 (fun _ h9 => h9) rfl (by decide +kernel) rfl rfl (Nat.le_of_ble_eq_true rfl) dX5_checkName_98 (fun H locs hP hD hS => ?_)
          have hP : va_P D vwCl [oq4 ee ee_tape ee_draft (ee_to ||| (1 <<< (ln &&& 31))) ee_fm ee_pl, oq3 ee_tape a_bytes (nI a_len) a_kd (nI a_st) (nI a_be) a_va, oqT ee_draft d_a d_N d_J] H := hP
          have hD : va_D A [oq4 ee ee_tape ee_draft (ee_to ||| (1 <<< (ln &&& 31))) ee_fm ee_pl, oq3 ee_tape a_bytes (nI a_len) a_kd (nI a_st) (nI a_be) a_va, oqT ee_draft d_a d_N d_J] := hD
          exact hs_vret hx hb hr hlocks hK hP hD hS (ee_fm, ee_pl, ee_to ||| (1 <<< (ln &&& 31))) [0, 1, 2] rfl (hs_upnd rfl) dX5_checkName_101 (by rw [cCN, if_neg c_1, if_neg c_2, if_neg (Int32.not_le.mpr c_3), if_neg c_4])
        · refine lv_aload_n hx hb dX5_checkName_81 rfl (lv_at hl 0 rfl) ?_
          refine lv_iconst (v := 4) hx hb dX5_checkName_82 hki_4 ?_
          refine hs_cvM (va_runV (As := [.int 4]) (rest := []) ⟨hx, hb, hml, hown, hts⟩ (gf_blame l D k _ ee ee_tape ee_draft ee_to ee_fm ee_pl a_bytes a_len a_kd a_st a_be a_va 4) (cwV 1 hts gX5_checkName_X5_blame rfl rfl rfl ⟨rfl, hq_X5_blame⟩ ⟨Nat.le_of_ble_eq_true rfl, Nat.le_of_ble_eq_true rfl⟩) (hs_preV hK hN (hs_subP (w := [_, _]) hP [0, 1] rfl) (hD.sub (ws' := [_, _]) [0, 1] (hs_upnd rfl) rfl) (ci := 4) (q0 := 0) rfl rfl) rfl rfl hl.1 rfl (lv_room (Nat.le_of_ble_eq_true rfl)) dX5_checkName_83 ⟨Nat.le_of_ble_eq_true rfl, Nat.le_of_ble_eq_true rfl⟩) hP hD hS hA [false, false, true] [_] [_, _] rfl [0, 1] rfl [0, 1] (fun u_7 => [_, _]) (fun _ => rfl) (hs_upnd rfl) [false, false, true] (fun u_7 => [_, _, _]) (fun _ => rfl) (fun u_7 H locs hw_6 hP hD hS => ?_)
          have hw_6 : u_7 = cBl ee_fm ee_pl 4 a_st := hw_6
          subst hw_6
          refine lv_goto (tgt := 101) hx hb dX5_checkName_86 rfl ?_
          exact hs_vret hx hb hr hlocks hK hP hD hS ((cBl ee_fm ee_pl 4 a_st).1, (cBl ee_fm ee_pl 4 a_st).2, ee_to) [0, 1, 2] rfl (hs_upnd rfl) dX5_checkName_101 (by rw [cCN, if_neg c_1, if_neg c_2, if_neg (Int32.not_le.mpr c_3), if_pos c_4])
      · refine lv_aload_n hx hb dX5_checkName_50 rfl (lv_at hl 0 rfl) ?_
        refine va_get (D := D) (ci := 4) (v := .ref ee_draft) (C := RX5) (T := TX5) (N := 5) hx hb hts hiX5 hown hK hP 0 rfl rfl 1 (Nat.le_of_ble_eq_true rfl) fl21 (fun _ h9 => h9) rfl dX5_checkName_51 ?_
        refine va_get (D := D) (ci := 5) (v := .int (nI (d_N 1))) (C := RX6) (T := TX6) (N := 15) hx hb hts hiX6 hown hK hP 2 rfl rfl 8 (Nat.le_of_ble_eq_true rfl) fl120 (fun _ h9 => h9) rfl dX5_checkName_54 ?_
        refine lv_iconst (v := 4) hx hb dX5_checkName_57 hki_4 ?_
        refine lv_icmp_lt (tgt := 101) hx hb dX5_checkName_58 rfl (fun c_8 => ?_) (fun c_8 => ?_)
        · have nc_8 : (d_N 1) < 4 := (nI_ltI (a := (d_N 1)) (b := 4) (by omega) (by omega)).mp c_8
          exact hs_vret hx hb hr hlocks hK hP hD hS (ee_fm, ee_pl, ee_to) [0, 1, 2] rfl (hs_upnd rfl) dX5_checkName_101 (by rw [cCN, if_neg c_1, if_neg c_2, if_pos (Int32.not_lt.mp c_3), if_pos (by omega)])
        · have nc_8 : ¬ (d_N 1) < 4 := fun hq9 => c_8 ((nI_ltI (a := (d_N 1)) (b := 4) (by omega) (by omega)).mpr hq9)
          refine lv_aload_n hx hb dX5_checkName_61 rfl (lv_at hl 0 rfl) ?_
          refine lv_iconst (v := 5) hx hb dX5_checkName_62 hki_5 ?_
          refine hs_cvM (va_runV (As := [.int 5]) (rest := []) ⟨hx, hb, hml, hown, hts⟩ (gf_blame l D k _ ee ee_tape ee_draft ee_to ee_fm ee_pl a_bytes a_len a_kd a_st a_be a_va 5) (cwV 1 hts gX5_checkName_X5_blame rfl rfl rfl ⟨rfl, hq_X5_blame⟩ ⟨Nat.le_of_ble_eq_true rfl, Nat.le_of_ble_eq_true rfl⟩) (hs_preV hK hN (hs_subP (w := [_, _]) hP [0, 1] rfl) (hD.sub (ws' := [_, _]) [0, 1] (hs_upnd rfl) rfl) (ci := 4) (q0 := 0) rfl rfl) rfl rfl hl.1 rfl (lv_room (Nat.le_of_ble_eq_true rfl)) dX5_checkName_63 ⟨Nat.le_of_ble_eq_true rfl, Nat.le_of_ble_eq_true rfl⟩) hP hD hS hA [false, false, true] [_] [_, _] rfl [0, 1] rfl [0, 1] (fun u_11 => [_, _]) (fun _ => rfl) (hs_upnd rfl) [false, false, true] (fun u_11 => [_, _, _]) (fun _ => rfl) (fun u_11 H locs hw_10 hP hD hS => ?_)
          have hw_10 : u_11 = cBl ee_fm ee_pl 5 a_st := hw_10
          subst hw_10
          refine lv_goto (tgt := 101) hx hb dX5_checkName_66 rfl ?_
          exact hs_vret hx hb hr hlocks hK hP hD hS ((cBl ee_fm ee_pl 5 a_st).1, (cBl ee_fm ee_pl 5 a_st).2, ee_to) [0, 1, 2] rfl (hs_upnd rfl) dX5_checkName_101 (by rw [cCN, if_neg c_1, if_neg c_2, if_pos (Int32.not_lt.mp c_3), if_neg (by omega)])
    · refine lv_aload_n hx hb dX5_checkName_25 rfl (lv_at hl 0 rfl) ?_
      refine va_get (D := D) (ci := 4) (v := .ref ee_draft) (C := RX5) (T := TX5) (N := 5) hx hb hts hiX5 hown hK hP 0 rfl rfl 1 (Nat.le_of_ble_eq_true rfl) fl21 (fun _ h9 => h9) rfl dX5_checkName_26 ?_
      refine va_get (D := D) (ci := 5) (v := .int (nI (d_N 3))) (C := RX6) (T := TX6) (N := 15) hx hb hts hiX6 hown hK hP 2 rfl rfl 13 (Nat.le_of_ble_eq_true rfl) fl117 (fun _ h9 => h9) rfl dX5_checkName_29 ?_
      refine lv_bipush (v := 8) hx hb dX5_checkName_32 hkb_8 ?_
      refine lv_icmp_lt (tgt := 101) hx hb dX5_checkName_34 rfl (fun c_12 => ?_) (fun c_12 => ?_)
      · have nc_12 : (d_N 3) < 8 := (nI_ltI (a := (d_N 3)) (b := 8) (by omega) (by omega)).mp c_12
        exact hs_vret hx hb hr hlocks hK hP hD hS (ee_fm, ee_pl, ee_to) [0, 1, 2] rfl (hs_upnd rfl) dX5_checkName_101 (by rw [cCN, if_neg c_1, if_pos c_2, if_pos (by omega)])
      · have nc_12 : ¬ (d_N 3) < 8 := fun hq9 => c_12 ((nI_ltI (a := (d_N 3)) (b := 8) (by omega) (by omega)).mpr hq9)
        refine lv_aload_n hx hb dX5_checkName_37 rfl (lv_at hl 0 rfl) ?_
        refine lv_iconst (v := 5) hx hb dX5_checkName_38 hki_5 ?_
        refine hs_cvM (va_runV (As := [.int 5]) (rest := []) ⟨hx, hb, hml, hown, hts⟩ (gf_blame l D k _ ee ee_tape ee_draft ee_to ee_fm ee_pl a_bytes a_len a_kd a_st a_be a_va 5) (cwV 1 hts gX5_checkName_X5_blame rfl rfl rfl ⟨rfl, hq_X5_blame⟩ ⟨Nat.le_of_ble_eq_true rfl, Nat.le_of_ble_eq_true rfl⟩) (hs_preV hK hN (hs_subP (w := [_, _]) hP [0, 1] rfl) (hD.sub (ws' := [_, _]) [0, 1] (hs_upnd rfl) rfl) (ci := 4) (q0 := 0) rfl rfl) rfl rfl hl.1 rfl (lv_room (Nat.le_of_ble_eq_true rfl)) dX5_checkName_39 ⟨Nat.le_of_ble_eq_true rfl, Nat.le_of_ble_eq_true rfl⟩) hP hD hS hA [false, false, true] [_] [_, _] rfl [0, 1] rfl [0, 1] (fun u_15 => [_, _]) (fun _ => rfl) (hs_upnd rfl) [false, false, true] (fun u_15 => [_, _, _]) (fun _ => rfl) (fun u_15 H locs hw_14 hP hD hS => ?_)
        have hw_14 : u_15 = cBl ee_fm ee_pl 5 a_st := hw_14
        subst hw_14
        refine lv_goto (tgt := 101) hx hb dX5_checkName_42 rfl ?_
        exact hs_vret hx hb hr hlocks hK hP hD hS ((cBl ee_fm ee_pl 5 a_st).1, (cBl ee_fm ee_pl 5 a_st).2, ee_to) [0, 1, 2] rfl (hs_upnd rfl) dX5_checkName_101 (by rw [cCN, if_neg c_1, if_pos c_2, if_neg (by omega)])
  · refine lv_aload_n hx hb dX5_checkName_6 rfl (lv_at hl 0 rfl) ?_
    refine lv_iconst (v := 1) hx hb dX5_checkName_7 hki_1 ?_
    refine hs_cvM (va_runV (As := [.int 1]) (rest := []) ⟨hx, hb, hml, hown, hts⟩ (gf_blameFor l D k _ ee ee_tape ee_draft ee_to ee_fm ee_pl a_bytes a_len a_kd a_st a_be a_va 1) (cwV 1 hts gX5_checkName_X5_blameFor rfl rfl rfl ⟨rfl, hq_X5_blameFor⟩ ⟨Nat.le_of_ble_eq_true rfl, Nat.le_of_ble_eq_true rfl⟩) (hs_preV hK hN (hs_subP (w := [_, _]) hP [0, 1] rfl) (hD.sub (ws' := [_, _]) [0, 1] (hs_upnd rfl) rfl) (ci := 4) (q0 := 0) rfl rfl) rfl rfl hl.1 rfl (lv_room (Nat.le_of_ble_eq_true rfl)) dX5_checkName_8 ⟨Nat.le_of_ble_eq_true rfl, Nat.le_of_ble_eq_true rfl⟩) hP hD hS hA [false, false, true] [_] [_, _] rfl [0, 1] rfl [0, 1] (fun u_18 => [_, _]) (fun _ => rfl) (hs_upnd rfl) [false, false, true] (fun u_18 => [_, _, _]) (fun _ => rfl) (fun u_18 H locs hw_17 hP hD hS => ?_)
    have hw_17 : u_18 = cBF ee_fm ee_pl a_kd 1 a_st := hw_17
    subst hw_17
    refine lv_aload_n hx hb dX5_checkName_11 rfl (lv_at hl 0 rfl) ?_
    refine lv_iconst (v := 2) hx hb dX5_checkName_12 hki_2 ?_
    refine hs_cvM (va_runV (As := [.int 2]) (rest := []) ⟨hx, hb, hml, hown, hts⟩ (gf_blame l D k _ ee ee_tape ee_draft ee_to ((cBF ee_fm ee_pl a_kd 1 a_st).1) ((cBF ee_fm ee_pl a_kd 1 a_st).2) a_bytes a_len a_kd a_st a_be a_va 2) (cwV 1 hts gX5_checkName_X5_blame rfl rfl rfl ⟨rfl, hq_X5_blame⟩ ⟨Nat.le_of_ble_eq_true rfl, Nat.le_of_ble_eq_true rfl⟩) (hs_preV hK hN (hs_subP (w := [_, _]) hP [0, 1] rfl) (hD.sub (ws' := [_, _]) [0, 1] (hs_upnd rfl) rfl) (ci := 4) (q0 := 0) rfl rfl) rfl rfl hl.1 rfl (lv_room (Nat.le_of_ble_eq_true rfl)) dX5_checkName_13 ⟨Nat.le_of_ble_eq_true rfl, Nat.le_of_ble_eq_true rfl⟩) hP hD hS hA [false, false, true] [_] [_, _] rfl [0, 1] rfl [0, 1] (fun u_21 => [_, _]) (fun _ => rfl) (hs_upnd rfl) [false, false, true] (fun u_21 => [_, _, _]) (fun _ => rfl) (fun u_21 H locs hw_20 hP hD hS => ?_)
    have hw_20 : u_21 = cBl ((cBF ee_fm ee_pl a_kd 1 a_st).1) ((cBF ee_fm ee_pl a_kd 1 a_st).2) 2 a_st := hw_20
    subst hw_20
    refine lv_goto (tgt := 101) hx hb dX5_checkName_16 rfl ?_
    exact hs_vret hx hb hr hlocks hK hP hD hS ((cBl ((cBF ee_fm ee_pl a_kd 1 a_st).1) ((cBF ee_fm ee_pl a_kd 1 a_st).2) 2 a_st).1, (cBl ((cBF ee_fm ee_pl a_kd 1 a_st).1) ((cBF ee_fm ee_pl a_kd 1 a_st).2) 2 a_st).2, ee_to) [0, 1, 2] rfl (hs_upnd rfl) dX5_checkName_101 (by rw [cCN, if_pos c_1])
