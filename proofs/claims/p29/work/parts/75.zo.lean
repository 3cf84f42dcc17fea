-- READ: a sheet of lane la, size z and row w, taken as of a lane
def fAt (la : Int32) (z : Nat) (i : Int32) : Int32 := if la = -1 then 1 else if hslt i z then 0 else 2
def fTw (la : Int32) (z : Nat) (lane i : Int32) : Int32 := if ¬ la = -1 ∧ ¬ lane = la then 3 else if ¬ fAt la z i = 0 then fAt la z i else fAt la z (i + 1)
def aTs (z : Nat) (w : Nat → Int32) (i : Int32) : Int32 := if hslt i z then w i.toNatClampNeg else 0
def pRd (f : Int32) (i : Nat) : Int32 := f + nI (2 * i)
def wkR (c z : Nat) (w : Nat → Int32) (p : Int32) : Bool := hslt (aTs z w p) c && hsin (aTs z w (p + 1)) 0 9
def okR (c : Nat) (la : Int32) (z : Nat) (w : Nat → Int32) (lane f : Int32) (i : Nat) : Prop := fTw la z lane (pRd f i) = 0 ∧ wkR c z w (pRd f i) = true
/-- the WEIGHTS behind i readings; of the reference: one place further on -/
def wtR (z : Nat) (w : Nat → Int32) (f : Int32) (v : Nat → Int32) : Nat → (Nat → Int32)
  | 0 => v
  | i + 1 => upd (wtR z w f v i) (aTs z w (pRd f i)).toNatClampNeg (aTs z w (pRd f i + 1))
def wtM (z : Nat) (w : Nat → Int32) (f : Int32) (s : Nat → Int32) : Nat → (Nat → Int32)
  | 0 => s
  | i + 1 => upd (wtM z w f s i) (1 + (aTs z w (pRd f i)).toNatClampNeg) (aTs z w (pRd f i + 1))
def rdE (c : Nat) (la : Int32) (z : Nat) (w : Nat → Int32) (lane f : Int32) (n : Nat) (tor r : Int32) (v : Nat → Int32) (wt : Nat → (Nat → Int32)) (u : (Nat → Int32) × Int32) : Prop :=
  ∃ m : Nat, m ≤ n ∧ (∀ j, j < m → okR c la z w lane f j) ∧ ((m < n ∧ fTw la z lane (pRd f m) = 0 ∧ wkR c z w (pRd f m) = false ∧ r = -20 - nI m ∧ u = (v, tor)) ∨ (m = n ∧ r = nI m ∧ u = (wt m, 0)) ∨ (m < n ∧ ¬ fTw la z lane (pRd f m) = 0 ∧ r = nI m ∧ u = (wt m, fTw la z lane (pRd f m))))
def cRd (c : Nat) (s_la : Nat → Int32) (s_z : Nat → Nat) (s_r : Nat → Nat → Int32) (tor : Int32) (v : Nat → Int32) (i lane f n r : Int32) (u : (Nat → Int32) × Int32) : Prop :=
  ((hsin i 0 3 && hsin lane 0 2 && hsin n 0 20) = false ∧ r = -1 ∧ u = (v, tor)) ∨ ∃ k nn : Nat, k < 4 ∧ i = nI k ∧ nn ≤ 20 ∧ n = nI nn ∧ hsin lane 0 2 = true ∧ rdE c (s_la k) (s_z k) (s_r k) lane f nn tor r v (wtR (s_z k) (s_r k) f v) u
def mRd (c : Nat) (s_la : Nat → Int32) (s_z : Nat → Nat) (s_r : Nat → Nat → Int32) (tor : Int32) (s : Nat → Int32) (i lane f n r : Int32) (u : (Nat → Int32) × Int32) : Prop :=
  ((hsin i 0 3 && hsin lane 0 2 && hsin n 0 20) = false ∧ r = -1 ∧ u = (s, tor)) ∨ ∃ k nn : Nat, k < 4 ∧ i = nI k ∧ nn ≤ 20 ∧ n = nI nn ∧ hsin lane 0 2 = true ∧ rdE c (s_la k) (s_z k) (s_r k) lane f nn tor r s (wtM (s_z k) (s_r k) f s) u
theorem fTw_0 {la : Int32} {z : Nat} {lane i : Int32} (h : fTw la z lane i = 0) : ¬ la = -1 ∧ lane = la ∧ hslt i z = true ∧ hslt (i + 1) z = true := by
  unfold fTw at h
  by_cases h1 : ¬ la = -1 ∧ ¬ lane = la
  · rw [if_pos h1] at h; exact absurd h (by decide)
  · rw [if_neg h1] at h
    by_cases h2 : fAt la z i = 0
    · rw [if_neg (fun z9 => z9 h2)] at h
      have g1 := hs_fa0 h2
      have g2 := hs_fa0 h
      exact ⟨g1.2, Decidable.byContradiction (fun z9 => h1 ⟨g1.2, z9⟩), g1.1, g2.1⟩
    · rw [if_pos h2] at h
      exact absurd h h2
theorem hs_lsum {f : Int32} {i z : Nat} (hi : i ≤ 20) (hz : z ≤ 40) : hslt (pRd f i) z = true ↔ (0 ≤ f.toInt + 2 * (i : Int) ∧ f.toInt + 2 * (i : Int) < z) := by
  have h1 := Int32.le_toInt f
  have h2 := Int32.toInt_lt f
  have e : (pRd f i).toInt = (f.toInt + 2 * (i : Int)).bmod (2 ^ 32) := by
    unfold pRd
    rw [Int32.toInt_add, nI_toInt (by omega)]
    congr 1
  simp only [hslt, Bool.and_eq_true, decide_eq_true_eq, e]
  have hb := Int.bmod_def (f.toInt + 2 * (i : Int)) (2 ^ 32)
  constructor
  · intro h
    by_cases c : f.toInt + 2 * (i : Int) < 2147483648
    · rw [Int.bmod_eq_of_le (by omega) (by omega)] at h
      exact h
    · exfalso
      omega
  · intro h
    rw [Int.bmod_eq_of_le (by omega) (by omega)]
    exact h
theorem hs_lsum1 {f : Int32} {i z : Nat} (hi : i ≤ 20) (hz : z ≤ 40) (h0 : hslt (pRd f i) z = true) : hslt (pRd f i + 1) z = true ↔ f.toInt + 2 * (i : Int) + 1 < z := by
  have h := (hs_lsum hi hz).mp h0
  obtain ⟨j, hj, e⟩ := hslt_ex h0
  have ej : (j : Int) = f.toInt + 2 * (i : Int) := by
    have e2 : (pRd f i).toInt = (f.toInt + 2 * (i : Int)).bmod (2 ^ 32) := by
      unfold pRd
      rw [Int32.toInt_add, nI_toInt (by omega)]
      congr 1
    rw [e, nI_toInt (by omega), Int.bmod_eq_of_le (by omega) (by omega)] at e2
    exact e2
  rw [e, show nI j + 1 = nI (j + 1) from nI_add j 1, hslt_nI (by omega), decide_eq_true_eq]
  omega
theorem hs_lcl {f : Int32} {i c z : Nat} (hi : i ≤ 20) (hc : c ≤ 2) (hz : z ≤ 40) : (¬ lg_cmp (f.toInt64 + (nI (2 * i)).toInt64 + (nI c).toInt64) 0 < 0 ↔ 0 ≤ f.toInt + 2 * (i : Int) + c) ∧ (lg_cmp (f.toInt64 + (nI (2 * i)).toInt64 + (nI c).toInt64) (nI z).toInt64 < 0 ↔ f.toInt + 2 * (i : Int) + c < z) := by
  have z0 : (0 : Int64).toInt = 0 := rfl
  rw [lg_cmp_lt, lg_cmp_lt, Int64.lt_iff_toInt_lt, Int64.lt_iff_toInt_lt, hs_l3q, nI_toInt (by omega), nI_toInt (by omega), Int32.toInt_toInt64, nI_toInt (by omega), z0]
  constructor <;> constructor <;> intro h <;> omega
/-- the reference's two looks at a pair of places -/
theorem fTw_of0 {la : Int32} {z : Nat} {lane p : Int32} (hl : ¬ la = -1) (e : lane = la) : fTw la z lane p = if ¬ fAt la z p = 0 then fAt la z p else fAt la z (p + 1) := by
  unfold fTw
  rw [if_neg (fun h => h.2 e)]
theorem fTw_nul {la : Int32} {z : Nat} {lane p : Int32} (h : la = -1) : fTw la z lane p = 1 := by
  unfold fTw fAt
  rw [if_neg (fun h9 => h9.1 h), if_pos h, if_pos (by decide)]
theorem fTw_cst {la : Int32} {z : Nat} {lane p : Int32} (h : ¬ la = -1) (h2 : ¬ lane = la) : fTw la z lane p = 3 := by
  unfold fTw
  rw [if_pos ⟨h, h2⟩]
theorem fAt_in {la : Int32} {z : Nat} {p : Int32} (hl : ¬ la = -1) (h : hslt p z = true) : fAt la z p = 0 := by
  unfold fAt
  rw [if_neg hl, if_pos h]
theorem fAt_out {la : Int32} {z : Nat} {p : Int32} (hl : ¬ la = -1) (h : ¬ hslt p z = true) : fAt la z p = 2 := by
  unfold fAt
  rw [if_neg hl, if_neg h]
theorem aTs_in {z : Nat} {w : Nat → Int32} {p : Int32} (h : hslt p z = true) : aTs z w p = w p.toNatClampNeg := by
  unfold aTs
  rw [if_pos h]
/-- both sides have the same sheets -/
def rSh (s_la : Nat → Int32) (s_z : Nat → Nat) (s_r : Nat → Nat → Int32) (laf sif ce : Nat → Int32) : Prop := ∀ k, k < 4 → ((laf k = -4 ∧ s_la k = -1) ∨ (laf k = s_la k ∧ ¬ s_la k = -1 ∧ ¬ s_la k = -4 ∧ sif k = nI (s_z k) ∧ s_z k ≤ 40 ∧ ∀ i, i < 40 → ce (40 * k + i) = s_r k i))
theorem hs_rdcell {ce w : Nat → Int32} {k z i jj : Nat} {f : Int32} (hi : i ≤ 20) (hz : z ≤ 40) (hc : ∀ j, j < 40 → ce (40 * k + j) = w j) (h0 : hslt (pRd f i) z = true) (h1 : hslt (pRd f i + 1) z = true) (ej : (jj : Int) = f.toInt + 2 * (i : Int)) : ce (40 * k + jj) = aTs z w (pRd f i) ∧ ce (40 * k + jj + 1) = aTs z w (pRd f i + 1) := by
  have h := (hs_lsum hi hz).mp h0
  have h2 := (hs_lsum1 hi hz h0).mp h1
  obtain ⟨j, hj, e⟩ := hslt_ex h0
  have e2 : (pRd f i).toInt = (f.toInt + 2 * (i : Int)).bmod (2 ^ 32) := by
    unfold pRd
    rw [Int32.toInt_add, nI_toInt (by omega)]
    congr 1
  rw [e, nI_toInt (by omega), Int.bmod_eq_of_le (by omega) (by omega)] at e2
  have ejj : j = jj := by omega
  subst ejj
  rw [aTs_in h0, aTs_in h1, e, show nI j + 1 = nI (j + 1) from nI_add j 1, nI_clamp (by omega), nI_clamp (by omega)]
  exact ⟨hc j (by omega), hc (j + 1) (by omega)⟩
theorem wk_in {c z : Nat} {w : Nat → Int32} {p : Int32} (h : wkR c z w p = true) : ∃ j x : Nat, j < c ∧ x ≤ 9 ∧ aTs z w p = nI j ∧ aTs z w (p + 1) = nI x := by
  obtain ⟨j, hj, ej⟩ := hslt_ex (hs_and1 h)
  obtain ⟨x, -, hx, ex⟩ := hs_rng (lo := 0) (hi := 9) (by decide) (by decide) (hs_and2 h)
  exact ⟨j, x, hj, hx, ej, ex⟩
/-- what the reference's weighing keeps -/
theorem mWg_kp {c : Nat} {s u : Nat → Int32} {i v r : Int32} (hc : c ≤ 8) (h : mWg c s i v r u) (hb : ∀ j, j < c → vp_in (s (1 + j)) 10) : (∀ q, ¬ (1 ≤ q ∧ q ≤ 8) → u q = s q) ∧ ∀ j, j < c → vp_in (u (1 + j)) 10 := by
  rcases h with ⟨h1, -, h3⟩ | ⟨-, -, h3⟩
  · obtain ⟨j, hj, ej⟩ := hslt_ex (hs_and1 h1)
    obtain ⟨x, -, hx, ex⟩ := hs_rng (lo := 0) (hi := 9) (by decide) (by decide) (hs_and2 h1)
    rw [h3, ej, nI_clamp (by omega)]
    refine ⟨fun q hq => hs_un (by omega), fun q hq => ?_⟩
    by_cases e : q = j
    · rw [hs_uq (by omega), ex]; exact vp_in_nI (by omega) (by decide)
    · rw [hs_un (by omega)]; exact hb q hq
  · rw [h3]
    exact ⟨fun _ _ => rfl, hb⟩
theorem mWg_ge {c : Nat} {s u : Nat → Int32} {i v r : Int32} (hc : c ≤ 8) (h : mWg c s i v r u) (hb : ∀ j, j < c → vp_in (s (1 + j)) 10) : 0 ≤ r ↔ (hslt i c && hsin v 0 9) = true := by
  rcases h with ⟨h1, h2, -⟩ | ⟨h1, h2, -⟩
  · obtain ⟨j, hj, ej⟩ := hslt_ex (hs_and1 h1)
    refine ⟨fun _ => h1, fun _ => ?_⟩
    rw [h2, ej, nI_clamp (by omega)]
    obtain ⟨x, hx, ex⟩ := vp_in_of (hb j hj) (by decide)
    rw [ex, Int32.le_iff_toInt_le, nI_toInt (by omega)]
    have z : (0 : Int32).toInt = 0 := rfl
    omega
  · rw [h1, h2]
    constructor
    · intro h9; exact absurd h9 (by decide)
    · intro h9; cases h9
theorem mWg_ok {c : Nat} {s u : Nat → Int32} {i v r : Int32} (h : mWg c s i v r u) (h1 : (hslt i c && hsin v 0 9) = true) : u = upd s (1 + i.toNatClampNeg) v := by
  rcases h with ⟨-, -, h3⟩ | ⟨h2, -, -⟩
  · exact h3
  · rw [h1] at h2; cases h2
theorem cWg_ok {c : Nat} {s u : Nat → Int32} {i v r : Int32} (h : cWg c s i v r u) (h1 : (hslt i c && hsin v 0 9) = true) : u = upd s i.toNatClampNeg v := by
  rcases h with ⟨-, -, h3⟩ | ⟨h2, -, -⟩
  · exact h3
  · rw [h1] at h2; cases h2
theorem hs_rbad {i v n : Int32} (h : hsin i 0 3 = false ∨ hsin v 0 2 = false ∨ hsin n 0 20 = false) : (hsin i 0 3 && hsin v 0 2 && hsin n 0 20) = false := by
  rcases h with h | h | h
  · rw [h]; rfl
  · rw [h, Bool.and_false]; rfl
  · rw [h, Bool.and_false]
theorem fTw_first {la : Int32} {z : Nat} {lane i : Int32} (h : ¬ (¬ la = -1 ∧ ¬ lane = la)) (h2 : ¬ fAt la z i = 0) : fTw la z lane i = fAt la z i := by
  unfold fTw
  rw [if_neg h, if_pos h2]
theorem fTw_second {la : Int32} {z : Nat} {lane i : Int32} (h : ¬ (¬ la = -1 ∧ ¬ lane = la)) (h2 : fAt la z i = 0) : fTw la z lane i = fAt la z (i + 1) := by
  unfold fTw
  rw [if_neg h, if_neg (fun z9 => z9 h2)]

set_option maxHeartbeats 4000000 in
set_option maxRecDepth 100000 in
theorem gf_faultOfTwo (l : Launch) (D : va_G) (k : Nat → ClassId) (sz : Nat) (q : Nat) (q_row : Nat) (q_la : Int32) (q_z : Nat) (la : Int32) (i : Int32) (hz : q_z ≤ 40) : MI l yX3_faultOfTwo wsX3_faultOfTwo ({ frames := 2, cells := 0, slots := 0, locals := 43 }) D k [.ref q, .int la, .int i] [oq2 q q_row q_la (nI q_z)] sz (fun (r : Int32) (u : Unit) => r = fTw q_la q_z la i) (fun (u : Unit) => [oq2 q q_row q_la (nI q_z)]) := by
  refine Met.ofW (cc := cX3_faultOfTwo) (maxL := 4) (ret := (some .int)) hpn_X3 rfl ?_
  intro p e s m args below meth c s₁ B hml hv
  obtain ⟨rfl, hsz, hP, hK, hD0, hN⟩ := hv
  have hx := B.exec
  have hb := B.bytes
  have hr := B.returns
  have hlocks := B.notSynchronized
  have hts := atoms_spec (ws := wsX3_faultOfTwo) B.pre
  have hown := findClass_of_methodNamed B.named
  have hown : s.vm.findClass RX3 = some m.cls := hown
  have hiX3 : ∀ w ∈ u_ws RX3 TX3 3, w ∈ wsX3_faultOfTwo := fun w9 hw9 => List.mem_cons_of_mem _ (igX3 w9 hw9)
  have fl13 := hts (.fieldLink RX3 13 "HalfScales$Sheet" "laneOf" "I") (List.mem_cons_of_mem _ (hs_inG 1 205 rfl rfl))
  subst hsz
  have hD := hD0.self (sz := s.heap.size)
  generalize hAe : va_A [oq2 q q_row q_la (nI q_z)] s.heap.size = A at hD ⊢
  have hA : ∀ q : Nat, s.heap.size ≤ q → A q := fun q h => by rw [← hAe]; exact Or.inr h
  have hS : va_S A s.heap s.heap [] := va_S.rf
  have hl := lv_entry ([.ref q, .int la, .int i]) (n := 4) (Nat.le_of_ble_eq_true rfl)
  rw [lg_entry_eq]
  generalize (lg_sl ([.ref q, .int la, .int i]) ++ List.replicate (4 - (lg_sl ([.ref q, .int la, .int i])).length) Slot.unset).toArray = ls at hl ⊢
  have hl : lv_has ls 4 [(0, .ref q), (1, .int la), (2, .int i)] := hl
  have hP : va_P D vwCl [oq2 q q_row q_la (nI q_z)] s.heap := hP
  refine lv_aload_n hx hb dX3_faultOfTwo_0 rfl (lv_at hl 0 rfl) ?_
  refine hs_ciM (va_runV (As := []) (rest := []) ⟨hx, hb, hml, hown, hts⟩ (g_isNothing l D k _ q q_row q_la q_z) (cwV 0 hts gX3_faultOfTwo_X3_isNothing rfl rfl rfl ⟨rfl, hq_X3_isNothing⟩ ⟨Nat.le_of_ble_eq_true rfl, Nat.le_of_ble_eq_true rfl⟩) (hs_preV hK hN (hs_subP (w := [_]) hP [0] rfl) (hD.sub (ws' := [_]) [0] (hs_upnd rfl) rfl) (ci := 2) (q0 := 0) rfl rfl) rfl rfl hl.1 rfl (lv_room (Nat.le_of_ble_eq_true rfl)) dX3_faultOfTwo_1 ⟨Nat.le_of_ble_eq_true rfl, Nat.le_of_ble_eq_true rfl⟩) hP hD hS hA [false] [] [_] rfl [0] rfl [0] (fun u_3 => [_]) (fun _ => rfl) (hs_upnd rfl) [false] (fun u_3 => [_]) (fun _ => rfl) (fun r_1 u_3 H locs hw_2 hP hD hS => ?_)
  refine hs_topi (hsb (decide (q_la = -1))) hw_2 ?_
  refine lv_if_ne (tgt := 17) hx hb dX3_faultOfTwo_4 rfl (fun c_4 => ?_) (fun c_4 => ?_)
  · refine lv_aload_n hx hb dX3_faultOfTwo_17 rfl (lv_at hl 0 rfl) ?_
    refine lv_iload_n hx hb dX3_faultOfTwo_18 rfl (lv_at hl 2 rfl) ?_
    refine hs_ciM (va_runV (As := [.int i]) (rest := []) ⟨hx, hb, hml, hown, hts⟩ (g_faultAt l D k _ q q_row q_la q_z i (by omega)) (cwV 1 hts gX3_faultOfTwo_X3_faultAt rfl rfl rfl ⟨rfl, hq_X3_faultAt⟩ ⟨Nat.le_of_ble_eq_true rfl, Nat.le_of_ble_eq_true rfl⟩) (hs_preV hK hN (hs_subP (w := [_]) hP [0] rfl) (hD.sub (ws' := [_]) [0] (hs_upnd rfl) rfl) (ci := 2) (q0 := 0) rfl rfl) rfl rfl hl.1 rfl (lv_room (Nat.le_of_ble_eq_true rfl)) dX3_faultOfTwo_19 ⟨Nat.le_of_ble_eq_true rfl, Nat.le_of_ble_eq_true rfl⟩) hP hD hS hA [false] [] [_] rfl [0] rfl [0] (fun u_7 => [_]) (fun _ => rfl) (hs_upnd rfl) [false] (fun u_7 => [_]) (fun _ => rfl) (fun r_5 u_7 H locs hw_6 hP hD hS => ?_)
    refine hs_topi (if q_la = -1 then 1 else if hslt i q_z then 0 else 2) hw_6 ?_
    refine lv_istore_n (lv' := [(3, .int (if q_la = -1 then 1 else if hslt i q_z then 0 else 2)), (0, .ref q), (1, .int la), (2, .int i)]) hx hb dX3_faultOfTwo_22 rfl hl (Nat.le_of_ble_eq_true rfl) rfl (fun ls hl => ?_)
    refine lv_iload_n hx hb dX3_faultOfTwo_23 rfl (lv_at hl 0 rfl) ?_
    refine lv_if_eq (tgt := 31) hx hb dX3_faultOfTwo_24 rfl (fun c_8 => ?_) (fun c_8 => ?_)
    · refine lv_aload_n hx hb dX3_faultOfTwo_31 rfl (lv_at hl 1 rfl) ?_
      refine lv_iload_n hx hb dX3_faultOfTwo_32 rfl (lv_at hl 3 rfl) ?_
      refine lv_iconst (v := 1) hx hb dX3_faultOfTwo_33 hki_1 ?_
      refine lv_iadd hx hb dX3_faultOfTwo_34 ?_
      refine hs_ciM (va_runV (As := [.int (i + 1)]) (rest := []) ⟨hx, hb, hml, hown, hts⟩ (g_faultAt l D k _ q q_row q_la q_z (i + 1) (by omega)) (cwV 1 hts gX3_faultOfTwo_X3_faultAt rfl rfl rfl ⟨rfl, hq_X3_faultAt⟩ ⟨Nat.le_of_ble_eq_true rfl, Nat.le_of_ble_eq_true rfl⟩) (hs_preV hK hN (hs_subP (w := [_]) hP [0] rfl) (hD.sub (ws' := [_]) [0] (hs_upnd rfl) rfl) (ci := 2) (q0 := 0) rfl rfl) rfl rfl hl.1 rfl (lv_room (Nat.le_of_ble_eq_true rfl)) dX3_faultOfTwo_35 ⟨Nat.le_of_ble_eq_true rfl, Nat.le_of_ble_eq_true rfl⟩) hP hD hS hA [false] [] [_] rfl [0] rfl [0] (fun u_11 => [_]) (fun _ => rfl) (hs_upnd rfl) [false] (fun u_11 => [_]) (fun _ => rfl) (fun r_9 u_11 H locs hw_10 hP hD hS => ?_)
      refine hs_topi (if q_la = -1 then 1 else if hslt (i + 1) q_z then 0 else 2) hw_10 ?_
      exact hs_iret hx hb hr hlocks hK hP hD hS () [0] rfl (hs_upnd rfl) dX3_faultOfTwo_38 ((fTw_second (fun z9 => z9.1 (of_decide_eq_true (hs_nb c_4))) c_8).symm)
    · refine lv_iload_n hx hb dX3_faultOfTwo_27 rfl (lv_at hl 0 rfl) ?_
      refine lv_goto (tgt := 38) hx hb dX3_faultOfTwo_28 rfl ?_
      exact hs_iret hx hb hr hlocks hK hP hD hS () [0] rfl (hs_upnd rfl) dX3_faultOfTwo_38 ((fTw_first (fun z9 => z9.1 (of_decide_eq_true (hs_nb c_4))) c_8).symm)
  · refine lv_iload_n hx hb dX3_faultOfTwo_7 rfl (lv_at hl 1 rfl) ?_
    refine lv_aload_n hx hb dX3_faultOfTwo_8 rfl (lv_at hl 0 rfl) ?_
    refine va_get (D := D) (ci := 2) (v := .int q_la) (C := RX3) (T := TX3) (N := 3) hx hb hts hiX3 hown hK hP 0 rfl rfl 1 (Nat.le_of_ble_eq_true rfl) fl13 (fun _ h9 => h9) rfl dX3_faultOfTwo_9 ?_
    refine lv_icmp_eq (tgt := 17) hx hb dX3_faultOfTwo_12 rfl (fun c_12 => ?_) (fun c_12 => ?_)
    · refine lv_aload_n hx hb dX3_faultOfTwo_17 rfl (lv_at hl 0 rfl) ?_
      refine lv_iload_n hx hb dX3_faultOfTwo_18 rfl (lv_at hl 2 rfl) ?_
      refine hs_ciM (va_runV (As := [.int i]) (rest := []) ⟨hx, hb, hml, hown, hts⟩ (g_faultAt l D k _ q q_row q_la q_z i (by omega)) (cwV 1 hts gX3_faultOfTwo_X3_faultAt rfl rfl rfl ⟨rfl, hq_X3_faultAt⟩ ⟨Nat.le_of_ble_eq_true rfl, Nat.le_of_ble_eq_true rfl⟩) (hs_preV hK hN (hs_subP (w := [_]) hP [0] rfl) (hD.sub (ws' := [_]) [0] (hs_upnd rfl) rfl) (ci := 2) (q0 := 0) rfl rfl) rfl rfl hl.1 rfl (lv_room (Nat.le_of_ble_eq_true rfl)) dX3_faultOfTwo_19 ⟨Nat.le_of_ble_eq_true rfl, Nat.le_of_ble_eq_true rfl⟩) hP hD hS hA [false] [] [_] rfl [0] rfl [0] (fun u_15 => [_]) (fun _ => rfl) (hs_upnd rfl) [false] (fun u_15 => [_]) (fun _ => rfl) (fun r_13 u_15 H locs hw_14 hP hD hS => ?_)
      refine hs_topi (if q_la = -1 then 1 else if hslt i q_z then 0 else 2) hw_14 ?_
      refine lv_istore_n (lv' := [(3, .int (if q_la = -1 then 1 else if hslt i q_z then 0 else 2)), (0, .ref q), (1, .int la), (2, .int i)]) hx hb dX3_faultOfTwo_22 rfl hl (Nat.le_of_ble_eq_true rfl) rfl (fun ls hl => ?_)
      refine lv_iload_n hx hb dX3_faultOfTwo_23 rfl (lv_at hl 0 rfl) ?_
      refine lv_if_eq (tgt := 31) hx hb dX3_faultOfTwo_24 rfl (fun c_16 => ?_) (fun c_16 => ?_)
      · refine lv_aload_n hx hb dX3_faultOfTwo_31 rfl (lv_at hl 1 rfl) ?_
        refine lv_iload_n hx hb dX3_faultOfTwo_32 rfl (lv_at hl 3 rfl) ?_
        refine lv_iconst (v := 1) hx hb dX3_faultOfTwo_33 hki_1 ?_
        refine lv_iadd hx hb dX3_faultOfTwo_34 ?_
        refine hs_ciM (va_runV (As := [.int (i + 1)]) (rest := []) ⟨hx, hb, hml, hown, hts⟩ (g_faultAt l D k _ q q_row q_la q_z (i + 1) (by omega)) (cwV 1 hts gX3_faultOfTwo_X3_faultAt rfl rfl rfl ⟨rfl, hq_X3_faultAt⟩ ⟨Nat.le_of_ble_eq_true rfl, Nat.le_of_ble_eq_true rfl⟩) (hs_preV hK hN (hs_subP (w := [_]) hP [0] rfl) (hD.sub (ws' := [_]) [0] (hs_upnd rfl) rfl) (ci := 2) (q0 := 0) rfl rfl) rfl rfl hl.1 rfl (lv_room (Nat.le_of_ble_eq_true rfl)) dX3_faultOfTwo_35 ⟨Nat.le_of_ble_eq_true rfl, Nat.le_of_ble_eq_true rfl⟩) hP hD hS hA [false] [] [_] rfl [0] rfl [0] (fun u_19 => [_]) (fun _ => rfl) (hs_upnd rfl) [false] (fun u_19 => [_]) (fun _ => rfl) (fun r_17 u_19 H locs hw_18 hP hD hS => ?_)
        refine hs_topi (if q_la = -1 then 1 else if hslt (i + 1) q_z then 0 else 2) hw_18 ?_
        exact hs_iret hx hb hr hlocks hK hP hD hS () [0] rfl (hs_upnd rfl) dX3_faultOfTwo_38 ((fTw_second (fun z9 => z9.2 c_12) c_16).symm)
      · refine lv_iload_n hx hb dX3_faultOfTwo_27 rfl (lv_at hl 0 rfl) ?_
        refine lv_goto (tgt := 38) hx hb dX3_faultOfTwo_28 rfl ?_
        exact hs_iret hx hb hr hlocks hK hP hD hS () [0] rfl (hs_upnd rfl) dX3_faultOfTwo_38 ((fTw_first (fun z9 => z9.2 c_12) c_16).symm)
    · refine lv_iconst (v := 3) hx hb dX3_faultOfTwo_15 hki_3 ?_
      exact hs_iret hx hb hr hlocks hK hP hD hS () [0] rfl (hs_upnd rfl) dX3_faultOfTwo_16 ((by rw [fTw, if_pos ⟨of_decide_eq_false (hs_n0 c_4), c_12⟩]))

set_option maxHeartbeats 4000000 in
set_option maxRecDepth 100000 in
theorem gf_at (l : Launch) (D : va_G) (k : Nat → ClassId) (sz : Nat) (q : Nat) (q_row : Nat) (q_la : Int32) (q_z : Nat) (i : Int32) (rf : Nat → Int32) (hz : q_z ≤ 40) : MI l yX3_at wsX3_at ({ frames := 1, cells := 0, slots := 0, locals := 22 }) D k [.ref q, .int i] [oq2 q q_row q_la (nI q_z), oqI k q_row 40 (rf)] sz (fun (r : Int32) (u : Unit) => r = aTs q_z rf i) (fun (u : Unit) => [oq2 q q_row q_la (nI q_z), oqI k q_row 40 (rf)]) := by
  refine Met.ofW (cc := cX3_at) (maxL := 2) (ret := (some .int)) hpn_X3 rfl ?_
  intro p e s m args below meth c s₁ B hml hv
  obtain ⟨rfl, hsz, hP, hK, hD0, hN⟩ := hv
  have hx := B.exec
  have hb := B.bytes
  have hr := B.returns
  have hlocks := B.notSynchronized
  have hts := atoms_spec (ws := wsX3_at) B.pre
  have hown := findClass_of_methodNamed B.named
  have hown : s.vm.findClass RX3 = some m.cls := hown
  have hiX3 : ∀ w ∈ u_ws RX3 TX3 3, w ∈ wsX3_at := fun w9 hw9 => List.mem_cons_of_mem _ (igX3 w9 hw9)
  have fl23 := hts (.fieldLink RX3 23 "HalfScales$Sheet" "size" "I") (List.mem_cons_of_mem _ (hs_inG 1 206 rfl rfl))
  have fl9 := hts (.fieldLink RX3 9 "HalfScales$Sheet" "row" "[I") (List.mem_cons_of_mem _ (hs_inG 1 204 rfl rfl))
  have iniX7 := hts (.initialized RX7) (List.mem_cons_of_mem _ (hs_inG 1 1 rfl rfl))
  have st_X7_within := hts (.static yX7_within) (List.mem_cons_of_mem _ (hs_inG 2 11 rfl rfl))
  subst hsz
  have hD := hD0.self (sz := s.heap.size)
  generalize hAe : va_A [oq2 q q_row q_la (nI q_z), oqI k q_row 40 (rf)] s.heap.size = A at hD ⊢
  have hA : ∀ q : Nat, s.heap.size ≤ q → A q := fun q h => by rw [← hAe]; exact Or.inr h
  have hS : va_S A s.heap s.heap [] := va_S.rf
  have hl := lv_entry ([.ref q, .int i]) (n := 2) (Nat.le_of_ble_eq_true rfl)
  rw [lg_entry_eq]
  generalize (lg_sl ([.ref q, .int i]) ++ List.replicate (2 - (lg_sl ([.ref q, .int i])).length) Slot.unset).toArray = ls at hl ⊢
  have hl : lv_has ls 2 [(0, .ref q), (1, .int i)] := hl
  have hP : va_P D vwCl [oq2 q q_row q_la (nI q_z), oqI k q_row 40 (rf)] s.heap := hP
  refine lv_iload_n hx hb dX3_at_0 rfl (lv_at hl 1 rfl) ?_
  refine lv_iconst (v := 0) hx hb dX3_at_1 hki_0 ?_
  refine lv_aload_n hx hb dX3_at_2 rfl (lv_at hl 0 rfl) ?_
  refine va_get (D := D) (ci := 2) (v := .int (nI q_z)) (C := RX3) (T := TX3) (N := 3) hx hb hts hiX3 hown hK hP 0 rfl rfl 2 (Nat.le_of_ble_eq_true rfl) fl23 (fun _ h9 => h9) rfl dX3_at_3 ?_
  refine lv_iconst (v := 1) hx hb dX3_at_6 hki_1 ?_
  refine lv_isub hx hb dX3_at_7 ?_
  refine hs_pi (va_runSN (As := [.int i, .int 0, .int ((nI q_z) - 1)]) (rest := []) ⟨hx, hb, hml, hown, hts⟩ (g_within l D k _ i 0 ((nI q_z) - 1)) ⟨(va_cnB 3 hts gX3_at_X7_within_n17 rfl rfl rfl hN.2.2.2.2.2.2.2.2.1 iniX7 hq_X7_within ⟨Nat.le_of_ble_eq_true rfl, Nat.le_of_ble_eq_true rfl⟩), st_X7_within, trivial⟩ (hs_preS hK hN (hs_subP (w := []) hP [] rfl) (hD.sub (ws' := []) [] rfl rfl)) rfl rfl hl.1 rfl (lv_room (Nat.le_of_ble_eq_true rfl)) dX3_at_8 ⟨Nat.le_of_ble_eq_true rfl, Nat.le_of_ble_eq_true rfl⟩) hP hD hS hA (fun r_1 u_3 H locs hw_2 hP hS => ?_)
  refine hs_topi (hsb (hsin i 0 ((nI q_z) - 1))) hw_2 ?_
  refine lv_if_eq (tgt := 23) hx hb dX3_at_11 rfl (fun c_4 => ?_) (fun c_4 => ?_)
  · refine lv_iconst (v := 0) hx hb dX3_at_23 hki_0 ?_
    exact hs_iret hx hb hr hlocks hK hP hD hS () [0, 1] rfl (hs_upnd rfl) dX3_at_24 ((by rw [aTs, if_neg (by rw [← hslt_in (show q_z < 2 ^ 30 by omega), hs_n0 c_4]; decide)]))
  · refine lv_aload_n hx hb dX3_at_14 rfl (lv_at hl 0 rfl) ?_
    refine va_get (D := D) (ci := 2) (v := .ref q_row) (C := RX3) (T := TX3) (N := 3) hx hb hts hiX3 hown hK hP 0 rfl rfl 0 (Nat.le_of_ble_eq_true rfl) fl9 (fun _ h9 => h9) rfl dX3_at_15 ?_
    refine lv_iload_n hx hb dX3_at_18 rfl (lv_at hl 1 rfl) ?_
    refine va_iald hx hb hK hP 1 0 rfl rfl (hslt_vp (hs_nb (by have f0 := c_4; rw [hslt_in (show q_z < 2 ^ 30 by omega)] at f0; exact f0)) (by omega)) dX3_at_19 ?_
    refine lv_goto (tgt := 24) hx hb dX3_at_20 rfl ?_
    exact hs_iret hx hb hr hlocks hK hP hD hS () [0, 1] rfl (hs_upnd rfl) dX3_at_24 ((by rw [aTs, if_pos ((hslt_in (show q_z < 2 ^ 30 by omega)).symm.trans (hs_nb c_4))]))
