-- who CHOOSES
def A_chC (f : Nat → Int32) (n : Nat) (k : Int32) : Int32 := if A_ld f (A_lf k) n < 0 then nI (2 ^ n - 1) &&& (A_lf k ^^^ -1) else A_lf k
def A_chM (f : Nat → Int32) (n : Nat) (k : Int32) : Int32 := if A_ml f (A_lf k) n < 0 then nI (2 ^ n - 1) &&& (A_lf k ^^^ -1) else A_lf k
def A_loC (f f2 : Nat → Int32) (n : Nat) (k : Int32) : Int32 := A_ws f (nI (2 ^ n - 1) &&& (A_chC f2 n k ^^^ -1)) n
def A_loM (f f2 : Nat → Int32) (n : Nat) (k : Int32) : Int32 := A_ws f (nI (2 ^ n - 1) &&& (A_chM f2 n k ^^^ -1)) n
def A_cho (f f2 : Nat → Int32) (n : Nat) (tk what : Int32) : Int32 := if what = 0 then A_ws f (nI (2 ^ n - 1) &&& (tk ^^^ -1)) n else if what = 1 then A_ws f2 tk n else if A_ws f tk n ≤ A_ws f (nI (2 ^ n - 1) &&& (tk ^^^ -1)) n then 0 else 1
theorem A_chM_congr {f g : Nat → Int32} {n : Nat} {k : Int32} (h : ∀ q, q < n → f q = g q) : A_chM f n k = A_chM g n k := by
  unfold A_chM
  rw [A_ml_congr n h]
theorem A_loM_congr {f g f2 g2 : Nat → Int32} {n : Nat} {k : Int32} (h : ∀ q, q < n → f q = g q) (h2 : ∀ q, q < n → f2 q = g2 q) : A_loM f f2 n k = A_loM g g2 n k := by
  unfold A_loM
  rw [A_chM_congr h2, A_ws_congr n h]
theorem A_cho_congr {f g f2 g2 : Nat → Int32} {n : Nat} {tk what : Int32} (h : ∀ q, q < n → f q = g q) (h2 : ∀ q, q < n → f2 q = g2 q) : A_cho f f2 n tk what = A_cho g g2 n tk what := by
  unfold A_cho
  rw [A_ws_congr n h, A_ws_congr n h, A_ws_congr n h2]
theorem A_chCM {f g : Nat → Int32} {n k : Nat} (hn : n ≤ 8) (hk : k < 9) (h : ∀ q, q < n → f q = g q) : A_chC f n (nI k) = A_chM g n (nI k) := by
  unfold A_chC A_chM
  rw [A_lf_n k hk, A_ld_ml hn (A_lf_b k hk), A_ml_congr n h]
theorem A_loCM {f g f2 g2 : Nat → Int32} {n k : Nat} (hn : n ≤ 8) (hk : k < 9) (h : ∀ q, q < n → f q = g q) (h2 : ∀ q, q < n → f2 q = g2 q) : A_loC f f2 n (nI k) = A_loM g g2 n (nI k) := by
  unfold A_loC A_loM
  rw [A_chCM hn hk h2, A_ws_congr n h]
def A_two (i v : Int32) (n : Nat) : Bool := hslt i n && hslt v n && !decide (i = v)
theorem A_two_ex {i v : Int32} {n : Nat} (h : A_two i v n = true) : ∃ a b : Nat, a < n ∧ b < n ∧ i = nI a ∧ v = nI b := by
  obtain ⟨a, ha, ea⟩ := hslt_ex (hs_and1 (hs_and1 h))
  obtain ⟨b, hb, eb⟩ := hslt_ex (hs_and2 (hs_and1 h))
  exact ⟨a, b, ha, hb, ea, eb⟩
def A_chnC (N : Nat → Nat) (F : Nat → Nat → Int32) (i v what : Int32) : Int32 := if (A_two i v (N 1) && hsin what 0 2) = true then A_cho (A_fc F i.toNatClampNeg) (A_fc F v.toNatClampNeg) (N 0) (A_chC (A_fc F v.toNatClampNeg) (N 0) (A_mnC (A_hoC N F i.toNatClampNeg) (N 0 - 2)).1) what else -1
def A_chnM (c pe : Nat) (g : Nat → Int32) (i v what : Int32) : Int32 := if (A_two i v pe && hsin what 0 2) = true then A_cho (A_fm g i.toNatClampNeg) (A_fm g v.toNatClampNeg) c (A_chM (A_fm g v.toNatClampNeg) c (A_mnM (A_hoM c g i.toNatClampNeg) (c - 1)).1) what else -1
theorem R_chosen {N : Nat → Nat} {J : Nat → Int32} {F : Nat → Nat → Int32} {g : Nat → Int32} {pe hm : Nat} {i v what : Int32} (hR : rT N J F g pe hm) (hK : thK N J F) : A_chnC N F i v what = A_chnM (N 0) pe g i v what := by
  have I0 := hK.1.1
  have I1 := hK.1.2.1
  have h2 := hK.2.2.1
  unfold A_chnC A_chnM
  rw [hR.2.1.1]
  by_cases e : (A_two i v (N 1) && hsin what 0 2) = true
  · rw [if_pos e, if_pos e]
    obtain ⟨a, b, ha, hb, ea, eb⟩ := A_two_ex (hs_and1 e)
    rw [ea, eb, nI_clamp (by omega), nI_clamp (by omega), ← R_hon hR hK ha]
    obtain ⟨k, h1, hk, ek⟩ := A_mnC_n (m := A_hoC N F a) (N 0 - 2)
    rw [ek, A_chCM I0 (by omega) (R_fcm hR hK hb)]
    exact A_cho_congr (R_fcm hR hK ha) (R_fcm hR hK hb)
  · rw [if_neg e, if_neg e]
def A_slC (N : Nat → Nat) (F : Nat → Nat → Int32) (j j2 : Nat) : Nat → Int32 := fun k => A_loC (A_fc F j) (A_fc F j2) (N 0) (nI k)
def A_slM (c : Nat) (g : Nat → Int32) (j j2 : Nat) : Nat → Int32 := fun k => A_loM (A_fm g j) (A_fm g j2) c (nI k)
theorem A_slM_congr {c j j2 : Nat} {g g2 : Nat → Int32} (hc : c ≤ 8) (hj : j < 4) (hj2 : j2 < 4) (h : ∀ q, q < 44 → g2 q = g q) : ∀ k, A_slM c g2 j j2 k = A_slM c g j j2 k := by
  intro k
  exact A_loM_congr (fun x hx => A_fm_congr hj h x (by omega)) (fun x hx => A_fm_congr hj2 h x (by omega))
def A_slyC (N : Nat → Nat) (F : Nat → Nat → Int32) (i v what : Int32) : Int32 := if (A_two i v (N 1) && hsin what 0 1) = true then (if what = 0 then (A_mxC (A_slC N F i.toNatClampNeg v.toNatClampNeg) (N 0 - 2)).1 else A_loC (A_fc F i.toNatClampNeg) (A_fc F v.toNatClampNeg) (N 0) (A_mxC (A_slC N F i.toNatClampNeg v.toNatClampNeg) (N 0 - 2)).1) else -1
def A_slyM (c pe : Nat) (g : Nat → Int32) (i v what : Int32) : Int32 := if (A_two i v pe && hsin what 0 1) = true then (if what = 0 then (A_mxM (A_slM c g i.toNatClampNeg v.toNatClampNeg) (c - 1)).1 else (A_mxM (A_slM c g i.toNatClampNeg v.toNatClampNeg) (c - 1)).2) else -1
theorem A_n1 : ∀ x, x < 161 → -1 < nI x := by decide +kernel
theorem R_sly {N : Nat → Nat} {J : Nat → Int32} {F : Nat → Nat → Int32} {g : Nat → Int32} {pe hm : Nat} {i v what : Int32} (hR : rT N J F g pe hm) (hK : thK N J F) : A_slyC N F i v what = A_slyM (N 0) pe g i v what := by
  have I0 := hK.1.1
  have I1 := hK.1.2.1
  have h2 := hK.2.2.1
  unfold A_slyC A_slyM
  rw [hR.2.1.1]
  by_cases e : (A_two i v (N 1) && hsin what 0 1) = true
  · rw [if_pos e, if_pos e]
    obtain ⟨a, b, ha, hb, ea, eb⟩ := A_two_ex (hs_and1 e)
    rw [ea, eb, nI_clamp (by omega), nI_clamp (by omega)]
    have hm1 : -1 < A_slC N F a b 1 := by
      obtain ⟨x, hx, ex⟩ := A_wsb (s := nI (2 ^ (N 0) - 1) &&& (A_chC (A_fc F b) (N 0) (nI 1) ^^^ -1)) (N 0) (by omega) (A_fcb hK ha)
      show -1 < A_ws (A_fc F a) (nI (2 ^ (N 0) - 1) &&& (A_chC (A_fc F b) (N 0) (nI 1) ^^^ -1)) (N 0)
      rw [ex]; exact A_n1 x (by omega)
    have he : ∀ k, 1 ≤ k → k ≤ N 0 - 1 → A_slC N F a b k = A_slM (N 0) g a b k := fun k _ hk => A_loCM (f := A_fc F a) (f2 := A_fc F b) I0 (show k < 9 by omega) (R_fcm hR hK ha) (R_fcm hR hK hb)
    rw [← A_mxM_congr (N 0 - 1) he, A_mx_eqc hm1 h2]
    obtain ⟨k, h1, hk, ek, ev⟩ := A_mxC_v (m := A_slC N F a b) (N 0 - 2)
    rw [ev, ek]
    rfl
  · rw [if_neg e, if_neg e]
