-- THE REFERENCE AGAINST THE CLASS: the class's FAULT and TOKEN (fm pl kd st be va), the reference's (ft wr so fr ps vr)
def hSy (fm pl kd : Int32) (st be : Nat) (va : Int32) (ft : Nat) (wr so : Int32) (fr ps : Nat) (vr : Int32) : Prop :=
  (fm = 0 ∧ ft = 0 ∧ ¬ kd = 4 ∧ fr = st ∧ ps = be ∧ so = kd ∧ (kd = 2 → vr = va)) ∨ (fm = 0 ∧ kd = 4 ∧ ¬ ft = 0 ∧ wr = nI st) ∨ (¬ fm = 0 ∧ ¬ ft = 0 ∧ wr = pl)
def hSyU (b : Int32 × Int32) (t : Int32 × Nat × Nat × Int32) (u : (Nat × Nat) × Int32 × Int32 × Nat × Int32) : Prop := hSy b.1 b.2 t.1 t.2.1 t.2.2.1 t.2.2.2 u.2.2.2.1 u.2.2.2.2 u.2.1 u.1.2 u.1.1 u.2.2.1
theorem hSy_A {pl kd wr so : Int32} {st be : Nat} {va vr : Int32} (hk : ¬ kd = 4) (hso : so = kd) (hv : kd = 2 → vr = va) : hSy 0 pl kd st be va 0 wr so st be vr := Or.inl ⟨rfl, rfl, hk, rfl, rfl, hso, hv⟩
theorem hSy_B {pl kd so : Int32} {st be fr ps ft : Nat} {va vr : Int32} (hk : kd = 4) (hf : ¬ ft = 0) (hfr : fr = st) : hSy 0 pl kd st be va ft (nI fr) so fr ps vr := Or.inr (Or.inl ⟨rfl, hk, hf, by rw [hfr]⟩)
theorem hs_byteE {a b : Nat} {x q : Int32} (hk : ¬ (-1 : Int32) = q) (h : (if a < b then x else -1) = q) : x = q := by
  by_cases e : a < b
  · rw [if_pos e] at h
    exact h
  · rw [if_neg e] at h
    exact absurd h hk
theorem hs_byteN {a b : Nat} {x q : Int32} (h : ¬ (if a < b then x else -1) = q) (hab : a < b) : ¬ x = q := by
  rw [if_pos hab] at h
  exact h
theorem hks_is1 {v : Int32} (h : hks v = 1) : hsin v 97 122 = true := by
  cases e : hsin v 97 122 with
  | true => rfl
  | false =>
    rw [hks, if_neg (by rw [e]; decide)] at h
    by_cases e2 : hsin v 48 57 = true
    · rw [if_pos e2] at h; exact absurd h (by decide)
    · rw [if_neg e2] at h
      by_cases e3 : v = 59
      · rw [if_pos e3] at h; exact absurd h (by decide)
      · rw [if_neg e3] at h; exact absurd h (by decide)
theorem hks_is2 {v : Int32} (h : hks v = 2) : hsin v 48 57 = true := by
  cases e : hsin v 97 122 with
  | true => rw [hks_1 e] at h; exact absurd h (by decide)
  | false =>
    by_cases e2 : hsin v 48 57 = true
    · exact e2
    · rw [hks, if_neg (by rw [e]; decide), if_neg e2] at h
      by_cases e3 : v = 59
      · rw [if_pos e3] at h; exact absurd h (by decide)
      · rw [if_neg e3] at h; exact absurd h (by decide)
theorem hs_dig_let {v : Int32} (h : hsin v 48 57 = true) : hsin v 97 122 = false := by
  cases e : hsin v 97 122 with
  | false => rfl
  | true =>
    have h1 := hsin_toInt h
    have h2 := hsin_toInt e
    have a : (57 : Int32).toInt = 57 := by decide
    have b : (97 : Int32).toInt = 97 := by decide
    omega
theorem hs_inE {a b : Nat} {x lo hi : Int32} (hab : a < b) (h : hsin (if a < b then x else -1) lo hi = true) : hsin x lo hi = true := by
  rw [if_pos hab] at h
  exact h
theorem hs_inF {a b : Nat} {x lo hi : Int32} (hab : a < b) (h : hsin (if a < b then x else -1) lo hi = false) : hsin x lo hi = false := by
  rw [if_pos hab] at h
  exact h
def hNd (ft : Nat) (wr : Int32) (fr : Nat) (g : Int32) (f : Nat) : Nat × Int32 := if g = 0 ∧ ft = 0 then (f, nI fr) else (ft, wr)
theorem hSyU_end {f : Nat → Int32} {len p px ft : Nat} {pl vr wr : Int32} (h0 : ft = 0) (hS : htS f len p = px) (hle : ¬ px < len) : hSyU (0, pl) (htok f len p) ((px, px), 0, vr, ft, wr) := by
  subst h0
  unfold hSyU htok
  dsimp only
  rw [hS, htK_end hle, htB_end hle]
  exact hSy_A (by decide) rfl (fun h => absurd h (by decide))
theorem hSyU_let {f : Nat → Int32} {len p px p2 ft : Nat} {pl vr wr : Int32} (h0 : ft = 0) (hS : htS f len p = px) (hpl : px < len) (hl : hsin (f px) 97 122 = true) (hr : hrun (hsk f 1) len px = p2) : hSyU (0, pl) (htok f len p) ((p2, px), 1, vr, ft, wr) := by
  subst h0
  have hk : hks (f px) = 1 := hks_1 hl
  have hB : htB f len px = p2 := htB_run hpl (by rw [hk]; decide) (by rw [hk]; exact hr)
  have hK : htK f len px = 1 := (htK_in hpl (by rw [hk]; exact fun h => absurd h.1 (by decide))).trans hk
  unfold hSyU htok
  dsimp only
  rw [hS, hK, hB]
  exact hSy_A (by decide) rfl (fun h => absurd h (by decide))
theorem hSyU_dig1 {f : Nat → Int32} {len p px p3 ft : Nat} {pl vx wr : Int32} {u : Nat × Int32} (h0 : ft = 0) (hS : htS f len p = px) (hpl : px < len) (hd : hsin (f px) 48 57 = true) (hr : hrun (hsk f 2) len px = p3) (hv : vx = hnv f px (if p3 - px < 2 then p3 - px else 2)) (hle : p3 - px ≤ 2) (hn : u = hNd ft wr px 1 1) : hSyU (0, pl) (htok f len p) ((p3, px), 2, vx, u.1, u.2) := by
  subst h0
  have hk : hks (f px) = 2 := hks_2 (hs_dig_let hd) hd
  have hB : htB f len px = p3 := htB_run hpl (by rw [hk]; decide) (by rw [hk]; exact hr)
  have hK : htK f len px = 2 := (htK_in hpl (by rw [hB]; exact fun h => absurd h.2 (by omega))).trans hk
  have hV : htV f len px = hnv f px (p3 - px) := by rw [htV_yes hK, hB]
  have hv2 : vx = hnv f px (p3 - px) := by
    rw [hv]
    by_cases h9 : p3 - px < 2
    · rw [if_pos h9]
    · rw [if_neg h9, show p3 - px = 2 by omega]
  rw [hn, hNd, if_neg (by decide)]
  unfold hSyU htok
  dsimp only
  rw [hS, hK, hB, hV, hv2]
  exact hSy_A (by decide) rfl (fun _ => rfl)
theorem hSyU_dig0 {f : Nat → Int32} {len p px p3 ft : Nat} {pl vx wr : Int32} {u : Nat × Int32} (h0 : ft = 0) (hS : htS f len p = px) (hpl : px < len) (hd : hsin (f px) 48 57 = true) (hr : hrun (hsk f 2) len px = p3) (hle : ¬ p3 - px ≤ 2) (hn : u = hNd ft wr px 0 1) : hSyU (0, pl) (htok f len p) ((p3, px), 2, vx, u.1, u.2) := by
  subst h0
  have hk : hks (f px) = 2 := hks_2 (hs_dig_let hd) hd
  have hB : htB f len px = p3 := htB_run hpl (by rw [hk]; decide) (by rw [hk]; exact hr)
  have hK : htK f len px = 4 := htK_long hpl ⟨hk, by rw [hB]; omega⟩
  rw [hn, hNd, if_pos ⟨rfl, rfl⟩]
  unfold hSyU htok
  dsimp only
  rw [hS, hK, hB]
  exact hSy_B rfl (by decide) rfl
theorem hSyU_oth1 {f : Nat → Int32} {len p px ft : Nat} {pl vr wr : Int32} {u : Nat × Int32} (h0 : ft = 0) (hS : htS f len p = px) (hpl : px < len) (hnl : hsin (f px) 97 122 = false) (hnd : hsin (f px) 48 57 = false) (he : f px = 59) (hn : u = hNd ft wr px 1 1) : hSyU (0, pl) (htok f len p) ((px + 1, px), 3, vr, u.1, u.2) := by
  subst h0
  have hk : hks (f px) = 3 := hks_3 hnl hnd he
  have hB : htB f len px = px + 1 := htB_one hpl (by rw [hk]; decide)
  have hK : htK f len px = 3 := (htK_in hpl (by rw [hk]; exact fun h => absurd h.1 (by decide))).trans hk
  rw [hn, hNd, if_neg (by decide)]
  unfold hSyU htok
  dsimp only
  rw [hS, hK, hB]
  exact hSy_A (by decide) rfl (fun h => absurd h (by decide))
theorem hSyU_oth0 {f : Nat → Int32} {len p px ft : Nat} {pl vr wr : Int32} {u : Nat × Int32} (h0 : ft = 0) (hS : htS f len p = px) (hpl : px < len) (hnl : hsin (f px) 97 122 = false) (hnd : hsin (f px) 48 57 = false) (he : ¬ f px = 59) (hn : u = hNd ft wr px 0 1) : hSyU (0, pl) (htok f len p) ((px + 1, px), 3, vr, u.1, u.2) := by
  subst h0
  have hk : hks (f px) = 4 := hks_4 hnl hnd he
  have hB : htB f len px = px + 1 := htB_one hpl (by rw [hk]; decide)
  have hK : htK f len px = 4 := (htK_in hpl (by rw [hk]; exact fun h => absurd h.1 (by decide))).trans hk
  rw [hn, hNd, if_pos ⟨rfl, rfl⟩]
  unfold hSyU htok
  dsimp only
  rw [hS, hK, hB]
  exact hSy_B rfl (by decide) rfl
theorem hs_dval {f : Nat → Int32} {px p3 len : Nat} {vx : Int32} (hb : p3 < len) (hp : px ≤ p3) (h : p3 - px < 2) (hv : vx = hnv f px (if p3 - px < 2 then p3 - px else 2)) : 10 * vx + (if p3 < len then f p3 else -1) - 48 = hnv f px (if p3 + 1 - px < 2 then p3 + 1 - px else 2) := by
  rw [if_pos hb, hv, if_pos h]
  have e : (if p3 + 1 - px < 2 then p3 + 1 - px else 2) = p3 + 1 - px := by
    by_cases h9 : p3 + 1 - px < 2
    · rw [if_pos h9]
    · rw [if_neg h9]; omega
  rw [e, hnv_s hp, Int32.mul_comm]
theorem hs_dval2 {f : Nat → Int32} {px p3 : Nat} {vx : Int32} (h : ¬ p3 - px < 2) (hv : vx = hnv f px (if p3 - px < 2 then p3 - px else 2)) : vx = hnv f px (if p3 + 1 - px < 2 then p3 + 1 - px else 2) := by
  rw [hv, if_neg h, if_neg (by omega)]
