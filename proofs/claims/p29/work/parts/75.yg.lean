def hIs (f : Nat → Int32) (tl fr ps : Nat) (x0 x1 x2 x3 : Int32) : Bool := decide (nI ps - nI fr = x0 ∧ (if fr < tl then f (fr) else -1) = x1 ∧ (if fr + 1 < tl then f (fr + 1) else -1) = x2 ∧ (if fr + 2 < tl then f (fr + 2) else -1) = x3)
def hEn (f : Nat → Int32) (tl fr : Nat) (x0 x1 x2 x3 : Int32) : Bool := decide ((if fr + 3 < tl then f (fr + 3) else -1) = x0 ∧ (x1 = 0 ∨ (if fr + 4 < tl then f (fr + 4) else -1) = x1) ∧ (x2 = 0 ∨ (if fr + 5 < tl then f (fr + 5) else -1) = x2) ∧ (x3 = 0 ∨ (if fr + 6 < tl then f (fr + 6) else -1) = x3))
theorem hs_pf {fr ps n : Nat} (h : fr ≤ ps) (hp : ps < 2 ^ 30) (hn : n < 2 ^ 30) (e : nI ps - nI fr = nI n) : ps - fr = n := by
  rw [pk_sub h] at e
  exact (nI_eq (by omega) (by omega)).mp e

theorem hw_yes0 {f : Nat → Int32} {tl fr ps : Nat} (h1 : fr ≤ ps) (h2 : ps ≤ tl) (h3 : tl ≤ 160) (a0 : hIs f tl fr ps 5 112 108 97 = true) (b0 : hEn f tl fr 105 110 0 0 = true) : A_word f fr ps 0 = true := by
  have a := of_decide_eq_true a0
  have b := of_decide_eq_true b0
  have e := hs_pf (n := 5) h1 (by omega) (by decide) a.1
  refine decide_eq_true ⟨e, fun i hi => ?_⟩
  have hi2 : i < 5 := hi
  rcases (show i = 0 ∨ i = 1 ∨ i = 2 ∨ i = 3 ∨ i = 4 by omega) with rfl | rfl | rfl | rfl | rfl
  · have z := a.2.1
    rw [if_pos (by omega)] at z
    exact z
  · have z := a.2.2.1
    rw [if_pos (by omega)] at z
    exact z
  · have z := a.2.2.2
    rw [if_pos (by omega)] at z
    exact z
  · have z := b.1
    rw [if_pos (by omega)] at z
    exact z
  · have z := b.2.1.resolve_left (by decide)
    rw [if_pos (by omega)] at z
    exact z
theorem hw_no0 {f : Nat → Int32} {tl fr ps : Nat} (h1 : fr ≤ ps) (h2 : ps ≤ tl) (h3 : tl ≤ 160) (h : hIs f tl fr ps 5 112 108 97 = false ∨ hEn f tl fr 105 110 0 0 = false) : A_word f fr ps 0 = false := by
  cases e : A_word f fr ps 0 with
  | false => rfl
  | true =>
    exfalso
    have z := of_decide_eq_true e
    have zl : ps - fr = 5 := z.1
    have g : ∀ i, i < 5 → (if fr + i < tl then f (fr + i) else -1) = hsch 0 i := fun i hi => by rw [if_pos (by omega)]; exact z.2 i hi
    rcases h with h | h
    · exact absurd (show hIs f tl fr ps 5 112 108 97 = true from decide_eq_true ⟨by rw [pk_sub h1, zl]; rfl, g 0 (by decide), g 1 (by decide), g 2 (by decide)⟩) (by rw [h]; decide)
    · exact absurd (show hEn f tl fr 105 110 0 0 = true from decide_eq_true ⟨g 3 (by decide), Or.inr (g 4 (by decide)), Or.inl rfl, Or.inl rfl⟩) (by rw [h]; decide)

theorem hw_yes1 {f : Nat → Int32} {tl fr ps : Nat} (h1 : fr ≤ ps) (h2 : ps ≤ tl) (h3 : tl ≤ 160) (a0 : hIs f tl fr ps 5 99 104 105 = true) (b0 : hEn f tl fr 108 100 0 0 = true) : A_word f fr ps 1 = true := by
  have a := of_decide_eq_true a0
  have b := of_decide_eq_true b0
  have e := hs_pf (n := 5) h1 (by omega) (by decide) a.1
  refine decide_eq_true ⟨e, fun i hi => ?_⟩
  have hi2 : i < 5 := hi
  rcases (show i = 0 ∨ i = 1 ∨ i = 2 ∨ i = 3 ∨ i = 4 by omega) with rfl | rfl | rfl | rfl | rfl
  · have z := a.2.1
    rw [if_pos (by omega)] at z
    exact z
  · have z := a.2.2.1
    rw [if_pos (by omega)] at z
    exact z
  · have z := a.2.2.2
    rw [if_pos (by omega)] at z
    exact z
  · have z := b.1
    rw [if_pos (by omega)] at z
    exact z
  · have z := b.2.1.resolve_left (by decide)
    rw [if_pos (by omega)] at z
    exact z
theorem hw_no1 {f : Nat → Int32} {tl fr ps : Nat} (h1 : fr ≤ ps) (h2 : ps ≤ tl) (h3 : tl ≤ 160) (h : hIs f tl fr ps 5 99 104 105 = false ∨ hEn f tl fr 108 100 0 0 = false) : A_word f fr ps 1 = false := by
  cases e : A_word f fr ps 1 with
  | false => rfl
  | true =>
    exfalso
    have z := of_decide_eq_true e
    have zl : ps - fr = 5 := z.1
    have g : ∀ i, i < 5 → (if fr + i < tl then f (fr + i) else -1) = hsch 1 i := fun i hi => by rw [if_pos (by omega)]; exact z.2 i hi
    rcases h with h | h
    · exact absurd (show hIs f tl fr ps 5 99 104 105 = true from decide_eq_true ⟨by rw [pk_sub h1, zl]; rfl, g 0 (by decide), g 1 (by decide), g 2 (by decide)⟩) (by rw [h]; decide)
    · exact absurd (show hEn f tl fr 108 100 0 0 = true from decide_eq_true ⟨g 3 (by decide), Or.inr (g 4 (by decide)), Or.inl rfl, Or.inl rfl⟩) (by rw [h]; decide)

theorem hw_yes2 {f : Nat → Int32} {tl fr ps : Nat} (h1 : fr ≤ ps) (h2 : ps ≤ tl) (h3 : tl ≤ 160) (a0 : hIs f tl fr ps 5 115 119 101 = true) (b0 : hEn f tl fr 101 116 0 0 = true) : A_word f fr ps 2 = true := by
  have a := of_decide_eq_true a0
  have b := of_decide_eq_true b0
  have e := hs_pf (n := 5) h1 (by omega) (by decide) a.1
  refine decide_eq_true ⟨e, fun i hi => ?_⟩
  have hi2 : i < 5 := hi
  rcases (show i = 0 ∨ i = 1 ∨ i = 2 ∨ i = 3 ∨ i = 4 by omega) with rfl | rfl | rfl | rfl | rfl
  · have z := a.2.1
    rw [if_pos (by omega)] at z
    exact z
  · have z := a.2.2.1
    rw [if_pos (by omega)] at z
    exact z
  · have z := a.2.2.2
    rw [if_pos (by omega)] at z
    exact z
  · have z := b.1
    rw [if_pos (by omega)] at z
    exact z
  · have z := b.2.1.resolve_left (by decide)
    rw [if_pos (by omega)] at z
    exact z
theorem hw_no2 {f : Nat → Int32} {tl fr ps : Nat} (h1 : fr ≤ ps) (h2 : ps ≤ tl) (h3 : tl ≤ 160) (h : hIs f tl fr ps 5 115 119 101 = false ∨ hEn f tl fr 101 116 0 0 = false) : A_word f fr ps 2 = false := by
  cases e : A_word f fr ps 2 with
  | false => rfl
  | true =>
    exfalso
    have z := of_decide_eq_true e
    have zl : ps - fr = 5 := z.1
    have g : ∀ i, i < 5 → (if fr + i < tl then f (fr + i) else -1) = hsch 2 i := fun i hi => by rw [if_pos (by omega)]; exact z.2 i hi
    rcases h with h | h
    · exact absurd (show hIs f tl fr ps 5 115 119 101 = true from decide_eq_true ⟨by rw [pk_sub h1, zl]; rfl, g 0 (by decide), g 1 (by decide), g 2 (by decide)⟩) (by rw [h]; decide)
    · exact absurd (show hEn f tl fr 101 116 0 0 = true from decide_eq_true ⟨g 3 (by decide), Or.inr (g 4 (by decide)), Or.inl rfl, Or.inl rfl⟩) (by rw [h]; decide)

theorem hw_yes3 {f : Nat → Int32} {tl fr ps : Nat} (h1 : fr ≤ ps) (h2 : ps ≤ tl) (h3 : tl ≤ 160) (a0 : hIs f tl fr ps 6 100 101 97 = true) (b0 : hEn f tl fr 108 101 114 0 = true) : A_word f fr ps 3 = true := by
  have a := of_decide_eq_true a0
  have b := of_decide_eq_true b0
  have e := hs_pf (n := 6) h1 (by omega) (by decide) a.1
  refine decide_eq_true ⟨e, fun i hi => ?_⟩
  have hi2 : i < 6 := hi
  rcases (show i = 0 ∨ i = 1 ∨ i = 2 ∨ i = 3 ∨ i = 4 ∨ i = 5 by omega) with rfl | rfl | rfl | rfl | rfl | rfl
  · have z := a.2.1
    rw [if_pos (by omega)] at z
    exact z
  · have z := a.2.2.1
    rw [if_pos (by omega)] at z
    exact z
  · have z := a.2.2.2
    rw [if_pos (by omega)] at z
    exact z
  · have z := b.1
    rw [if_pos (by omega)] at z
    exact z
  · have z := b.2.1.resolve_left (by decide)
    rw [if_pos (by omega)] at z
    exact z
  · have z := b.2.2.1.resolve_left (by decide)
    rw [if_pos (by omega)] at z
    exact z
theorem hw_no3 {f : Nat → Int32} {tl fr ps : Nat} (h1 : fr ≤ ps) (h2 : ps ≤ tl) (h3 : tl ≤ 160) (h : hIs f tl fr ps 6 100 101 97 = false ∨ hEn f tl fr 108 101 114 0 = false) : A_word f fr ps 3 = false := by
  cases e : A_word f fr ps 3 with
  | false => rfl
  | true =>
    exfalso
    have z := of_decide_eq_true e
    have zl : ps - fr = 6 := z.1
    have g : ∀ i, i < 6 → (if fr + i < tl then f (fr + i) else -1) = hsch 3 i := fun i hi => by rw [if_pos (by omega)]; exact z.2 i hi
    rcases h with h | h
    · exact absurd (show hIs f tl fr ps 6 100 101 97 = true from decide_eq_true ⟨by rw [pk_sub h1, zl]; rfl, g 0 (by decide), g 1 (by decide), g 2 (by decide)⟩) (by rw [h]; decide)
    · exact absurd (show hEn f tl fr 108 101 114 0 = true from decide_eq_true ⟨g 3 (by decide), Or.inr (g 4 (by decide)), Or.inr (g 5 (by decide)), Or.inl rfl⟩) (by rw [h]; decide)

theorem hw_yes4 {f : Nat → Int32} {tl fr ps : Nat} (h1 : fr ≤ ps) (h2 : ps ≤ tl) (h3 : tl ≤ 160) (a0 : hIs f tl fr ps 5 116 104 105 = true) (b0 : hEn f tl fr 110 103 0 0 = true) : A_word f fr ps 4 = true := by
  have a := of_decide_eq_true a0
  have b := of_decide_eq_true b0
  have e := hs_pf (n := 5) h1 (by omega) (by decide) a.1
  refine decide_eq_true ⟨e, fun i hi => ?_⟩
  have hi2 : i < 5 := hi
  rcases (show i = 0 ∨ i = 1 ∨ i = 2 ∨ i = 3 ∨ i = 4 by omega) with rfl | rfl | rfl | rfl | rfl
  · have z := a.2.1
    rw [if_pos (by omega)] at z
    exact z
  · have z := a.2.2.1
    rw [if_pos (by omega)] at z
    exact z
  · have z := a.2.2.2
    rw [if_pos (by omega)] at z
    exact z
  · have z := b.1
    rw [if_pos (by omega)] at z
    exact z
  · have z := b.2.1.resolve_left (by decide)
    rw [if_pos (by omega)] at z
    exact z
theorem hw_no4 {f : Nat → Int32} {tl fr ps : Nat} (h1 : fr ≤ ps) (h2 : ps ≤ tl) (h3 : tl ≤ 160) (h : hIs f tl fr ps 5 116 104 105 = false ∨ hEn f tl fr 110 103 0 0 = false) : A_word f fr ps 4 = false := by
  cases e : A_word f fr ps 4 with
  | false => rfl
  | true =>
    exfalso
    have z := of_decide_eq_true e
    have zl : ps - fr = 5 := z.1
    have g : ∀ i, i < 5 → (if fr + i < tl then f (fr + i) else -1) = hsch 4 i := fun i hi => by rw [if_pos (by omega)]; exact z.2 i hi
    rcases h with h | h
    · exact absurd (show hIs f tl fr ps 5 116 104 105 = true from decide_eq_true ⟨by rw [pk_sub h1, zl]; rfl, g 0 (by decide), g 1 (by decide), g 2 (by decide)⟩) (by rw [h]; decide)
    · exact absurd (show hEn f tl fr 110 103 0 0 = true from decide_eq_true ⟨g 3 (by decide), Or.inr (g 4 (by decide)), Or.inl rfl, Or.inl rfl⟩) (by rw [h]; decide)

theorem hw_yes5 {f : Nat → Int32} {tl fr ps : Nat} (h1 : fr ≤ ps) (h2 : ps ≤ tl) (h3 : tl ≤ 160) (a0 : hIs f tl fr ps 4 115 108 105 = true) (b0 : hEn f tl fr 112 0 0 0 = true) : A_word f fr ps 5 = true := by
  have a := of_decide_eq_true a0
  have b := of_decide_eq_true b0
  have e := hs_pf (n := 4) h1 (by omega) (by decide) a.1
  refine decide_eq_true ⟨e, fun i hi => ?_⟩
  have hi2 : i < 4 := hi
  rcases (show i = 0 ∨ i = 1 ∨ i = 2 ∨ i = 3 by omega) with rfl | rfl | rfl | rfl
  · have z := a.2.1
    rw [if_pos (by omega)] at z
    exact z
  · have z := a.2.2.1
    rw [if_pos (by omega)] at z
    exact z
  · have z := a.2.2.2
    rw [if_pos (by omega)] at z
    exact z
  · have z := b.1
    rw [if_pos (by omega)] at z
    exact z
theorem hw_no5 {f : Nat → Int32} {tl fr ps : Nat} (h1 : fr ≤ ps) (h2 : ps ≤ tl) (h3 : tl ≤ 160) (h : hIs f tl fr ps 4 115 108 105 = false ∨ hEn f tl fr 112 0 0 0 = false) : A_word f fr ps 5 = false := by
  cases e : A_word f fr ps 5 with
  | false => rfl
  | true =>
    exfalso
    have z := of_decide_eq_true e
    have zl : ps - fr = 4 := z.1
    have g : ∀ i, i < 4 → (if fr + i < tl then f (fr + i) else -1) = hsch 5 i := fun i hi => by rw [if_pos (by omega)]; exact z.2 i hi
    rcases h with h | h
    · exact absurd (show hIs f tl fr ps 4 115 108 105 = true from decide_eq_true ⟨by rw [pk_sub h1, zl]; rfl, g 0 (by decide), g 1 (by decide), g 2 (by decide)⟩) (by rw [h]; decide)
    · exact absurd (show hEn f tl fr 112 0 0 0 = true from decide_eq_true ⟨g 3 (by decide), Or.inl rfl, Or.inl rfl, Or.inl rfl⟩) (by rw [h]; decide)

theorem hw_yes6 {f : Nat → Int32} {tl fr ps : Nat} (h1 : fr ≤ ps) (h2 : ps ≤ tl) (h3 : tl ≤ 160) (a0 : hIs f tl fr ps 4 102 105 110 = true) (b0 : hEn f tl fr 101 0 0 0 = true) : A_word f fr ps 6 = true := by
  have a := of_decide_eq_true a0
  have b := of_decide_eq_true b0
  have e := hs_pf (n := 4) h1 (by omega) (by decide) a.1
  refine decide_eq_true ⟨e, fun i hi => ?_⟩
  have hi2 : i < 4 := hi
  rcases (show i = 0 ∨ i = 1 ∨ i = 2 ∨ i = 3 by omega) with rfl | rfl | rfl | rfl
  · have z := a.2.1
    rw [if_pos (by omega)] at z
    exact z
  · have z := a.2.2.1
    rw [if_pos (by omega)] at z
    exact z
  · have z := a.2.2.2
    rw [if_pos (by omega)] at z
    exact z
  · have z := b.1
    rw [if_pos (by omega)] at z
    exact z
theorem hw_no6 {f : Nat → Int32} {tl fr ps : Nat} (h1 : fr ≤ ps) (h2 : ps ≤ tl) (h3 : tl ≤ 160) (h : hIs f tl fr ps 4 102 105 110 = false ∨ hEn f tl fr 101 0 0 0 = false) : A_word f fr ps 6 = false := by
  cases e : A_word f fr ps 6 with
  | false => rfl
  | true =>
    exfalso
    have z := of_decide_eq_true e
    have zl : ps - fr = 4 := z.1
    have g : ∀ i, i < 4 → (if fr + i < tl then f (fr + i) else -1) = hsch 6 i := fun i hi => by rw [if_pos (by omega)]; exact z.2 i hi
    rcases h with h | h
    · exact absurd (show hIs f tl fr ps 4 102 105 110 = true from decide_eq_true ⟨by rw [pk_sub h1, zl]; rfl, g 0 (by decide), g 1 (by decide), g 2 (by decide)⟩) (by rw [h]; decide)
    · exact absurd (show hEn f tl fr 101 0 0 0 = true from decide_eq_true ⟨g 3 (by decide), Or.inl rfl, Or.inl rfl, Or.inl rfl⟩) (by rw [h]; decide)

theorem hw_yes7 {f : Nat → Int32} {tl fr ps : Nat} (h1 : fr ≤ ps) (h2 : ps ≤ tl) (h3 : tl ≤ 160) (a0 : hIs f tl fr ps 4 99 97 115 = true) (b0 : hEn f tl fr 101 0 0 0 = true) : A_word f fr ps 7 = true := by
  have a := of_decide_eq_true a0
  have b := of_decide_eq_true b0
  have e := hs_pf (n := 4) h1 (by omega) (by decide) a.1
  refine decide_eq_true ⟨e, fun i hi => ?_⟩
  have hi2 : i < 4 := hi
  rcases (show i = 0 ∨ i = 1 ∨ i = 2 ∨ i = 3 by omega) with rfl | rfl | rfl | rfl
  · have z := a.2.1
    rw [if_pos (by omega)] at z
    exact z
  · have z := a.2.2.1
    rw [if_pos (by omega)] at z
    exact z
  · have z := a.2.2.2
    rw [if_pos (by omega)] at z
    exact z
  · have z := b.1
    rw [if_pos (by omega)] at z
    exact z
theorem hw_no7 {f : Nat → Int32} {tl fr ps : Nat} (h1 : fr ≤ ps) (h2 : ps ≤ tl) (h3 : tl ≤ 160) (h : hIs f tl fr ps 4 99 97 115 = false ∨ hEn f tl fr 101 0 0 0 = false) : A_word f fr ps 7 = false := by
  cases e : A_word f fr ps 7 with
  | false => rfl
  | true =>
    exfalso
    have z := of_decide_eq_true e
    have zl : ps - fr = 4 := z.1
    have g : ∀ i, i < 4 → (if fr + i < tl then f (fr + i) else -1) = hsch 7 i := fun i hi => by rw [if_pos (by omega)]; exact z.2 i hi
    rcases h with h | h
    · exact absurd (show hIs f tl fr ps 4 99 97 115 = true from decide_eq_true ⟨by rw [pk_sub h1, zl]; rfl, g 0 (by decide), g 1 (by decide), g 2 (by decide)⟩) (by rw [h]; decide)
    · exact absurd (show hEn f tl fr 101 0 0 0 = true from decide_eq_true ⟨g 3 (by decide), Or.inl rfl, Or.inl rfl, Or.inl rfl⟩) (by rw [h]; decide)

theorem hw_yes8 {f : Nat → Int32} {tl fr ps : Nat} (h1 : fr ≤ ps) (h2 : ps ≤ tl) (h3 : tl ≤ 160) (a0 : hIs f tl fr ps 7 108 105 103 = true) (b0 : hEn f tl fr 104 116 101 114 = true) : A_word f fr ps 8 = true := by
  have a := of_decide_eq_true a0
  have b := of_decide_eq_true b0
  have e := hs_pf (n := 7) h1 (by omega) (by decide) a.1
  refine decide_eq_true ⟨e, fun i hi => ?_⟩
  have hi2 : i < 7 := hi
  rcases (show i = 0 ∨ i = 1 ∨ i = 2 ∨ i = 3 ∨ i = 4 ∨ i = 5 ∨ i = 6 by omega) with rfl | rfl | rfl | rfl | rfl | rfl | rfl
  · have z := a.2.1
    rw [if_pos (by omega)] at z
    exact z
  · have z := a.2.2.1
    rw [if_pos (by omega)] at z
    exact z
  · have z := a.2.2.2
    rw [if_pos (by omega)] at z
    exact z
  · have z := b.1
    rw [if_pos (by omega)] at z
    exact z
  · have z := b.2.1.resolve_left (by decide)
    rw [if_pos (by omega)] at z
    exact z
  · have z := b.2.2.1.resolve_left (by decide)
    rw [if_pos (by omega)] at z
    exact z
  · have z := b.2.2.2.resolve_left (by decide)
    rw [if_pos (by omega)] at z
    exact z
theorem hw_no8 {f : Nat → Int32} {tl fr ps : Nat} (h1 : fr ≤ ps) (h2 : ps ≤ tl) (h3 : tl ≤ 160) (h : hIs f tl fr ps 7 108 105 103 = false ∨ hEn f tl fr 104 116 101 114 = false) : A_word f fr ps 8 = false := by
  cases e : A_word f fr ps 8 with
  | false => rfl
  | true =>
    exfalso
    have z := of_decide_eq_true e
    have zl : ps - fr = 7 := z.1
    have g : ∀ i, i < 7 → (if fr + i < tl then f (fr + i) else -1) = hsch 8 i := fun i hi => by rw [if_pos (by omega)]; exact z.2 i hi
    rcases h with h | h
    · exact absurd (show hIs f tl fr ps 7 108 105 103 = true from decide_eq_true ⟨by rw [pk_sub h1, zl]; rfl, g 0 (by decide), g 1 (by decide), g 2 (by decide)⟩) (by rw [h]; decide)
    · exact absurd (show hEn f tl fr 104 116 101 114 = true from decide_eq_true ⟨g 3 (by decide), Or.inr (g 4 (by decide)), Or.inr (g 5 (by decide)), Or.inr (g 6 (by decide))⟩) (by rw [h]; decide)

theorem A_word_uniq {f : Nat → Int32} {st be v w : Nat} (hv : v < 9) (hw : w < 9) (h1 : A_word f st be v = true) (h2 : A_word f st be w = true) : v = w := by
  have a := of_decide_eq_true h1
  have b := of_decide_eq_true h2
  have key : ∀ v, v < 9 → ∀ w, w < 9 → hsln v = hsln w → (∀ i, i < 7 → i < hsln v → hsch v i = hsch w i) → v = w := by decide +kernel
  exact key v hv w hw (a.1.symm.trans b.1) (fun i _ hi => (a.2 i hi).symm.trans (b.2 i (by rw [← b.1, a.1]; exact hi)))

set_option maxHeartbeats 4000000 in
set_option maxRecDepth 100000 in
theorem gr_is (l : Launch) (D : va_G) (k : Nat → ClassId) (sz : Nat) (mo : Nat) (mo_st : Nat) (mo_at : Nat) (mo_isKept : Nat) (mo_pe : Nat) (mo_hm : Nat) (mo_draft : Nat) (mo_dp : Nat) (mo_dh : Nat) (mo_toldLines : Int32) (mo_highest : Int32) (mo_tape : Nat) (mo_tl : Nat) (mo_ps : Nat) (mo_fr : Nat) (mo_sort : Int32) (mo_value : Int32) (mo_ft : Nat) (mo_wrongAt : Int32) (mo_row : Nat) (mo_orderMany : Int32) (mo_fo : Nat) (mo_lightest : Int32) (mo_heaviest : Int32) (mo_before : Nat) (mo_justSum : Int64) (mo_toldSum : Int64) (mo_allWays : Int64) (mo_lanes : Nat) (mo_sizes : Nat) (mo_cells : Nat) (mo_torn : Int32) (mo_had : Nat) (tf : Nat → Int32) (x0 : Int32) (x1 : Int32) (x2 : Int32) (x3 : Int32) (ht : mo_tl ≤ 160) (hfp : mo_fr ≤ mo_ps) (hpt : mo_ps ≤ mo_tl) : MI l yX8_is wsX8_is ({ frames := 1, cells := 0, slots := 0, locals := 21 }) D k [.ref mo, .int x0, .int x1, .int x2, .int x3] [oq7 mo mo_st mo_at mo_isKept (nI mo_pe) (nI mo_hm) mo_draft (nI mo_dp) (nI mo_dh) mo_toldLines mo_highest mo_tape (nI mo_tl) (nI mo_ps) (nI mo_fr) mo_sort mo_value (nI mo_ft) mo_wrongAt mo_row mo_orderMany (nI mo_fo) mo_lightest mo_heaviest mo_before mo_justSum mo_toldSum mo_allWays mo_lanes mo_sizes mo_cells mo_torn mo_had, oqI k mo_tape 160 (tf)] sz (fun (r : Int32) (u : Unit) => r = hsb (hIs tf mo_tl mo_fr mo_ps x0 x1 x2 x3)) (fun (u : Unit) => [oq7 mo mo_st mo_at mo_isKept (nI mo_pe) (nI mo_hm) mo_draft (nI mo_dp) (nI mo_dh) mo_toldLines mo_highest mo_tape (nI mo_tl) (nI mo_ps) (nI mo_fr) mo_sort mo_value (nI mo_ft) mo_wrongAt mo_row mo_orderMany (nI mo_fo) mo_lightest mo_heaviest mo_before mo_justSum mo_toldSum mo_allWays mo_lanes mo_sizes mo_cells mo_torn mo_had, oqI k mo_tape 160 (tf)]) := by
  refine Met.ofW (cc := cX8_is) (maxL := 5) (ret := (some .boolean)) hpn_X8 rfl ?_
  intro p e s m args below meth c s₁ B hml hv
  obtain ⟨rfl, hsz, hP, hK, hD0, hN⟩ := hv
  have hx := B.exec
  have hb := B.bytes
  have hr := B.returns
  have hlocks := B.notSynchronized
  have hts := atoms_spec (ws := wsX8_is) B.pre
  have hown := findClass_of_methodNamed B.named
  have hown : s.vm.findClass RX8 = some m.cls := hown
  have hiX8 : ∀ w ∈ u_ws RX8 TX8 32, w ∈ wsX8_is := fun w9 hw9 => List.mem_cons_of_mem _ (igX8 w9 hw9)
  have fl87 := hts (.fieldLink RX8 87 "HalfScalesModel" "pos" "I") (List.mem_cons_of_mem _ (hs_inG 4 92 rfl rfl))
  have fl81 := hts (.fieldLink RX8 81 "HalfScalesModel" "from" "I") (List.mem_cons_of_mem _ (hs_inG 4 93 rfl rfl))
  subst hsz
  have hD := hD0.self (sz := s.heap.size)
  generalize hAe : va_A [oq7 mo mo_st mo_at mo_isKept (nI mo_pe) (nI mo_hm) mo_draft (nI mo_dp) (nI mo_dh) mo_toldLines mo_highest mo_tape (nI mo_tl) (nI mo_ps) (nI mo_fr) mo_sort mo_value (nI mo_ft) mo_wrongAt mo_row mo_orderMany (nI mo_fo) mo_lightest mo_heaviest mo_before mo_justSum mo_toldSum mo_allWays mo_lanes mo_sizes mo_cells mo_torn mo_had, oqI k mo_tape 160 (tf)] s.heap.size = A at hD ⊢
  have hA : ∀ q : Nat, s.heap.size ≤ q → A q := fun q h => by rw [← hAe]; exact Or.inr h
  have hS : va_S A s.heap s.heap [] := va_S.rf
  have hl := lv_entry ([.ref mo, .int x0, .int x1, .int x2, .int x3]) (n := 5) (Nat.le_of_ble_eq_true rfl)
  rw [lg_entry_eq]
  generalize (lg_sl ([.ref mo, .int x0, .int x1, .int x2, .int x3]) ++ List.replicate (5 - (lg_sl ([.ref mo, .int x0, .int x1, .int x2, .int x3])).length) Slot.unset).toArray = ls at hl ⊢
  have hl : lv_has ls 5 [(0, .ref mo), (1, .int x0), (2, .int x1), (3, .int x2), (4, .int x3)] := hl
  have hP : va_P D vwCl [oq7 mo mo_st mo_at mo_isKept (nI mo_pe) (nI mo_hm) mo_draft (nI mo_dp) (nI mo_dh) mo_toldLines mo_highest mo_tape (nI mo_tl) (nI mo_ps) (nI mo_fr) mo_sort mo_value (nI mo_ft) mo_wrongAt mo_row mo_orderMany (nI mo_fo) mo_lightest mo_heaviest mo_before mo_justSum mo_toldSum mo_allWays mo_lanes mo_sizes mo_cells mo_torn mo_had, oqI k mo_tape 160 (tf)] s.heap := hP
  refine lv_aload_n hx hb dX8_is_0 rfl (lv_at hl 0 rfl) ?_
  refine va_get (D := D) (ci := 7) (v := .int (nI mo_ps)) (C := RX8) (T := TX8) (N := 32) hx hb hts hiX8 hown hK hP 0 rfl rfl 12 (Nat.le_of_ble_eq_true rfl) fl87 (fun _ h9 => h9) rfl dX8_is_1 ?_
  refine lv_aload_n hx hb dX8_is_4 rfl (lv_at hl 0 rfl) ?_
  refine va_get (D := D) (ci := 7) (v := .int (nI mo_fr)) (C := RX8) (T := TX8) (N := 32) hx hb hts hiX8 hown hK hP 0 rfl rfl 13 (Nat.le_of_ble_eq_true rfl) fl81 (fun _ h9 => h9) rfl dX8_is_5 ?_
  refine lv_isub hx hb dX8_is_8 ?_
  refine lv_iload_n hx hb dX8_is_9 rfl (lv_at hl 1 rfl) ?_
  refine lv_icmp_ne (tgt := 58) hx hb dX8_is_10 rfl (fun c_1 => ?_) (fun c_1 => ?_)
  · refine lv_iconst (v := 0) hx hb dX8_is_58 hki_0 ?_
    exact hs_zret hx hb hr hlocks hK hP hD hS () [0, 1] rfl (hs_upnd rfl) dX8_is_59 rfl ((by rw [hIs, decide_eq_false (fun z9 => c_1 z9.1)]; rfl))
  · refine lv_aload_n hx hb dX8_is_13 rfl (lv_at hl 0 rfl) ?_
    refine lv_aload_n hx hb dX8_is_14 rfl (lv_at hl 0 rfl) ?_
    refine va_get (D := D) (ci := 7) (v := .int (nI mo_fr)) (C := RX8) (T := TX8) (N := 32) hx hb hts hiX8 hown hK hP 0 rfl rfl 13 (Nat.le_of_ble_eq_true rfl) fl81 (fun _ h9 => h9) rfl dX8_is_15 ?_
    refine hs_ciM (va_runV (As := [.int (nI mo_fr)]) (rest := []) ⟨hx, hb, hml, hown, hts⟩ (gm_byteAt l D k _ mo mo_st mo_at mo_isKept mo_pe mo_hm mo_draft mo_dp mo_dh mo_toldLines mo_highest mo_tape mo_tl mo_ps mo_fr mo_sort mo_value mo_ft mo_wrongAt mo_row mo_orderMany mo_fo mo_lightest mo_heaviest mo_before mo_justSum mo_toldSum mo_allWays mo_lanes mo_sizes mo_cells mo_torn mo_had tf mo_fr (by omega) (by omega)) (cwV 1 hts gX8_is_X8_byteAt rfl rfl rfl ⟨rfl, hq_X8_byteAt⟩ ⟨Nat.le_of_ble_eq_true rfl, Nat.le_of_ble_eq_true rfl⟩) (hs_preV hK hN (hs_subP (w := [_, _]) hP [0, 1] rfl) (hD.sub (ws' := [_, _]) [0, 1] (hs_upnd rfl) rfl) (ci := 7) (q0 := 0) rfl rfl) rfl rfl hl.1 rfl (lv_room (Nat.le_of_ble_eq_true rfl)) dX8_is_18 ⟨Nat.le_of_ble_eq_true rfl, Nat.le_of_ble_eq_true rfl⟩) hP hD hS hA [false, false] [] [_, _] rfl [0, 1] rfl [0, 1] (fun u_4 => [_, _]) (fun _ => rfl) (hs_upnd rfl) [false, false] (fun u_4 => [_, _]) (fun _ => rfl) (fun r_2 u_4 H locs hw_3 hP hD hS => ?_)
    refine hs_topi (if mo_fr < mo_tl then tf mo_fr else -1) hw_3 ?_
    refine lv_iload_n hx hb dX8_is_21 rfl (lv_at hl 2 rfl) ?_
    refine lv_icmp_ne (tgt := 58) hx hb dX8_is_22 rfl (fun c_5 => ?_) (fun c_5 => ?_)
    · refine lv_iconst (v := 0) hx hb dX8_is_58 hki_0 ?_
      exact hs_zret hx hb hr hlocks hK hP hD hS () [0, 1] rfl (hs_upnd rfl) dX8_is_59 rfl ((by rw [hIs, decide_eq_false (fun z9 => c_5 z9.2.1)]; rfl))
    · refine lv_aload_n hx hb dX8_is_25 rfl (lv_at hl 0 rfl) ?_
      refine lv_aload_n hx hb dX8_is_26 rfl (lv_at hl 0 rfl) ?_
      refine va_get (D := D) (ci := 7) (v := .int (nI mo_fr)) (C := RX8) (T := TX8) (N := 32) hx hb hts hiX8 hown hK hP 0 rfl rfl 13 (Nat.le_of_ble_eq_true rfl) fl81 (fun _ h9 => h9) rfl dX8_is_27 ?_
      refine lv_iconst (v := 1) hx hb dX8_is_30 hki_1 ?_
      refine lv_iadd hx hb dX8_is_31 ?_
      refine hs_topi (nI (mo_fr + 1)) (nI_add (mo_fr) (1)) ?_
      refine hs_ciM (va_runV (As := [.int (nI (mo_fr + 1))]) (rest := []) ⟨hx, hb, hml, hown, hts⟩ (gm_byteAt l D k _ mo mo_st mo_at mo_isKept mo_pe mo_hm mo_draft mo_dp mo_dh mo_toldLines mo_highest mo_tape mo_tl mo_ps mo_fr mo_sort mo_value mo_ft mo_wrongAt mo_row mo_orderMany mo_fo mo_lightest mo_heaviest mo_before mo_justSum mo_toldSum mo_allWays mo_lanes mo_sizes mo_cells mo_torn mo_had tf (mo_fr + 1) (by omega) (by omega)) (cwV 1 hts gX8_is_X8_byteAt rfl rfl rfl ⟨rfl, hq_X8_byteAt⟩ ⟨Nat.le_of_ble_eq_true rfl, Nat.le_of_ble_eq_true rfl⟩) (hs_preV hK hN (hs_subP (w := [_, _]) hP [0, 1] rfl) (hD.sub (ws' := [_, _]) [0, 1] (hs_upnd rfl) rfl) (ci := 7) (q0 := 0) rfl rfl) rfl rfl hl.1 rfl (lv_room (Nat.le_of_ble_eq_true rfl)) dX8_is_32 ⟨Nat.le_of_ble_eq_true rfl, Nat.le_of_ble_eq_true rfl⟩) hP hD hS hA [false, false] [] [_, _] rfl [0, 1] rfl [0, 1] (fun u_8 => [_, _]) (fun _ => rfl) (hs_upnd rfl) [false, false] (fun u_8 => [_, _]) (fun _ => rfl) (fun r_6 u_8 H locs hw_7 hP hD hS => ?_)
      refine hs_topi (if (mo_fr + 1) < mo_tl then tf (mo_fr + 1) else -1) hw_7 ?_
      refine lv_iload_n hx hb dX8_is_35 rfl (lv_at hl 3 rfl) ?_
      refine lv_icmp_ne (tgt := 58) hx hb dX8_is_36 rfl (fun c_9 => ?_) (fun c_9 => ?_)
      · refine lv_iconst (v := 0) hx hb dX8_is_58 hki_0 ?_
        exact hs_zret hx hb hr hlocks hK hP hD hS () [0, 1] rfl (hs_upnd rfl) dX8_is_59 rfl ((by rw [hIs, decide_eq_false (fun z9 => c_9 z9.2.2.1)]; rfl))
      · refine lv_aload_n hx hb dX8_is_39 rfl (lv_at hl 0 rfl) ?_
        refine lv_aload_n hx hb dX8_is_40 rfl (lv_at hl 0 rfl) ?_
        refine va_get (D := D) (ci := 7) (v := .int (nI mo_fr)) (C := RX8) (T := TX8) (N := 32) hx hb hts hiX8 hown hK hP 0 rfl rfl 13 (Nat.le_of_ble_eq_true rfl) fl81 (fun _ h9 => h9) rfl dX8_is_41 ?_
        refine lv_iconst (v := 2) hx hb dX8_is_44 hki_2 ?_
        refine lv_iadd hx hb dX8_is_45 ?_
        refine hs_topi (nI (mo_fr + 2)) (nI_add (mo_fr) (2)) ?_
        refine hs_ciM (va_runV (As := [.int (nI (mo_fr + 2))]) (rest := []) ⟨hx, hb, hml, hown, hts⟩ (gm_byteAt l D k _ mo mo_st mo_at mo_isKept mo_pe mo_hm mo_draft mo_dp mo_dh mo_toldLines mo_highest mo_tape mo_tl mo_ps mo_fr mo_sort mo_value mo_ft mo_wrongAt mo_row mo_orderMany mo_fo mo_lightest mo_heaviest mo_before mo_justSum mo_toldSum mo_allWays mo_lanes mo_sizes mo_cells mo_torn mo_had tf (mo_fr + 2) (by omega) (by omega)) (cwV 1 hts gX8_is_X8_byteAt rfl rfl rfl ⟨rfl, hq_X8_byteAt⟩ ⟨Nat.le_of_ble_eq_true rfl, Nat.le_of_ble_eq_true rfl⟩) (hs_preV hK hN (hs_subP (w := [_, _]) hP [0, 1] rfl) (hD.sub (ws' := [_, _]) [0, 1] (hs_upnd rfl) rfl) (ci := 7) (q0 := 0) rfl rfl) rfl rfl hl.1 rfl (lv_room (Nat.le_of_ble_eq_true rfl)) dX8_is_46 ⟨Nat.le_of_ble_eq_true rfl, Nat.le_of_ble_eq_true rfl⟩) hP hD hS hA [false, false] [] [_, _] rfl [0, 1] rfl [0, 1] (fun u_12 => [_, _]) (fun _ => rfl) (hs_upnd rfl) [false, false] (fun u_12 => [_, _]) (fun _ => rfl) (fun r_10 u_12 H locs hw_11 hP hD hS => ?_)
        refine hs_topi (if (mo_fr + 2) < mo_tl then tf (mo_fr + 2) else -1) hw_11 ?_
        refine lv_iload hx hb dX8_is_49 (lv_at hl 4 rfl) ?_
        refine lv_icmp_ne (tgt := 58) hx hb dX8_is_51 rfl (fun c_13 => ?_) (fun c_13 => ?_)
        · refine lv_iconst (v := 0) hx hb dX8_is_58 hki_0 ?_
          exact hs_zret hx hb hr hlocks hK hP hD hS () [0, 1] rfl (hs_upnd rfl) dX8_is_59 rfl ((by rw [hIs, decide_eq_false (fun z9 => c_13 z9.2.2.2)]; rfl))
        · refine lv_iconst (v := 1) hx hb dX8_is_54 hki_1 ?_
          refine lv_goto (tgt := 59) hx hb dX8_is_55 rfl ?_
          exact hs_zret hx hb hr hlocks hK hP hD hS () [0, 1] rfl (hs_upnd rfl) dX8_is_59 rfl ((by rw [hIs, decide_eq_true ⟨c_1, c_5, c_9, c_13⟩]; rfl))

set_option maxHeartbeats 4000000 in
set_option maxRecDepth 100000 in
theorem gr_ends (l : Launch) (D : va_G) (k : Nat → ClassId) (sz : Nat) (mo : Nat) (mo_st : Nat) (mo_at : Nat) (mo_isKept : Nat) (mo_pe : Nat) (mo_hm : Nat) (mo_draft : Nat) (mo_dp : Nat) (mo_dh : Nat) (mo_toldLines : Int32) (mo_highest : Int32) (mo_tape : Nat) (mo_tl : Nat) (mo_ps : Nat) (mo_fr : Nat) (mo_sort : Int32) (mo_value : Int32) (mo_ft : Nat) (mo_wrongAt : Int32) (mo_row : Nat) (mo_orderMany : Int32) (mo_fo : Nat) (mo_lightest : Int32) (mo_heaviest : Int32) (mo_before : Nat) (mo_justSum : Int64) (mo_toldSum : Int64) (mo_allWays : Int64) (mo_lanes : Nat) (mo_sizes : Nat) (mo_cells : Nat) (mo_torn : Int32) (mo_had : Nat) (tf : Nat → Int32) (x0 : Int32) (x1 : Int32) (x2 : Int32) (x3 : Int32) (ht : mo_tl ≤ 160) (hfp : mo_fr ≤ mo_ps) (hpt : mo_ps ≤ mo_tl) : MI l yX8_ends wsX8_ends ({ frames := 1, cells := 0, slots := 0, locals := 21 }) D k [.ref mo, .int x0, .int x1, .int x2, .int x3] [oq7 mo mo_st mo_at mo_isKept (nI mo_pe) (nI mo_hm) mo_draft (nI mo_dp) (nI mo_dh) mo_toldLines mo_highest mo_tape (nI mo_tl) (nI mo_ps) (nI mo_fr) mo_sort mo_value (nI mo_ft) mo_wrongAt mo_row mo_orderMany (nI mo_fo) mo_lightest mo_heaviest mo_before mo_justSum mo_toldSum mo_allWays mo_lanes mo_sizes mo_cells mo_torn mo_had, oqI k mo_tape 160 (tf)] sz (fun (r : Int32) (u : Unit) => r = hsb (hEn tf mo_tl mo_fr x0 x1 x2 x3)) (fun (u : Unit) => [oq7 mo mo_st mo_at mo_isKept (nI mo_pe) (nI mo_hm) mo_draft (nI mo_dp) (nI mo_dh) mo_toldLines mo_highest mo_tape (nI mo_tl) (nI mo_ps) (nI mo_fr) mo_sort mo_value (nI mo_ft) mo_wrongAt mo_row mo_orderMany (nI mo_fo) mo_lightest mo_heaviest mo_before mo_justSum mo_toldSum mo_allWays mo_lanes mo_sizes mo_cells mo_torn mo_had, oqI k mo_tape 160 (tf)]) := by
  refine Met.ofW (cc := cX8_ends) (maxL := 5) (ret := (some .boolean)) hpn_X8 rfl ?_
  intro p e s m args below meth c s₁ B hml hv
  obtain ⟨rfl, hsz, hP, hK, hD0, hN⟩ := hv
  have hx := B.exec
  have hb := B.bytes
  have hr := B.returns
  have hlocks := B.notSynchronized
  have hts := atoms_spec (ws := wsX8_ends) B.pre
  have hown := findClass_of_methodNamed B.named
  have hown : s.vm.findClass RX8 = some m.cls := hown
  have hiX8 : ∀ w ∈ u_ws RX8 TX8 32, w ∈ wsX8_ends := fun w9 hw9 => List.mem_cons_of_mem _ (igX8 w9 hw9)
  have fl81 := hts (.fieldLink RX8 81 "HalfScalesModel" "from" "I") (List.mem_cons_of_mem _ (hs_inG 4 93 rfl rfl))
  subst hsz
  have hD := hD0.self (sz := s.heap.size)
  generalize hAe : va_A [oq7 mo mo_st mo_at mo_isKept (nI mo_pe) (nI mo_hm) mo_draft (nI mo_dp) (nI mo_dh) mo_toldLines mo_highest mo_tape (nI mo_tl) (nI mo_ps) (nI mo_fr) mo_sort mo_value (nI mo_ft) mo_wrongAt mo_row mo_orderMany (nI mo_fo) mo_lightest mo_heaviest mo_before mo_justSum mo_toldSum mo_allWays mo_lanes mo_sizes mo_cells mo_torn mo_had, oqI k mo_tape 160 (tf)] s.heap.size = A at hD ⊢
  have hA : ∀ q : Nat, s.heap.size ≤ q → A q := fun q h => by rw [← hAe]; exact Or.inr h
  have hS : va_S A s.heap s.heap [] := va_S.rf
  have hl := lv_entry ([.ref mo, .int x0, .int x1, .int x2, .int x3]) (n := 5) (Nat.le_of_ble_eq_true rfl)
  rw [lg_entry_eq]
  generalize (lg_sl ([.ref mo, .int x0, .int x1, .int x2, .int x3]) ++ List.replicate (5 - (lg_sl ([.ref mo, .int x0, .int x1, .int x2, .int x3])).length) Slot.unset).toArray = ls at hl ⊢
  have hl : lv_has ls 5 [(0, .ref mo), (1, .int x0), (2, .int x1), (3, .int x2), (4, .int x3)] := hl
  have hP : va_P D vwCl [oq7 mo mo_st mo_at mo_isKept (nI mo_pe) (nI mo_hm) mo_draft (nI mo_dp) (nI mo_dh) mo_toldLines mo_highest mo_tape (nI mo_tl) (nI mo_ps) (nI mo_fr) mo_sort mo_value (nI mo_ft) mo_wrongAt mo_row mo_orderMany (nI mo_fo) mo_lightest mo_heaviest mo_before mo_justSum mo_toldSum mo_allWays mo_lanes mo_sizes mo_cells mo_torn mo_had, oqI k mo_tape 160 (tf)] s.heap := hP
  refine lv_aload_n hx hb dX8_ends_0 rfl (lv_at hl 0 rfl) ?_
  refine lv_aload_n hx hb dX8_ends_1 rfl (lv_at hl 0 rfl) ?_
  refine va_get (D := D) (ci := 7) (v := .int (nI mo_fr)) (C := RX8) (T := TX8) (N := 32) hx hb hts hiX8 hown hK hP 0 rfl rfl 13 (Nat.le_of_ble_eq_true rfl) fl81 (fun _ h9 => h9) rfl dX8_ends_2 ?_
  refine lv_iconst (v := 3) hx hb dX8_ends_5 hki_3 ?_
  refine lv_iadd hx hb dX8_ends_6 ?_
  refine hs_topi (nI (mo_fr + 3)) (nI_add (mo_fr) (3)) ?_
  refine hs_ciM (va_runV (As := [.int (nI (mo_fr + 3))]) (rest := []) ⟨hx, hb, hml, hown, hts⟩ (gm_byteAt l D k _ mo mo_st mo_at mo_isKept mo_pe mo_hm mo_draft mo_dp mo_dh mo_toldLines mo_highest mo_tape mo_tl mo_ps mo_fr mo_sort mo_value mo_ft mo_wrongAt mo_row mo_orderMany mo_fo mo_lightest mo_heaviest mo_before mo_justSum mo_toldSum mo_allWays mo_lanes mo_sizes mo_cells mo_torn mo_had tf (mo_fr + 3) (by omega) (by omega)) (cwV 1 hts gX8_ends_X8_byteAt rfl rfl rfl ⟨rfl, hq_X8_byteAt⟩ ⟨Nat.le_of_ble_eq_true rfl, Nat.le_of_ble_eq_true rfl⟩) (hs_preV hK hN (hs_subP (w := [_, _]) hP [0, 1] rfl) (hD.sub (ws' := [_, _]) [0, 1] (hs_upnd rfl) rfl) (ci := 7) (q0 := 0) rfl rfl) rfl rfl hl.1 rfl (lv_room (Nat.le_of_ble_eq_true rfl)) dX8_ends_7 ⟨Nat.le_of_ble_eq_true rfl, Nat.le_of_ble_eq_true rfl⟩) hP hD hS hA [false, false] [] [_, _] rfl [0, 1] rfl [0, 1] (fun u_3 => [_, _]) (fun _ => rfl) (hs_upnd rfl) [false, false] (fun u_3 => [_, _]) (fun _ => rfl) (fun r_1 u_3 H locs hw_2 hP hD hS => ?_)
  refine hs_topi (if (mo_fr + 3) < mo_tl then tf (mo_fr + 3) else -1) hw_2 ?_
  refine lv_iload_n hx hb dX8_ends_10 rfl (lv_at hl 1 rfl) ?_
  refine lv_icmp_ne (tgt := 75) hx hb dX8_ends_11 rfl (fun c_4 => ?_) (fun c_4 => ?_)
  · refine lv_iconst (v := 0) hx hb dX8_ends_75 hki_0 ?_
    exact hs_zret hx hb hr hlocks hK hP hD hS () [0, 1] rfl (hs_upnd rfl) dX8_ends_76 rfl ((by rw [hEn, decide_eq_false (fun z9 => c_4 z9.1)]; rfl))
  · refine lv_iload_n hx hb dX8_ends_14 rfl (lv_at hl 2 rfl) ?_
    refine lv_if_eq (tgt := 32) hx hb dX8_ends_15 rfl (fun c_5 => ?_) (fun c_5 => ?_)
    · refine lv_iload_n hx hb dX8_ends_32 rfl (lv_at hl 3 rfl) ?_
      refine lv_if_eq (tgt := 50) hx hb dX8_ends_33 rfl (fun c_6 => ?_) (fun c_6 => ?_)
      · refine lv_iload hx hb dX8_ends_50 (lv_at hl 4 rfl) ?_
        refine lv_if_eq (tgt := 71) hx hb dX8_ends_52 rfl (fun c_7 => ?_) (fun c_7 => ?_)
        · refine lv_iconst (v := 1) hx hb dX8_ends_71 hki_1 ?_
          refine lv_goto (tgt := 76) hx hb dX8_ends_72 rfl ?_
          exact hs_zret hx hb hr hlocks hK hP hD hS () [0, 1] rfl (hs_upnd rfl) dX8_ends_76 rfl ((by rw [hEn, decide_eq_true ⟨c_4, Or.inl c_5, Or.inl c_6, Or.inl c_7⟩]; rfl))
        · refine lv_aload_n hx hb dX8_ends_55 rfl (lv_at hl 0 rfl) ?_
          refine lv_aload_n hx hb dX8_ends_56 rfl (lv_at hl 0 rfl) ?_
          refine va_get (D := D) (ci := 7) (v := .int (nI mo_fr)) (C := RX8) (T := TX8) (N := 32) hx hb hts hiX8 hown hK hP 0 rfl rfl 13 (Nat.le_of_ble_eq_true rfl) fl81 (fun _ h9 => h9) rfl dX8_ends_57 ?_
          refine lv_bipush (v := 6) hx hb dX8_ends_60 hkb_6 ?_
          refine lv_iadd hx hb dX8_ends_62 ?_
          refine hs_topi (nI (mo_fr + 6)) (nI_add (mo_fr) (6)) ?_
          refine hs_ciM (va_runV (As := [.int (nI (mo_fr + 6))]) (rest := []) ⟨hx, hb, hml, hown, hts⟩ (gm_byteAt l D k _ mo mo_st mo_at mo_isKept mo_pe mo_hm mo_draft mo_dp mo_dh mo_toldLines mo_highest mo_tape mo_tl mo_ps mo_fr mo_sort mo_value mo_ft mo_wrongAt mo_row mo_orderMany mo_fo mo_lightest mo_heaviest mo_before mo_justSum mo_toldSum mo_allWays mo_lanes mo_sizes mo_cells mo_torn mo_had tf (mo_fr + 6) (by omega) (by omega)) (cwV 1 hts gX8_ends_X8_byteAt rfl rfl rfl ⟨rfl, hq_X8_byteAt⟩ ⟨Nat.le_of_ble_eq_true rfl, Nat.le_of_ble_eq_true rfl⟩) (hs_preV hK hN (hs_subP (w := [_, _]) hP [0, 1] rfl) (hD.sub (ws' := [_, _]) [0, 1] (hs_upnd rfl) rfl) (ci := 7) (q0 := 0) rfl rfl) rfl rfl hl.1 rfl (lv_room (Nat.le_of_ble_eq_true rfl)) dX8_ends_63 ⟨Nat.le_of_ble_eq_true rfl, Nat.le_of_ble_eq_true rfl⟩) hP hD hS hA [false, false] [] [_, _] rfl [0, 1] rfl [0, 1] (fun u_10 => [_, _]) (fun _ => rfl) (hs_upnd rfl) [false, false] (fun u_10 => [_, _]) (fun _ => rfl) (fun r_8 u_10 H locs hw_9 hP hD hS => ?_)
          refine hs_topi (if (mo_fr + 6) < mo_tl then tf (mo_fr + 6) else -1) hw_9 ?_
          refine lv_iload hx hb dX8_ends_66 (lv_at hl 4 rfl) ?_
          refine lv_icmp_ne (tgt := 75) hx hb dX8_ends_68 rfl (fun c_11 => ?_) (fun c_11 => ?_)
          · refine lv_iconst (v := 0) hx hb dX8_ends_75 hki_0 ?_
            exact hs_zret hx hb hr hlocks hK hP hD hS () [0, 1] rfl (hs_upnd rfl) dX8_ends_76 rfl ((by rw [hEn, decide_eq_false (fun z9 => z9.2.2.2.elim c_7 c_11)]; rfl))
          · refine lv_iconst (v := 1) hx hb dX8_ends_71 hki_1 ?_
            refine lv_goto (tgt := 76) hx hb dX8_ends_72 rfl ?_
            exact hs_zret hx hb hr hlocks hK hP hD hS () [0, 1] rfl (hs_upnd rfl) dX8_ends_76 rfl ((by rw [hEn, decide_eq_true ⟨c_4, Or.inl c_5, Or.inl c_6, Or.inr c_11⟩]; rfl))
      · refine lv_aload_n hx hb dX8_ends_36 rfl (lv_at hl 0 rfl) ?_
        refine lv_aload_n hx hb dX8_ends_37 rfl (lv_at hl 0 rfl) ?_
        refine va_get (D := D) (ci := 7) (v := .int (nI mo_fr)) (C := RX8) (T := TX8) (N := 32) hx hb hts hiX8 hown hK hP 0 rfl rfl 13 (Nat.le_of_ble_eq_true rfl) fl81 (fun _ h9 => h9) rfl dX8_ends_38 ?_
        refine lv_iconst (v := 5) hx hb dX8_ends_41 hki_5 ?_
        refine lv_iadd hx hb dX8_ends_42 ?_
        refine hs_topi (nI (mo_fr + 5)) (nI_add (mo_fr) (5)) ?_
        refine hs_ciM (va_runV (As := [.int (nI (mo_fr + 5))]) (rest := []) ⟨hx, hb, hml, hown, hts⟩ (gm_byteAt l D k _ mo mo_st mo_at mo_isKept mo_pe mo_hm mo_draft mo_dp mo_dh mo_toldLines mo_highest mo_tape mo_tl mo_ps mo_fr mo_sort mo_value mo_ft mo_wrongAt mo_row mo_orderMany mo_fo mo_lightest mo_heaviest mo_before mo_justSum mo_toldSum mo_allWays mo_lanes mo_sizes mo_cells mo_torn mo_had tf (mo_fr + 5) (by omega) (by omega)) (cwV 1 hts gX8_ends_X8_byteAt rfl rfl rfl ⟨rfl, hq_X8_byteAt⟩ ⟨Nat.le_of_ble_eq_true rfl, Nat.le_of_ble_eq_true rfl⟩) (hs_preV hK hN (hs_subP (w := [_, _]) hP [0, 1] rfl) (hD.sub (ws' := [_, _]) [0, 1] (hs_upnd rfl) rfl) (ci := 7) (q0 := 0) rfl rfl) rfl rfl hl.1 rfl (lv_room (Nat.le_of_ble_eq_true rfl)) dX8_ends_43 ⟨Nat.le_of_ble_eq_true rfl, Nat.le_of_ble_eq_true rfl⟩) hP hD hS hA [false, false] [] [_, _] rfl [0, 1] rfl [0, 1] (fun u_14 => [_, _]) (fun _ => rfl) (hs_upnd rfl) [false, false] (fun u_14 => [_, _]) (fun _ => rfl) (fun r_12 u_14 H locs hw_13 hP hD hS => ?_)
        refine hs_topi (if (mo_fr + 5) < mo_tl then tf (mo_fr + 5) else -1) hw_13 ?_
        refine lv_iload_n hx hb dX8_ends_46 rfl (lv_at hl 3 rfl) ?_
        refine lv_icmp_ne (tgt := 75) hx hb dX8_ends_47 rfl (fun c_15 => ?_) (fun c_15 => ?_)
        · refine lv_iconst (v := 0) hx hb dX8_ends_75 hki_0 ?_
          exact hs_zret hx hb hr hlocks hK hP hD hS () [0, 1] rfl (hs_upnd rfl) dX8_ends_76 rfl ((by rw [hEn, decide_eq_false (fun z9 => z9.2.2.1.elim c_6 c_15)]; rfl))
        · refine lv_iload hx hb dX8_ends_50 (lv_at hl 4 rfl) ?_
          refine lv_if_eq (tgt := 71) hx hb dX8_ends_52 rfl (fun c_16 => ?_) (fun c_16 => ?_)
          · refine lv_iconst (v := 1) hx hb dX8_ends_71 hki_1 ?_
            refine lv_goto (tgt := 76) hx hb dX8_ends_72 rfl ?_
            exact hs_zret hx hb hr hlocks hK hP hD hS () [0, 1] rfl (hs_upnd rfl) dX8_ends_76 rfl ((by rw [hEn, decide_eq_true ⟨c_4, Or.inl c_5, Or.inr c_15, Or.inl c_16⟩]; rfl))
          · refine lv_aload_n hx hb dX8_ends_55 rfl (lv_at hl 0 rfl) ?_
            refine lv_aload_n hx hb dX8_ends_56 rfl (lv_at hl 0 rfl) ?_
            refine va_get (D := D) (ci := 7) (v := .int (nI mo_fr)) (C := RX8) (T := TX8) (N := 32) hx hb hts hiX8 hown hK hP 0 rfl rfl 13 (Nat.le_of_ble_eq_true rfl) fl81 (fun _ h9 => h9) rfl dX8_ends_57 ?_
            refine lv_bipush (v := 6) hx hb dX8_ends_60 hkb_6 ?_
            refine lv_iadd hx hb dX8_ends_62 ?_
            refine hs_topi (nI (mo_fr + 6)) (nI_add (mo_fr) (6)) ?_
            refine hs_ciM (va_runV (As := [.int (nI (mo_fr + 6))]) (rest := []) ⟨hx, hb, hml, hown, hts⟩ (gm_byteAt l D k _ mo mo_st mo_at mo_isKept mo_pe mo_hm mo_draft mo_dp mo_dh mo_toldLines mo_highest mo_tape mo_tl mo_ps mo_fr mo_sort mo_value mo_ft mo_wrongAt mo_row mo_orderMany mo_fo mo_lightest mo_heaviest mo_before mo_justSum mo_toldSum mo_allWays mo_lanes mo_sizes mo_cells mo_torn mo_had tf (mo_fr + 6) (by omega) (by omega)) (cwV 1 hts gX8_ends_X8_byteAt rfl rfl rfl ⟨rfl, hq_X8_byteAt⟩ ⟨Nat.le_of_ble_eq_true rfl, Nat.le_of_ble_eq_true rfl⟩) (hs_preV hK hN (hs_subP (w := [_, _]) hP [0, 1] rfl) (hD.sub (ws' := [_, _]) [0, 1] (hs_upnd rfl) rfl) (ci := 7) (q0 := 0) rfl rfl) rfl rfl hl.1 rfl (lv_room (Nat.le_of_ble_eq_true rfl)) dX8_ends_63 ⟨Nat.le_of_ble_eq_true rfl, Nat.le_of_ble_eq_true rfl⟩) hP hD hS hA [false, false] [] [_, _] rfl [0, 1] rfl [0, 1] (fun u_19 => [_, _]) (fun _ => rfl) (hs_upnd rfl) [false, false] (fun u_19 => [_, _]) (fun _ => rfl) (fun r_17 u_19 H locs hw_18 hP hD hS => ?_)
            refine hs_topi (if (mo_fr + 6) < mo_tl then tf (mo_fr + 6) else -1) hw_18 ?_
            refine lv_iload hx hb dX8_ends_66 (lv_at hl 4 rfl) ?_
            refine lv_icmp_ne (tgt := 75) hx hb dX8_ends_68 rfl (fun c_20 => ?_) (fun c_20 => ?_)
            · refine lv_iconst (v := 0) hx hb dX8_ends_75 hki_0 ?_
              exact hs_zret hx hb hr hlocks hK hP hD hS () [0, 1] rfl (hs_upnd rfl) dX8_ends_76 rfl ((by rw [hEn, decide_eq_false (fun z9 => z9.2.2.2.elim c_16 c_20)]; rfl))
            · refine lv_iconst (v := 1) hx hb dX8_ends_71 hki_1 ?_
              refine lv_goto (tgt := 76) hx hb dX8_ends_72 rfl ?_
              exact hs_zret hx hb hr hlocks hK hP hD hS () [0, 1] rfl (hs_upnd rfl) dX8_ends_76 rfl ((by rw [hEn, decide_eq_true ⟨c_4, Or.inl c_5, Or.inr c_15, Or.inr c_20⟩]; rfl))
    · refine lv_aload_n hx hb dX8_ends_18 rfl (lv_at hl 0 rfl) ?_
      refine lv_aload_n hx hb dX8_ends_19 rfl (lv_at hl 0 rfl) ?_
      refine va_get (D := D) (ci := 7) (v := .int (nI mo_fr)) (C := RX8) (T := TX8) (N := 32) hx hb hts hiX8 hown hK hP 0 rfl rfl 13 (Nat.le_of_ble_eq_true rfl) fl81 (fun _ h9 => h9) rfl dX8_ends_20 ?_
      refine lv_iconst (v := 4) hx hb dX8_ends_23 hki_4 ?_
      refine lv_iadd hx hb dX8_ends_24 ?_
      refine hs_topi (nI (mo_fr + 4)) (nI_add (mo_fr) (4)) ?_
      refine hs_ciM (va_runV (As := [.int (nI (mo_fr + 4))]) (rest := []) ⟨hx, hb, hml, hown, hts⟩ (gm_byteAt l D k _ mo mo_st mo_at mo_isKept mo_pe mo_hm mo_draft mo_dp mo_dh mo_toldLines mo_highest mo_tape mo_tl mo_ps mo_fr mo_sort mo_value mo_ft mo_wrongAt mo_row mo_orderMany mo_fo mo_lightest mo_heaviest mo_before mo_justSum mo_toldSum mo_allWays mo_lanes mo_sizes mo_cells mo_torn mo_had tf (mo_fr + 4) (by omega) (by omega)) (cwV 1 hts gX8_ends_X8_byteAt rfl rfl rfl ⟨rfl, hq_X8_byteAt⟩ ⟨Nat.le_of_ble_eq_true rfl, Nat.le_of_ble_eq_true rfl⟩) (hs_preV hK hN (hs_subP (w := [_, _]) hP [0, 1] rfl) (hD.sub (ws' := [_, _]) [0, 1] (hs_upnd rfl) rfl) (ci := 7) (q0 := 0) rfl rfl) rfl rfl hl.1 rfl (lv_room (Nat.le_of_ble_eq_true rfl)) dX8_ends_25 ⟨Nat.le_of_ble_eq_true rfl, Nat.le_of_ble_eq_true rfl⟩) hP hD hS hA [false, false] [] [_, _] rfl [0, 1] rfl [0, 1] (fun u_23 => [_, _]) (fun _ => rfl) (hs_upnd rfl) [false, false] (fun u_23 => [_, _]) (fun _ => rfl) (fun r_21 u_23 H locs hw_22 hP hD hS => ?_)
      refine hs_topi (if (mo_fr + 4) < mo_tl then tf (mo_fr + 4) else -1) hw_22 ?_
      refine lv_iload_n hx hb dX8_ends_28 rfl (lv_at hl 2 rfl) ?_
      refine lv_icmp_ne (tgt := 75) hx hb dX8_ends_29 rfl (fun c_24 => ?_) (fun c_24 => ?_)
      · refine lv_iconst (v := 0) hx hb dX8_ends_75 hki_0 ?_
        exact hs_zret hx hb hr hlocks hK hP hD hS () [0, 1] rfl (hs_upnd rfl) dX8_ends_76 rfl ((by rw [hEn, decide_eq_false (fun z9 => z9.2.1.elim c_5 c_24)]; rfl))
      · refine lv_iload_n hx hb dX8_ends_32 rfl (lv_at hl 3 rfl) ?_
        refine lv_if_eq (tgt := 50) hx hb dX8_ends_33 rfl (fun c_25 => ?_) (fun c_25 => ?_)
        · refine lv_iload hx hb dX8_ends_50 (lv_at hl 4 rfl) ?_
          refine lv_if_eq (tgt := 71) hx hb dX8_ends_52 rfl (fun c_26 => ?_) (fun c_26 => ?_)
          · refine lv_iconst (v := 1) hx hb dX8_ends_71 hki_1 ?_
            refine lv_goto (tgt := 76) hx hb dX8_ends_72 rfl ?_
            exact hs_zret hx hb hr hlocks hK hP hD hS () [0, 1] rfl (hs_upnd rfl) dX8_ends_76 rfl ((by rw [hEn, decide_eq_true ⟨c_4, Or.inr c_24, Or.inl c_25, Or.inl c_26⟩]; rfl))
          · refine lv_aload_n hx hb dX8_ends_55 rfl (lv_at hl 0 rfl) ?_
            refine lv_aload_n hx hb dX8_ends_56 rfl (lv_at hl 0 rfl) ?_
            refine va_get (D := D) (ci := 7) (v := .int (nI mo_fr)) (C := RX8) (T := TX8) (N := 32) hx hb hts hiX8 hown hK hP 0 rfl rfl 13 (Nat.le_of_ble_eq_true rfl) fl81 (fun _ h9 => h9) rfl dX8_ends_57 ?_
            refine lv_bipush (v := 6) hx hb dX8_ends_60 hkb_6 ?_
            refine lv_iadd hx hb dX8_ends_62 ?_
            refine hs_topi (nI (mo_fr + 6)) (nI_add (mo_fr) (6)) ?_
            refine hs_ciM (va_runV (As := [.int (nI (mo_fr + 6))]) (rest := []) ⟨hx, hb, hml, hown, hts⟩ (gm_byteAt l D k _ mo mo_st mo_at mo_isKept mo_pe mo_hm mo_draft mo_dp mo_dh mo_toldLines mo_highest mo_tape mo_tl mo_ps mo_fr mo_sort mo_value mo_ft mo_wrongAt mo_row mo_orderMany mo_fo mo_lightest mo_heaviest mo_before mo_justSum mo_toldSum mo_allWays mo_lanes mo_sizes mo_cells mo_torn mo_had tf (mo_fr + 6) (by omega) (by omega)) (cwV 1 hts gX8_ends_X8_byteAt rfl rfl rfl ⟨rfl, hq_X8_byteAt⟩ ⟨Nat.le_of_ble_eq_true rfl, Nat.le_of_ble_eq_true rfl⟩) (hs_preV hK hN (hs_subP (w := [_, _]) hP [0, 1] rfl) (hD.sub (ws' := [_, _]) [0, 1] (hs_upnd rfl) rfl) (ci := 7) (q0 := 0) rfl rfl) rfl rfl hl.1 rfl (lv_room (Nat.le_of_ble_eq_true rfl)) dX8_ends_63 ⟨Nat.le_of_ble_eq_true rfl, Nat.le_of_ble_eq_true rfl⟩) hP hD hS hA [false, false] [] [_, _] rfl [0, 1] rfl [0, 1] (fun u_29 => [_, _]) (fun _ => rfl) (hs_upnd rfl) [false, false] (fun u_29 => [_, _]) (fun _ => rfl) (fun r_27 u_29 H locs hw_28 hP hD hS => ?_)
            refine hs_topi (if (mo_fr + 6) < mo_tl then tf (mo_fr + 6) else -1) hw_28 ?_
            refine lv_iload hx hb dX8_ends_66 (lv_at hl 4 rfl) ?_
            refine lv_icmp_ne (tgt := 75) hx hb dX8_ends_68 rfl (fun c_30 => ?_) (fun c_30 => ?_)
            · refine lv_iconst (v := 0) hx hb dX8_ends_75 hki_0 ?_
              exact hs_zret hx hb hr hlocks hK hP hD hS () [0, 1] rfl (hs_upnd rfl) dX8_ends_76 rfl ((by rw [hEn, decide_eq_false (fun z9 => z9.2.2.2.elim c_26 c_30)]; rfl))
            · refine lv_iconst (v := 1) hx hb dX8_ends_71 hki_1 ?_
              refine lv_goto (tgt := 76) hx hb dX8_ends_72 rfl ?_
              exact hs_zret hx hb hr hlocks hK hP hD hS () [0, 1] rfl (hs_upnd rfl) dX8_ends_76 rfl ((by rw [hEn, decide_eq_true ⟨c_4, Or.inr c_24, Or.inl c_25, Or.inr c_30⟩]; rfl))
        · refine lv_aload_n hx hb dX8_ends_36 rfl (lv_at hl 0 rfl) ?_
          refine lv_aload_n hx hb dX8_ends_37 rfl (lv_at hl 0 rfl) ?_
          refine va_get (D := D) (ci := 7) (v := .int (nI mo_fr)) (C := RX8) (T := TX8) (N := 32) hx hb hts hiX8 hown hK hP 0 rfl rfl 13 (Nat.le_of_ble_eq_true rfl) fl81 (fun _ h9 => h9) rfl dX8_ends_38 ?_
          refine lv_iconst (v := 5) hx hb dX8_ends_41 hki_5 ?_
          refine lv_iadd hx hb dX8_ends_42 ?_
          refine hs_topi (nI (mo_fr + 5)) (nI_add (mo_fr) (5)) ?_
          refine hs_ciM (va_runV (As := [.int (nI (mo_fr + 5))]) (rest := []) ⟨hx, hb, hml, hown, hts⟩ (gm_byteAt l D k _ mo mo_st mo_at mo_isKept mo_pe mo_hm mo_draft mo_dp mo_dh mo_toldLines mo_highest mo_tape mo_tl mo_ps mo_fr mo_sort mo_value mo_ft mo_wrongAt mo_row mo_orderMany mo_fo mo_lightest mo_heaviest mo_before mo_justSum mo_toldSum mo_allWays mo_lanes mo_sizes mo_cells mo_torn mo_had tf (mo_fr + 5) (by omega) (by omega)) (cwV 1 hts gX8_ends_X8_byteAt rfl rfl rfl ⟨rfl, hq_X8_byteAt⟩ ⟨Nat.le_of_ble_eq_true rfl, Nat.le_of_ble_eq_true rfl⟩) (hs_preV hK hN (hs_subP (w := [_, _]) hP [0, 1] rfl) (hD.sub (ws' := [_, _]) [0, 1] (hs_upnd rfl) rfl) (ci := 7) (q0 := 0) rfl rfl) rfl rfl hl.1 rfl (lv_room (Nat.le_of_ble_eq_true rfl)) dX8_ends_43 ⟨Nat.le_of_ble_eq_true rfl, Nat.le_of_ble_eq_true rfl⟩) hP hD hS hA [false, false] [] [_, _] rfl [0, 1] rfl [0, 1] (fun u_33 => [_, _]) (fun _ => rfl) (hs_upnd rfl) [false, false] (fun u_33 => [_, _]) (fun _ => rfl) (fun r_31 u_33 H locs hw_32 hP hD hS => ?_)
          refine hs_topi (if (mo_fr + 5) < mo_tl then tf (mo_fr + 5) else -1) hw_32 ?_
          refine lv_iload_n hx hb dX8_ends_46 rfl (lv_at hl 3 rfl) ?_
          refine lv_icmp_ne (tgt := 75) hx hb dX8_ends_47 rfl (fun c_34 => ?_) (fun c_34 => ?_)
          · refine lv_iconst (v := 0) hx hb dX8_ends_75 hki_0 ?_
            exact hs_zret hx hb hr hlocks hK hP hD hS () [0, 1] rfl (hs_upnd rfl) dX8_ends_76 rfl ((by rw [hEn, decide_eq_false (fun z9 => z9.2.2.1.elim c_25 c_34)]; rfl))
          · refine lv_iload hx hb dX8_ends_50 (lv_at hl 4 rfl) ?_
            refine lv_if_eq (tgt := 71) hx hb dX8_ends_52 rfl (fun c_35 => ?_) (fun c_35 => ?_)
            · refine lv_iconst (v := 1) hx hb dX8_ends_71 hki_1 ?_
              refine lv_goto (tgt := 76) hx hb dX8_ends_72 rfl ?_
              exact hs_zret hx hb hr hlocks hK hP hD hS () [0, 1] rfl (hs_upnd rfl) dX8_ends_76 rfl ((by rw [hEn, decide_eq_true ⟨c_4, Or.inr c_24, Or.inr c_34, Or.inl c_35⟩]; rfl))
            · refine lv_aload_n hx hb dX8_ends_55 rfl (lv_at hl 0 rfl) ?_
              refine lv_aload_n hx hb dX8_ends_56 rfl (lv_at hl 0 rfl) ?_
              refine va_get (D := D) (ci := 7) (v := .int (nI mo_fr)) (C := RX8) (T := TX8) (N := 32) hx hb hts hiX8 hown hK hP 0 rfl rfl 13 (Nat.le_of_ble_eq_true rfl) fl81 (fun _ h9 => h9) rfl dX8_ends_57 ?_
              refine lv_bipush (v := 6) hx hb dX8_ends_60 hkb_6 ?_
              refine lv_iadd hx hb dX8_ends_62 ?_
              refine hs_topi (nI (mo_fr + 6)) (nI_add (mo_fr) (6)) ?_
              refine hs_ciM (va_runV (As := [.int (nI (mo_fr + 6))]) (rest := []) ⟨hx, hb, hml, hown, hts⟩ (gm_byteAt l D k _ mo mo_st mo_at mo_isKept mo_pe mo_hm mo_draft mo_dp mo_dh mo_toldLines mo_highest mo_tape mo_tl mo_ps mo_fr mo_sort mo_value mo_ft mo_wrongAt mo_row mo_orderMany mo_fo mo_lightest mo_heaviest mo_before mo_justSum mo_toldSum mo_allWays mo_lanes mo_sizes mo_cells mo_torn mo_had tf (mo_fr + 6) (by omega) (by omega)) (cwV 1 hts gX8_ends_X8_byteAt rfl rfl rfl ⟨rfl, hq_X8_byteAt⟩ ⟨Nat.le_of_ble_eq_true rfl, Nat.le_of_ble_eq_true rfl⟩) (hs_preV hK hN (hs_subP (w := [_, _]) hP [0, 1] rfl) (hD.sub (ws' := [_, _]) [0, 1] (hs_upnd rfl) rfl) (ci := 7) (q0 := 0) rfl rfl) rfl rfl hl.1 rfl (lv_room (Nat.le_of_ble_eq_true rfl)) dX8_ends_63 ⟨Nat.le_of_ble_eq_true rfl, Nat.le_of_ble_eq_true rfl⟩) hP hD hS hA [false, false] [] [_, _] rfl [0, 1] rfl [0, 1] (fun u_38 => [_, _]) (fun _ => rfl) (hs_upnd rfl) [false, false] (fun u_38 => [_, _]) (fun _ => rfl) (fun r_36 u_38 H locs hw_37 hP hD hS => ?_)
              refine hs_topi (if (mo_fr + 6) < mo_tl then tf (mo_fr + 6) else -1) hw_37 ?_
              refine lv_iload hx hb dX8_ends_66 (lv_at hl 4 rfl) ?_
              refine lv_icmp_ne (tgt := 75) hx hb dX8_ends_68 rfl (fun c_39 => ?_) (fun c_39 => ?_)
              · refine lv_iconst (v := 0) hx hb dX8_ends_75 hki_0 ?_
                exact hs_zret hx hb hr hlocks hK hP hD hS () [0, 1] rfl (hs_upnd rfl) dX8_ends_76 rfl ((by rw [hEn, decide_eq_false (fun z9 => z9.2.2.2.elim c_35 c_39)]; rfl))
              · refine lv_iconst (v := 1) hx hb dX8_ends_71 hki_1 ?_
                refine lv_goto (tgt := 76) hx hb dX8_ends_72 rfl ?_
                exact hs_zret hx hb hr hlocks hK hP hD hS () [0, 1] rfl (hs_upnd rfl) dX8_ends_76 rfl ((by rw [hEn, decide_eq_true ⟨c_4, Or.inr c_24, Or.inr c_34, Or.inr c_39⟩]; rfl))
