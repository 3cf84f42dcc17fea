theorem hs_byte {a b : Nat} {x q : Int32} (hk : ¬ (-1 : Int32) = q) (h : (if a < b then x else -1) = q) : a < b := by
  by_cases e : a < b
  · exact e
  · rw [if_neg e] at h
    exact absurd h hk
theorem hs_byte0 {a b : Nat} {x : Int32} (h : 0 ≤ (if a < b then x else -1)) : a < b := by
  by_cases e : a < b
  · exact e
  · rw [if_neg e] at h
    exact absurd h (by decide)
theorem hs_byteR {a b : Nat} {x lo hi : Int32} (hl : 0 ≤ lo) (h : hsin (if a < b then x else -1) lo hi = true) : a < b := by
  by_cases e : a < b
  · exact e
  · rw [if_neg e] at h
    have h1 := (hsin_toInt h).1
    have h2 := Int32.le_iff_toInt_le.mp hl
    have z : (0 : Int32).toInt = 0 := rfl
    have y : (-1 : Int32).toInt = -1 := by decide
    omega
