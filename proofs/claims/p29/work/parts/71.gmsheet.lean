def A_laym (la : Int32) (z : Nat) (i : Int32) : Int32 := if la = -4 then -11 else if hslt i z then 1 else -12

theorem hs_lay0 {i : Int32} (h : hsb (hsin i 0 3 && hsin 0 0 2) = 0) : hsin i 0 3 = false := by
  have h1 := hs_n0 h
  cases h2 : hsin i 0 3 with
  | false => rfl
  | true => rw [h2] at h1; exact absurd h1 (by decide)
