def A_ab (x : Int32) : Int32 := if 0 ≤ x then x else 0 - x
