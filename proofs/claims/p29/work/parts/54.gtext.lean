theorem hs_rng {v : Int32} {lo hi : Nat} (hh : hi < 2 ^ 30) (hl : lo ≤ hi) (h : hsin v (nI lo) (nI hi) = true) : ∃ j : Nat, lo ≤ j ∧ j ≤ hi ∧ v = nI j := by
  have h1 := hsin_toInt h
  rw [nI_toInt (by omega), nI_toInt (by omega)] at h1
  refine ⟨v.toInt.toNat, by omega, by omega, Int32.toInt_inj.mp ?_⟩
  rw [nI_toInt (by omega)]
  omega
