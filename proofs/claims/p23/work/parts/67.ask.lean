theorem nI_pos2 {n : Nat} (h : n < 2 ^ 31) : 0 ≤ nI n := (nI_leI (a := 0) (b := n) (by omega) h).mpr (Nat.zero_le _)
theorem ii_nI2 {x : Int32} {n : Nat} (hn : n ≤ 2000) (h : ¬ iiF x 0 (nI n) = 0) : ∃ j, j ≤ n ∧ x = nI j := by
  have h2 : 0 ≤ x ∧ x ≤ nI n := Decidable.byContradiction fun q => h (if_neg q)
  exact nI_of2 (nI_toInt (by omega)) (Int32.not_lt.mpr h2.1) h2.2
