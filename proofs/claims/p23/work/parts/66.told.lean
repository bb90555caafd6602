theorem ii_nI {x : Int32} {n : Nat} (hn : n ≤ 1000) (h : ¬ iiF x 0 (nI n) = 0) : ∃ j, j ≤ n ∧ x = nI j := by
  have h2 : 0 ≤ x ∧ x ≤ nI n := Decidable.byContradiction fun q => h (if_neg q)
  exact nI_of2 (nI_toInt (by omega)) (Int32.not_lt.mpr h2.1) h2.2
theorem has_nI {x : Int32} {n : Nat} (hn : n ≤ 1000) (h : ¬ hasI x (nI n) = 0) : ∃ j, j < n ∧ x = nI j := by
  have h2 : 0 ≤ x ∧ x < nI n := Decidable.byContradiction fun q => h (if_neg q)
  obtain ⟨j, hj, rfl⟩ := nI_of (Int32.not_lt.mpr h2.1)
  refine ⟨j, Nat.lt_of_not_le (fun q => Int32.not_le.mpr h2.2 ((nI_leI (by omega) hj).mpr q)), rfl⟩
def cntF (a b c n8 : Nat) (ρ : RH) (j : Nat) : Int32 := if j = 12 then nI n8 else totF a b c ρ j
