theorem nI_pr1 {h : Nat} (h1 : 1 ≤ h) : nI h + -1 = nI (h - 1) := by
  obtain ⟨k, rfl⟩ : ∃ k, h = k + 1 := ⟨h - 1, by omega⟩
  rw [← nI_1 k, Int32.add_assoc]
  exact Int32.add_zero _
