theorem nI_m1a (a : Nat) (h : a ≤ 1000) (x : Int32) : iiF x 0 (nI a - 1) = hasI x (nI a) := by
  unfold iiF hasI
  have e : (0 ≤ x ∧ x ≤ nI a - 1) ↔ (0 ≤ x ∧ x < nI a) := by
    refine and_congr_right (fun h0 => ?_)
    obtain ⟨j, hj, rfl⟩ := nI_of (Int32.not_lt.mpr h0)
    rw [Int32.sub_eq_add_neg]
    by_cases q : a = 0
    · subst q
      refine ⟨fun z => absurd (Int32.le_trans h0 z) (by decide), fun z => absurd z (Int32.not_lt.mpr h0)⟩
    · rw [nI_pr1 (by omega), nI_leI hj (by omega)]
      exact ⟨fun z => nI_lt (by omega) (by omega), fun z => by
        have := (nI_leI (a := a) (b := j) (by omega) hj)
        have h2 : ¬ nI a ≤ nI j := Int32.not_le.mpr z
        rw [this] at h2; omega⟩
  simp only [e]
