/-- the model's kinds of the signs -/
def kdF (o : Nat) : Nat := if o < 28 then o else if o = 43 then 40 else if o = 44 then 41 else if o = 41 then 300 else if o = 42 then 301 else if o = 28 then 90 else if o = 29 then 91 else if o = 30 then 141 else if o = 31 then 143 else if o = 32 then 109 else if o = 33 then 94 else if o = 34 then 93 else if o = 35 then 95 else if o = 36 then 92 else if o = 37 then 97 else if o = 38 then 110 else if o = 39 then 112 else 111
section KW
variable {B : Nat → Nat} {p n ln : Nat}
theorem kwG_no : ∀ k i, i + k ≤ 48 → (∀ j, i ≤ j → j < 48 → ¬ txQ B (sgT.getD j 0) p n = true) → kwG B p n i k = 43
  | 0, _, _, _ => rfl
  | k + 1, i, h, h2 => by
    rw [kwG, if_neg (h2 i (Nat.le_refl _) (by omega))]
    exact kwG_no k (i + 1) (by omega) (fun j q1 q2 => h2 j (by omega) q2)
theorem kw_no (h : ∀ i, i < 48 → ¬ txQ B (sgT.getD i 0) p n = true) : kwF B p n = 43 := kwG_no 48 0 (Nat.le_refl _) (fun j _ q => h j q)
theorem kwG_at {o : Nat} (ho : o < 48) (h : txQ B (sgT.getD o 0) p n = true) (h2 : ∀ i, i < o → ¬ txQ B (sgT.getD i 0) p n = true) : ∀ k, k ≤ o → kwG B p n (o - k) (48 - (o - k)) = o
  | 0, _ => kwG_y ho h
  | k + 1, hk => by
    rw [kwG_n (by omega) (h2 _ (by omega)), show o - (k + 1) + 1 = o - k by omega]
    exact kwG_at ho h h2 k (by omega)
theorem kw_at {o : Nat} (ho : o < 48) (h : txQ B (sgT.getD o 0) p n = true) (h2 : ∀ i, i < o → ¬ txQ B (sgT.getD i 0) p n = true) : kwF B p n = o := by
  have h3 := kwG_at ho h h2 o (Nat.le_refl _)
  rw [Nat.sub_self] at h3
  exact h3
theorem sg_1 : ∀ i, i < 48 → stL.getD (sgT.getD i 0) 0 = 1 → 28 ≤ i ∧ i ≤ 40 ∧ kdF i = 50 + (chF (sgT.getD i 0) 0).toNatClampNeg ∧ chF (sgT.getD i 0) 0 = nI (kdF i - 50) ∧ kdF i - 50 < 128 ∧ syB (kdF i - 50) = true := by decide +kernel
theorem sg_2 : ∀ i, i < 48 → stL.getD (sgT.getD i 0) 0 = 2 → (i = 41 ∧ chF (sgT.getD i 0) 0 = 60 ∧ chF (sgT.getD i 0) 1 = 61) ∨ (i = 42 ∧ chF (sgT.getD i 0) 0 = 62 ∧ chF (sgT.getD i 0) 1 = 61) ∨ iiF (chF (sgT.getD i 0) 0) 97 122 = 1 := by decide +kernel
theorem sg_w : ∀ i, i < 48 → 28 ≤ i → stL.getD (sgT.getD i 0) 0 = 0 ∨ iiF (chF (sgT.getD i 0) 0) 97 122 = 0 := by decide +kernel
theorem sx_nI : ∀ b, b < 256 → ∀ c, c < 128 → (sx b = nI c ↔ b = c) := by decide +kernel
theorem kw2_y (h8 : ∀ i, B i < 256) (h0 : ltB (B p) = false) : kwF B p 2 = if B p = 60 ∧ B (p + 1) = 61 then 41 else if B p = 62 ∧ B (p + 1) = 61 then 42 else 43 := by
  have hm : ∀ i, i < 48 → txQ B (sgT.getD i 0) p 2 = true → (i = 41 ∧ B p = 60 ∧ B (p + 1) = 61) ∨ (i = 42 ∧ B p = 62 ∧ B (p + 1) = 61) := fun i hi q => by
    obtain ⟨q1, q2⟩ := txQ_iff.mp q
    have a0 := q2 0 (by omega)
    have a1 := q2 1 (by omega)
    rcases sg_2 i hi q1 with ⟨r1, r2, r3⟩ | ⟨r1, r2, r3⟩ | r
    · exact Or.inl ⟨r1, (sx_nI _ (h8 p) 60 (by omega)).mp (a0.symm.trans r2), (sx_nI _ (h8 _) 61 (by omega)).mp (a1.symm.trans r3)⟩
    · exact Or.inr ⟨r1, (sx_nI _ (h8 p) 62 (by omega)).mp (a0.symm.trans r2), (sx_nI _ (h8 _) 61 (by omega)).mp (a1.symm.trans r3)⟩
    · rw [a0] at r
      have r2 := ii_lt _ (h8 (p + 0))
      rw [Nat.add_zero] at r r2
      rw [r, h0, if_neg (by decide)] at r2
      exact absurd r2 (by decide)
  by_cases e1 : B p = 60 ∧ B (p + 1) = 61
  · rw [if_pos e1]
    refine kw_at (by omega) (txQ_iff.mpr ⟨by decide, fun j hj => ?_⟩) (fun i hi q => ?_)
    · rcases (show j = 0 ∨ j = 1 by omega) with rfl | rfl
      · rw [Nat.add_zero, e1.1]; decide
      · rw [e1.2]; decide
    · rcases hm i (by omega) q with r | r <;> omega
  · rw [if_neg e1]
    by_cases e2 : B p = 62 ∧ B (p + 1) = 61
    · rw [if_pos e2]
      refine kw_at (by omega) (txQ_iff.mpr ⟨by decide, fun j hj => ?_⟩) (fun i hi q => ?_)
      · rcases (show j = 0 ∨ j = 1 by omega) with rfl | rfl
        · rw [Nat.add_zero, e2.1]; decide
        · rw [e2.2]; decide
      · rcases hm i (by omega) q with r | r <;> omega
    · rw [if_neg e2]
      refine kw_no (fun i hi q => ?_)
      rcases hm i hi q with ⟨-, r⟩ | ⟨-, r⟩
      · exact e1 r
      · exact e2 r
theorem kw_28 (h8 : ∀ i, B i < 256) (h0 : ltB (B p) = true) (hn : 0 < n) : kwG B p n 28 20 = 43 := by
  refine kwG_no 20 28 (by omega) (fun j q1 q2 q => ?_)
  obtain ⟨r1, r2⟩ := txQ_iff.mp q
  rcases sg_w j q2 q1 with r | r
  · omega
  · rw [r2 0 hn] at r
    have r3 := ii_lt _ (h8 (p + 0))
    rw [Nat.add_zero] at r r3
    rw [r, if_pos h0] at r3
    exact absurd r3 (by decide)
theorem kwG_or (h8 : ∀ i, B i < 256) (h0 : ltB (B p) = true) (hn : 0 < n) : kwF B p n = 43 ∨ kwF B p n < 28 := by
  have h : ∀ k, k ≤ 28 → (kwG B p n (28 - k) (48 - (28 - k)) = 43 ∨ kwG B p n (28 - k) (48 - (28 - k)) < 28) := fun k => by
    induction k with
    | zero => exact fun _ => Or.inl (kw_28 h8 h0 hn)
    | succ k ih =>
      intro hk
      by_cases q : txQ B (sgT.getD (28 - (k + 1)) 0) p n = true
      · rw [kwG_y (by omega) q]; exact Or.inr (by omega)
      · rw [kwG_n (by omega) q, show 28 - (k + 1) + 1 = 28 - k by omega]; exact ih (by omega)
  have := h 28 (Nat.le_refl _)
  rw [Nat.sub_self] at this
  exact this
end KW
