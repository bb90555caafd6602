section TOK
variable {B : Nat → Nat} {p ln : Nat}
theorem kwG_t {n : Nat} : ∀ k i, i + k = 48 → kwG B p n i k = 43 ∨ txQ B (sgT.getD (kwG B p n i k) 0) p n = true
  | 0, _, _ => Or.inl rfl
  | k + 1, i, h => by
    rw [kwG]
    by_cases e : txQ B (sgT.getD i 0) p n = true
    · rw [if_pos e]; exact Or.inr e
    · rw [if_neg e]; exact kwG_t k (i + 1) (by omega)
theorem kwF_t {n : Nat} : kwF B p n = 43 ∨ txQ B (sgT.getD (kwF B p n) 0) p n = true := kwG_t 48 0 rfl
theorem seK_ne : ∀ k, p < seE B p k → ¬ seK B p k = 43
  | 0, h => absurd h (Nat.lt_irrefl _)
  | k + 1, h => by
    rw [seE] at h
    rw [seK]
    by_cases e : kwF B p (k + 1) = 43
    · rw [if_pos e] at h ⊢; exact seK_ne k h
    · rw [if_neg e]; exact e
theorem kw1_r : kwF B p 1 = 43 ∨ (28 ≤ kwF B p 1 ∧ kwF B p 1 ≤ 42) := by
  rcases kwF_t (B := B) (p := p) (n := 1) with h | h
  · exact Or.inl h
  · have h2 := sg_1 _ kwF_48 (txQ_iff.mp h).1
    exact Or.inr ⟨h2.1, by omega⟩
theorem seK_r (h8 : ∀ i, B i < 256) (h0 : ltB (B p) = false) : ∀ k, k ≤ 2 → seK B p k = 43 ∨ (28 ≤ seK B p k ∧ seK B p k ≤ 42)
  | 0, _ => Or.inl rfl
  | 1, _ => by
    rw [seK]
    by_cases e : kwF B p (0 + 1) = 43
    · rw [if_pos e]; exact Or.inl rfl
    · rw [if_neg e]; exact kw1_r
  | 2, _ => by
    rw [seK]
    by_cases e : kwF B p (1 + 1) = 43
    · rw [if_pos e]; exact seK_r h8 h0 1 (by omega)
    · rw [if_neg e]
      have h2 := kw2_y (p := p) h8 h0
      show kwF B p 2 = 43 ∨ (28 ≤ kwF B p 2 ∧ kwF B p 2 ≤ 42)
      rw [h2]
      split
      · exact Or.inr ⟨by decide, by decide⟩
      · split
        · exact Or.inr ⟨by decide, by decide⟩
        · exact Or.inl rfl
  | k + 3, h => by omega
/-- which kind a token is -/
theorem tkK_k (h8 : ∀ i, B i < 256) (hp : p < ln) (ht : p < tkE B ln p) : (ltB (B p) = true ∧ tkE B ln p = rn ldB B ln p ∧ rn ldB B ln p - p ≤ 10 ∧ (tkK B ln p = 43 ∨ tkK B ln p < 28)) ∨ (ltB (B p) = false ∧ dgB (B p) = true ∧ tkE B ln p = rn dgB B ln p ∧ rn dgB B ln p - p ≤ 6 ∧ tkK B ln p = 44) ∨ (ltB (B p) = false ∧ dgB (B p) = false ∧ 28 ≤ tkK B ln p ∧ tkK B ln p ≤ 42) := by
  by_cases e1 : ltB (B p) = true
  · have e2 : tkE B ln p = wdE B ln p := if_pos e1
    have e3 : tkK B ln p = kwF B p (rn ldB B ln p - p) := if_pos e1
    unfold wdE at e2
    by_cases e4 : 10 < rn ldB B ln p - p
    · rw [if_pos e4] at e2; omega
    · rw [if_neg e4] at e2
      refine Or.inl ⟨e1, e2, by omega, ?_⟩
      rw [e3]
      exact kwG_or h8 e1 (by omega)
  · have e1' : ltB (B p) = false := by cases h : ltB (B p) with | true => exact absurd h e1 | false => rfl
    by_cases e5 : dgB (B p) = true
    · have e2 : tkE B ln p = nbE B ln p := by unfold tkE; rw [if_neg e1, if_pos e5]
      have e3 : tkK B ln p = 44 := by unfold tkK; rw [if_neg e1, if_pos e5]
      unfold nbE at e2
      by_cases e4 : 6 < rn dgB B ln p - p
      · rw [if_pos e4] at e2; omega
      · rw [if_neg e4] at e2
        exact Or.inr (Or.inl ⟨e1', e5, e2, by omega, e3⟩)
    · have e5' : dgB (B p) = false := by cases h : dgB (B p) with | true => exact absurd h e5 | false => rfl
      have e2 : tkE B ln p = syE B ln p := by unfold tkE; rw [if_neg e1, if_neg e5]
      have e3 : tkK B ln p = syK B ln p := by unfold tkK; rw [if_neg e1, if_neg e5]
      rw [e2] at ht
      have h1 := seK_ne _ ht
      have h2 := seK_r h8 e1' (syn ln p) (syn_le hp).2
      rw [e3]
      exact Or.inr (Or.inr ⟨e1', e5', (h2.resolve_left h1).1, (h2.resolve_left h1).2⟩)
end TOK
