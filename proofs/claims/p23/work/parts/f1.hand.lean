/-! what is done by hand -/
section HND
variable {a b c : Nat} {ρ ρ' : RH} {j w : Nat} {x : Int32}
theorem SI.of12 (h : SI a b c ρ) (e : ∀ f i, f ≠ 12 → ρ' f i = ρ f i) (h12 : ∀ i, i < b → ∃ k, k ≤ 9 ∧ ρ' 12 i = nI k ∧ (ρ 16 i = 1 → 1 ≤ k)) (hR : RI a b c ρ') : SI a b c ρ' := by
  obtain ⟨h1, h2, h3, h4, ⟨r, h5, h6⟩, -⟩ := h
  refine ⟨h1, fun i hi => ?_, fun l hl => ?_, fun t ht => ?_, ⟨r, h5, (e 6 0 (by decide)).trans h6⟩, hR⟩
  · obtain ⟨g1, g2, -, ⟨m, m1, m2, m3⟩, n, n1, n2, n3⟩ := h2 i hi
    obtain ⟨k, k1, k2, k3⟩ := h12 i hi
    have e15 := e 15 i (by decide)
    have e16 := e 16 i (by decide)
    have e17 := e 17 i (by decide)
    have eo : ∀ l, OWN ρ' i l ↔ OWN ρ i l := fun l => by
      unfold OWN; rw [e 32 l (by decide), e 33 l (by decide)]
    refine ⟨?_, ?_, ⟨k, k1, k2, by rw [e16]; exact k3⟩, ⟨m, m1, m2, (e 11 i (by decide)).trans m3⟩, n, n1, n2, (e 13 i (by decide)).trans n3⟩
    · rcases g1 with ⟨q1, q2, q3⟩ | ⟨t, u, L, q1, q2, q3, q4, q5, q6⟩
      · exact Or.inl ⟨e15.trans q1, e16.trans q2, e17.trans q3⟩
      · exact Or.inr ⟨t, u, L, q1, e15.trans q2, by rw [e16]; exact q3, e17.trans q4, (e 41 t (by decide)).trans q5, q6⟩
    · rw [e16, g2]
      exact ⟨fun ⟨l, q1, q2⟩ => ⟨l, q1, (eo l).mpr q2⟩, fun ⟨l, q1, q2⟩ => ⟨l, q1, (eo l).mp q2⟩⟩
  · have := h3 l hl
    unfold LGi
    rw [e 32 l (by decide), e 33 l (by decide), e 34 l (by decide)]
    exact this
  · obtain ⟨L, s, f, g1, g2, g3, g4⟩ := h4 t ht
    exact ⟨L, s, f, g1, (e 41 t (by decide)).trans g2, (e 42 t (by decide)).trans g3, (e 43 t (by decide)).trans g4⟩
theorem mn9n {k : Nat} (hk : k < 100) : minI (nI k) 9 = nI (min k 9) := by
  unfold minI
  by_cases q : nI k < 9
  · have := (nI_ltI (a := k) (b := 9) (by omega) (by decide)).mp q
    rw [if_pos q, Nat.min_eq_left (by omega)]
  · have : ¬ k < 9 := fun z => q ((nI_ltI (a := k) (b := 9) (by omega) (by decide)).mpr z)
    rw [if_neg q, Nat.min_eq_right (by omega)]; rfl
theorem mn9l (h : x ≤ 9) : x = minI x 9 := by
  unfold minI
  by_cases q : x < 9
  · rw [if_pos q]
  · rw [if_neg q]; exact Int32.le_antisymm h (Int32.not_lt.mp q)
theorem mn9g (h : ¬ x ≤ 9) : 9 = minI x 9 := by
  unfold minI
  rw [if_neg (fun q => h (Int32.le_of_lt q))]
theorem SI.u12 (h : SI a b c ρ) (hj : j < b) (hw : 1 ≤ w ∧ w ≤ 9) : SI a b c (u2 ρ 12 j (minI (ρ 12 j + nI w) 9)) := by
  refine h.of12 (fun f i hf => u2_f hf) (fun i hi => ?_) (h.2.2.2.2.2.u (by decide))
  obtain ⟨k, k1, k2, k3⟩ := (h.2.1 i hi).2.2.1
  by_cases e : i = j
  · subst e
    rw [u2_s, k2, nI_add, mn9n (by omega)]
    exact ⟨_, Nat.min_le_right _ _, rfl, fun _ => by omega⟩
  · rw [u2_i e]; exact ⟨k, k1, k2, k3⟩
theorem SI.mp (h : SI a b c ρ) : SI a b c (mpL ρ 2 x 0 (-1) c) := by
  have e : ∀ f i, f ≠ 32 → f ≠ 33 → mpL ρ 2 x 0 (-1) c f i = ρ f i := fun f i h1 h2 => mpL_f ⟨h1, h2⟩
  have hR : RI a b c (mpL ρ 2 x 0 (-1) c) := h.2.2.2.2.2.mp
  have hl : ∀ l, (mpL ρ 2 x 0 (-1) c 32 l = ρ 32 l ∧ mpL ρ 2 x 0 (-1) c 33 l = ρ 33 l) ∨ (l < c ∧ ρ 32 l = 2 ∧ mpL ρ 2 x 0 (-1) c 32 l = 0 ∧ mpL ρ 2 x 0 (-1) c 33 l = -1) := fun l => by
    unfold mpL
    by_cases q : l < c ∧ ρ 32 l = 2 ∧ ρ 33 l = x
    · refine Or.inr ⟨q.1, q.2.1, ?_, ?_⟩
      · rw [if_pos ⟨q.1, q.2.1, q.2.2, Or.inl rfl⟩, if_pos rfl]
      · rw [if_pos ⟨q.1, q.2.1, q.2.2, Or.inr rfl⟩, if_neg (by decide)]
    · exact Or.inl ⟨if_neg (fun z => q ⟨z.1, z.2.1, z.2.2.1⟩), if_neg (fun z => q ⟨z.1, z.2.1, z.2.2.1⟩)⟩
  generalize mpL ρ 2 x 0 (-1) c = ρ9 at *
  obtain ⟨h1, h2, h3, h4, ⟨r, h5, h6⟩, -⟩ := h
  refine ⟨h1, fun i hi => ?_, fun l hl9 => ?_, fun t ht => ?_, ⟨r, h5, (e 6 0 (by decide) (by decide)).trans h6⟩, hR⟩
  · obtain ⟨g1, g2, ⟨k, k1, k2, k3⟩, ⟨m, m1, m2, m3⟩, n, n1, n2, n3⟩ := h2 i hi
    have e15 := e 15 i (by decide) (by decide)
    have e16 := e 16 i (by decide) (by decide)
    have e17 := e 17 i (by decide) (by decide)
    have eo : ∀ l, OWN ρ9 i l ↔ OWN ρ i l := fun l => by
      unfold OWN
      rcases hl l with ⟨q1, q2⟩ | ⟨-, q1, q2, q3⟩
      · rw [q1, q2]
      · rw [q1, q2]
        exact ⟨fun z => absurd z.1 (by decide), fun z => absurd z.1 (by decide)⟩
    refine ⟨?_, ?_, ⟨k, k1, (e 12 i (by decide) (by decide)).trans k2, by rw [e16]; exact k3⟩, ⟨m, m1, m2, (e 11 i (by decide) (by decide)).trans m3⟩, n, n1, n2, (e 13 i (by decide) (by decide)).trans n3⟩
    · rcases g1 with ⟨q1, q2, q3⟩ | ⟨t, u, L, q1, q2, q3, q4, q5, q6⟩
      · exact Or.inl ⟨e15.trans q1, e16.trans q2, e17.trans q3⟩
      · exact Or.inr ⟨t, u, L, q1, e15.trans q2, by rw [e16]; exact q3, e17.trans q4, (e 41 t (by decide) (by decide)).trans q5, q6⟩
    · rw [e16, g2]
      exact ⟨fun ⟨l, q1, q2⟩ => ⟨l, q1, (eo l).mpr q2⟩, fun ⟨l, q1, q2⟩ => ⟨l, q1, (eo l).mp q2⟩⟩
  · have g := h3 l hl9
    unfold LGi at g ⊢
    rw [e 34 l (by decide) (by decide)]
    rcases hl l with ⟨q1, q2⟩ | ⟨-, q1, q2, q3⟩
    · rw [q1, q2]; exact g
    · refine Or.inl ⟨q2, q3, ?_⟩
      rcases g with ⟨y, -⟩ | ⟨_, _, y, -⟩ | ⟨_, _, _, _, y⟩ | ⟨y, -⟩
      · rw [q1] at y; exact absurd y (by decide)
      · rw [q1] at y; exact absurd y (by decide)
      · exact y
      · rw [q1] at y; exact absurd y (by decide)
  · obtain ⟨L, s, f, g1, g2, g3, g4⟩ := h4 t ht
    exact ⟨L, s, f, g1, (e 41 t (by decide) (by decide)).trans g2, (e 42 t (by decide) (by decide)).trans g3, (e 43 t (by decide) (by decide)).trans g4⟩
end HND
