/-! a horse goes out: what changes -/
section ST1
variable {a b c hc : Nat} {σ : Nat → Nat} {π ρ ρ' : RH} {x m : Int32} {j : Nat}
theorem SI.cg (h : SI a b c ρ) (e : ∀ f i, ¬ f = 20 → ¬ f = 19 → ¬ f = 18 → ¬ f = 8 → ¬ f = 7 → ρ' f i = ρ f i) (hR : RI a b c ρ') : SI a b c ρ' := by
  obtain ⟨h1, h2, h3, h4, ⟨r, h5, h6⟩, -⟩ := h
  refine ⟨h1, fun i hi => ?_, fun l hl => ?_, fun t ht => ?_, ⟨r, h5, (e 6 0 (by decide) (by decide) (by decide) (by decide) (by decide)).trans h6⟩, hR⟩
  · obtain ⟨g1, g2, ⟨k, k1, k2, k3⟩, ⟨m, m1, m2, m3⟩, n, n1, n2, n3⟩ := h2 i hi
    have e15 := e 15 i (by decide) (by decide) (by decide) (by decide) (by decide)
    have e16 := e 16 i (by decide) (by decide) (by decide) (by decide) (by decide)
    have e17 := e 17 i (by decide) (by decide) (by decide) (by decide) (by decide)
    have eo : ∀ l, OWN ρ' i l ↔ OWN ρ i l := fun l => by
      unfold OWN; rw [e 32 l (by decide) (by decide) (by decide) (by decide) (by decide), e 33 l (by decide) (by decide) (by decide) (by decide) (by decide)]
    refine ⟨?_, ?_, ⟨k, k1, (e 12 i (by decide) (by decide) (by decide) (by decide) (by decide)).trans k2, by rw [e16]; exact k3⟩, ⟨m, m1, m2, (e 11 i (by decide) (by decide) (by decide) (by decide) (by decide)).trans m3⟩, n, n1, n2, (e 13 i (by decide) (by decide) (by decide) (by decide) (by decide)).trans n3⟩
    · rcases g1 with ⟨q1, q2, q3⟩ | ⟨t, u, L, q1, q2, q3, q4, q5, q6⟩
      · exact Or.inl ⟨e15.trans q1, e16.trans q2, e17.trans q3⟩
      · exact Or.inr ⟨t, u, L, q1, e15.trans q2, by rw [e16]; exact q3, e17.trans q4, (e 41 t (by decide) (by decide) (by decide) (by decide) (by decide)).trans q5, q6⟩
    · rw [e16, g2]
      exact ⟨fun ⟨l, q1, q2⟩ => ⟨l, q1, (eo l).mpr q2⟩, fun ⟨l, q1, q2⟩ => ⟨l, q1, (eo l).mp q2⟩⟩
  · have := h3 l hl
    unfold LGi
    rw [e 32 l (by decide) (by decide) (by decide) (by decide) (by decide), e 33 l (by decide) (by decide) (by decide) (by decide) (by decide), e 34 l (by decide) (by decide) (by decide) (by decide) (by decide)]
    exact this
  · obtain ⟨L, s, f, g1, g2, g3, g4⟩ := h4 t ht
    exact ⟨L, s, f, g1, (e 41 t (by decide) (by decide) (by decide) (by decide) (by decide)).trans g2, (e 42 t (by decide) (by decide) (by decide) (by decide) (by decide)).trans g3, (e 43 t (by decide) (by decide) (by decide) (by decide) (by decide)).trans g4⟩
theorem ps_c0 : ∀ k, (psC ρ x m k).2.2 = 0 → (psC ρ x m k).1 = ρ
  | 0, _ => rfl
  | k + 1, h => by
    by_cases q : (psC ρ x m k).2.2 < 5 ∧ ρ 32 k = 0 ∧ (psC ρ x m k).2.1 + ρ 31 k ≤ m
    · rw [psC_y q.1 q.2.1 q.2.2] at h
      exact absurd h (Nat.succ_ne_zero _)
    · rw [psC_n q] at h ⊢
      exact ps_c0 k h
theorem ps_c1 : ∀ k, ¬ (psC ρ x m k).2.2 = 0 → ∃ l, l < k ∧ ρ 32 l = 0 ∧ (psC ρ x m k).1 32 l = 1 ∧ (psC ρ x m k).1 33 l = x
  | 0, h => absurd rfl h
  | k + 1, h => by
    by_cases q : (psC ρ x m k).2.2 < 5 ∧ ρ 32 k = 0 ∧ (psC ρ x m k).2.1 + ρ 31 k ≤ m
    · rw [psC_y q.1 q.2.1 q.2.2]
      refine ⟨k, Nat.lt_succ_self k, q.2.1, ?_, ?_⟩
      · show lieC (psC ρ x m k).1 k 1 x 32 k = 1
        unfold lieC; rw [u2_f (by decide), u2_s]
      · show lieC (psC ρ x m k).1 k 1 x 33 k = x
        unfold lieC; rw [u2_s]
    · rw [psC_n q] at h ⊢
      obtain ⟨l, g1, g2⟩ := ps_c1 k h
      exact ⟨l, by omega, g2⟩
/-- what the sending out of horse j changes -/
def S1 (c : Nat) (ρ ρ' : RH) (j : Nat) : Prop :=
  (∀ f i, (f < 15 ∨ (17 < f ∧ f < 20) ∨ (20 < f ∧ f < 32) ∨ 33 < f) → ρ' f i = ρ f i) ∧ (∀ f i, i ≠ j → 15 ≤ f → f ≤ 20 → ρ' f i = ρ f i) ∧
  (∀ l, (ρ' 32 l = ρ 32 l ∧ ρ' 33 l = ρ 33 l) ∨ (l < c ∧ ρ 32 l = 0 ∧ ρ' 32 l = 1 ∧ ρ' 33 l = nI j ∧ ρ' 20 j = 1)) ∧
  ((ρ' 20 j = 0 ∧ ∀ f, 15 ≤ f → f < 20 → ρ' f j = ρ f j) ∨ (ρ' 20 j = 1 ∧ (ρ 15 j = -1 ∧ ¬ ρ 12 j ≤ 0) ∧ ρ' 15 j = nI 0 ∧ ρ' 16 j = 1 ∧ ρ' 17 j = 0 ∧ ∃ l, l < c ∧ OWN ρ' j l))
theorem S1.id0 : S1 c ρ (u2 ρ 20 j 0) j :=
  ⟨fun f i hf => u2_f (by omega), fun f i hi _ _ => u2_i hi, fun l => Or.inl ⟨u2_f (by decide), u2_f (by decide)⟩, Or.inl ⟨u2_s _ _ _ _, fun f _ h2 => u2_f (by omega)⟩⟩
theorem SI.s1 (h : SI a b c ρ) (hj : j < b) : SI a b c (otC a c hc σ π (u2 ρ 20 j 0) j) ∧ S1 c ρ (otC a c hc σ π (u2 ρ 20 j 0) j) j := by
  have h0 : SI a b c (u2 ρ 20 j 0) := h.cg (fun f i g1 _ _ _ _ => u2_f g1) (h.2.2.2.2.2.u20 (Or.inl rfl))
  have hR : RI a b c (otC a c hc σ π (u2 ρ 20 j 0) j) := RI.ot h0.2.2.2.2.2 (by have := h.1.1; omega)
  unfold otC at hR ⊢
  split
  · exact ⟨h0, S1.id0⟩
  · rename_i q
    rw [if_neg q] at hR
    unfold sgC at hR ⊢
    generalize mwG c (u2 ρ 20 j 0) σ π (nI j) 0 hc = m at hR ⊢
    by_cases z : (psC (u2 ρ 20 j 0) (nI j) m c).2.2 = 0
    · rw [if_pos (show psR _ _ _ _ = 0 from if_pos z), ps_c0 c z]
      exact ⟨h0, S1.id0⟩
    · have z9 : ¬ psR (u2 ρ 20 j 0) (nI j) m c = 0 := fun w => by
        unfold psR at w; rw [if_neg z] at w; exact absurd w (by decide)
      rw [if_neg z9] at hR ⊢
      -- the place, the flags
      have q15 : ρ 15 j = -1 := by
        have := Classical.not_not.mp (fun w => q (Or.inl w))
        rwa [u2_f (by decide)] at this
      have q12 : ¬ ρ 12 j ≤ 0 := fun w => q (Or.inr (Or.inl (by rw [u2_f (by decide)]; exact w)))
      generalize hP : (psC (u2 ρ 20 j 0) (nI j) m c).1 = P at hR ⊢
      have pf : ∀ f i, f ≠ 32 → f ≠ 33 → P f i = u2 ρ 20 j 0 f i := fun f i h1 h2 => by rw [← hP]; exact psC_f ⟨h1, h2⟩
      have pl : ∀ l, (P 32 l = ρ 32 l ∧ P 33 l = ρ 33 l) ∨ (l < c ∧ ρ 32 l = 0 ∧ P 32 l = 1 ∧ P 33 l = nI j) := fun l => by
        rw [← hP]
        have := ps_cs (ρ := u2 ρ 20 j 0) (x := nI j) (m := m) (l := l) c
        rw [u2_f (by decide), u2_f (by decide)] at this
        exact this
      obtain ⟨l0, l1, l2, l3, l4⟩ := ps_c1 c z
      rw [hP] at l3 l4
      have ef : ∀ f i, ¬ (i = j ∧ 15 ≤ f ∧ f ≤ 20) → ¬ f = 32 → ¬ f = 33 → u2 (standC P j 0 1 0) 20 j 1 f i = ρ f i := fun f i h1 h2 h3 => by
        unfold standC
        have : ∀ g (x : Int32) (R : RH), 15 ≤ g → g ≤ 20 → u2 R g j x f i = R f i := fun g x R k1 k2 => by
          unfold u2; rw [if_neg (fun w => h1 ⟨w.2, by omega, by omega⟩)]
        by_cases w : i = j ∧ (f = 18 ∨ f = 19)
        · exact absurd ⟨w.1, by omega, by omega⟩ h1
        · rw [this 20 _ _ (by decide) (by decide), this 17 _ _ (by decide) (by decide), this 16 _ _ (by decide) (by decide), this 15 _ _ (by decide) (by decide), pf f i h2 h3, this 20 _ _ (by decide) (by decide)]
      have ep : ∀ f i, (f = 32 ∨ f = 33) → u2 (standC P j 0 1 0) 20 j 1 f i = P f i := fun f i hf => by
        unfold standC; rw [u2_f (by omega), u2_f (by omega), u2_f (by omega), u2_f (by omega)]
      have e89 : ∀ f, (f = 18 ∨ f = 19) → u2 (standC P j 0 1 0) 20 j 1 f j = ρ f j := fun f hf => by
        unfold standC; rw [u2_f (by omega), u2_f (by omega), u2_f (by omega), u2_f (by omega), pf f j (by omega) (by omega), u2_f (by omega)]
      have e15 : u2 (standC P j 0 1 0) 20 j 1 15 j = nI 0 := by unfold standC; rw [u2_f (by decide), u2_f (by decide), u2_f (by decide), u2_s]; rfl
      have e16 : u2 (standC P j 0 1 0) 20 j 1 16 j = 1 := by unfold standC; rw [u2_f (by decide), u2_f (by decide), u2_s]
      have e17 : u2 (standC P j 0 1 0) 20 j 1 17 j = 0 := by unfold standC; rw [u2_f (by decide), u2_s]
      have e20 : u2 (standC P j 0 1 0) 20 j 1 20 j = 1 := u2_s _ _ _ _
      generalize u2 (standC P j 0 1 0) 20 j 1 = ρ9 at *
      have own : OWN ρ9 j l0 := ⟨(ep 32 l0 (Or.inl rfl)).trans l3, (ep 33 l0 (Or.inr rfl)).trans l4⟩
      have oth : ∀ i, i < b → i ≠ j → ∀ l, OWN ρ9 i l ↔ OWN ρ i l := fun i hi hij l => by
        unfold OWN
        rw [ep 32 l (Or.inl rfl), ep 33 l (Or.inr rfl)]
        rcases pl l with ⟨a1, a2⟩ | ⟨-, a2, a3, a4⟩
        · rw [a1, a2]
        · rw [a2, a3, a4]
          refine ⟨fun w => absurd ((nI_eq (by have := h.1.2.1; omega) (by have := h.1.2.1; omega)).mp w.2).symm hij, fun w => absurd w.1 (by decide)⟩
      obtain ⟨i1, i2, i3, i4, ⟨r, i5, i6⟩, i7⟩ := id h
      refine ⟨⟨i1, fun i hi => ?_, fun l hl => ?_, fun t ht => ?_, ⟨r, i5, (ef 6 0 (by omega) (by decide) (by decide)).trans i6⟩, hR⟩, fun f i hf => ?_, fun f i hi h1 h2 => ef f i (fun w => hi w.1) (by omega) (by omega), fun l => ?_, Or.inr ⟨e20, ⟨q15, q12⟩, e15, e16, e17, l0, l1, own⟩⟩
      · obtain ⟨g1, g2, ⟨k, k1, k2, k3⟩, ⟨m1, m2, m3, m4⟩, n, n1, n2, n3⟩ := i2 i hi
        by_cases hij : i = j
        · subst hij
          refine ⟨Or.inr ?_, ⟨fun _ => ⟨l0, l1, own⟩, fun _ => e16⟩, ⟨k, k1, (ef 12 i (by omega) (by decide) (by decide)).trans k2, fun _ => ?_⟩, ⟨m1, m2, m3, (ef 11 i (by omega) (by decide) (by decide)).trans m4⟩, n, n1, n2, (ef 13 i (by omega) (by decide) (by decide)).trans n3⟩
          · obtain ⟨L, s, f, ⟨g3, g4, -⟩, g5, -⟩ := i4 0 (by omega)
            exact ⟨0, 0, L, by omega, e15, Or.inr e16, e17, (ef 41 0 (by omega) (by decide) (by decide)).trans g5, by omega, g4⟩
          · rcases Nat.eq_zero_or_pos k with w | w
            · subst w; exact absurd (by rw [k2]; decide) q12
            · exact w
        · have e1 := ef 15 i (by omega) (by decide) (by decide)
          have e2 := ef 16 i (by omega) (by decide) (by decide)
          have e3 := ef 17 i (by omega) (by decide) (by decide)
          refine ⟨?_, ?_, ⟨k, k1, (ef 12 i (by omega) (by decide) (by decide)).trans k2, by rw [e2]; exact k3⟩, ⟨m1, m2, m3, (ef 11 i (by omega) (by decide) (by decide)).trans m4⟩, n, n1, n2, (ef 13 i (by omega) (by decide) (by decide)).trans n3⟩
          · rcases g1 with ⟨y1, y2, y3⟩ | ⟨t, u, L, y1, y2, y3, y4, y5, y6⟩
            · exact Or.inl ⟨e1.trans y1, e2.trans y2, e3.trans y3⟩
            · exact Or.inr ⟨t, u, L, y1, e1.trans y2, by rw [e2]; exact y3, e3.trans y4, (ef 41 t (by omega) (by decide) (by decide)).trans y5, y6⟩
          · rw [e2, g2]
            exact ⟨fun ⟨l, y1, y2⟩ => ⟨l, y1, (oth i hi hij l).mpr y2⟩, fun ⟨l, y1, y2⟩ => ⟨l, y1, (oth i hi hij l).mp y2⟩⟩
      · have e34 := ef 34 l (by omega) (by decide) (by decide)
        unfold LGi
        rw [ep 32 l (Or.inl rfl), ep 33 l (Or.inr rfl), e34]
        rcases pl l with ⟨a1, a2⟩ | ⟨-, a2, a3, a4⟩
        · rw [a1, a2]; exact i3 l hl
        · refine Or.inr (Or.inl ⟨j, hj, a3, a4, ?_⟩)
          rcases i3 l hl with y | ⟨_, _, y, _⟩ | ⟨_, _, y, _⟩ | ⟨y, _⟩
          · exact y.2.2
          · rw [a2] at y; exact absurd y (by decide)
          · rw [a2] at y; exact absurd y (by decide)
          · rw [a2] at y; exact absurd y (by decide)
      · obtain ⟨L, s, f, g1, g2, g3, g4⟩ := i4 t ht
        exact ⟨L, s, f, g1, (ef 41 t (by omega) (by decide) (by decide)).trans g2, (ef 42 t (by omega) (by decide) (by decide)).trans g3, (ef 43 t (by omega) (by decide) (by decide)).trans g4⟩
      · by_cases w : i = j ∧ (f = 18 ∨ f = 19)
        · obtain ⟨rfl, w2⟩ := w; exact e89 f w2
        · exact ef f i (by omega) (by omega) (by omega)
      · rw [ep 32 l (Or.inl rfl), ep 33 l (Or.inr rfl), e20]
        rcases pl l with a1 | ⟨a1, a2, a3, a4⟩
        · exact Or.inl a1
        · exact Or.inr ⟨a1, a2, a3, a4, rfl⟩
end ST1
