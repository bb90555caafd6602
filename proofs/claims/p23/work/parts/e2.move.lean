/-! a horse moves: what changes -/
section ST2
variable {a b c wc : Nat} {σ : Nat → Nat} {π ρ ρ' : RH} {x m : Int32} {j t N : Nat}
/-- fields that a move leaves -/
def MF (f : Nat) : Prop := f < 8 ∨ (8 < f ∧ f < 12) ∨ (12 < f ∧ f < 15) ∨ (20 < f ∧ f < 32) ∨ 34 < f
def LCh (c : Nat) (ρ ρ' : RH) (j l : Nat) : Prop := (ρ' 32 l = ρ 32 l ∧ ρ' 33 l = ρ 33 l ∧ ρ' 34 l = ρ 34 l) ∨ (l < c ∧ OWN ρ j l ∧ ρ' 16 j = 0 ∧ ((ρ' 32 l = 2 ∧ ρ' 33 l = ρ 15 j ∧ ρ' 34 l = ρ 34 l) ∨ (ρ' 32 l = 3 ∧ ρ' 33 l = -1 ∧ ρ' 34 l = ρ 6 0)))
theorem SI.of2 (h : SI a b c ρ) (hj : j < b) (hA : ∀ f i, MF f → ρ' f i = ρ f i) (hB : ∀ f i, i ≠ j → 12 ≤ f → f < 20 → ρ' f i = ρ f i) (hC : ∀ l, LCh c ρ ρ' j l) (hp : ρ 15 j = nI t) (ht : t < a)
    (hD : SH a ρ' j) (hD2 : ∃ k, k ≤ 9 ∧ ρ' 12 j = nI k ∧ (ρ' 16 j = 1 → 1 ≤ k)) (hE : ρ' 16 j = 1 ↔ ∃ l, l < c ∧ OWN ρ' j l) (hF : RI a b c ρ') : SI a b c ρ' := by
  obtain ⟨i1, i2, i3, i4, ⟨r, i5, i6⟩, i7⟩ := id h
  refine ⟨i1, fun i hi => ?_, fun l hl => ?_, fun t ht => ?_, ⟨r, i5, (hA 6 0 (Or.inl (by decide))).trans i6⟩, hF⟩
  · obtain ⟨g1, g2, ⟨k, k1, k2, k3⟩, ⟨m1, m2, m3, m4⟩, n, n1, n2, n3⟩ := i2 i hi
    have e11 := hA 11 i (Or.inr (Or.inl (by decide)))
    have e13 := hA 13 i (Or.inr (Or.inr (Or.inl (by decide))))
    by_cases hij : i = j
    · subst hij
      exact ⟨hD, hE, hD2, ⟨m1, m2, m3, e11.trans m4⟩, n, n1, n2, e13.trans n3⟩
    · have e1 := hB 15 i hij (by decide) (by decide)
      have e2 := hB 16 i hij (by decide) (by decide)
      have e3 := hB 17 i hij (by decide) (by decide)
      have oth : ∀ l, OWN ρ' i l ↔ OWN ρ i l := fun l => by
        unfold OWN
        have hne : ¬ nI j = nI i := fun w => hij ((nI_eq (by have := i1.2.1; omega) (by have := i1.2.1; omega)).mp w).symm
        rcases hC l with ⟨a1, a2, -⟩ | ⟨-, ⟨o1, o2⟩, -, ⟨a1, -⟩ | ⟨a1, -⟩⟩
        · rw [a1, a2]
        · rw [a1, o1, o2]
          exact ⟨fun w => absurd w.1 (by decide), fun w => absurd w.2 hne⟩
        · rw [a1, o1, o2]
          exact ⟨fun w => absurd w.1 (by decide), fun w => absurd w.2 hne⟩
      refine ⟨?_, ?_, ⟨k, k1, (hB 12 i hij (by decide) (by decide)).trans k2, by rw [e2]; exact k3⟩, ⟨m1, m2, m3, e11.trans m4⟩, n, n1, n2, e13.trans n3⟩
      · rcases g1 with ⟨y1, y2, y3⟩ | ⟨t, u, L, y1, y2, y3, y4, y5, y6⟩
        · exact Or.inl ⟨e1.trans y1, e2.trans y2, e3.trans y3⟩
        · exact Or.inr ⟨t, u, L, y1, e1.trans y2, by rw [e2]; exact y3, e3.trans y4, (hA 41 t (Or.inr (Or.inr (Or.inr (Or.inr (by decide)))))).trans y5, y6⟩
      · rw [e2, g2]
        exact ⟨fun ⟨l, y1, y2⟩ => ⟨l, y1, (oth l).mpr y2⟩, fun ⟨l, y1, y2⟩ => ⟨l, y1, (oth l).mp y2⟩⟩
  · unfold LGi
    rcases hC l with ⟨a1, a2, a3⟩ | ⟨-, ⟨o1, o2⟩, -, ⟨a1, a2, a3⟩ | ⟨a1, a2, a3⟩⟩
    · rw [a1, a2, a3]; exact i3 l hl
    · rw [a1, a2, a3]
      refine Or.inr (Or.inr (Or.inl ⟨t, ht, rfl, hp, ?_⟩))
      rcases i3 l hl with ⟨y, _⟩ | ⟨_, _, y, _, y2⟩ | ⟨_, _, y, _⟩ | ⟨y, _⟩
      · rw [o1] at y; exact absurd y (by decide)
      · exact y2
      · rw [o1] at y; exact absurd y (by decide)
      · rw [o1] at y; exact absurd y (by decide)
    · rw [a1, a2, a3]
      exact Or.inr (Or.inr (Or.inr ⟨rfl, rfl, r, i5, i6⟩))
  · obtain ⟨L, s, f, g1, g2, g3, g4⟩ := i4 t ht
    have e := fun f (hf : 34 < f) => hA f t (Or.inr (Or.inr (Or.inr (Or.inr hf))))
    exact ⟨L, s, f, g1, (e 41 (by decide)).trans g2, (e 42 (by decide)).trans g3, (e 43 (by decide)).trans g4⟩
/-- how a horse on stretch t has moved, needing N -/
def TRd (ρ ρ' : RH) (j N : Nat) : Prop := ∃ k k', (k ≤ 60 ∧ k' ≤ 60 ∧ k ≤ k' + 4 ∧ k' ≤ k + N / 8) ∧ ρ 18 j = nI k ∧ ρ' 18 j = nI k'
def HJm (c : Nat) (ρ ρ' : RH) (j t N : Nat) : Prop :=
  ((ρ' 12 j = ρ 12 j ∧ ρ' 15 j = ρ 15 j ∧ ρ' 16 j = ρ 16 j ∧ ρ' 17 j = ρ 17 j ∧ ρ' 19 j = ρ 19 j) ∧ TRd ρ ρ' j N) ∨
  ((ρ 13 j < nI N ∧ ρ 16 j = 1) ∧ ρ' 12 j = ρ 12 j - 1 ∧ ρ' 15 j = ρ 15 j ∧ ρ' 16 j = 0 ∧ ρ' 17 j = ρ 41 t - 1 - ρ 17 j ∧ ρ' 18 j = ρ 18 j ∧ ρ' 19 j = ρ 19 j) ∨
  ((¬ ρ 13 j < nI N ∧ ρ' 12 j = ρ 12 j ∧ TRd ρ ρ' j N) ∧
    ((ρ' 15 j = ρ 15 j ∧ ρ' 16 j = ρ 16 j ∧ ρ' 19 j = ρ 19 j ∧ ∃ u u', ρ 17 j = nI u ∧ ρ' 17 j = nI u' ∧ u ≤ u' ∧ u' ≤ u + 2 ∧ u ≤ 9) ∨
     (ρ' 16 j = ρ 16 j ∧ ρ' 19 j = ρ 19 j ∧ ρ' 17 j = 0 ∧ ∃ t', ρ' 15 j = nI t' ∧ t' < 6 ∧ ((ρ 16 j = 1 ∧ t' = t + 1) ∨ (ρ 16 j = 0 ∧ t = t' + 1))) ∨
     (t = 0 ∧ ρ 16 j = 0 ∧ ρ' 15 j = -1 ∧ ρ' 16 j = 0 ∧ ρ' 17 j = 0 ∧ ρ' 19 j = ρ 19 j) ∨
     (ρ 16 j = 1 ∧ ρ' 15 j = ρ 15 j ∧ ρ' 16 j = 0 ∧ ρ' 17 j = 0 ∧ ρ' 19 j = ρ 19 j + ldOf c ρ (nI j))))
def S2 (a c : Nat) (ρ ρ' : RH) (j : Nat) : Prop :=
  (∀ f i, MF f → ρ' f i = ρ f i) ∧ (∀ f i, i ≠ j → 12 ≤ f → f < 20 → ρ' f i = ρ f i) ∧ (∀ i, ρ' 20 i = ρ 20 i ∨ ρ' 20 i = 1) ∧ (∀ l, LCh c ρ ρ' j l) ∧
  wOf c ρ' 3 + ρ 19 j = wOf c ρ 3 + ρ' 19 j ∧
  ((ρ' 12 j = ρ 12 j ∧ ∀ f, 15 ≤ f → f < 20 → ρ' f j = ρ f j) ∨ (ρ 20 j = 0 ∧ ∃ t N, t < a ∧ ρ 15 j = nI t ∧ ndF c ρ j t = nI N ∧ N ≤ 1600 ∧ HJm c ρ ρ' j t N))
theorem sm_add (f g : Nat → Int32) : ∀ n, sm (fun k => f k + g k) n = sm f n + sm g n
  | 0 => rfl
  | n + 1 => by
    rw [sm, sm, sm, sm_add f g n]
    simp only [Int32.add_assoc]
    rw [← Int32.add_assoc (sm g n), Int32.add_comm (sm g n), Int32.add_assoc]
theorem wul {ρ : RH} {j c : Nat} : wOf c (ulC ρ j c) 3 = wOf c ρ 3 + ldOf c ρ (nI j) := by
  unfold wOf ldOf
  rw [← sm_add]
  refine sm_cong (fun l hl => ?_)
  have e31 : ulC ρ j c 31 l = ρ 31 l := ulC_f (by decide) (Or.inl (by decide))
  rw [e31]
  by_cases q : ρ 32 l = 1 ∧ ρ 33 l = nI j
  · have e32 : ulC ρ j c 32 l = 3 := by
      unfold ulC; rw [if_neg (by omega), if_pos ⟨hl, q.1, q.2, Or.inl rfl⟩, if_pos rfl]
    rw [e32, if_pos rfl, if_neg (by rw [q.1]; decide), if_pos q]; exact (Int32.zero_add _).symm
  · have e32 : ulC ρ j c 32 l = ρ 32 l := by
      unfold ulC; rw [if_neg (by omega), if_neg (fun w => q ⟨w.2.1, w.2.2.1⟩)]
    rw [e32, if_neg q]; exact (Int32.add_zero _).symm
end ST2
