section JNT
variable {K : Nat → Nat} {V : Nat → Int64} {S : Nat → Int32} {rl : Nat → Int32} {s : PS} {x y : Int32} {v : Int64} {a b c hn wn sn k t i : Nat} {ρ π β : RH} {ν : NU} {σ : Nat → Nat} {bb : Bool} {f m : Nat}
theorem tdR_j : ∀ k, tdR V rl x v k = -1 ∨ ∃ j, tdR V rl x v k = nI j ∧ j < cntR rl x k
  | 0 => Or.inl rfl
  | k + 1 => by
    rw [tdR]
    by_cases e : tdR V rl x v k = -1
    · rw [if_pos e]
      by_cases e2 : rl k = x ∧ V k = v
      · rw [if_pos e2]; exact Or.inr ⟨cntR rl x k, rfl, by rw [cntR_y e2.1]; exact Nat.lt_succ_self _⟩
      · rw [if_neg e2]; exact Or.inl rfl
    · rw [if_neg e]
      rcases tdR_j k with h | ⟨j, h1, h2⟩
      · exact absurd h e
      · exact Or.inr ⟨j, h1, by rw [cntR]; omega⟩
theorem cntR_m (h : i ≤ k) : cntR rl x i ≤ cntR rl x k := by
  induction k with
  | zero => rw [show i = 0 by omega]; exact Nat.le_refl _
  | succ k ih =>
    by_cases e : i = k + 1
    · rw [e]; exact Nat.le_refl _
    · have := ih (by omega)
      show _ ≤ cntR rl x k + (if rl k = x then 1 else 0)
      omega
theorem ng_0 (h : ngE x = 0) : ¬ x = -1 := fun e => by unfold ngE at h; rw [if_pos e] at h; exact absurd h (by decide)
theorem LC.sg (h : LC V s β a b c ρ ν hn wn sn σ π) (hns : NS s) (hf : (flF V S s.2.2.2.2 s.1).1 = 0) (hs4 : s.1 ≤ 400) (hk : k < sn) (hj : SJ (s.2.2.1 k)) : StOK a b (σ k) (π 70 k) ∨ JnOK (σ k) := by
  obtain ⟨D, z1, -, -, t1⟩ := h
  obtain ⟨p1, -, p3⟩ := t1.2 k hk
  have hk' : k < s.2.1 := by have := t1.1; omega
  rw [p1] at p3 ⊢
  rcases hj with hj | hj
  · refine Or.inl ?_
    rcases hj with e | e | e | e
    · exact Or.inl e
    · unfold StOK; omega
    · obtain ⟨t, g1, g2, g3⟩ := hns k hk' (nmB_i.mpr (Or.inl e))
      rw [if_neg (by omega)] at g3
      have h9 := flF_er (V := V) (S := S) g1 hf
      rw [erF_v17 g3] at h9
      rcases tdR_j (V := V) (rl := s.2.2.2.2) (x := 2) (v := V t) t with q | ⟨j, q1, q2⟩
      · exact absurd q (ng_0 h9)
      · have hx : π 70 k = nI j := by
          rw [p3, g2]; unfold rsF; rw [if_pos e, nI_clamp (by omega)]; exact q1
        have hb : j < b := by have := cntR_m (rl := s.2.2.2.2) (x := 2) (Nat.le_of_lt g1); have := z1.2.1; omega
        rcases e with e | e | e
        · exact Or.inr (Or.inr (Or.inr (Or.inr (Or.inr (Or.inl ⟨e, j, hb, hx⟩)))))
        · exact Or.inr (Or.inr (Or.inr (Or.inr (Or.inr (Or.inr (Or.inl ⟨e, j, hb, hx⟩))))))
        · exact Or.inr (Or.inr (Or.inr (Or.inr (Or.inr (Or.inr (Or.inr (Or.inl ⟨e, j, hb, hx⟩)))))))
    · obtain ⟨t, g1, g2, g3⟩ := hns k hk' (nmB_i.mpr (Or.inr e))
      rw [if_pos e] at g3
      have h9 := flF_er (V := V) (S := S) g1 hf
      rw [erF_v18 g3] at h9
      rcases tdR_j (V := V) (rl := s.2.2.2.2) (x := 1) (v := V t) t with q | ⟨j, q1, q2⟩
      · exact absurd q (ng_0 h9)
      · have hx : π 70 k = nI j := by
          rw [p3, g2]; unfold rsF; rw [if_neg (by omega), if_pos e, nI_clamp (by omega)]; exact q1
        have hb : j < a := by have := cntR_m (rl := s.2.2.2.2) (x := 1) (Nat.le_of_lt g1); have := z1.1; omega
        rcases e with e | e
        · exact Or.inr (Or.inr (Or.inr (Or.inr (Or.inr (Or.inr (Or.inr (Or.inr (Or.inl ⟨e, j, hb, hx⟩))))))))
        · exact Or.inr (Or.inr (Or.inr (Or.inr (Or.inr (Or.inr (Or.inr (Or.inr (Or.inr ⟨e, j, hb, hx⟩))))))))
  · exact Or.inr hj
theorem GSeg.sg (g : GSeg s bb f t) (h : LC V s β a b c ρ ν hn wn sn σ π) (hns : NS s) (hf : (flF V S s.2.2.2.2 s.1).1 = 0) (hs4 : s.1 ≤ 400) (hsn : s.2.1 ≤ s.1) (ht : t ≤ s.2.1) : SgOK a b σ (π 70) f t := by
  have hsn' : sn = s.2.1 := let ⟨_, _, _, _, t1⟩ := h; t1.1
  have hσ : ∀ i, i < sn → σ i = s.2.2.1 i := fun i hi => let ⟨_, _, _, _, t1⟩ := h; (t1.2 i hi).1
  refine ⟨g.1, by omega, fun n hn' => ?_⟩
  obtain ⟨g1, g2⟩ := (g.2 0 be0 (fun _ => 0) (fun _ => 0)).1 (f + n) (by omega) hn'
  refine ⟨?_, h.sg hns hf hs4 (by omega) g2⟩
  rw [hσ _ (by omega), ← ev_hg (c := 0) (ρ := be0) (w := fun _ => 0) (κ := fun _ => 0) n, evF_c (σ := s.2.2.1) n (fun i hi => hσ i (by omega))]
  rw [show f + n - f = n by omega] at g1
  exact g1
theorem LC.pl (h : LC V s β a b c ρ ν hn wn sn σ π) (hP : PLS s β) (hns : NS s) (hf : (flF V S s.2.2.2.2 s.1).1 = 0) (hs4 : s.1 ≤ 400) (hsn : s.2.1 ≤ s.1) (hh : hn ≤ 12) (hw : wn ≤ 12) : PlOK a b hn wn σ π ∧ PmOK a b c hn wn sn σ π := by
  have hsn' : sn = s.2.1 := let ⟨_, _, _, _, t1⟩ := h; t1.1
  have hσ : ∀ i, i < sn → σ i = s.2.2.1 i := fun i hi => let ⟨_, _, _, _, t1⟩ := h; (t1.2 i hi).1
  have A : ∀ i, i < hn → ∃ f m t, π 52 i = nI f ∧ π 53 i = nI m ∧ π 54 i = nI t ∧ m ≤ t ∧ t ≤ sn ∧ SgOK a b σ (π 70) f m ∧ (m < t → SgOK a b σ (π 70) m t) := fun i hi => by
    obtain ⟨D, z1, -, d1, t1⟩ := id h
    obtain ⟨f, m, t, a1, a2, a3, a4, a5, a6, a7⟩ := hP.2.1 i (by rw [z1.2.2.2.1]; exact hi)
    obtain ⟨-, b2, b3, b4⟩ := d1.2.2.2.2.1 i hi
    exact ⟨f, m, t, b2.trans a1, b3.trans a2, b4.trans a3, a4, by omega, a6.sg h hns hf hs4 hsn (by omega), fun z => (a7 z).sg h hns hf hs4 hsn a5⟩
  have Bw : ∀ i, i < wn → ∃ f t, π 57 i = nI f ∧ π 59 i = nI t ∧ t ≤ sn ∧ SgOK a b σ (π 70) f t ∧ GSeg s true f t := fun i hi => by
    obtain ⟨D, z1, -, d1, t1⟩ := id h
    obtain ⟨f, t, a1, a2, a3, a4⟩ := hP.2.2 i (by rw [z1.2.2.2.2.1]; exact hi)
    obtain ⟨-, -, b3, b4⟩ := d1.2.2.2.2.2.1 i hi
    exact ⟨f, t, b3.trans a1, b4.trans a2, by omega, a4.sg h hns hf hs4 hsn a3, a4⟩
  refine ⟨⟨hh, hw, fun i hi => ?_, fun i hi => ?_⟩, A, fun i hi => ?_⟩
  · obtain ⟨f, m, t, a1, a2, a3, a4, a5, a6, a7⟩ := A i hi
    exact ⟨f, m, t, a1, a2, a3, a4, by omega, a6, a7⟩
  · obtain ⟨f, t, a1, a2, a3, a4, -⟩ := Bw i hi
    exact ⟨f, t, a1, a2, a4⟩
  · obtain ⟨f, t, a1, a2, a3, a4, a5⟩ := Bw i hi
    refine ⟨f, t, a1, a2, a3, a4, fun ρ9 => ?_⟩
    rw [← ev_vx (c := c) (ρ := ρ9) (κ := fun _ => 0) a4 a1 a2, evF_c (σ := s.2.2.1) _ (fun i hi => hσ i (by have := a4.1; omega))]
    exact (a5.2 c ρ9 (π 70) (fun _ => 0)).2 rfl
end JNT
