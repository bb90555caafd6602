/-! the new plan can be carried out by both -/
section JNT
variable {K : Nat → Nat} {V : Nat → Int64} {S : Nat → Int32} {rl : Nat → Int32} {s : PS} {x y : Int32} {v : Int64} {a b c hn wn sn k t i : Nat} {ρ π β : RH} {ν : NU} {σ : Nat → Nat} {bb : Bool} {f m : Nat}
theorem tdR_j : ∀ k, tdR V rl x v k = -1 ∨ ∃ j, tdR V rl x v k = nI j ∧ j < cntR rl x k
  | 0 => Or.inl rfl
  | k + 1 => by
    rw [tdR]
    by_cases e : tdR V rl x v k = -1
    · rw [if_pos e]
      by_cases e2 : rl k = x ∧ V k = v
      · rw [if_pos e2]; exact Or.inr ⟨cntR rl x k, rfl, by rw [cntR_y e2.1]; exact Nat.lt_succ_self _⟩
      · rw [if_neg e2]; exact Or.inl rfl
    · rw [if_neg e]
      rcases tdR_j k with h | ⟨j, h1, h2⟩
      · exact absurd h e
      · exact Or.inr ⟨j, h1, by rw [cntR]; omega⟩
theorem cntR_m (h : i ≤ k) : cntR rl x i ≤ cntR rl x k := by
  induction k with
  | zero => rw [show i = 0 by omega]; exact Nat.le_refl _
  | succ k ih =>
    by_cases e : i = k + 1
    · rw [e]; exact Nat.le_refl _
    · have := ih (by omega)
      show _ ≤ cntR rl x k + (if rl k = x then 1 else 0)
      omega
theorem ng_0 (h : ngE x = 0) : ¬ x = -1 := fun e => by unfold ngE at h; rw [if_pos e] at h; exact absurd h (by decide)
theorem LC.sg (h : LC V s β a b c ρ ν hn wn sn σ π) (hns : NS s) (hf : (flF V S s.2.2.2.2 s.1).1 = 0) (hs4 : s.1 ≤ 400) (hk : k < sn) (hj : SJ (s.2.2.1 k)) : StOK a b (σ k) (π 70 k) ∨ JnOK (σ k) := by
  obtain ⟨D, z1, -, -, t1⟩ := h
  obtain ⟨p1, -, p3⟩ := t1.2 k hk
  have hk' : k < s.2.1 := by have := t1.1; omega
  rw [p1] at p3 ⊢
  rcases hj with hj | hj
  · refine Or.inl ?_
    rcases hj with e | e | e | e
    · exact Or.inl e
    · unfold StOK; omega
    · obtain ⟨t, g1, g2, g3⟩ := hns k hk' (nmB_i.mpr (Or.inl e))
      rw [if_neg (by omega)] at g3
      have h9 := flF_er (V := V) (S := S) g1 hf
      rw [erF_v17 g3] at h9
      rcases tdR_j (V := V) (rl := s.2.2.2.2) (x := 2) (v := V t) t with q | ⟨j, q1, q2⟩
      · exact absurd q (ng_0 h9)
      · have hx : π 70 k = nI j := by
          rw [p3, g2]; unfold rsF; rw [if_pos e, nI_clamp (by omega)]; exact q1
        have hb : j < b := by have := cntR_m (rl := s.2.2.2.2) (x := 2) (Nat.le_of_lt g1); have := z1.2.1; omega
        rcases e with e | e | e
        · exact Or.inr (Or.inr (Or.inr (Or.inr (Or.inr (Or.inl ⟨e, j, hb, hx⟩)))))
        · exact Or.inr (Or.inr (Or.inr (Or.inr (Or.inr (Or.inr (Or.inl ⟨e, j, hb, hx⟩))))))
        · exact Or.inr (Or.inr (Or.inr (Or.inr (Or.inr (Or.inr (Or.inr (Or.inl ⟨e, j, hb, hx⟩)))))))
    · obtain ⟨t, g1, g2, g3⟩ := hns k hk' (nmB_i.mpr (Or.inr e))
      rw [if_pos e] at g3
      have h9 := flF_er (V := V) (S := S) g1 hf
      rw [erF_v18 g3] at h9
      rcases tdR_j (V := V) (rl := s.2.2.2.2) (x := 1) (v := V t) t with q | ⟨j, q1, q2⟩
      · exact absurd q (ng_0 h9)
      · have hx : π 70 k = nI j := by
          rw [p3, g2]; unfold rsF; rw [if_neg (by omega), if_pos e, nI_clamp (by omega)]; exact q1
        have hb : j < a := by have := cntR_m (rl := s.2.2.2.2) (x := 1) (Nat.le_of_lt g1); have := z1.1; omega
        rcases e with e | e
        · exact Or.inr (Or.inr (Or.inr (Or.inr (Or.inr (Or.inr (Or.inr (Or.inr (Or.inl ⟨e, j, hb, hx⟩))))))))
        · exact Or.inr (Or.inr (Or.inr (Or.inr (Or.inr (Or.inr (Or.inr (Or.inr (Or.inr ⟨e, j, hb, hx⟩))))))))
  · exact Or.inr hj
theorem GSeg.sg (g : GSeg s bb f t) (h : LC V s β a b c ρ ν hn wn sn σ π) (hns : NS s) (hf : (flF V S s.2.2.2.2 s.1).1 = 0) (hs4 : s.1 ≤ 400) (hsn : s.2.1 ≤ s.1) (ht : t ≤ s.2.1) : SgOK a b σ (π 70) f t := by
  have hsn' : sn = s.2.1 := let ⟨_, _, _, _, t1⟩ := h; t1.1
  have hσ : ∀ i, i < sn → σ i = s.2.2.1 i := fun i hi => let ⟨_, _, _, _, t1⟩ := h; (t1.2 i hi).1
  refine ⟨g.1, by omega, fun n hn' => ?_⟩
  obtain ⟨g1, g2⟩ := (g.2 0 be0 (fun _ => 0) (fun _ => 0)).1 (f + n) (by omega) hn'
  refine ⟨?_, h.sg hns hf hs4 (by omega) g2⟩
  rw [hσ _ (by omega), ← ev_hg (c := 0) (ρ := be0) (w := fun _ => 0) (κ := fun _ => 0) n, evF_c (σ := s.2.2.1) n (fun i hi => hσ i (by omega))]
  rw [show f + n - f = n by omega] at g1
  exact g1
theorem LC.pl (h : LC V s β a b c ρ ν hn wn sn σ π) (hP : PLS s β) (hns : NS s) (hf : (flF V S s.2.2.2.2 s.1).1 = 0) (hs4 : s.1 ≤ 400) (hsn : s.2.1 ≤ s.1) (hh : hn ≤ 12) (hw : wn ≤ 12) : PlOK a b hn wn σ π ∧ PmOK a b c hn wn sn σ π := by
  have hsn' : sn = s.2.1 := let ⟨_, _, _, _, t1⟩ := h; t1.1
  have hσ : ∀ i, i < sn → σ i = s.2.2.1 i := fun i hi => let ⟨_, _, _, _, t1⟩ := h; (t1.2 i hi).1
  have A : ∀ i, i < hn → ∃ f m t, π 52 i = nI f ∧ π 53 i = nI m ∧ π 54 i = nI t ∧ m ≤ t ∧ t ≤ sn ∧ SgOK a b σ (π 70) f m ∧ (m < t → SgOK a b σ (π 70) m t) := fun i hi => by
    obtain ⟨D, z1, -, d1, t1⟩ := id h
    obtain ⟨f, m, t, a1, a2, a3, a4, a5, a6, a7⟩ := hP.2.1 i (by rw [z1.2.2.2.1]; exact hi)
    obtain ⟨-, b2, b3, b4⟩ := d1.2.2.2.2.1 i hi
    exact ⟨f, m, t, b2.trans a1, b3.trans a2, b4.trans a3, a4, by omega, a6.sg h hns hf hs4 hsn (by omega), fun z => (a7 z).sg h hns hf hs4 hsn a5⟩
  have Bw : ∀ i, i < wn → ∃ f t, π 57 i = nI f ∧ π 59 i = nI t ∧ t ≤ sn ∧ SgOK a b σ (π 70) f t ∧ GSeg s true f t := fun i hi => by
    obtain ⟨D, z1, -, d1, t1⟩ := id h
    obtain ⟨f, t, a1, a2, a3, a4⟩ := hP.2.2 i (by rw [z1.2.2.2.2.1]; exact hi)
    obtain ⟨-, -, b3, b4⟩ := d1.2.2.2.2.2.1 i hi
    exact ⟨f, t, b3.trans a1, b4.trans a2, by omega, a4.sg h hns hf hs4 hsn a3, a4⟩
  refine ⟨⟨hh, hw, fun i hi => ?_, fun i hi => ?_⟩, A, fun i hi => ?_⟩
  · obtain ⟨f, m, t, a1, a2, a3, a4, a5, a6, a7⟩ := A i hi
    exact ⟨f, m, t, a1, a2, a3, a4, by omega, a6, a7⟩
  · obtain ⟨f, t, a1, a2, a3, a4, -⟩ := Bw i hi
    exact ⟨f, t, a1, a2, a4⟩
  · obtain ⟨f, t, a1, a2, a3, a4, a5⟩ := Bw i hi
    refine ⟨f, t, a1, a2, a3, a4, fun ρ9 => ?_⟩
    rw [← ev_vx (c := c) (ρ := ρ9) (κ := fun _ => 0) a4 a1 a2, evF_c (σ := s.2.2.1) _ (fun i hi => hσ i (by have := a4.1; omega))]
    exact (a5.2 c ρ9 (π 70) (fun _ => 0)).2 rfl
theorem it9 (P : RH → Prop) {p : Prop} {d : Decidable p} {g h : RH} (hg : p → P g) (hh : ¬ p → P h) : P (@ite _ p d g h) := by
  by_cases e : p
  · rw [if_pos e]; exact hg e
  · rw [if_neg e]; exact hh e
theorem dt14 : ∀ t i, b01 (dtF V rl t 14 i)
  | 0, i => Or.inl rfl
  | t + 1, i => by
    have ih := dt14 t i
    have u : ∀ (g j : Nat) (z : Int32), ¬ g = 14 → b01 (u2 (dtF V rl t) g j z 14 i) := fun g j z hg => by rw [u2_f (fun e => hg e.symm)]; exact ih
    show b01 ((if _ then _ else _ : RH) 14 i)
    refine it9 (fun g : RH => b01 (g 14 i)) (fun _ => ?_) (fun _ => ?_)
    · exact u _ _ _ (by decide)
    refine it9 (fun g : RH => b01 (g 14 i)) (fun _ => ?_) (fun _ => ?_)
    · exact u _ _ _ (by decide)
    refine it9 (fun g : RH => b01 (g 14 i)) (fun _ => ?_) (fun _ => ?_)
    · exact u _ _ _ (by decide)
    refine it9 (fun g : RH => b01 (g 14 i)) (fun _ => ?_) (fun _ => ?_)
    · exact u _ _ _ (by decide)
    refine it9 (fun g : RH => b01 (g 14 i)) (fun _ => ?_) (fun _ => ?_)
    · exact u _ _ _ (by decide)
    refine it9 (fun g : RH => b01 (g 14 i)) (fun _ => ?_) (fun _ => ?_)
    · exact u _ _ _ (by decide)
    refine it9 (fun g : RH => b01 (g 14 i)) (fun _ => ?_) (fun _ => ?_)
    · show b01 (u2 (dtF V rl t) 14 (cntR rl 2 t - 1) 1 14 i)
      by_cases e : i = cntR rl 2 t - 1
      · rw [e, u2_s]; exact Or.inr rfl
      · rw [u2_i e]; exact ih
    refine it9 (fun g : RH => b01 (g 14 i)) (fun _ => ?_) (fun _ => ?_)
    · exact u _ _ _ (by decide)
    refine it9 (fun g : RH => b01 (g 14 i)) (fun _ => ?_) (fun _ => ?_)
    · exact u _ _ _ (by decide)
    refine it9 (fun g : RH => b01 (g 14 i)) (fun _ => ?_) (fun _ => ?_)
    · exact u _ _ _ (by decide)
    refine it9 (fun g : RH => b01 (g 14 i)) (fun _ => ?_) (fun _ => ?_)
    · exact u _ _ _ (by decide)
    exact ih
/-- the weights of logs that hold lie *in* their range -/
theorem dt31 (hE : ∀ i, i < k → erF V rl i = 0) (hN : ∀ i, i < k → rl i = 13 → ∃ c, c < 1000000 ∧ V i = Int64.ofNat c) {j : Nat} : ∀ t, t ≤ k → (∃ i, i < t ∧ rl i = 13 ∧ cntR rl 3 i - 1 = j) → 1 ≤ dtF V rl t 31 j ∧ dtF V rl t 31 j ≤ 60
  | 0, _, h => absurd h (fun ⟨_, q, _⟩ => Nat.not_lt_zero _ q)
  | t + 1, ht, ⟨i, h1, h2, h3⟩ => by
    have u : ∀ (g j2 : Nat) (z : Int32), ¬ g = 31 → ¬ rl t = 13 → 1 ≤ u2 (dtF V rl t) g j2 z 31 j ∧ u2 (dtF V rl t) g j2 z 31 j ≤ 60 := fun g j2 z hg hr => by
      rw [u2_f (fun e => hg e.symm)]
      have hi : ¬ i = t := fun q => hr (q ▸ h2)
      exact dt31 hE hN t (by omega) ⟨i, by omega, h2, h3⟩
    have ih : ¬ rl t = 13 → 1 ≤ dtF V rl t 31 j ∧ dtF V rl t 31 j ≤ 60 := fun hr => dt31 hE hN t (by omega) ⟨i, Nat.lt_of_le_of_ne (Nat.le_of_lt_succ h1) (fun q => hr (q ▸ h2)), h2, h3⟩
    show 1 ≤ (if _ then _ else _ : RH) 31 j ∧ (if _ then _ else _ : RH) 31 j ≤ 60
    refine it9 (fun g : RH => 1 ≤ g 31 j ∧ g 31 j ≤ 60) (fun q0 => ?_) (fun n0 => ?_)
    · exact u _ _ _ (by decide) (by rw [q0]; decide)
    refine it9 (fun g : RH => 1 ≤ g 31 j ∧ g 31 j ≤ 60) (fun q1 => ?_) (fun n1 => ?_)
    · exact u _ _ _ (by decide) (by rw [q1]; decide)
    refine it9 (fun g : RH => 1 ≤ g 31 j ∧ g 31 j ≤ 60) (fun q2 => ?_) (fun n2 => ?_)
    · exact u _ _ _ (by decide) (by rw [q2]; decide)
    refine it9 (fun g : RH => 1 ≤ g 31 j ∧ g 31 j ≤ 60) (fun q3 => ?_) (fun n3 => ?_)
    · exact u _ _ _ (by decide) (by rw [q3]; decide)
    refine it9 (fun g : RH => 1 ≤ g 31 j ∧ g 31 j ≤ 60) (fun q4 => ?_) (fun n4 => ?_)
    · exact u _ _ _ (by decide) (by rw [q4]; decide)
    refine it9 (fun g : RH => 1 ≤ g 31 j ∧ g 31 j ≤ 60) (fun q5 => ?_) (fun n5 => ?_)
    · exact u _ _ _ (by decide) (by rw [q5]; decide)
    refine it9 (fun g : RH => 1 ≤ g 31 j ∧ g 31 j ≤ 60) (fun q6 => ?_) (fun n6 => ?_)
    · exact u _ _ _ (by decide) (by rw [q6]; decide)
    refine it9 (fun g : RH => 1 ≤ g 31 j ∧ g 31 j ≤ 60) (fun q7 => ?_) (fun n7 => ?_)
    · have q := q7
      show 1 ≤ u2 (dtF V rl t) 31 (cntR rl 3 t - 1) (V t).toInt32 31 j ∧ u2 (dtF V rl t) 31 (cntR rl 3 t - 1) (V t).toInt32 31 j ≤ 60
      by_cases e : j = cntR rl 3 t - 1
      · rw [e, u2_s]
        have h9 := hE t (by omega)
        rw [erF_r13 _ _ q] at h9
        obtain ⟨c9, c1, c2⟩ := hN t (by omega) q
        rw [c2, show (1 : Int32) = nI 1 from rfl, show (60 : Int32) = nI 60 from rfl, rg_ii c1 (by decide) (by decide) rfl rfl] at h9
        rw [c2, i64_32]
        have h8 : ¬ iiF (nI c9) (nI 1) (nI 60) = 0 := fun z => by rw [if_pos z] at h9; exact absurd h9 (by decide)
        unfold iiF at h8
        by_cases z : nI 1 ≤ nI c9 ∧ nI c9 ≤ nI 60
        · exact z
        · rw [if_neg z] at h8; exact absurd rfl h8
      · rw [u2_i e]
        have hi : ¬ i = t := fun q2 => e (by rw [← h3, q2])
        exact dt31 hE hN t (by omega) ⟨i, by omega, h2, h3⟩
    refine it9 (fun g : RH => 1 ≤ g 31 j ∧ g 31 j ≤ 60) (fun q8 => ?_) (fun n8 => ?_)
    · exact u _ _ _ (by decide) n7
    refine it9 (fun g : RH => 1 ≤ g 31 j ∧ g 31 j ≤ 60) (fun q9 => ?_) (fun n9 => ?_)
    · exact u _ _ _ (by decide) n7
    refine it9 (fun g : RH => 1 ≤ g 31 j ∧ g 31 j ≤ 60) (fun q10 => ?_) (fun n10 => ?_)
    · exact u _ _ _ (by decide) n7
    exact ih n7
end JNT
