/-! sums and tests of a list can be carried out -/
def GSeg (s : PS) (bb : Bool) (f t : Nat) : Prop := f < t ∧ ∀ (c : Nat) (ρ : RH) (w κ : Nat → Int32), (∀ k, f ≤ k → k < t → tkN (s.2.2.1 k) ≤ (evF c ρ s.2.2.1 w f κ (k - f)).2 ∧ SJ (s.2.2.1 k)) ∧ (bb = true → b01 ((evF c ρ s.2.2.1 w f κ (t - f)).1 0))
def PLS (s : PS) (β : RH) : Prop := (∀ i, s.1 ≤ i → s.2.2.2.2 i = 0) ∧ (∀ i, i < cntR s.2.2.2.2 4 s.1 → ∃ f m t, β 52 i = nI f ∧ β 53 i = nI m ∧ β 54 i = nI t ∧ m ≤ t ∧ t ≤ s.2.1 ∧ GSeg s false f m ∧ (m < t → GSeg s true m t)) ∧ (∀ i, i < cntR s.2.2.2.2 5 s.1 → ∃ f t, β 57 i = nI f ∧ β 59 i = nI t ∧ t ≤ s.2.1 ∧ GSeg s true f t)
section PLX
variable {K : Nat → Nat} {vv : Nat → Int32} {s s' s0 : PS} {q q' q4 : PQ} {β β' : RH} {bb b2 : Bool} {f t k : Nat}
theorem GSeg.ext (g : GSeg s bb f t) (e : EXT s s') (ht : t ≤ s.2.1) : GSeg s' bb f t := ⟨g.1, fun c ρ w κ => ⟨fun k h1 h2 => by
  have := (g.2 c ρ w κ).1 k h1 h2
  rw [e.2 k (by omega), evF_c (σ := s.2.2.1) _ (fun i hi => e.2 i (by omega))]; exact this, fun z => by
  rw [evF_c (σ := s.2.2.1) _ (fun i hi => e.2 i (by have := g.1; omega))]; exact (g.2 c ρ w κ).2 z⟩⟩
theorem NP.seg (h : NP bb s s') (hb : b2 = true → bb = true) : GSeg s' b2 s.2.1 s'.2.1 := by
  have h0 : ∀ (c : Nat) (ρ : RH) (w κ : Nat → Int32), RUN c ρ w s.2.1 κ s = (κ, 0) := fun c ρ w κ => by
    unfold RUN; rw [Nat.sub_self]; rfl
  refine ⟨?_, fun c ρ w κ => ?_⟩
  · obtain ⟨g1, g2, g3, g4⟩ := h.2 0 be0 (fun _ => 0) s.2.1 (fun _ => 0) (Nat.le_refl _)
    rw [h0] at g2
    rcases Nat.lt_or_ge s.2.1 s'.2.1 with e | e
    · exact e
    · unfold RUN at g2
      rw [show s'.2.1 - s.2.1 = 0 by omega] at g2
      have g2' : (0 : Nat) = 0 + 1 := g2
      omega
  · obtain ⟨g1, g2, g3, g4⟩ := h.2 c ρ w s.2.1 κ (Nat.le_refl _)
    refine ⟨g1, fun z => ?_⟩
    have := g4 (hb z)
    rw [h0] at this
    exact this
theorem PLS.li (g : PLS s β) (hc : C45 s s') (e : EXT s s') : PLS s' β := by
  obtain ⟨g0, g1, g2⟩ := g
  refine ⟨hc.2, fun i hi => ?_, fun i hi => ?_⟩
  · rw [hc.1.1] at hi
    obtain ⟨f, m, t, a1, a2, a3, a4, a5, a6, a7⟩ := g1 i hi
    exact ⟨f, m, t, a1, a2, a3, a4, Nat.le_trans a5 e.1, a6.ext e (Nat.le_trans a4 a5), fun z => (a7 z).ext e a5⟩
  · rw [hc.1.2] at hi
    obtain ⟨f, t, a1, a2, a3, a4⟩ := g2 i hi
    exact ⟨f, t, a1, a2, Nat.le_trans a3 e.1, a4.ext e a3⟩
theorem PLS.tq (z : (tkQ K k q).1 = true) (g : PLS q.2 β) : PLS (tkQ K k q).2 β := g.li (C45.tq z (C45.rf g.1)) (PSM.ext (tkQ_m z).2)
theorem HLr.pl (hR : HLr K vv s β q' β') (z : q'.1 = true) (g : PLS s β) : PLS q'.2 β' := by
  obtain ⟨q4, hp3, hH, hβ⟩ := hR
  subst hβ
  have hz := g.1
  have z4 : q4.1 = true := hH.elim (fun g => g.1) (fun g => by rw [← g.2]; exact z)
  have x3 := hp3.psm z4
  have hz1 : ∀ i, (adv (rol s s.1 4) 1).1 ≤ i → (adv (rol s s.1 4) 1).2.2.2.2 i = 0 := fun i hi => (uI_i (by have h9 : s.1 + 1 ≤ i := hi; omega)).trans (hz i (Nat.le_trans (Nat.le_succ _) hi))
  have xs := C45.psm (C45.tq x3.1 (C45.tr9 (tkQ_t x3.1).1 (C45.rf hz1) (by decide) (by decide))) x3.2
  have hpx : PSX s (tkQ K 12 (tkR K 43 14 (true, adv (rol s s.1 4) 1))).2 := (((PXQ.st s 4).tr).tk) x3.1
  have ex4 : EXT s q4.2 := (PSX.ext hpx).tr (PSM.ext x3.2)
  have eh9 : cntR (adv (rol s s.1 4) 1).2.2.2.2 4 (adv (rol s s.1 4) 1).1 = cntR s.2.2.2.2 4 s.1 + 1 := by
    show cntR (uI s.2.2.2.2 s.1 4) 4 (s.1 + 1) = _
    rw [cntR_y (uI_s _ _ _), cntR_c (uI_c (Nat.le_refl _))]
  have ev9 : cntR (adv (rol s s.1 4) 1).2.2.2.2 5 (adv (rol s s.1 4) 1).1 = cntR s.2.2.2.2 5 s.1 := by
    show cntR (uI s.2.2.2.2 s.1 4) 5 (s.1 + 1) = _
    rw [cntR_n (by rw [uI_s]; decide), cntR_c (uI_c (Nat.le_refl _))]
  have s1 : GSeg q4.2 false s.2.1 q4.2.2.1 := by
    have h1 := NP.seg (b2 := false) ((hp3.mp9 z4).2 : NP false (lnhq K s).2 q4.2) (fun z => by cases z)
    have e1 : (lnhq K s).2.2.1 = s.2.1 := hpx.2.1
    rw [e1] at h1; exact h1
  have hfin : C45 (adv (rol s s.1 4) 1) q'.2 ∧ EXT q4.2 q'.2 ∧ (q4.2.2.1 < q'.2.2.1 → GSeg q'.2 true q4.2.2.1 q'.2.2.1) := by
    rcases hH with ⟨_, _, g6⟩ | ⟨_, g6⟩
    · have m6 := g6.psm z
      exact ⟨xs.psm ((PSM.ad1 q4.2 1).tr m6.2), PSM.ext ((PSM.ad1 q4.2 1).tr m6.2), fun _ => NP.seg (b2 := true) ((g6.mp9 z).2 : NP true (adv q4.2 1) q'.2) id⟩
    · subst g6
      exact ⟨xs, EXT.rf _, fun h => absurd h (Nat.lt_irrefl _)⟩
  obtain ⟨hc9, he9, hs9⟩ := hfin
  obtain ⟨g0, g1, g2⟩ := g
  refine ⟨hc9.2, fun i hi => ?_, fun i hi => ?_⟩
  · rw [hc9.1.1, eh9] at hi
    by_cases e : i = cntR s.2.2.2.2 4 s.1
    · subst e
      exact ⟨s.2.1, q4.2.2.1, q'.2.2.1, by simp [beH, u2], by simp [beH, u2], by simp [beH, u2], he9.1, Nat.le_refl _, s1.ext he9 (Nat.le_refl _), hs9⟩
    · obtain ⟨f, m, t, a1, a2, a3, a4, a5, a6, a7⟩ := g1 i (by omega)
      have e9 := ex4.tr he9
      exact ⟨f, m, t, by simpa [beH, u2, e] using a1, by simpa [beH, u2, e] using a2, by simpa [beH, u2, e] using a3, a4, Nat.le_trans a5 e9.1, a6.ext e9 (Nat.le_trans a4 a5), fun z => (a7 z).ext e9 a5⟩
  · rw [hc9.1.2, ev9] at hi
    obtain ⟨f, t, a1, a2, a3, a4⟩ := g2 i hi
    have e9 := ex4.tr he9
    exact ⟨f, t, by simpa [beH, u2] using a1, by simpa [beH, u2] using a2, Nat.le_trans a3 e9.1, a4.ext e9 a3⟩
theorem WLr.pl (hR : WLr K vv s β q' β') (z : q'.1 = true) (g : PLS s β) : PLS q'.2 β' := by
  obtain ⟨hp3, hβ⟩ := hR
  subst hβ
  have hz := g.1
  have x3 := hp3.psm z
  have y4 := (tkQ_t x3.1).1
  have y3 := (tkR_t y4).1
  have y2 := (tkQ_t y3).1
  have hz1 : ∀ i, (adv (rol s s.1 5) 1).1 ≤ i → (adv (rol s s.1 5) 1).2.2.2.2 i = 0 := fun i hi => (uI_i (by have h9 : s.1 + 1 ≤ i := hi; omega)).trans (hz i (Nat.le_trans (Nat.le_succ _) hi))
  have xs := C45.psm (C45.tq x3.1 (C45.tr9 y4 (C45.tq y3 (C45.tr9 y2 (C45.rf hz1) (by decide) (by decide))) (by decide) (by decide))) x3.2
  have hpx : PSX s (tkQ K 13 (tkR K 43 16 (tkQ K 15 (tkR K 43 15 (true, adv (rol s s.1 5) 1))))).2 := (((((PXQ.st s 5).tr).tk).tr).tk) x3.1
  have ex4 : EXT s q'.2 := (PSX.ext hpx).tr (PSM.ext x3.2)
  have eh9 : cntR (adv (rol s s.1 5) 1).2.2.2.2 4 (adv (rol s s.1 5) 1).1 = cntR s.2.2.2.2 4 s.1 := by
    show cntR (uI s.2.2.2.2 s.1 5) 4 (s.1 + 1) = _
    rw [cntR_n (by rw [uI_s]; decide), cntR_c (uI_c (Nat.le_refl _))]
  have ev9 : cntR (adv (rol s s.1 5) 1).2.2.2.2 5 (adv (rol s s.1 5) 1).1 = cntR s.2.2.2.2 5 s.1 + 1 := by
    show cntR (uI s.2.2.2.2 s.1 5) 5 (s.1 + 1) = _
    rw [cntR_y (uI_s _ _ _), cntR_c (uI_c (Nat.le_refl _))]
  have s1 : GSeg q'.2 true s.2.1 q'.2.2.1 := by
    have h1 := NP.seg (b2 := true) ((hp3.mp9 z).2 : NP true (lnwq K s).2 q'.2) id
    have e1 : (lnwq K s).2.2.1 = s.2.1 := hpx.2.1
    rw [e1] at h1; exact h1
  obtain ⟨g0, g1, g2⟩ := g
  refine ⟨xs.2, fun i hi => ?_, fun i hi => ?_⟩
  · rw [xs.1.1, eh9] at hi
    obtain ⟨f, m, t, a1, a2, a3, a4, a5, a6, a7⟩ := g1 i hi
    exact ⟨f, m, t, by simpa [beW, u2] using a1, by simpa [beW, u2] using a2, by simpa [beW, u2] using a3, a4, Nat.le_trans a5 ex4.1, a6.ext ex4 (Nat.le_trans a4 a5), fun z => (a7 z).ext ex4 a5⟩
  · rw [xs.1.2, ev9] at hi
    by_cases e : i = cntR s.2.2.2.2 5 s.1
    · subst e
      exact ⟨s.2.1, q'.2.2.1, by simp [beW, u2], by simp [beW, u2], Nat.le_refl _, s1⟩
    · obtain ⟨f, t, a1, a2, a3, a4⟩ := g2 i (by omega)
      exact ⟨f, t, by simpa [beW, u2, e] using a1, by simpa [beW, u2, e] using a2, Nat.le_trans a3 ex4.1, a4.ext ex4 a3⟩
theorem LSr.pl (h : LSr K vv q β q' β') : q'.1 = true → q.1 = true ∧ (PLS q.2 β → PLS q'.2 β') := by
  refine h (fun q β q' β' => q'.1 = true → q.1 = true ∧ (PLS q.2 β → PLS q'.2 β')) ⟨fun s β z => absurd z (by simp), fun s β e z => ⟨rfl, id⟩, fun s β q1 β1 q2 β2 e45 hl g z => ⟨rfl, fun hs => ?_⟩⟩
  obtain ⟨z1, g2⟩ := g z
  refine g2 ?_
  rcases hl with ⟨e0, rfl, rfl⟩ | ⟨e0, rfl, rfl⟩ | ⟨e0, rfl, rfl⟩ | ⟨e0, q0, h0, rfl⟩ | ⟨e0, q0, h0, rfl⟩ | ⟨e0, rfl, rfl⟩
  · exact PLS.tq z1 (PLS.li hs (lnst_c hs.1 (tkQ_t z1).1) (lnst_x (tkQ_t z1).1).ext)
  · exact PLS.tq z1 (PLS.li hs (lnho_c hs.1 (tkQ_t z1).1) (lnho_x (tkQ_t z1).1).ext)
  · exact PLS.tq z1 (PLS.li hs (lnlo_c hs.1 (tkQ_t z1).1) (lnlo_x (tkQ_t z1).1).ext)
  · exact PLS.tq z1 (h0.pl (tkQ_t z1).1 hs)
  · exact PLS.tq z1 (h0.pl (tkQ_t z1).1 hs)
  · exact absurd z1 (by simp)
theorem PLS.pq0 : PLS pq0.2 be0 := ⟨fun _ _ => rfl, fun i h => absurd h (Nat.not_lt_zero _), fun i h => absurd h (Nat.not_lt_zero _)⟩
end PLX
