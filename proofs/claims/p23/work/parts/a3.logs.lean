/-! every log has its weight -/
def C3 (s s' : PS) : Prop := (cntR s'.2.2.2.2 3 s'.1 = cntR s.2.2.2.2 3 s.1 ∧ s.1 ≤ s'.1 ∧ ∀ i, i < s.1 → s'.2.2.2.2 i = s.2.2.2.2 i) ∧ ∀ i, s'.1 ≤ i → s'.2.2.2.2 i = 0
def W13 (s : PS) : Prop := (∀ l, l < cntR s.2.2.2.2 3 s.1 → ∃ t, t < s.1 ∧ s.2.2.2.2 t = 13 ∧ cntR s.2.2.2.2 3 t = l + 1) ∧ ∀ i, s.1 ≤ i → s.2.2.2.2 i = 0
section C3S
variable {K : Nat → Nat} {vv : Nat → Int32} {k : Nat} {x : Int32} {q q' : PQ} {s s' s'' : PS} {β β' : RH}
theorem C3.rf (hz : ∀ i, s.1 ≤ i → s.2.2.2.2 i = 0) : C3 s s := ⟨⟨rfl, Nat.le_refl _, fun _ _ => rfl⟩, hz⟩
theorem C3.ad (h : C3 s s') : C3 s (adv s' 1) := by
  have e0 := h.2 s'.1 (Nat.le_refl _)
  exact ⟨⟨(cntR_n (rl := s'.2.2.2.2) (by rw [e0]; decide)).trans h.1.1, Nat.le_trans h.1.2.1 (Nat.le_succ _), h.1.2.2⟩, fun i hi => h.2 i (Nat.le_trans (Nat.le_succ _) hi)⟩
theorem C3.ro (h : C3 s s') (h4 : ¬ x = 3) : C3 s (adv (rol s' s'.1 x) 1) := by
  refine ⟨⟨?_, Nat.le_trans h.1.2.1 (Nat.le_succ _), fun i hi => (uI_i (by have := h.1.2.1; omega)).trans (h.1.2.2 i hi)⟩, fun i hi => ?_⟩
  · show cntR (uI s'.2.2.2.2 s'.1 x) 3 (s'.1 + 1) = _
    rw [cntR_n (by rw [uI_s]; exact h4), cntR_c (uI_c (Nat.le_refl _))]; exact h.1.1
  · have h9 : s'.1 + 1 ≤ i := hi
    show uI s'.2.2.2.2 s'.1 x i = 0
    rw [uI_i (by omega)]; exact h.2 i (by omega)
theorem C3.psm (h : C3 s s') (m : PSM K s' s'') : C3 s s'' := by
  have z := ZP.psm (V := fun _ => 0) ⟨rfl, rfl, rfl, rfl, rfl, rfl⟩ m h.2
  refine ⟨⟨z.2.2.1.trans h.1.1, Nat.le_trans h.1.2.1 m.1, fun i hi => ?_⟩, fun i hi => ?_⟩
  · rcases m.2.2.2 i with e | ⟨e, _⟩
    · rw [e]; exact h.1.2.2 i hi
    · have := h.1.2.1; omega
  · rcases m.2.2.2 i with e | ⟨_, e, _⟩
    · rw [e]; exact h.2 i (Nat.le_trans m.1 hi)
    · omega
theorem C3.tq (z : (tkQ K k q).1 = true) (h : C3 s q.2) : C3 s (tkQ K k q).2 := by rw [(tkQ_t z).2.2]; exact h.ad
theorem C3.tr9 (z : (tkR K k x q).1 = true) (h : C3 s q.2) (h4 : ¬ x = 3) : C3 s (tkR K k x q).2 := by rw [(tkR_t z).2.2]; exact h.ro h4
theorem C3.op (h : C3 s q.2) (h4 : ¬ x = 3) : C3 s (opR K k x q).2 := by
  unfold opR; split
  · exact h.ro h4
  · exact h
theorem W13.kp (h : W13 s) (c : C3 s s') : W13 s' := ⟨fun l hl => by
  rw [c.1.1] at hl
  obtain ⟨t, h1, h2, h3⟩ := h.1 l hl
  exact ⟨t, Nat.lt_of_lt_of_le h1 c.1.2.1, (c.1.2.2 t h1).trans h2, by rw [cntR_c (rl := s.2.2.2.2) (fun i hi => c.1.2.2 i (by omega))]; exact h3⟩, c.2⟩
theorem lnst_3 (hz : ∀ i, s.1 ≤ i → s.2.2.2.2 i = 0) (z : (lnst K s).1 = true) : C3 s (lnst K s).2 := by
  have y8 : ((tkR K 44 8 ((tkQ K 3 ((tkR K 44 7 ((opR K 35 19 ((tkQ K 2 ((tkR K 44 6 ((tkQ K 1 ((tkR K 43 1 ((true, adv s 1)))))))))))))))))).1 = true := z
  have y7 : ((tkQ K 3 ((tkR K 44 7 ((opR K 35 19 ((tkQ K 2 ((tkR K 44 6 ((tkQ K 1 ((tkR K 43 1 ((true, adv s 1)))))))))))))))).1 = true := (tkR_t y8).1
  have y6 : ((tkR K 44 7 ((opR K 35 19 ((tkQ K 2 ((tkR K 44 6 ((tkQ K 1 ((tkR K 43 1 ((true, adv s 1)))))))))))))).1 = true := (tkQ_t y7).1
  have y5 : ((opR K 35 19 ((tkQ K 2 ((tkR K 44 6 ((tkQ K 1 ((tkR K 43 1 ((true, adv s 1)))))))))))).1 = true := (tkR_t y6).1
  have y4 : ((tkQ K 2 ((tkR K 44 6 ((tkQ K 1 ((tkR K 43 1 ((true, adv s 1)))))))))).1 = true := opR_1 y5
  have y3 : ((tkR K 44 6 ((tkQ K 1 ((tkR K 43 1 ((true, adv s 1)))))))).1 = true := (tkQ_t y4).1
  have y2 : ((tkQ K 1 ((tkR K 43 1 ((true, adv s 1)))))).1 = true := (tkR_t y3).1
  have y1 : ((tkR K 43 1 ((true, adv s 1)))).1 = true := (tkQ_t y2).1
  have x0 : C3 s (adv s 1) := (C3.rf hz).ad
  have x1 : C3 s ((tkR K 43 1 ((true, adv s 1)))).2 := C3.tr9 y1 x0 (by decide)
  have x2 : C3 s ((tkQ K 1 ((tkR K 43 1 ((true, adv s 1)))))).2 := C3.tq y2 x1
  have x3 : C3 s ((tkR K 44 6 ((tkQ K 1 ((tkR K 43 1 ((true, adv s 1)))))))).2 := C3.tr9 y3 x2 (by decide)
  have x4 : C3 s ((tkQ K 2 ((tkR K 44 6 ((tkQ K 1 ((tkR K 43 1 ((true, adv s 1)))))))))).2 := C3.tq y4 x3
  have x5 : C3 s ((opR K 35 19 ((tkQ K 2 ((tkR K 44 6 ((tkQ K 1 ((tkR K 43 1 ((true, adv s 1)))))))))))).2 := C3.op x4 (by decide)
  have x6 : C3 s ((tkR K 44 7 ((opR K 35 19 ((tkQ K 2 ((tkR K 44 6 ((tkQ K 1 ((tkR K 43 1 ((true, adv s 1)))))))))))))).2 := C3.tr9 y6 x5 (by decide)
  have x7 : C3 s ((tkQ K 3 ((tkR K 44 7 ((opR K 35 19 ((tkQ K 2 ((tkR K 44 6 ((tkQ K 1 ((tkR K 43 1 ((true, adv s 1)))))))))))))))).2 := C3.tq y7 x6
  have x8 : C3 s ((tkR K 44 8 ((tkQ K 3 ((tkR K 44 7 ((opR K 35 19 ((tkQ K 2 ((tkR K 44 6 ((tkQ K 1 ((tkR K 43 1 ((true, adv s 1)))))))))))))))))).2 := C3.tr9 y8 x7 (by decide)
  exact x8
theorem lnho_3 (hz : ∀ i, s.1 ≤ i → s.2.2.2.2 i = 0) (z : (lnho K s).1 = true) : C3 s (lnho K s).2 := by
  have y8 : ((opR K 8 12 ((tkR K 44 11 ((tkQ K 7 ((tkR K 44 10 ((tkQ K 6 ((tkR K 44 9 ((tkQ K 5 ((tkR K 43 2 ((true, adv s 1)))))))))))))))))).1 = true := z
  have y7 : ((tkR K 44 11 ((tkQ K 7 ((tkR K 44 10 ((tkQ K 6 ((tkR K 44 9 ((tkQ K 5 ((tkR K 43 2 ((true, adv s 1)))))))))))))))).1 = true := opR_1 y8
  have y6 : ((tkQ K 7 ((tkR K 44 10 ((tkQ K 6 ((tkR K 44 9 ((tkQ K 5 ((tkR K 43 2 ((true, adv s 1)))))))))))))).1 = true := (tkR_t y7).1
  have y5 : ((tkR K 44 10 ((tkQ K 6 ((tkR K 44 9 ((tkQ K 5 ((tkR K 43 2 ((true, adv s 1)))))))))))).1 = true := (tkQ_t y6).1
  have y4 : ((tkQ K 6 ((tkR K 44 9 ((tkQ K 5 ((tkR K 43 2 ((true, adv s 1)))))))))).1 = true := (tkR_t y5).1
  have y3 : ((tkR K 44 9 ((tkQ K 5 ((tkR K 43 2 ((true, adv s 1)))))))).1 = true := (tkQ_t y4).1
  have y2 : ((tkQ K 5 ((tkR K 43 2 ((true, adv s 1)))))).1 = true := (tkR_t y3).1
  have y1 : ((tkR K 43 2 ((true, adv s 1)))).1 = true := (tkQ_t y2).1
  have x0 : C3 s (adv s 1) := (C3.rf hz).ad
  have x1 : C3 s ((tkR K 43 2 ((true, adv s 1)))).2 := C3.tr9 y1 x0 (by decide)
  have x2 : C3 s ((tkQ K 5 ((tkR K 43 2 ((true, adv s 1)))))).2 := C3.tq y2 x1
  have x3 : C3 s ((tkR K 44 9 ((tkQ K 5 ((tkR K 43 2 ((true, adv s 1)))))))).2 := C3.tr9 y3 x2 (by decide)
  have x4 : C3 s ((tkQ K 6 ((tkR K 44 9 ((tkQ K 5 ((tkR K 43 2 ((true, adv s 1)))))))))).2 := C3.tq y4 x3
  have x5 : C3 s ((tkR K 44 10 ((tkQ K 6 ((tkR K 44 9 ((tkQ K 5 ((tkR K 43 2 ((true, adv s 1)))))))))))).2 := C3.tr9 y5 x4 (by decide)
  have x6 : C3 s ((tkQ K 7 ((tkR K 44 10 ((tkQ K 6 ((tkR K 44 9 ((tkQ K 5 ((tkR K 43 2 ((true, adv s 1)))))))))))))).2 := C3.tq y6 x5
  have x7 : C3 s ((tkR K 44 11 ((tkQ K 7 ((tkR K 44 10 ((tkQ K 6 ((tkR K 44 9 ((tkQ K 5 ((tkR K 43 2 ((true, adv s 1)))))))))))))))).2 := C3.tr9 y7 x6 (by decide)
  have x8 : C3 s ((opR K 8 12 ((tkR K 44 11 ((tkQ K 7 ((tkR K 44 10 ((tkQ K 6 ((tkR K 44 9 ((tkQ K 5 ((tkR K 43 2 ((true, adv s 1)))))))))))))))))).2 := C3.op x7 (by decide)
  exact x8
theorem lnlo_3 (h : W13 s) (z : (lnlo K s).1 = true) : W13 (lnlo K s).2 := by
  have y3 : ((tkR K 44 13 ((tkQ K 10 ((tkR K 43 3 ((true, adv s 1)))))))).1 = true := z
  have y2 : ((tkQ K 10 ((tkR K 43 3 ((true, adv s 1)))))).1 = true := (tkR_t y3).1
  have y1 : ((tkR K 43 3 ((true, adv s 1)))).1 = true := (tkQ_t y2).1
  obtain ⟨g1, hz⟩ := h
  have e3 : lnlo K s = (true, adv (rol (adv (adv (rol (adv s 1) (s.1 + 1) 3) 1) 1) (s.1 + 3) 13) 1) := by
    show (tkR K 44 13 ((tkQ K 10 ((tkR K 43 3 ((true, adv s 1))))))) = _
    rw [(tkR_t y3).2.2, (tkQ_t y2).2.2, (tkR_t y1).2.2]; rfl
  rw [e3]
  have hr : ∀ i, (uI (uI s.2.2.2.2 (s.1 + 1) 3) (s.1 + 3) 13) i = if i = s.1 + 3 then 13 else if i = s.1 + 1 then 3 else s.2.2.2.2 i := fun i => by
    by_cases e : i = s.1 + 3
    · rw [e, uI_s, if_pos rfl]
    · rw [uI_i e, if_neg e]
      by_cases e2 : i = s.1 + 1
      · rw [e2, uI_s, if_pos rfl]
      · rw [uI_i e2, if_neg e2]
  have z0 := hz s.1 (Nat.le_refl _)
  have z2 := hz (s.1 + 2) (by omega)
  have c1 : cntR (uI (uI s.2.2.2.2 (s.1 + 1) 3) (s.1 + 3) 13) 3 (s.1 + 1) = cntR s.2.2.2.2 3 s.1 := by
    rw [cntR_n (by rw [hr, if_neg (by omega), if_neg (by omega), z0]; decide), cntR_c (rl := s.2.2.2.2) (fun i hi => by rw [hr, if_neg (by omega), if_neg (by omega)])]
  have c2 : cntR (uI (uI s.2.2.2.2 (s.1 + 1) 3) (s.1 + 3) 13) 3 (s.1 + 2) = cntR s.2.2.2.2 3 s.1 + 1 := by
    rw [cntR_y (by rw [hr, if_neg (by omega), if_pos rfl]), c1]
  have c3 : cntR (uI (uI s.2.2.2.2 (s.1 + 1) 3) (s.1 + 3) 13) 3 (s.1 + 3) = cntR s.2.2.2.2 3 s.1 + 1 := by
    rw [cntR_n (by rw [hr, if_neg (by omega), if_neg (by omega), z2]; decide), c2]
  have c4 : cntR (uI (uI s.2.2.2.2 (s.1 + 1) 3) (s.1 + 3) 13) 3 (s.1 + 4) = cntR s.2.2.2.2 3 s.1 + 1 := by
    rw [cntR_n (by rw [hr, if_pos rfl]; decide), c3]
  refine ⟨fun l hl => ?_, fun i hi => ?_⟩
  · have hl' : l < cntR (uI (uI s.2.2.2.2 (s.1 + 1) 3) (s.1 + 3) 13) 3 (s.1 + 4) := hl
    show ∃ t, t < s.1 + 4 ∧ (uI (uI s.2.2.2.2 (s.1 + 1) 3) (s.1 + 3) 13) t = 13 ∧ cntR (uI (uI s.2.2.2.2 (s.1 + 1) 3) (s.1 + 3) 13) 3 t = l + 1
    rw [c4] at hl'
    by_cases e : l = cntR s.2.2.2.2 3 s.1
    · exact ⟨s.1 + 3, by omega, by rw [hr, if_pos rfl], by rw [c3, e]⟩
    · obtain ⟨t, h1, h2, h3⟩ := g1 l (by omega)
      exact ⟨t, by omega, by rw [hr, if_neg (by omega), if_neg (by omega)]; exact h2, by rw [cntR_c (rl := s.2.2.2.2) (fun i hi => by rw [hr, if_neg (by omega), if_neg (by omega)])]; exact h3⟩
  · have hi' : s.1 + 4 ≤ i := hi
    show (uI (uI s.2.2.2.2 (s.1 + 1) 3) (s.1 + 3) 13) i = 0
    rw [hr, if_neg (by omega), if_neg (by omega)]; exact hz i (by omega)
theorem HLr.w3 (hR : HLr K vv s β q' β') (z : q'.1 = true) (h : W13 s) : W13 q'.2 := by
  obtain ⟨q4, hp3, hH, -⟩ := hR
  have z4 : q4.1 = true := hH.elim (fun g => g.1) (fun g => by rw [← g.2]; exact z)
  have x3 := hp3.psm z4
  have x0 : C3 s (adv (rol s s.1 4) 1) := (C3.rf h.2).ro (by decide)
  have xs := C3.psm (C3.tq x3.1 (C3.tr9 (tkQ_t x3.1).1 (show C3 s ((true, adv (rol s s.1 4) 1) : PQ).2 from x0) (by decide))) x3.2
  refine h.kp ?_
  rcases hH with ⟨_, _, g⟩ | ⟨_, g⟩
  · exact xs.psm ((PSM.ad1 q4.2 1).tr (g.psm z).2)
  · rw [g]; exact xs
theorem WLr.w3 (hR : WLr K vv s β q' β') (z : q'.1 = true) (h : W13 s) : W13 q'.2 := by
  have x3 := hR.1.psm z
  have y4 := (tkQ_t x3.1).1
  have y3 := (tkR_t y4).1
  have y2 := (tkQ_t y3).1
  have x0 : C3 s (adv (rol s s.1 5) 1) := (C3.rf h.2).ro (by decide)
  exact h.kp (C3.psm (C3.tq x3.1 (C3.tr9 y4 (C3.tq y3 (C3.tr9 y2 (show C3 s ((true, adv (rol s s.1 5) 1) : PQ).2 from x0) (by decide))) (by decide))) x3.2)
theorem W13.tq (z : (tkQ K k q).1 = true) (g : W13 q.2) : W13 (tkQ K k q).2 := g.kp (C3.tq z (C3.rf g.2))
theorem LSr.w3 (h : LSr K vv q β q' β') : q'.1 = true → q.1 = true ∧ (W13 q.2 → W13 q'.2) := by
  refine h (fun q _ q' _ => q'.1 = true → q.1 = true ∧ (W13 q.2 → W13 q'.2)) ⟨fun s β z => absurd z (by simp), fun s β e z => ⟨rfl, id⟩, fun s β q1 β1 q2 β2 e45 hl g z => ⟨rfl, fun hs => ?_⟩⟩
  obtain ⟨z1, g2⟩ := g z
  refine g2 ?_
  rcases hl with ⟨e0, rfl, rfl⟩ | ⟨e0, rfl, rfl⟩ | ⟨e0, rfl, rfl⟩ | ⟨e0, q0, h0, rfl⟩ | ⟨e0, q0, h0, rfl⟩ | ⟨e0, rfl, rfl⟩
  · exact W13.tq z1 (W13.kp hs (lnst_3 hs.2 (tkQ_t z1).1))
  · exact W13.tq z1 (W13.kp hs (lnho_3 hs.2 (tkQ_t z1).1))
  · exact W13.tq z1 (lnlo_3 hs (tkQ_t z1).1)
  · exact W13.tq z1 (h0.w3 (tkQ_t z1).1 hs)
  · exact W13.tq z1 (h0.w3 (tkQ_t z1).1 hs)
  · exact absurd z1 (by simp)
theorem W13.pq0 : W13 pq0.2 := ⟨fun l h => absurd h (Nat.not_lt_zero _), fun _ _ => rfl⟩
end C3S
