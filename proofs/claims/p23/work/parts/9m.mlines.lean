section TKS
variable {K : Nat → Nat} {k : Nat} {x : Int32} {q : PQ} {s s' s'' : PS}
/-- of the lines of hauls and waits there are as many -/
def C45 (s s' : PS) : Prop := (cntR s'.2.2.2.2 4 s'.1 = cntR s.2.2.2.2 4 s.1 ∧ cntR s'.2.2.2.2 5 s'.1 = cntR s.2.2.2.2 5 s.1) ∧ ∀ i, s'.1 ≤ i → s'.2.2.2.2 i = 0
theorem C45.rf (hz : ∀ i, s.1 ≤ i → s.2.2.2.2 i = 0) : C45 s s := ⟨⟨rfl, rfl⟩, hz⟩
theorem C45.tr (h : C45 s s') (g : C45 s' s'') : C45 s s'' := ⟨⟨g.1.1.trans h.1.1, g.1.2.trans h.1.2⟩, g.2⟩
theorem C45.ad (h : C45 s s') : C45 s (adv s' 1) := by
  have e0 := h.2 s'.1 (Nat.le_refl _)
  exact ⟨⟨(cntR_n (rl := s'.2.2.2.2) (by rw [e0]; decide)).trans h.1.1, (cntR_n (rl := s'.2.2.2.2) (by rw [e0]; decide)).trans h.1.2⟩, fun i hi => h.2 i (Nat.le_trans (Nat.le_succ _) hi)⟩
theorem C45.ro (h : C45 s s') (h4 : ¬ x = 4) (h5 : ¬ x = 5) : C45 s (adv (rol s' s'.1 x) 1) := by
  refine ⟨⟨?_, ?_⟩, fun i hi => ?_⟩
  · show cntR (uI s'.2.2.2.2 s'.1 x) 4 (s'.1 + 1) = _
    rw [cntR_n (by rw [uI_s]; exact h4), cntR_c (uI_c (Nat.le_refl _))]; exact h.1.1
  · show cntR (uI s'.2.2.2.2 s'.1 x) 5 (s'.1 + 1) = _
    rw [cntR_n (by rw [uI_s]; exact h5), cntR_c (uI_c (Nat.le_refl _))]; exact h.1.2
  · have h9 : s'.1 + 1 ≤ i := hi
    show uI s'.2.2.2.2 s'.1 x i = 0
    rw [uI_i (by omega)]; exact h.2 i (by omega)
theorem C45.psm (h : C45 s s') (m : PSM K s' s'') : C45 s s'' := by
  have z := ZP.psm (V := fun _ => 0) ⟨rfl, rfl, rfl, rfl, rfl, rfl⟩ m h.2
  refine ⟨⟨z.2.2.2.1.trans h.1.1, z.2.2.2.2.1.trans h.1.2⟩, fun i hi => ?_⟩
  rcases m.2.2.2 i with e | ⟨_, e, _⟩
  · rw [e]; exact h.2 i (Nat.le_trans m.1 hi)
  · omega
theorem C45.tq {K : Nat → Nat} {k : Nat} (z : (tkQ K k q).1 = true) (h : C45 s q.2) : C45 s (tkQ K k q).2 := by rw [(tkQ_t z).2.2]; exact h.ad
theorem C45.tr9 (z : (tkR K k x q).1 = true) (h : C45 s q.2) (h4 : ¬ x = 4) (h5 : ¬ x = 5) : C45 s (tkR K k x q).2 := by rw [(tkR_t z).2.2]; exact h.ro h4 h5
theorem C45.op (h : C45 s q.2) (h4 : ¬ x = 4) (h5 : ¬ x = 5) : C45 s (opR K k x q).2 := by
  unfold opR; split
  · exact h.ro h4 h5
  · exact h
theorem opR_1 (z : (opR K k x q).1 = true) : q.1 = true := by
  unfold opR at z; split at z
  · rename_i e; exact e.1
  · exact z
end TKS
theorem lnst_c {K : Nat → Nat} {s : PS} (hz : ∀ i, s.1 ≤ i → s.2.2.2.2 i = 0) (z : (lnst K s).1 = true) : C45 s (lnst K s).2 := by
  have y8 : ((tkR K 44 8 ((tkQ K 3 ((tkR K 44 7 ((opR K 35 19 ((tkQ K 2 ((tkR K 44 6 ((tkQ K 1 ((tkR K 43 1 ((true, adv s 1)))))))))))))))))).1 = true := z
  have y7 : ((tkQ K 3 ((tkR K 44 7 ((opR K 35 19 ((tkQ K 2 ((tkR K 44 6 ((tkQ K 1 ((tkR K 43 1 ((true, adv s 1)))))))))))))))).1 = true := (tkR_t y8).1
  have y6 : ((tkR K 44 7 ((opR K 35 19 ((tkQ K 2 ((tkR K 44 6 ((tkQ K 1 ((tkR K 43 1 ((true, adv s 1)))))))))))))).1 = true := (tkQ_t y7).1
  have y5 : ((opR K 35 19 ((tkQ K 2 ((tkR K 44 6 ((tkQ K 1 ((tkR K 43 1 ((true, adv s 1)))))))))))).1 = true := (tkR_t y6).1
  have y4 : ((tkQ K 2 ((tkR K 44 6 ((tkQ K 1 ((tkR K 43 1 ((true, adv s 1)))))))))).1 = true := opR_1 y5
  have y3 : ((tkR K 44 6 ((tkQ K 1 ((tkR K 43 1 ((true, adv s 1)))))))).1 = true := (tkQ_t y4).1
  have y2 : ((tkQ K 1 ((tkR K 43 1 ((true, adv s 1)))))).1 = true := (tkR_t y3).1
  have y1 : ((tkR K 43 1 ((true, adv s 1)))).1 = true := (tkQ_t y2).1
  have x0 : C45 s (adv s 1) := (C45.rf hz).ad
  have x1 : C45 s ((tkR K 43 1 ((true, adv s 1)))).2 := C45.tr9 y1 x0 (by decide) (by decide)
  have x2 : C45 s ((tkQ K 1 ((tkR K 43 1 ((true, adv s 1)))))).2 := C45.tq y2 x1
  have x3 : C45 s ((tkR K 44 6 ((tkQ K 1 ((tkR K 43 1 ((true, adv s 1)))))))).2 := C45.tr9 y3 x2 (by decide) (by decide)
  have x4 : C45 s ((tkQ K 2 ((tkR K 44 6 ((tkQ K 1 ((tkR K 43 1 ((true, adv s 1)))))))))).2 := C45.tq y4 x3
  have x5 : C45 s ((opR K 35 19 ((tkQ K 2 ((tkR K 44 6 ((tkQ K 1 ((tkR K 43 1 ((true, adv s 1)))))))))))).2 := C45.op x4 (by decide) (by decide)
  have x6 : C45 s ((tkR K 44 7 ((opR K 35 19 ((tkQ K 2 ((tkR K 44 6 ((tkQ K 1 ((tkR K 43 1 ((true, adv s 1)))))))))))))).2 := C45.tr9 y6 x5 (by decide) (by decide)
  have x7 : C45 s ((tkQ K 3 ((tkR K 44 7 ((opR K 35 19 ((tkQ K 2 ((tkR K 44 6 ((tkQ K 1 ((tkR K 43 1 ((true, adv s 1)))))))))))))))).2 := C45.tq y7 x6
  have x8 : C45 s ((tkR K 44 8 ((tkQ K 3 ((tkR K 44 7 ((opR K 35 19 ((tkQ K 2 ((tkR K 44 6 ((tkQ K 1 ((tkR K 43 1 ((true, adv s 1)))))))))))))))))).2 := C45.tr9 y8 x7 (by decide) (by decide)
  exact x8
theorem lnho_c {K : Nat → Nat} {s : PS} (hz : ∀ i, s.1 ≤ i → s.2.2.2.2 i = 0) (z : (lnho K s).1 = true) : C45 s (lnho K s).2 := by
  have y8 : ((opR K 8 12 ((tkR K 44 11 ((tkQ K 7 ((tkR K 44 10 ((tkQ K 6 ((tkR K 44 9 ((tkQ K 5 ((tkR K 43 2 ((true, adv s 1)))))))))))))))))).1 = true := z
  have y7 : ((tkR K 44 11 ((tkQ K 7 ((tkR K 44 10 ((tkQ K 6 ((tkR K 44 9 ((tkQ K 5 ((tkR K 43 2 ((true, adv s 1)))))))))))))))).1 = true := opR_1 y8
  have y6 : ((tkQ K 7 ((tkR K 44 10 ((tkQ K 6 ((tkR K 44 9 ((tkQ K 5 ((tkR K 43 2 ((true, adv s 1)))))))))))))).1 = true := (tkR_t y7).1
  have y5 : ((tkR K 44 10 ((tkQ K 6 ((tkR K 44 9 ((tkQ K 5 ((tkR K 43 2 ((true, adv s 1)))))))))))).1 = true := (tkQ_t y6).1
  have y4 : ((tkQ K 6 ((tkR K 44 9 ((tkQ K 5 ((tkR K 43 2 ((true, adv s 1)))))))))).1 = true := (tkR_t y5).1
  have y3 : ((tkR K 44 9 ((tkQ K 5 ((tkR K 43 2 ((true, adv s 1)))))))).1 = true := (tkQ_t y4).1
  have y2 : ((tkQ K 5 ((tkR K 43 2 ((true, adv s 1)))))).1 = true := (tkR_t y3).1
  have y1 : ((tkR K 43 2 ((true, adv s 1)))).1 = true := (tkQ_t y2).1
  have x0 : C45 s (adv s 1) := (C45.rf hz).ad
  have x1 : C45 s ((tkR K 43 2 ((true, adv s 1)))).2 := C45.tr9 y1 x0 (by decide) (by decide)
  have x2 : C45 s ((tkQ K 5 ((tkR K 43 2 ((true, adv s 1)))))).2 := C45.tq y2 x1
  have x3 : C45 s ((tkR K 44 9 ((tkQ K 5 ((tkR K 43 2 ((true, adv s 1)))))))).2 := C45.tr9 y3 x2 (by decide) (by decide)
  have x4 : C45 s ((tkQ K 6 ((tkR K 44 9 ((tkQ K 5 ((tkR K 43 2 ((true, adv s 1)))))))))).2 := C45.tq y4 x3
  have x5 : C45 s ((tkR K 44 10 ((tkQ K 6 ((tkR K 44 9 ((tkQ K 5 ((tkR K 43 2 ((true, adv s 1)))))))))))).2 := C45.tr9 y5 x4 (by decide) (by decide)
  have x6 : C45 s ((tkQ K 7 ((tkR K 44 10 ((tkQ K 6 ((tkR K 44 9 ((tkQ K 5 ((tkR K 43 2 ((true, adv s 1)))))))))))))).2 := C45.tq y6 x5
  have x7 : C45 s ((tkR K 44 11 ((tkQ K 7 ((tkR K 44 10 ((tkQ K 6 ((tkR K 44 9 ((tkQ K 5 ((tkR K 43 2 ((true, adv s 1)))))))))))))))).2 := C45.tr9 y7 x6 (by decide) (by decide)
  have x8 : C45 s ((opR K 8 12 ((tkR K 44 11 ((tkQ K 7 ((tkR K 44 10 ((tkQ K 6 ((tkR K 44 9 ((tkQ K 5 ((tkR K 43 2 ((true, adv s 1)))))))))))))))))).2 := C45.op x7 (by decide) (by decide)
  exact x8
theorem lnlo_c {K : Nat → Nat} {s : PS} (hz : ∀ i, s.1 ≤ i → s.2.2.2.2 i = 0) (z : (lnlo K s).1 = true) : C45 s (lnlo K s).2 := by
  have y3 : ((tkR K 44 13 ((tkQ K 10 ((tkR K 43 3 ((true, adv s 1)))))))).1 = true := z
  have y2 : ((tkQ K 10 ((tkR K 43 3 ((true, adv s 1)))))).1 = true := (tkR_t y3).1
  have y1 : ((tkR K 43 3 ((true, adv s 1)))).1 = true := (tkQ_t y2).1
  have x0 : C45 s (adv s 1) := (C45.rf hz).ad
  have x1 : C45 s ((tkR K 43 3 ((true, adv s 1)))).2 := C45.tr9 y1 x0 (by decide) (by decide)
  have x2 : C45 s ((tkQ K 10 ((tkR K 43 3 ((true, adv s 1)))))).2 := C45.tq y2 x1
  have x3 : C45 s ((tkR K 44 13 ((tkQ K 10 ((tkR K 43 3 ((true, adv s 1)))))))).2 := C45.tr9 y3 x2 (by decide) (by decide)
  exact x3
