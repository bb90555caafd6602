/-! roles stand where they belong -/
def HB (y : Int32) (s : PS) : Prop := ∃ j, j < s.1 ∧ s.2.2.2.2 j = y
def RGv (kt : Nat) (x : Int32) (w1 w2 w3 w4 w5 : Prop) : Prop := (∃ n, n < 20 ∧ x = nI n) ∧ (x = 1 ∨ x = 2 ∨ x = 3 ∨ x = 14 ∨ x = 15 ∨ x = 16 ∨ x = 17 ∨ x = 18 → kt = 43) ∧ (x = 6 ∨ x = 7 ∨ x = 8 ∨ x = 9 ∨ x = 10 ∨ x = 11 ∨ x = 13 → kt = 44) ∧ (x = 6 ∨ x = 7 ∨ x = 8 → w1) ∧ (x = 9 ∨ x = 10 ∨ x = 11 ∨ x = 12 → w2) ∧ (x = 13 → w3) ∧ (x = 14 → w4) ∧ (x = 15 ∨ x = 16 → w5)
def RGS (K : Nat → Nat) (s : PS) : Prop := (∀ i, RGi K s.2.2.2.2 i) ∧ ∀ i, s.1 ≤ i → s.2.2.2.2 i = 0
section RGX
variable {K : Nat → Nat} {s s' : PS} {q q' : PQ} {x y : Int32} {k i : Nat}
theorem RGv.mono {kt : Nat} {w1 w2 w3 w4 w5 v1 v2 v3 v4 v5 : Prop} (h : RGv kt x w1 w2 w3 w4 w5) (h1 : w1 → v1) (h2 : w2 → v2) (h3 : w3 → v3) (h4 : w4 → v4) (h5 : w5 → v5) : RGv kt x v1 v2 v3 v4 v5 := ⟨h.1, h.2.1, h.2.2.1, fun q => h1 (h.2.2.2.1 q), fun q => h2 (h.2.2.2.2.1 q), fun q => h3 (h.2.2.2.2.2.1 q), fun q => h4 (h.2.2.2.2.2.2.1 q), fun q => h5 (h.2.2.2.2.2.2.2 q)⟩
theorem RGS.ad (h : RGS K s) : RGS K (adv s k) := ⟨h.1, fun i hi => h.2 i (Nat.le_trans (Nat.le_add_right _ _) hi)⟩
theorem RGS.ro (h : RGS K s) (hx : RGv (K s.1) x (HB 1 s) (HB 2 s) (HB 3 s) (HB 4 s) (HB 5 s)) : RGS K (adv (rol s s.1 x) 1) := by
  have hk : ∀ (y : Int32) (i : Nat), ¬ y = 0 → (∃ j, j < i ∧ s.2.2.2.2 j = y) → ∃ j, j < i ∧ uI s.2.2.2.2 s.1 x j = y := fun y i hy ⟨j, h1, h2⟩ => ⟨j, h1, by
    rw [uI_i (fun e => hy (by rw [← h2, e]; exact h.2 _ (Nat.le_refl _)))]; exact h2⟩
  refine ⟨fun i => ?_, fun i hi => ?_⟩
  · show RGv (K i) (uI s.2.2.2.2 s.1 x i) (∃ j, j < i ∧ uI s.2.2.2.2 s.1 x j = 1) (∃ j, j < i ∧ uI s.2.2.2.2 s.1 x j = 2) (∃ j, j < i ∧ uI s.2.2.2.2 s.1 x j = 3) (∃ j, j < i ∧ uI s.2.2.2.2 s.1 x j = 4) (∃ j, j < i ∧ uI s.2.2.2.2 s.1 x j = 5)
    by_cases e : i = s.1
    · subst e
      have e2 : uI s.2.2.2.2 s.1 x s.1 = x := uI_s _ _ _
      rw [e2]
      exact RGv.mono hx (hk 1 _ (by decide)) (hk 2 _ (by decide)) (hk 3 _ (by decide)) (hk 4 _ (by decide)) (hk 5 _ (by decide))
    · have e2 : uI s.2.2.2.2 s.1 x i = s.2.2.2.2 i := uI_i e
      rw [e2]
      exact RGv.mono (show RGv (K i) (s.2.2.2.2 i) _ _ _ _ _ from h.1 i) (hk 1 _ (by decide)) (hk 2 _ (by decide)) (hk 3 _ (by decide)) (hk 4 _ (by decide)) (hk 5 _ (by decide))
  · have h9 : s.1 + 1 ≤ i := hi
    show uI s.2.2.2.2 s.1 x i = 0
    rw [uI_i (by omega)]; exact h.2 i (by omega)
theorem RGS.psm (h : RGS K s) (m : PSM K s s') : RGS K s' := by
  have hk : ∀ (y : Int32) (i : Nat), ¬ y = 0 → (∃ j, j < i ∧ s.2.2.2.2 j = y) → ∃ j, j < i ∧ s'.2.2.2.2 j = y := fun y i hy ⟨j, h1, h2⟩ => ⟨j, h1, by
    rcases m.2.2.2 j with e | ⟨e, _⟩
    · rw [e]; exact h2
    · exact absurd (h2.symm.trans (h.2 j e)) hy⟩
  refine ⟨fun i => ?_, fun i hi => ?_⟩
  · show RGv (K i) (s'.2.2.2.2 i) (∃ j, j < i ∧ s'.2.2.2.2 j = 1) (∃ j, j < i ∧ s'.2.2.2.2 j = 2) (∃ j, j < i ∧ s'.2.2.2.2 j = 3) (∃ j, j < i ∧ s'.2.2.2.2 j = 4) (∃ j, j < i ∧ s'.2.2.2.2 j = 5)
    rcases m.2.2.2 i with e | ⟨e1, e2, e3, e4⟩
    · rw [e]
      exact RGv.mono (show RGv (K i) (s.2.2.2.2 i) _ _ _ _ _ from h.1 i) (hk 1 _ (by decide)) (hk 2 _ (by decide)) (hk 3 _ (by decide)) (hk 4 _ (by decide)) (hk 5 _ (by decide))
    · rcases e3 with e | e <;> rw [e]
      · exact ⟨⟨17, by decide, rfl⟩, fun _ => e4, fun q => absurd q (by decide), fun q => absurd q (by decide), fun q => absurd q (by decide), fun q => absurd q (by decide), fun q => absurd q (by decide), fun q => absurd q (by decide)⟩
      · exact ⟨⟨18, by decide, rfl⟩, fun _ => e4, fun q => absurd q (by decide), fun q => absurd q (by decide), fun q => absurd q (by decide), fun q => absurd q (by decide), fun q => absurd q (by decide), fun q => absurd q (by decide)⟩
  · rcases m.2.2.2 i with e | ⟨_, e, _⟩
    · rw [e]; exact h.2 i (Nat.le_trans m.1 hi)
    · omega
theorem HB.ad (h : HB y s) : HB y (adv s k) := let ⟨j, h1, h2⟩ := h; ⟨j, Nat.lt_of_lt_of_le h1 (Nat.le_add_right _ _), h2⟩
theorem HB.ro (h : HB y s) : HB y (adv (rol s s.1 x) 1) := let ⟨j, h1, h2⟩ := h; ⟨j, Nat.lt_succ_of_lt h1, (uI_i (by omega)).trans h2⟩
theorem HB.nw : HB x (adv (rol s s.1 x) 1) := ⟨s.1, Nat.lt_succ_self _, uI_s _ _ _⟩
theorem RGS.tq (z : (tkQ K k q).1 = true) (h : RGS K q.2) : RGS K (tkQ K k q).2 := by rw [(tkQ_t z).2.2]; exact h.ad
theorem HB.tq (z : (tkQ K k q).1 = true) (h : HB y q.2) : HB y (tkQ K k q).2 := by rw [(tkQ_t z).2.2]; exact h.ad
theorem RGS.tr9 (z : (tkR K k x q).1 = true) (h : RGS K q.2) (hx : K q.2.1 = k → RGv (K q.2.1) x (HB 1 q.2) (HB 2 q.2) (HB 3 q.2) (HB 4 q.2) (HB 5 q.2)) : RGS K (tkR K k x q).2 := by rw [(tkR_t z).2.2]; exact h.ro (hx (tkR_t z).2.1)
theorem HB.tr9 (z : (tkR K k x q).1 = true) (h : HB y q.2) : HB y (tkR K k x q).2 := by rw [(tkR_t z).2.2]; exact h.ro
theorem HB.tn9 (z : (tkR K k x q).1 = true) : HB x (tkR K k x q).2 := by rw [(tkR_t z).2.2]; exact HB.nw
theorem RGS.op (h : RGS K q.2) (hx : K q.2.1 = k → RGv (K q.2.1) x (HB 1 q.2) (HB 2 q.2) (HB 3 q.2) (HB 4 q.2) (HB 5 q.2)) : RGS K (opR K k x q).2 := by
  unfold opR; split
  · rename_i e; exact h.ro (hx e.2)
  · exact h
theorem HB.op (h : HB y q.2) : HB y (opR K k x q).2 := by
  unfold opR; split
  · exact h.ro
  · exact h
theorem lnst_r (h : RGS K s) (z : (lnst K s).1 = true) : RGS K (lnst K s).2 := by
  have y8 : ((tkR K 44 8 ((tkQ K 3 ((tkR K 44 7 ((opR K 35 19 ((tkQ K 2 ((tkR K 44 6 ((tkQ K 1 ((tkR K 43 1 ((true, adv s 1)))))))))))))))))).1 = true := z
  have y7 : ((tkQ K 3 ((tkR K 44 7 ((opR K 35 19 ((tkQ K 2 ((tkR K 44 6 ((tkQ K 1 ((tkR K 43 1 ((true, adv s 1)))))))))))))))).1 = true := (tkR_t y8).1
  have y6 : ((tkR K 44 7 ((opR K 35 19 ((tkQ K 2 ((tkR K 44 6 ((tkQ K 1 ((tkR K 43 1 ((true, adv s 1)))))))))))))).1 = true := (tkQ_t y7).1
  have y5 : ((opR K 35 19 ((tkQ K 2 ((tkR K 44 6 ((tkQ K 1 ((tkR K 43 1 ((true, adv s 1)))))))))))).1 = true := (tkR_t y6).1
  have y4 : ((tkQ K 2 ((tkR K 44 6 ((tkQ K 1 ((tkR K 43 1 ((true, adv s 1)))))))))).1 = true := opR_1 y5
  have y3 : ((tkR K 44 6 ((tkQ K 1 ((tkR K 43 1 ((true, adv s 1)))))))).1 = true := (tkQ_t y4).1
  have y2 : ((tkQ K 1 ((tkR K 43 1 ((true, adv s 1)))))).1 = true := (tkR_t y3).1
  have y1 : ((tkR K 43 1 ((true, adv s 1)))).1 = true := (tkQ_t y2).1
  have x0 : RGS K (adv s 1) := h.ad
  have x1 : RGS K ((tkR K 43 1 ((true, adv s 1)))).2 := RGS.tr9 y1 x0 (fun ek => ⟨⟨1, by decide, rfl⟩, fun _ => ek, (fun q => absurd q (by decide)), (fun q => absurd q (by decide)), (fun q => absurd q (by decide)), (fun q => absurd q (by decide)), (fun q => absurd q (by decide)), (fun q => absurd q (by decide))⟩)
  have b1 : HB 1 ((tkR K 43 1 ((true, adv s 1)))).2 := HB.tn9 y1
  have x2 : RGS K ((tkQ K 1 ((tkR K 43 1 ((true, adv s 1)))))).2 := RGS.tq y2 x1
  have b2 : HB 1 ((tkQ K 1 ((tkR K 43 1 ((true, adv s 1)))))).2 := HB.tq y2 b1
  have x3 : RGS K ((tkR K 44 6 ((tkQ K 1 ((tkR K 43 1 ((true, adv s 1)))))))).2 := RGS.tr9 y3 x2 (fun ek => ⟨⟨6, by decide, rfl⟩, (fun q => absurd q (by decide)), fun _ => ek, fun _ => b2, (fun q => absurd q (by decide)), (fun q => absurd q (by decide)), (fun q => absurd q (by decide)), (fun q => absurd q (by decide))⟩)
  have b3 : HB 1 ((tkR K 44 6 ((tkQ K 1 ((tkR K 43 1 ((true, adv s 1)))))))).2 := HB.tr9 y3 b2
  have x4 : RGS K ((tkQ K 2 ((tkR K 44 6 ((tkQ K 1 ((tkR K 43 1 ((true, adv s 1)))))))))).2 := RGS.tq y4 x3
  have b4 : HB 1 ((tkQ K 2 ((tkR K 44 6 ((tkQ K 1 ((tkR K 43 1 ((true, adv s 1)))))))))).2 := HB.tq y4 b3
  have x5 : RGS K ((opR K 35 19 ((tkQ K 2 ((tkR K 44 6 ((tkQ K 1 ((tkR K 43 1 ((true, adv s 1)))))))))))).2 := RGS.op x4 (fun ek => ⟨⟨19, by decide, rfl⟩, (fun q => absurd q (by decide)), (fun q => absurd q (by decide)), (fun q => absurd q (by decide)), (fun q => absurd q (by decide)), (fun q => absurd q (by decide)), (fun q => absurd q (by decide)), (fun q => absurd q (by decide))⟩)
  have b5 : HB 1 ((opR K 35 19 ((tkQ K 2 ((tkR K 44 6 ((tkQ K 1 ((tkR K 43 1 ((true, adv s 1)))))))))))).2 := HB.op b4
  have x6 : RGS K ((tkR K 44 7 ((opR K 35 19 ((tkQ K 2 ((tkR K 44 6 ((tkQ K 1 ((tkR K 43 1 ((true, adv s 1)))))))))))))).2 := RGS.tr9 y6 x5 (fun ek => ⟨⟨7, by decide, rfl⟩, (fun q => absurd q (by decide)), fun _ => ek, fun _ => b5, (fun q => absurd q (by decide)), (fun q => absurd q (by decide)), (fun q => absurd q (by decide)), (fun q => absurd q (by decide))⟩)
  have b6 : HB 1 ((tkR K 44 7 ((opR K 35 19 ((tkQ K 2 ((tkR K 44 6 ((tkQ K 1 ((tkR K 43 1 ((true, adv s 1)))))))))))))).2 := HB.tr9 y6 b5
  have x7 : RGS K ((tkQ K 3 ((tkR K 44 7 ((opR K 35 19 ((tkQ K 2 ((tkR K 44 6 ((tkQ K 1 ((tkR K 43 1 ((true, adv s 1)))))))))))))))).2 := RGS.tq y7 x6
  have b7 : HB 1 ((tkQ K 3 ((tkR K 44 7 ((opR K 35 19 ((tkQ K 2 ((tkR K 44 6 ((tkQ K 1 ((tkR K 43 1 ((true, adv s 1)))))))))))))))).2 := HB.tq y7 b6
  have x8 : RGS K ((tkR K 44 8 ((tkQ K 3 ((tkR K 44 7 ((opR K 35 19 ((tkQ K 2 ((tkR K 44 6 ((tkQ K 1 ((tkR K 43 1 ((true, adv s 1)))))))))))))))))).2 := RGS.tr9 y8 x7 (fun ek => ⟨⟨8, by decide, rfl⟩, (fun q => absurd q (by decide)), fun _ => ek, fun _ => b7, (fun q => absurd q (by decide)), (fun q => absurd q (by decide)), (fun q => absurd q (by decide)), (fun q => absurd q (by decide))⟩)
  have b8 : HB 1 ((tkR K 44 8 ((tkQ K 3 ((tkR K 44 7 ((opR K 35 19 ((tkQ K 2 ((tkR K 44 6 ((tkQ K 1 ((tkR K 43 1 ((true, adv s 1)))))))))))))))))).2 := HB.tr9 y8 b7
  exact x8
theorem lnho_r (h : RGS K s) (z : (lnho K s).1 = true) : RGS K (lnho K s).2 := by
  have y8 : ((opR K 8 12 ((tkR K 44 11 ((tkQ K 7 ((tkR K 44 10 ((tkQ K 6 ((tkR K 44 9 ((tkQ K 5 ((tkR K 43 2 ((true, adv s 1)))))))))))))))))).1 = true := z
  have y7 : ((tkR K 44 11 ((tkQ K 7 ((tkR K 44 10 ((tkQ K 6 ((tkR K 44 9 ((tkQ K 5 ((tkR K 43 2 ((true, adv s 1)))))))))))))))).1 = true := opR_1 y8
  have y6 : ((tkQ K 7 ((tkR K 44 10 ((tkQ K 6 ((tkR K 44 9 ((tkQ K 5 ((tkR K 43 2 ((true, adv s 1)))))))))))))).1 = true := (tkR_t y7).1
  have y5 : ((tkR K 44 10 ((tkQ K 6 ((tkR K 44 9 ((tkQ K 5 ((tkR K 43 2 ((true, adv s 1)))))))))))).1 = true := (tkQ_t y6).1
  have y4 : ((tkQ K 6 ((tkR K 44 9 ((tkQ K 5 ((tkR K 43 2 ((true, adv s 1)))))))))).1 = true := (tkR_t y5).1
  have y3 : ((tkR K 44 9 ((tkQ K 5 ((tkR K 43 2 ((true, adv s 1)))))))).1 = true := (tkQ_t y4).1
  have y2 : ((tkQ K 5 ((tkR K 43 2 ((true, adv s 1)))))).1 = true := (tkR_t y3).1
  have y1 : ((tkR K 43 2 ((true, adv s 1)))).1 = true := (tkQ_t y2).1
  have x0 : RGS K (adv s 1) := h.ad
  have x1 : RGS K ((tkR K 43 2 ((true, adv s 1)))).2 := RGS.tr9 y1 x0 (fun ek => ⟨⟨2, by decide, rfl⟩, fun _ => ek, (fun q => absurd q (by decide)), (fun q => absurd q (by decide)), (fun q => absurd q (by decide)), (fun q => absurd q (by decide)), (fun q => absurd q (by decide)), (fun q => absurd q (by decide))⟩)
  have b1 : HB 2 ((tkR K 43 2 ((true, adv s 1)))).2 := HB.tn9 y1
  have x2 : RGS K ((tkQ K 5 ((tkR K 43 2 ((true, adv s 1)))))).2 := RGS.tq y2 x1
  have b2 : HB 2 ((tkQ K 5 ((tkR K 43 2 ((true, adv s 1)))))).2 := HB.tq y2 b1
  have x3 : RGS K ((tkR K 44 9 ((tkQ K 5 ((tkR K 43 2 ((true, adv s 1)))))))).2 := RGS.tr9 y3 x2 (fun ek => ⟨⟨9, by decide, rfl⟩, (fun q => absurd q (by decide)), fun _ => ek, (fun q => absurd q (by decide)), fun _ => b2, (fun q => absurd q (by decide)), (fun q => absurd q (by decide)), (fun q => absurd q (by decide))⟩)
  have b3 : HB 2 ((tkR K 44 9 ((tkQ K 5 ((tkR K 43 2 ((true, adv s 1)))))))).2 := HB.tr9 y3 b2
  have x4 : RGS K ((tkQ K 6 ((tkR K 44 9 ((tkQ K 5 ((tkR K 43 2 ((true, adv s 1)))))))))).2 := RGS.tq y4 x3
  have b4 : HB 2 ((tkQ K 6 ((tkR K 44 9 ((tkQ K 5 ((tkR K 43 2 ((true, adv s 1)))))))))).2 := HB.tq y4 b3
  have x5 : RGS K ((tkR K 44 10 ((tkQ K 6 ((tkR K 44 9 ((tkQ K 5 ((tkR K 43 2 ((true, adv s 1)))))))))))).2 := RGS.tr9 y5 x4 (fun ek => ⟨⟨10, by decide, rfl⟩, (fun q => absurd q (by decide)), fun _ => ek, (fun q => absurd q (by decide)), fun _ => b4, (fun q => absurd q (by decide)), (fun q => absurd q (by decide)), (fun q => absurd q (by decide))⟩)
  have b5 : HB 2 ((tkR K 44 10 ((tkQ K 6 ((tkR K 44 9 ((tkQ K 5 ((tkR K 43 2 ((true, adv s 1)))))))))))).2 := HB.tr9 y5 b4
  have x6 : RGS K ((tkQ K 7 ((tkR K 44 10 ((tkQ K 6 ((tkR K 44 9 ((tkQ K 5 ((tkR K 43 2 ((true, adv s 1)))))))))))))).2 := RGS.tq y6 x5
  have b6 : HB 2 ((tkQ K 7 ((tkR K 44 10 ((tkQ K 6 ((tkR K 44 9 ((tkQ K 5 ((tkR K 43 2 ((true, adv s 1)))))))))))))).2 := HB.tq y6 b5
  have x7 : RGS K ((tkR K 44 11 ((tkQ K 7 ((tkR K 44 10 ((tkQ K 6 ((tkR K 44 9 ((tkQ K 5 ((tkR K 43 2 ((true, adv s 1)))))))))))))))).2 := RGS.tr9 y7 x6 (fun ek => ⟨⟨11, by decide, rfl⟩, (fun q => absurd q (by decide)), fun _ => ek, (fun q => absurd q (by decide)), fun _ => b6, (fun q => absurd q (by decide)), (fun q => absurd q (by decide)), (fun q => absurd q (by decide))⟩)
  have b7 : HB 2 ((tkR K 44 11 ((tkQ K 7 ((tkR K 44 10 ((tkQ K 6 ((tkR K 44 9 ((tkQ K 5 ((tkR K 43 2 ((true, adv s 1)))))))))))))))).2 := HB.tr9 y7 b6
  have x8 : RGS K ((opR K 8 12 ((tkR K 44 11 ((tkQ K 7 ((tkR K 44 10 ((tkQ K 6 ((tkR K 44 9 ((tkQ K 5 ((tkR K 43 2 ((true, adv s 1)))))))))))))))))).2 := RGS.op x7 (fun ek => ⟨⟨12, by decide, rfl⟩, (fun q => absurd q (by decide)), (fun q => absurd q (by decide)), (fun q => absurd q (by decide)), fun _ => b7, (fun q => absurd q (by decide)), (fun q => absurd q (by decide)), (fun q => absurd q (by decide))⟩)
  have b8 : HB 2 ((opR K 8 12 ((tkR K 44 11 ((tkQ K 7 ((tkR K 44 10 ((tkQ K 6 ((tkR K 44 9 ((tkQ K 5 ((tkR K 43 2 ((true, adv s 1)))))))))))))))))).2 := HB.op b7
  exact x8
theorem lnlo_r (h : RGS K s) (z : (lnlo K s).1 = true) : RGS K (lnlo K s).2 := by
  have y3 : ((tkR K 44 13 ((tkQ K 10 ((tkR K 43 3 ((true, adv s 1)))))))).1 = true := z
  have y2 : ((tkQ K 10 ((tkR K 43 3 ((true, adv s 1)))))).1 = true := (tkR_t y3).1
  have y1 : ((tkR K 43 3 ((true, adv s 1)))).1 = true := (tkQ_t y2).1
  have x0 : RGS K (adv s 1) := h.ad
  have x1 : RGS K ((tkR K 43 3 ((true, adv s 1)))).2 := RGS.tr9 y1 x0 (fun ek => ⟨⟨3, by decide, rfl⟩, fun _ => ek, (fun q => absurd q (by decide)), (fun q => absurd q (by decide)), (fun q => absurd q (by decide)), (fun q => absurd q (by decide)), (fun q => absurd q (by decide)), (fun q => absurd q (by decide))⟩)
  have b1 : HB 3 ((tkR K 43 3 ((true, adv s 1)))).2 := HB.tn9 y1
  have x2 : RGS K ((tkQ K 10 ((tkR K 43 3 ((true, adv s 1)))))).2 := RGS.tq y2 x1
  have b2 : HB 3 ((tkQ K 10 ((tkR K 43 3 ((true, adv s 1)))))).2 := HB.tq y2 b1
  have x3 : RGS K ((tkR K 44 13 ((tkQ K 10 ((tkR K 43 3 ((true, adv s 1)))))))).2 := RGS.tr9 y3 x2 (fun ek => ⟨⟨13, by decide, rfl⟩, (fun q => absurd q (by decide)), fun _ => ek, (fun q => absurd q (by decide)), (fun q => absurd q (by decide)), fun _ => b2, (fun q => absurd q (by decide)), (fun q => absurd q (by decide))⟩)
  have b3 : HB 3 ((tkR K 44 13 ((tkQ K 10 ((tkR K 43 3 ((true, adv s 1)))))))).2 := HB.tr9 y3 b2
  exact x3
theorem HLr.rg {vv : Nat → Int32} {β β' : RH} (hR : HLr K vv s β q' β') (z : q'.1 = true) (h : RGS K s) : RGS K q'.2 := by
  obtain ⟨q4, hp3, hH, -⟩ := hR
  have z4 : q4.1 = true := hH.elim (fun g => g.1) (fun g => by rw [← g.2]; exact z)
  have x3 := hp3.psm z4
  have y3 : (tkQ K 12 (tkR K 43 14 (true, adv (rol s s.1 4) 1))).1 = true := x3.1
  have y2 := (tkQ_t y3).1
  have x0 : RGS K (adv (rol s s.1 4) 1) := h.ro ⟨⟨4, by decide, rfl⟩, (fun q => absurd q (by decide)), (fun q => absurd q (by decide)), (fun q => absurd q (by decide)), (fun q => absurd q (by decide)), (fun q => absurd q (by decide)), (fun q => absurd q (by decide)), (fun q => absurd q (by decide))⟩
  have x1 : RGS K (tkR K 43 14 (true, adv (rol s s.1 4) 1)).2 := RGS.tr9 y2 x0 (fun ek => ⟨⟨14, by decide, rfl⟩, fun _ => ek, (fun q => absurd q (by decide)), (fun q => absurd q (by decide)), (fun q => absurd q (by decide)), (fun q => absurd q (by decide)), fun _ => HB.nw, (fun q => absurd q (by decide))⟩)
  have x2 := (RGS.tq y3 x1).psm x3.2
  rcases hH with ⟨_, _, g⟩ | ⟨_, g⟩
  · exact (x2.ad (k := 1)).psm (g.psm z).2
  · rw [g]; exact x2
theorem WLr.rg {vv : Nat → Int32} {β β' : RH} (hR : WLr K vv s β q' β') (z : q'.1 = true) (h : RGS K s) : RGS K q'.2 := by
  have x3 := hR.1.psm z
  have y5 : (tkQ K 13 (tkR K 43 16 (tkQ K 15 (tkR K 43 15 (true, adv (rol s s.1 5) 1))))).1 = true := x3.1
  have y4 := (tkQ_t y5).1
  have y3 := (tkR_t y4).1
  have y2 := (tkQ_t y3).1
  have x0 : RGS K (adv (rol s s.1 5) 1) := h.ro ⟨⟨5, by decide, rfl⟩, (fun q => absurd q (by decide)), (fun q => absurd q (by decide)), (fun q => absurd q (by decide)), (fun q => absurd q (by decide)), (fun q => absurd q (by decide)), (fun q => absurd q (by decide)), (fun q => absurd q (by decide))⟩
  have x1 : RGS K (tkR K 43 15 (true, adv (rol s s.1 5) 1)).2 := RGS.tr9 y2 x0 (fun ek => ⟨⟨15, by decide, rfl⟩, fun _ => ek, (fun q => absurd q (by decide)), (fun q => absurd q (by decide)), (fun q => absurd q (by decide)), (fun q => absurd q (by decide)), (fun q => absurd q (by decide)), fun _ => HB.nw⟩)
  have b1 : HB 5 (tkR K 43 15 (true, adv (rol s s.1 5) 1)).2 := HB.tr9 y2 HB.nw
  have x2 : RGS K (tkQ K 15 (tkR K 43 15 (true, adv (rol s s.1 5) 1))).2 := RGS.tq y3 x1
  have b2 : HB 5 (tkQ K 15 (tkR K 43 15 (true, adv (rol s s.1 5) 1))).2 := HB.tq y3 b1
  have x4 : RGS K (tkR K 43 16 (tkQ K 15 (tkR K 43 15 (true, adv (rol s s.1 5) 1)))).2 := RGS.tr9 y4 x2 (fun ek => ⟨⟨16, by decide, rfl⟩, fun _ => ek, (fun q => absurd q (by decide)), (fun q => absurd q (by decide)), (fun q => absurd q (by decide)), (fun q => absurd q (by decide)), (fun q => absurd q (by decide)), fun _ => b2⟩)
  exact (RGS.tq y5 x4).psm x3.2
theorem LSr.rg {vv : Nat → Int32} {β β' : RH} (h : LSr K vv q β q' β') : q'.1 = true → q.1 = true ∧ (RGS K q.2 → RGS K q'.2) := by
  refine h (fun q _ q' _ => q'.1 = true → q.1 = true ∧ (RGS K q.2 → RGS K q'.2)) ⟨fun s β z => absurd z (by simp), fun s β e z => ⟨rfl, id⟩, fun s β q1 β1 q2 β2 e45 hl g z => ⟨rfl, fun hs => ?_⟩⟩
  obtain ⟨z1, g2⟩ := g z
  refine g2 ?_
  rcases hl with ⟨e0, rfl, rfl⟩ | ⟨e0, rfl, rfl⟩ | ⟨e0, rfl, rfl⟩ | ⟨e0, q0, h0, rfl⟩ | ⟨e0, q0, h0, rfl⟩ | ⟨e0, rfl, rfl⟩
  · exact RGS.tq z1 (lnst_r hs (tkQ_t z1).1)
  · exact RGS.tq z1 (lnho_r hs (tkQ_t z1).1)
  · exact RGS.tq z1 (lnlo_r hs (tkQ_t z1).1)
  · exact RGS.tq z1 (h0.rg (tkQ_t z1).1 hs)
  · exact RGS.tq z1 (h0.rg (tkQ_t z1).1 hs)
  · exact absurd z1 (by simp)
theorem RGS.pq0 : RGS K pq0.2 := ⟨fun i => (show RGv (K i) 0 _ _ _ _ _ from ⟨⟨0, by decide, rfl⟩, fun q => absurd q (by decide), fun q => absurd q (by decide), fun q => absurd q (by decide), fun q => absurd q (by decide), fun q => absurd q (by decide), fun q => absurd q (by decide), fun q => absurd q (by decide)⟩), fun _ _ => rfl⟩
theorem LSr.fls {vv : Nat → Int32} {β β' : RH} (h : LSr K vv q β q' β') : q.1 = false → q' = q := h (fun q _ q' _ => q.1 = false → q' = q) ⟨fun s β _ => rfl, fun s β e z => absurd z (by simp), fun s β q1 β1 q2 β2 e45 hl g z => absurd z (by simp)⟩
end RGX
