/-! named steps have their tokens -/
section NSS
variable {K : Nat → Nat} {vv : Nat → Int32} {s s' : PS} {q q' : PQ} {o k m d : Nat} {x : Int32}
theorem NS.nm (h : NS s) (hx : x = if o = 3 ∨ o = 22 then 18 else 17) : NS (adv (rol (stp s o (nI (s.1 + 1))) (s.1 + 1) x) 2) := fun i h1 h2 => by
  have h1' : i < s.2.1 + 1 := h1
  have h2' : nmB (u1 s.2.2.1 s.2.1 o i) = true := h2
  show ∃ t, t < s.1 + 2 ∧ uI s.2.2.2.1 s.2.1 (nI (s.1 + 1)) i = nI t ∧ uI s.2.2.2.2 (s.1 + 1) x t = if u1 s.2.2.1 s.2.1 o i = 3 ∨ u1 s.2.2.1 s.2.1 o i = 22 then 18 else 17
  by_cases e : i = s.2.1
  · subst e
    exact ⟨s.1 + 1, by omega, uI_s _ _ _, by rw [uI_s, u1_s]; exact hx⟩
  · rw [u1_i e] at h2' ⊢
    obtain ⟨t, g1, g2, g3⟩ := h i (by omega) h2'
    exact ⟨t, by omega, (uI_i e).trans g2, (uI_i (by omega)).trans g3⟩
theorem NS.tc (z : (tcQ K q).1 = true) (h : NS q.2) : NS (tcQ K q).2 := by rw [tcQ_t9 z]; exact h.ad
theorem PR.ns (h : PR K vv m d q q') : q'.1 = true → q.1 = true ∧ (NS q.2 → NS q'.2) := by
  refine h (fun m d q q' => q'.1 = true → q.1 = true ∧ (NS q.2 → NS q'.2)) ⟨?_,
   ?_,
   ?_,
   ?_,
   ?_,
   ?_,
   ?_,
   ?_,
   ?_,
   ?_,
   ?_,
   ?_,
   ?_,
   ?_,
   ?_,
   ?_,
   ?_,
   ?_,
   ?_,
   ?_,
   ?_,
   ?_,
   ?_,
   ?_,
   ?_,
   ?_,
   ?_,
   ?_,
   ?_,
   ?_,
   ?_,
   ?_⟩
  · exact fun m d s z => absurd z (by simp)
  · exact fun d s h z => ⟨rfl, fun g => (g.st (by decide)).ad⟩
  · exact fun d s h z => ⟨rfl, fun g => (g.st (fun e => by have := nmB_i.mp e; omega)).ad⟩
  · exact fun d s h e z => ⟨rfl, fun g => NS.nm g (by rw [if_neg (by omega)])⟩
  · exact fun _ _ _ _ z => absurd z (by simp)
  · exact fun d s h e z => ⟨rfl, fun g => NS.nm g (by rw [if_pos h])⟩
  · exact fun _ _ _ _ z => absurd z (by simp)
  · exact fun d s q h1 h2 g z => ⟨rfl, fun n => ((g z).2 n.ad).st (by decide)⟩
  · exact fun _ _ _ _ z => absurd z (by simp)
  · exact fun d s q h1 h2 g z => ⟨rfl, fun n => NS.tq z ((g (tkQ_t z).1).2 n.ad)⟩
  · exact fun _ _ _ _ z => absurd z (by simp)
  · exact fun d s q q2 h1 h2 h3 g1 g2 z => ⟨rfl, fun n => by
      have z1 : (tkQ K 29 q2).1 = true := z
      have z2 := g2 (tkQ_t z1).1
      exact NS.st (NS.tq z1 (z2.2 (NS.tq z2.1 ((g1 (tkQ_t z2.1).1).2 n.ad)))) (fun e => by have := nmB_i.mp e; omega)⟩
  · exact fun _ _ _ _ z => absurd z (by simp)
  · exact fun _ _ _ _ _ z => absurd z (by simp)
  · exact fun _ _ _ z => absurd z (by simp)
  · exact fun d s q q2 g1 g2 z => ⟨(g1 (g2 z).1).1, fun n => (g2 z).2 ((g1 (g2 z).1).2 n)⟩
  · exact fun d s q q2 h g1 g2 z => ⟨rfl, fun n => (g2 z).2 (NS.st ((g1 (g2 z).1).2 n.ad) (fun e => by have := nmB_i.mp e; omega))⟩
  · exact fun d s h z => ⟨rfl, id⟩
  · exact fun d s q q2 g1 g2 z => ⟨(g1 (g2 z).1).1, fun n => (g2 z).2 ((g1 (g2 z).1).2 n)⟩
  · exact fun d s q q2 h g1 g2 z => ⟨rfl, fun n => (g2 z).2 (NS.st ((g1 (g2 z).1).2 n.ad) (fun e => by have := nmB_i.mp e; omega))⟩
  · exact fun d s h z => ⟨rfl, id⟩
  · exact fun d s q h1 h2 g z => ⟨rfl, fun n => ((g z).2 n.ad).st (by decide)⟩
  · exact fun _ _ _ _ z => absurd z (by simp)
  · exact fun d s q h1 h2 g z => ⟨rfl, fun n => NS.tq z ((g (tkQ_t z).1).2 n.ad)⟩
  · exact fun _ _ _ _ z => absurd z (by simp)
  · exact fun d s q q2 h1 h2 g1 g2 z => by
      have z2 := g2 z
      exact ⟨rfl, fun n => NS.st (z2.2 (NS.tc z2.1 ((g1 (tcQ_le z2.1).1).2 n))) (fun e => by have := nmB_i.mp e; have := tcQ_rg z2.1; omega)⟩
  · exact fun d s q q2 g1 g2 z => ⟨(g1 (g2 z).1).1, fun n => (g2 z).2 ((g1 (g2 z).1).2 n)⟩
  · exact fun d s q q2 h g1 g2 z => ⟨rfl, fun n => (g2 z).2 (NS.st ((g1 (g2 z).1).2 n.ad) (by decide))⟩
  · exact fun d s h z => ⟨rfl, id⟩
  · exact fun d s q q2 g1 g2 z => ⟨(g1 (g2 z).1).1, fun n => (g2 z).2 ((g1 (g2 z).1).2 n)⟩
  · exact fun d s q q2 h g1 g2 z => ⟨rfl, fun n => (g2 z).2 (NS.st ((g1 (g2 z).1).2 n.ad) (by decide))⟩
  · exact fun d s h z => ⟨rfl, id⟩
theorem lnst_n (h : NS s) (z : (lnst K s).1 = true) : NS (lnst K s).2 := by
  have y8 : ((tkR K 44 8 ((tkQ K 3 ((tkR K 44 7 ((opR K 35 19 ((tkQ K 2 ((tkR K 44 6 ((tkQ K 1 ((tkR K 43 1 ((true, adv s 1)))))))))))))))))).1 = true := z
  have y7 : ((tkQ K 3 ((tkR K 44 7 ((opR K 35 19 ((tkQ K 2 ((tkR K 44 6 ((tkQ K 1 ((tkR K 43 1 ((true, adv s 1)))))))))))))))).1 = true := (tkR_t y8).1
  have y6 : ((tkR K 44 7 ((opR K 35 19 ((tkQ K 2 ((tkR K 44 6 ((tkQ K 1 ((tkR K 43 1 ((true, adv s 1)))))))))))))).1 = true := (tkQ_t y7).1
  have y5 : ((opR K 35 19 ((tkQ K 2 ((tkR K 44 6 ((tkQ K 1 ((tkR K 43 1 ((true, adv s 1)))))))))))).1 = true := (tkR_t y6).1
  have y4 : ((tkQ K 2 ((tkR K 44 6 ((tkQ K 1 ((tkR K 43 1 ((true, adv s 1)))))))))).1 = true := opR_1 y5
  have y3 : ((tkR K 44 6 ((tkQ K 1 ((tkR K 43 1 ((true, adv s 1)))))))).1 = true := (tkQ_t y4).1
  have y2 : ((tkQ K 1 ((tkR K 43 1 ((true, adv s 1)))))).1 = true := (tkR_t y3).1
  have y1 : ((tkR K 43 1 ((true, adv s 1)))).1 = true := (tkQ_t y2).1
  have x0 : NS (adv s 1) := h.ad
  have x1 : NS ((tkR K 43 1 ((true, adv s 1)))).2 := NS.tr9 y1 x0
  have x2 : NS ((tkQ K 1 ((tkR K 43 1 ((true, adv s 1)))))).2 := NS.tq y2 x1
  have x3 : NS ((tkR K 44 6 ((tkQ K 1 ((tkR K 43 1 ((true, adv s 1)))))))).2 := NS.tr9 y3 x2
  have x4 : NS ((tkQ K 2 ((tkR K 44 6 ((tkQ K 1 ((tkR K 43 1 ((true, adv s 1)))))))))).2 := NS.tq y4 x3
  have x5 : NS ((opR K 35 19 ((tkQ K 2 ((tkR K 44 6 ((tkQ K 1 ((tkR K 43 1 ((true, adv s 1)))))))))))).2 := NS.op x4
  have x6 : NS ((tkR K 44 7 ((opR K 35 19 ((tkQ K 2 ((tkR K 44 6 ((tkQ K 1 ((tkR K 43 1 ((true, adv s 1)))))))))))))).2 := NS.tr9 y6 x5
  have x7 : NS ((tkQ K 3 ((tkR K 44 7 ((opR K 35 19 ((tkQ K 2 ((tkR K 44 6 ((tkQ K 1 ((tkR K 43 1 ((true, adv s 1)))))))))))))))).2 := NS.tq y7 x6
  have x8 : NS ((tkR K 44 8 ((tkQ K 3 ((tkR K 44 7 ((opR K 35 19 ((tkQ K 2 ((tkR K 44 6 ((tkQ K 1 ((tkR K 43 1 ((true, adv s 1)))))))))))))))))).2 := NS.tr9 y8 x7
  exact x8
theorem lnho_n (h : NS s) (z : (lnho K s).1 = true) : NS (lnho K s).2 := by
  have y8 : ((opR K 8 12 ((tkR K 44 11 ((tkQ K 7 ((tkR K 44 10 ((tkQ K 6 ((tkR K 44 9 ((tkQ K 5 ((tkR K 43 2 ((true, adv s 1)))))))))))))))))).1 = true := z
  have y7 : ((tkR K 44 11 ((tkQ K 7 ((tkR K 44 10 ((tkQ K 6 ((tkR K 44 9 ((tkQ K 5 ((tkR K 43 2 ((true, adv s 1)))))))))))))))).1 = true := opR_1 y8
  have y6 : ((tkQ K 7 ((tkR K 44 10 ((tkQ K 6 ((tkR K 44 9 ((tkQ K 5 ((tkR K 43 2 ((true, adv s 1)))))))))))))).1 = true := (tkR_t y7).1
  have y5 : ((tkR K 44 10 ((tkQ K 6 ((tkR K 44 9 ((tkQ K 5 ((tkR K 43 2 ((true, adv s 1)))))))))))).1 = true := (tkQ_t y6).1
  have y4 : ((tkQ K 6 ((tkR K 44 9 ((tkQ K 5 ((tkR K 43 2 ((true, adv s 1)))))))))).1 = true := (tkR_t y5).1
  have y3 : ((tkR K 44 9 ((tkQ K 5 ((tkR K 43 2 ((true, adv s 1)))))))).1 = true := (tkQ_t y4).1
  have y2 : ((tkQ K 5 ((tkR K 43 2 ((true, adv s 1)))))).1 = true := (tkR_t y3).1
  have y1 : ((tkR K 43 2 ((true, adv s 1)))).1 = true := (tkQ_t y2).1
  have x0 : NS (adv s 1) := h.ad
  have x1 : NS ((tkR K 43 2 ((true, adv s 1)))).2 := NS.tr9 y1 x0
  have x2 : NS ((tkQ K 5 ((tkR K 43 2 ((true, adv s 1)))))).2 := NS.tq y2 x1
  have x3 : NS ((tkR K 44 9 ((tkQ K 5 ((tkR K 43 2 ((true, adv s 1)))))))).2 := NS.tr9 y3 x2
  have x4 : NS ((tkQ K 6 ((tkR K 44 9 ((tkQ K 5 ((tkR K 43 2 ((true, adv s 1)))))))))).2 := NS.tq y4 x3
  have x5 : NS ((tkR K 44 10 ((tkQ K 6 ((tkR K 44 9 ((tkQ K 5 ((tkR K 43 2 ((true, adv s 1)))))))))))).2 := NS.tr9 y5 x4
  have x6 : NS ((tkQ K 7 ((tkR K 44 10 ((tkQ K 6 ((tkR K 44 9 ((tkQ K 5 ((tkR K 43 2 ((true, adv s 1)))))))))))))).2 := NS.tq y6 x5
  have x7 : NS ((tkR K 44 11 ((tkQ K 7 ((tkR K 44 10 ((tkQ K 6 ((tkR K 44 9 ((tkQ K 5 ((tkR K 43 2 ((true, adv s 1)))))))))))))))).2 := NS.tr9 y7 x6
  have x8 : NS ((opR K 8 12 ((tkR K 44 11 ((tkQ K 7 ((tkR K 44 10 ((tkQ K 6 ((tkR K 44 9 ((tkQ K 5 ((tkR K 43 2 ((true, adv s 1)))))))))))))))))).2 := NS.op x7
  exact x8
theorem lnlo_n (h : NS s) (z : (lnlo K s).1 = true) : NS (lnlo K s).2 := by
  have y3 : ((tkR K 44 13 ((tkQ K 10 ((tkR K 43 3 ((true, adv s 1)))))))).1 = true := z
  have y2 : ((tkQ K 10 ((tkR K 43 3 ((true, adv s 1)))))).1 = true := (tkR_t y3).1
  have y1 : ((tkR K 43 3 ((true, adv s 1)))).1 = true := (tkQ_t y2).1
  have x0 : NS (adv s 1) := h.ad
  have x1 : NS ((tkR K 43 3 ((true, adv s 1)))).2 := NS.tr9 y1 x0
  have x2 : NS ((tkQ K 10 ((tkR K 43 3 ((true, adv s 1)))))).2 := NS.tq y2 x1
  have x3 : NS ((tkR K 44 13 ((tkQ K 10 ((tkR K 43 3 ((true, adv s 1)))))))).2 := NS.tr9 y3 x2
  exact x3
theorem HLr.ns {β β' : RH} (hR : HLr K vv s β q' β') (z : q'.1 = true) (h : NS s) : NS q'.2 := by
  obtain ⟨q4, hp3, hH, -⟩ := hR
  have z4 : q4.1 = true := hH.elim (fun g => g.1) (fun g => by rw [← g.2]; exact z)
  have x3 := hp3.ns z4
  have y3 : (tkQ K 12 (tkR K 43 14 (true, adv (rol s s.1 4) 1))).1 = true := x3.1
  have x2 := x3.2 (NS.tq y3 (NS.tr9 (tkQ_t y3).1 (show NS (true, adv (rol s s.1 4) 1).2 from h.ro)))
  rcases hH with ⟨_, _, g⟩ | ⟨_, g⟩
  · exact (g.ns z).2 x2.ad
  · rw [g]; exact x2
theorem WLr.ns {β β' : RH} (hR : WLr K vv s β q' β') (z : q'.1 = true) (h : NS s) : NS q'.2 := by
  have x3 := hR.1.ns z
  have y5 : (tkQ K 13 (tkR K 43 16 (tkQ K 15 (tkR K 43 15 (true, adv (rol s s.1 5) 1))))).1 = true := x3.1
  have y4 := (tkQ_t y5).1
  have y3 := (tkR_t y4).1
  exact x3.2 (NS.tq y5 (NS.tr9 y4 (NS.tq y3 (NS.tr9 (tkQ_t y3).1 (show NS (true, adv (rol s s.1 5) 1).2 from h.ro)))))
theorem LSr.ns {β β' : RH} (h : LSr K vv q β q' β') : q'.1 = true → q.1 = true ∧ (NS q.2 → NS q'.2) := by
  refine h (fun q _ q' _ => q'.1 = true → q.1 = true ∧ (NS q.2 → NS q'.2)) ⟨fun s β z => absurd z (by simp), fun s β e z => ⟨rfl, id⟩, fun s β q1 β1 q2 β2 e45 hl g z => ⟨rfl, fun hs => ?_⟩⟩
  obtain ⟨z1, g2⟩ := g z
  refine g2 ?_
  rcases hl with ⟨e0, rfl, rfl⟩ | ⟨e0, rfl, rfl⟩ | ⟨e0, rfl, rfl⟩ | ⟨e0, q0, h0, rfl⟩ | ⟨e0, q0, h0, rfl⟩ | ⟨e0, rfl, rfl⟩
  · exact NS.tq z1 (lnst_n hs (tkQ_t z1).1)
  · exact NS.tq z1 (lnho_n hs (tkQ_t z1).1)
  · exact NS.tq z1 (lnlo_n hs (tkQ_t z1).1)
  · exact NS.tq z1 (h0.ns (tkQ_t z1).1 hs)
  · exact NS.tq z1 (h0.ns (tkQ_t z1).1 hs)
  · exact absurd z1 (by simp)
end NSS
/-! no more steps than tokens -/
section PRC
variable {K : Nat → Nat} {vv : Nat → Int32} {m d : Nat} {q q' : PQ}
def SCq (q q' : PQ) : Prop := q'.2.2.1 + q.2.1 ≤ q.2.2.1 + q'.2.1
theorem tkQ_c {k : Nat} (z : (tkQ K k q).1 = true) : q.1 = true ∧ (tkQ K k q).2.1 = q.2.1 + 1 ∧ (tkQ K k q).2.2.1 = q.2.2.1 := by
  obtain ⟨h1, -, h3⟩ := tkQ_t z
  rw [h3]; exact ⟨h1, rfl, rfl⟩
theorem tcQ_c (z : (tcQ K q).1 = true) : q.1 = true ∧ (tcQ K q).2.1 = q.2.1 + 1 ∧ (tcQ K q).2.2.1 = q.2.2.1 := by
  have h1 := (tcQ_m z).1
  rw [tcQ_t9 z]; exact ⟨h1, rfl, rfl⟩
theorem PR.cnt (h : PR K vv m d q q') : q'.1 = true → q.1 = true ∧ SCq q q' := by
  refine h (fun m d q q' => q'.1 = true → q.1 = true ∧ SCq q q') ⟨?_, ?_, ?_, ?_, ?_, ?_, ?_, ?_, ?_, ?_, ?_, ?_, ?_, ?_, ?_, ?_, ?_, ?_, ?_, ?_, ?_, ?_, ?_, ?_, ?_, ?_, ?_, ?_, ?_, ?_, ?_, ?_⟩
  · exact fun m d s z => absurd z (by simp)
  · exact fun d s h z => ⟨rfl, by show s.2.1 + 1 + s.1 ≤ s.2.1 + (s.1 + 1); omega⟩
  · exact fun d s h z => ⟨rfl, by show s.2.1 + 1 + s.1 ≤ s.2.1 + (s.1 + 1); omega⟩
  · exact fun d s h g z => ⟨rfl, by show s.2.1 + 1 + s.1 ≤ s.2.1 + (s.1 + 2); omega⟩
  · exact fun d s h g z => absurd z (by simp)
  · exact fun d s h g z => ⟨rfl, by show s.2.1 + 1 + s.1 ≤ s.2.1 + (s.1 + 2); omega⟩
  · exact fun d s h g z => absurd z (by simp)
  · exact fun d s q h g a z => ⟨rfl, by
      have := (a z).2
      change q.2.2.1 + (s.1 + 1) ≤ s.2.1 + q.2.1 at this
      show q.2.2.1 + 1 + s.1 ≤ s.2.1 + q.2.1
      omega⟩
  · exact fun d s h g z => absurd z (by simp)
  · exact fun d s q h g a z => ⟨rfl, by
      obtain ⟨c1, c2, c3⟩ := tkQ_c z
      have := (a c1).2
      change q.2.2.1 + (s.1 + 1) ≤ s.2.1 + q.2.1 at this
      unfold SCq
      rw [c2, c3]
      show q.2.2.1 + s.1 ≤ s.2.1 + (q.2.1 + 1)
      omega⟩
  · exact fun d s h g z => absurd z (by simp)
  · exact fun d s q q2 h g e a b z => ⟨rfl, by
      obtain ⟨c1, c2, c3⟩ := tkQ_c (K := K) (k := 29) (q := q2) z
      obtain ⟨b1, b2⟩ := b c1
      obtain ⟨e1, e2, e3⟩ := tkQ_c b1
      have := (a e1).2
      change q.2.2.1 + (s.1 + 2) ≤ s.2.1 + q.2.1 at this
      unfold SCq at b2
      rw [e2, e3] at b2
      show (tkQ K 29 q2).2.2.1 + 1 + s.1 ≤ s.2.1 + (tkQ K 29 q2).2.1
      rw [c2, c3]
      omega⟩
  · exact fun d s h g z => absurd z (by simp)
  · exact fun d s h g e z => absurd z (by simp)
  · exact fun d s h z => absurd z (by simp)
  · exact fun d s q q2 a b z => by
      obtain ⟨b1, b2⟩ := b z
      obtain ⟨a1, a2⟩ := a b1
      exact ⟨a1, by unfold SCq at *; omega⟩
  · exact fun d s q q2 h a b z => ⟨rfl, by
      obtain ⟨b1, b2⟩ := b z
      have a2 := (a b1).2
      change q2.2.2.1 + q.2.1 ≤ q.2.2.1 + 1 + q2.2.1 at b2
      change q.2.2.1 + (s.1 + 1) ≤ s.2.1 + q.2.1 at a2
      show q2.2.2.1 + s.1 ≤ s.2.1 + q2.2.1
      omega⟩
  · exact fun d s h z => ⟨rfl, Nat.le_refl _⟩
  · exact fun d s q q2 a b z => by
      obtain ⟨b1, b2⟩ := b z
      obtain ⟨a1, a2⟩ := a b1
      exact ⟨a1, by unfold SCq at *; omega⟩
  · exact fun d s q q2 h a b z => ⟨rfl, by
      obtain ⟨b1, b2⟩ := b z
      have a2 := (a b1).2
      change q2.2.2.1 + q.2.1 ≤ q.2.2.1 + 1 + q2.2.1 at b2
      change q.2.2.1 + (s.1 + 1) ≤ s.2.1 + q.2.1 at a2
      show q2.2.2.1 + s.1 ≤ s.2.1 + q2.2.1
      omega⟩
  · exact fun d s h z => ⟨rfl, Nat.le_refl _⟩
  · exact fun d s q h g a z => ⟨rfl, by
      have := (a z).2
      change q.2.2.1 + (s.1 + 1) ≤ s.2.1 + q.2.1 at this
      show q.2.2.1 + 1 + s.1 ≤ s.2.1 + q.2.1
      omega⟩
  · exact fun d s h g z => absurd z (by simp)
  · exact fun d s q h g a z => ⟨rfl, by
      obtain ⟨c1, c2, c3⟩ := tkQ_c z
      have := (a c1).2
      change q.2.2.1 + (s.1 + 1) ≤ s.2.1 + q.2.1 at this
      unfold SCq
      rw [c2, c3]
      show q.2.2.1 + s.1 ≤ s.2.1 + (q.2.1 + 1)
      omega⟩
  · exact fun d s h g z => absurd z (by simp)
  · exact fun d s q q2 h g a b z => ⟨rfl, by
      obtain ⟨b1, b2⟩ := b z
      obtain ⟨c1, c2, c3⟩ := tcQ_c b1
      have a2 := (a c1).2
      unfold SCq at b2
      rw [c2, c3] at b2
      change q.2.2.1 + s.1 ≤ s.2.1 + q.2.1 at a2
      show q2.2.2.1 + 1 + s.1 ≤ s.2.1 + q2.2.1
      omega⟩
  · exact fun d s q q2 a b z => by
      obtain ⟨b1, b2⟩ := b z
      obtain ⟨a1, a2⟩ := a b1
      exact ⟨a1, by unfold SCq at *; omega⟩
  · exact fun d s q q2 h a b z => ⟨rfl, by
      obtain ⟨b1, b2⟩ := b z
      have a2 := (a b1).2
      change q2.2.2.1 + q.2.1 ≤ q.2.2.1 + 1 + q2.2.1 at b2
      change q.2.2.1 + (s.1 + 1) ≤ s.2.1 + q.2.1 at a2
      show q2.2.2.1 + s.1 ≤ s.2.1 + q2.2.1
      omega⟩
  · exact fun d s h z => ⟨rfl, Nat.le_refl _⟩
  · exact fun d s q q2 a b z => by
      obtain ⟨b1, b2⟩ := b z
      obtain ⟨a1, a2⟩ := a b1
      exact ⟨a1, by unfold SCq at *; omega⟩
  · exact fun d s q q2 h a b z => ⟨rfl, by
      obtain ⟨b1, b2⟩ := b z
      have a2 := (a b1).2
      change q2.2.2.1 + q.2.1 ≤ q.2.2.1 + 1 + q2.2.1 at b2
      change q.2.2.1 + (s.1 + 1) ≤ s.2.1 + q.2.1 at a2
      show q2.2.2.1 + s.1 ≤ s.2.1 + q2.2.1
      omega⟩
  · exact fun d s h z => ⟨rfl, Nat.le_refl _⟩
end PRC
