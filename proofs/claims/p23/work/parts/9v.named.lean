/-! named steps have their tokens -/
def NS (s : PS) : Prop := ∀ k, k < s.2.1 → nmB (s.2.2.1 k) = true → ∃ t, t < s.1 ∧ s.2.2.2.1 k = nI t ∧ s.2.2.2.2 t = if s.2.2.1 k = 3 ∨ s.2.2.1 k = 22 then 18 else 17
section NSS
variable {K : Nat → Nat} {vv : Nat → Int32} {s s' : PS} {q q' : PQ} {o k m d : Nat} {x : Int32}
theorem nmB_i : nmB o = true ↔ (o = 20 ∨ o = 21 ∨ o = 6) ∨ (o = 3 ∨ o = 22) := by
  unfold nmB
  simp only [List.contains_iff_mem, List.mem_cons, List.not_mem_nil, or_false]
  omega
theorem NS.ad (h : NS s) : NS (adv s k) := fun i h1 h2 => let ⟨t, g1, g2⟩ := h i h1 h2; ⟨t, Nat.lt_of_lt_of_le g1 (Nat.le_add_right _ _), g2⟩
theorem NS.ro (h : NS s) : NS (adv (rol s s.1 x) 1) := fun i h1 h2 => let ⟨t, g1, g2, g3⟩ := h i h1 h2; ⟨t, Nat.lt_succ_of_lt g1, g2, (uI_i (by omega)).trans g3⟩
theorem NS.st (h : NS s) (ho : ¬ nmB o = true) : NS (stp s o x) := fun i h1 h2 => by
  have h1' : i < s.2.1 + 1 := h1
  have h2' : nmB (u1 s.2.2.1 s.2.1 o i) = true := h2
  by_cases e : i = s.2.1
  · subst e; rw [u1_s] at h2'; exact absurd h2' ho
  · rw [u1_i e] at h2'
    obtain ⟨t, g1, g2, g3⟩ := h i (by omega) h2'
    exact ⟨t, g1, (uI_i e).trans g2, by
      show s.2.2.2.2 t = if u1 s.2.2.1 s.2.1 o i = 3 ∨ u1 s.2.2.1 s.2.1 o i = 22 then 18 else 17
      rw [u1_i e]; exact g3⟩
theorem NS.tq (z : (tkQ K k q).1 = true) (h : NS q.2) : NS (tkQ K k q).2 := by rw [(tkQ_t z).2.2]; exact h.ad
theorem NS.tr9 (z : (tkR K k x q).1 = true) (h : NS q.2) : NS (tkR K k x q).2 := by rw [(tkR_t z).2.2]; exact h.ro
theorem NS.op (h : NS q.2) : NS (opR K k x q).2 := by
  unfold opR; split
  · exact h.ro
  · exact h
theorem tcQ_t9 (z : (tcQ K q).1 = true) : tcQ K q = (true, adv q.2 1) := by
  have h1 := tcQ_le z
  exact tcQ_y h1.1 (tcQ_rg z)
theorem NS.pq0 : NS pq0.2 := fun i h => absurd h (Nat.not_lt_zero _)
end NSS
