/-! the reference is made -/
theorem AL.pf {z slot : Nat} {f0 : Nat → Value} {τ0 τ : TY} {M0 M M1 : ME} {done : List (Nat × Nat)} {v : Value} (h : AL z f0 τ0 M0 done τ M) (hn : ¬ slot ∈ done.map Prod.fst) (e : M1 = up M z slot v) : AL z (fun k => if k = slot then v else f0 k) τ0 M0 done τ M1 := by
  subst e
  obtain ⟨h1, h2, h3, h4⟩ := h
  refine ⟨fun j hj => ?_, fun k hk => ?_, fun b hb => ⟨(h3 b hb).1, by rw [up_a (by omega)]; exact (h3 b hb).2⟩, h4⟩
  · obtain ⟨g1, g2, g3⟩ := h1 j hj
    have hsl : ¬ (done.getD j (0, 0)).1 = slot := fun q => hn (by
      rw [← q]
      refine List.mem_map.mpr ⟨done.getD j (0, 0), ?_, rfl⟩
      rw [List.getD_eq_getElem?_getD, List.getElem?_eq_getElem hj]
      exact List.getElem_mem hj)
    refine ⟨g1, ?_, fun i => by rw [up_a (by omega)]; exact g3 i⟩
    unfold up; rw [if_pos rfl, if_neg hsl]; exact g2
  · show up M z slot v z k = if k = slot then v else f0 k
    unfold up; rw [if_pos rfl]
    by_cases e : k = slot
    · rw [if_pos e, if_pos e]
    · rw [if_neg e, if_neg e]; exact h2 k hk
theorem AL.mv9 {z n : Nat} {f0 : Nat → Value} {τ0 τ τ1 : TY} {M0 M M1 : ME} {done : List (Nat × Nat)} (h : AL z f0 τ0 M0 done τ M) (hn : done.length = n) (e : ∀ b, b < z + 1 + n → τ1 b = τ b ∧ M1 b = M b) : AL z f0 τ0 M0 done τ1 M1 := by
  subst hn
  obtain ⟨h1, h2, h3, h4⟩ := h
  refine ⟨fun j hj => ?_, fun k hk => by rw [(e z (by omega)).2]; exact h2 k hk, fun b hb => ⟨(e b (by omega)).1.trans (h3 b hb).1, (e b (by omega)).2.trans (h3 b hb).2⟩, (e z (by omega)).1.trans h4⟩
  obtain ⟨g1, g2, g3⟩ := h1 j hj
  exact ⟨(e _ (by omega)).1.trans g1, by rw [(e z (by omega)).2]; exact g2, fun i => by rw [(e _ (by omega)).2]; exact g3 i⟩
