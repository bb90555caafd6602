/-! an object made with its arrays -/
def AL (z : Nat) (f0 : Nat → Value) (τ0 : TY) (M0 : ME) (done : List (Nat × Nat)) (τ : TY) (M : ME) : Prop :=
  (∀ j, j < done.length → τ (z + 1 + j) = (100, (done.getD j (0, 0)).2) ∧ M z (done.getD j (0, 0)).1 = .ref (z + 1 + j) ∧ ∀ i, M (z + 1 + j) i = .int 0) ∧ (∀ k, ¬ k ∈ done.map Prod.fst → M z k = f0 k) ∧ (∀ b, b < z → τ b = τ0 b ∧ M b = M0 b) ∧ τ z = τ0 z
theorem AL.nil {z : Nat} {f0 : Nat → Value} {τ : TY} {M : ME} (h : M z = f0) : AL z f0 τ M [] τ M := ⟨fun j h => absurd h (Nat.not_lt_zero _), fun k _ => by rw [h], fun _ _ => ⟨rfl, rfl⟩, rfl⟩
theorem AL.nx {z sz slot N : Nat} {f0 : Nat → Value} {τ0 τ τ1 : TY} {M0 M M1 M2 : ME} {done : List (Nat × Nat)} (h : AL z f0 τ0 M0 done τ M) (hs : sz = z + 1 + done.length) (eτ : τ1 = tyN τ sz (100, N)) (e1 : M1 = meN M sz (fun _ => .int 0)) (e2 : M2 = up M1 z slot (.ref sz)) (hn : ¬ slot ∈ done.map Prod.fst) : AL z f0 τ0 M0 (done ++ [(slot, N)]) τ1 M2 := by
  subst hs eτ e1 e2
  obtain ⟨h1, h2, h3, h4⟩ := h
  refine ⟨fun j hj => ?_, fun k hk => ?_, fun b hb => ⟨?_, ?_⟩, ?_⟩
  · have hj' : j < done.length + 1 := by simpa using hj
    by_cases e : j = done.length
    · subst e
      have eg : (done ++ [(slot, N)]).getD done.length (0, 0) = (slot, N) := by simp [List.getD_eq_getElem?_getD]
      rw [eg]
      refine ⟨tyN_s _ _ _, ?_, fun i => ?_⟩
      · show up _ z slot _ z slot = _
        simp [up]
      · rw [up_a (by omega), meN_s]
    · have hlt : j < done.length := by omega
      have eg : (done ++ [(slot, N)]).getD j (0, 0) = done.getD j (0, 0) := by simp [List.getD_eq_getElem?_getD, List.getElem?_append_left hlt]
      rw [eg]
      obtain ⟨g1, g2, g3⟩ := h1 j hlt
      have hsl : ¬ (done.getD j (0, 0)).1 = slot := fun q => hn (by
        rw [← q]
        refine List.mem_map.mpr ⟨done.getD j (0, 0), ?_, rfl⟩
        rw [List.getD_eq_getElem?_getD, List.getElem?_eq_getElem hlt]
        exact List.getElem_mem hlt)
      refine ⟨by rw [tyN_n (by omega)]; exact g1, ?_, fun i => ?_⟩
      · show up _ z slot _ z _ = _
        unfold up
        rw [if_pos rfl, if_neg hsl, meN_n (by omega)]; exact g2
      · rw [up_a (by omega), meN_n (by omega)]; exact g3 i
  · have hk' : ¬ k ∈ done.map Prod.fst ∧ ¬ k = slot := by
      refine ⟨fun q => hk ?_, fun q => hk ?_⟩
      · rw [List.map_append]; exact List.mem_append_left _ q
      · rw [List.map_append, q]; exact List.mem_append_right _ (by simp)
    unfold up
    rw [if_pos rfl, if_neg hk'.2, meN_n (by omega)]
    exact h2 k hk'.1
  · rw [tyN_n (by omega)]; exact (h3 b hb).1
  · rw [up_a (by omega), meN_n (by omega)]; exact (h3 b hb).2
  · rw [tyN_n (by omega)]; exact h4
