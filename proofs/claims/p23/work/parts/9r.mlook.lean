section NUM
variable {B : Nat → Nat} {p ln : Nat}
theorem nN_lt : ∀ k, (∀ j, j < k → dgB (B (p + j)) = true) → nN B p k < 10 ^ k
  | 0, _ => Nat.one_pos
  | k + 1, h => by
    have h1 := h k (Nat.lt_succ_self _)
    have h2 : 48 ≤ B (p + k) ∧ B (p + k) ≤ 57 := by unfold dgB at h1; simpa using h1
    have h4 := nN_lt k (fun j hj => h j (by omega))
    rw [nN, Nat.pow_succ]; omega
end NUM
theorem Toks.num {B : Nat → Nat} {ln lt : Nat} {K : Nat → Nat} {S : Nat → Int32} {V : Nat → Int64} (h8 : ∀ i, B i < 256) (hT : Toks B ln lt K S V) : ∀ i, i < lt → K i = 44 → ∃ c, c < 1000000 ∧ V i = Int64.ofNat c := fun i hi e => by
  obtain ⟨t1, t2, t3, t4, t5⟩ := hT
  have hg := (t2 i hi).1
  rw [(t2 i hi).2.1] at e
  rcases tkK_k h8 hg.1 hg.2 with ⟨_, _, _, h⟩ | ⟨h1, h2, h3, h4, h5⟩ | ⟨_, _, _, h⟩
  · omega
  · refine ⟨nN B (tP B ln i) (rn dgB B ln (tP B ln i) - tP B ln i), ?_, ?_⟩
    · exact Nat.lt_of_lt_of_le (nN_lt _ (fun j hj => rn_in (ln := ln) ln (by omega) (by omega))) (Nat.pow_le_pow_right (n := 10) (by decide) h4)
    · rw [(t2 i hi).2.2.2 (Or.inr h2)]; unfold tkV; rw [if_neg (by rw [h1]; decide)]
  · omega
