theorem wn_60 {ρ : RH} {c : Nat} (h : ∀ l, l < c → 1 ≤ ρ 31 l ∧ ρ 31 l ≤ 60) : ∃ n w, n ≤ c ∧ w ≤ 60 * n ∧ nOf c ρ 3 = nI n ∧ wOf c ρ 3 = nI w := by
  unfold nOf wOf
  induction c with
  | zero => exact ⟨0, 0, by omega, by omega, rfl, rfl⟩
  | succ c ih =>
    obtain ⟨n, w, h1, h2, h3, h4⟩ := ih (fun l hl => h l (by omega))
    rw [sm, sm, h3, h4]
    by_cases e : ρ 32 c = 3
    · rw [if_pos e, if_pos e]
      have h5 := h c (by omega)
      obtain ⟨j, hj, e2⟩ := nI_of2 (M := 60) (n := 60) (by decide) (Int32.not_lt.mpr (Int32.le_trans (by decide) h5.1)) h5.2
      exact ⟨n + 1, w + j, by omega, by omega, nI_1 n, by rw [e2, nI_add]⟩
    · rw [if_neg e, if_neg e]
      exact ⟨n, w, by omega, h2, Int32.add_zero _, Int32.add_zero _⟩
def meF (c : Nat) (ρ : RH) : UInt64 := if nOf c ρ 3 = 0 then 0 else FP.ddiv (FP.i2d (wOf c ρ 3)) (FP.i2d (nOf c ρ 3))
theorem me_ok {ρ : RH} {c : Nat} (hc : c ≤ 20) (h : ∀ l, l < c → 1 ≤ ρ 31 l ∧ ρ 31 l ≤ 60) (h0 : ¬ nOf c ρ 3 = 0) : vf_n64 (FP.ddiv (FP.i2d (wOf c ρ 3)) (FP.i2d (nOf c ρ 3))) := by
  obtain ⟨n, w, h1, h2, h3, h4⟩ := wn_60 h
  rw [h3] at h0
  have hn : n ≠ 0 := fun q => h0 (by rw [q]; rfl)
  obtain ⟨k, rfl⟩ : ∃ k, n = k + 1 := ⟨n - 1, by omega⟩
  rw [h3, h4]
  exact dd_t k (by omega) w (by omega)
