def shF (k : Nat) : Int32 := (24 - 8 * (nI k - nI k / 4 * 4)) &&& 31
def fdN (w : Nat → Int32) (k : Nat) : Nat := ((w (k / 4) >>> shF k) &&& 255).toNatClampNeg
def fdT (B : Nat → Nat) (w : Nat → Int32) (n k : Nat) : Nat → Nat := fun i => if n ≤ i ∧ i < n + k then fdN w (i - n) else B i
theorem an_255 (x : Int32) : ∃ j, j < 256 ∧ x &&& 255 = nI j := by
  refine ⟨(x &&& 255).toBitVec.toNat, ?_, ?_⟩
  · have : (x &&& 255).toBitVec.toNat = x.toBitVec.toNat &&& 255 := by simp
    rw [this]
    exact Nat.lt_of_le_of_lt Nat.and_le_right (by decide)
  · show x &&& 255 = Int32.ofNat (x &&& 255).toBitVec.toNat
    generalize x &&& 255 = y
    apply Int32.toBitVec.inj
    first
      | (rw [Int32.toBitVec_ofNat']; simp; done)
      | (rw [Int32.toBitVec_ofNat]; simp; done)
      | (simp; done)
      | exact (BitVec.ofNat_toNat 32 y.toBitVec).symm ▸ rfl
theorem fdN_ok (w : Nat → Int32) (k : Nat) : nI (fdN w k) = (w (k / 4) >>> shF k) &&& 255 ∧ fdN w k < 256 := by
  obtain ⟨j, hj, e⟩ := an_255 (w (k / 4) >>> shF k)
  unfold fdN
  rw [e, nI_cl (by omega)]
  exact ⟨rfl, hj⟩
theorem fdT_0 {B : Nat → Nat} {w : Nat → Int32} {n : Nat} : fdT B w n 0 = B := by
  funext i; unfold fdT; rw [if_neg (by omega)]
theorem fdT_s {B : Nat → Nat} {w : Nat → Int32} {n k : Nat} : u1 (fdT B w n k) (n + k) (fdN w k) = fdT B w n (k + 1) := by
  funext i
  unfold u1 fdT
  by_cases e : i = n + k
  · subst e; rw [if_pos rfl, if_pos (by omega), show n + k - n = k by omega]
  · rw [if_neg e]
    by_cases q : n ≤ i ∧ i < n + k
    · rw [if_pos q, if_pos (by omega)]
    · rw [if_neg q, if_neg (by omega)]
def feW (x1 x2 x3 x4 x5 : Int32) : Nat → Int32 := uI (uI (uI (uI (uI (fun _ => 0) 0 x1) 1 x2) 2 x3) 3 x4) 4 x5
