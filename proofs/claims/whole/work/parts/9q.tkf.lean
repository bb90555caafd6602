/-! what both make of the tape -/
section TOK
variable {B : Nat → Nat} {p ln : Nat}
theorem kwG_t {n : Nat} : ∀ k i, i + k = 48 → kwG B p n i k = 43 ∨ txQ B (sgT.getD (kwG B p n i k) 0) p n = true
  | 0, _, _ => Or.inl rfl
  | k + 1, i, h => by
    rw [kwG]
    by_cases e : txQ B (sgT.getD i 0) p n = true
    · rw [if_pos e]; exact Or.inr e
    · rw [if_neg e]; exact kwG_t k (i + 1) (by omega)
theorem kwF_t {n : Nat} : kwF B p n = 43 ∨ txQ B (sgT.getD (kwF B p n) 0) p n = true := kwG_t 48 0 rfl
theorem seK_ne : ∀ k, p < seE B p k → ¬ seK B p k = 43
  | 0, h => absurd h (Nat.lt_irrefl _)
  | k + 1, h => by
    rw [seE] at h
    rw [seK]
    by_cases e : kwF B p (k + 1) = 43
    · rw [if_pos e] at h ⊢; exact seK_ne k h
    · rw [if_neg e]; exact e
theorem kw1_r : kwF B p 1 = 43 ∨ (28 ≤ kwF B p 1 ∧ kwF B p 1 ≤ 42) := by
  rcases kwF_t (B := B) (p := p) (n := 1) with h | h
  · exact Or.inl h
  · have h2 := sg_1 _ kwF_48 (txQ_iff.mp h).1
    exact Or.inr ⟨h2.1, by omega⟩
theorem seK_r (h8 : ∀ i, B i < 256) (h0 : ltB (B p) = false) : ∀ k, k ≤ 2 → seK B p k = 43 ∨ (28 ≤ seK B p k ∧ seK B p k ≤ 42)
  | 0, _ => Or.inl rfl
  | 1, _ => by
    rw [seK]
    by_cases e : kwF B p (0 + 1) = 43
    · rw [if_pos e]; exact Or.inl rfl
    · rw [if_neg e]; exact kw1_r
  | 2, _ => by
    rw [seK]
    by_cases e : kwF B p (1 + 1) = 43
    · rw [if_pos e]; exact seK_r h8 h0 1 (by omega)
    · rw [if_neg e]
      have h2 := kw2_y (p := p) h8 h0
      show kwF B p 2 = 43 ∨ (28 ≤ kwF B p 2 ∧ kwF B p 2 ≤ 42)
      rw [h2]
      split
      · exact Or.inr ⟨by decide, by decide⟩
      · split
        · exact Or.inr ⟨by decide, by decide⟩
        · exact Or.inl rfl
  | k + 3, h => by omega
/-- which kind a token is -/
theorem tkK_k (h8 : ∀ i, B i < 256) (hp : p < ln) (ht : p < tkE B ln p) : (ltB (B p) = true ∧ tkE B ln p = rn ldB B ln p ∧ rn ldB B ln p - p ≤ 10 ∧ (tkK B ln p = 43 ∨ tkK B ln p < 28)) ∨ (ltB (B p) = false ∧ dgB (B p) = true ∧ tkE B ln p = rn dgB B ln p ∧ rn dgB B ln p - p ≤ 6 ∧ tkK B ln p = 44) ∨ (ltB (B p) = false ∧ dgB (B p) = false ∧ 28 ≤ tkK B ln p ∧ tkK B ln p ≤ 42) := by
  by_cases e1 : ltB (B p) = true
  · have e2 : tkE B ln p = wdE B ln p := if_pos e1
    have e3 : tkK B ln p = kwF B p (rn ldB B ln p - p) := if_pos e1
    unfold wdE at e2
    by_cases e4 : 10 < rn ldB B ln p - p
    · rw [if_pos e4] at e2; omega
    · rw [if_neg e4] at e2
      refine Or.inl ⟨e1, e2, by omega, ?_⟩
      rw [e3]
      exact kwG_or h8 e1 (by omega)
  · have e1' : ltB (B p) = false := by cases h : ltB (B p) with | true => exact absurd h e1 | false => rfl
    by_cases e5 : dgB (B p) = true
    · have e2 : tkE B ln p = nbE B ln p := by unfold tkE; rw [if_neg e1, if_pos e5]
      have e3 : tkK B ln p = 44 := by unfold tkK; rw [if_neg e1, if_pos e5]
      unfold nbE at e2
      by_cases e4 : 6 < rn dgB B ln p - p
      · rw [if_pos e4] at e2; omega
      · rw [if_neg e4] at e2
        exact Or.inr (Or.inl ⟨e1', e5, e2, by omega, e3⟩)
    · have e5' : dgB (B p) = false := by cases h : dgB (B p) with | true => exact absurd h e5 | false => rfl
      have e2 : tkE B ln p = syE B ln p := by unfold tkE; rw [if_neg e1, if_neg e5]
      have e3 : tkK B ln p = syK B ln p := by unfold tkK; rw [if_neg e1, if_neg e5]
      rw [e2] at ht
      have h1 := seK_ne _ ht
      have h2 := seK_r h8 e1' (syn ln p) (syn_le hp).2
      rw [e3]
      exact Or.inr (Or.inr ⟨e1', e5', (h2.resolve_left h1).1, (h2.resolve_left h1).2⟩)
theorem dN_r {n : Nat} (h : ldB n = true) : 1 ≤ dN n ∧ dN n ≤ 36 := by
  unfold ldB ltB dgB at h
  unfold dN ltB
  simp only [Bool.or_eq_true, decide_eq_true_eq] at h ⊢
  split <;> omega
theorem dN_i {a b : Nat} (ha : ldB a = true) (hb : ldB b = true) (h : dN a = dN b) : a = b := by
  unfold ldB ltB dgB at ha hb
  unfold dN ltB at h
  simp only [Bool.or_eq_true, decide_eq_true_eq] at ha hb h
  split at h <;> split at h <;> omega
theorem cN_inj {p' : Nat} : ∀ k k', (∀ j, j < k → ldB (B (p + j)) = true) → (∀ j, j < k' → ldB (B (p' + j)) = true) → cN B p k = cN B p' k' → k = k' ∧ ∀ j, j < k → B (p + j) = B (p' + j)
  | 0, 0, _, _, _ => ⟨rfl, fun j hj => absurd hj (Nat.not_lt_zero _)⟩
  | 0, k' + 1, _, h2, h => by
    have h3 := dN_r (h2 k' (Nat.lt_succ_self _))
    rw [cN, cN] at h; omega
  | k + 1, 0, h1, _, h => by
    have h3 := dN_r (h1 k (Nat.lt_succ_self _))
    rw [cN, cN] at h; omega
  | k + 1, k' + 1, h1, h2, h => by
    have h3 := dN_r (h1 k (Nat.lt_succ_self _))
    have h4 := dN_r (h2 k' (Nat.lt_succ_self _))
    rw [cN, cN] at h
    have h5 : cN B p k = cN B p' k' ∧ dN (B (p + k)) = dN (B (p' + k')) := by omega
    obtain ⟨h6, h7⟩ := cN_inj k k' (fun j hj => h1 j (by omega)) (fun j hj => h2 j (by omega)) h5.1
    subst h6
    refine ⟨rfl, fun j hj => ?_⟩
    by_cases e : j = k
    · subst e; exact dN_i (h1 _ (Nat.lt_succ_self _)) (h2 _ (Nat.lt_succ_self _)) h5.2
    · exact h7 j (by omega)
theorem cN_same {p' : Nat} : ∀ k, (∀ j, j < k → B (p + j) = B (p' + j)) → cN B p k = cN B p' k
  | 0, _ => rfl
  | k + 1, h => by rw [cN, cN, cN_same k (fun j hj => h j (by omega)), h k (Nat.lt_succ_self _)]
theorem cN_lt : ∀ k, (∀ j, j < k → ldB (B (p + j)) = true) → cN B p k < 37 ^ k
  | 0, _ => Nat.one_pos
  | k + 1, h => by
    have h3 := dN_r (h k (Nat.lt_succ_self _))
    have h4 := cN_lt k (fun j hj => h j (by omega))
    rw [cN, Nat.pow_succ]; omega
theorem i64_inj {a b : Nat} (ha : a < 2 ^ 63) (hb : b < 2 ^ 63) (h : Int64.ofNat a = Int64.ofNat b) : a = b := by
  have h1 := congrArg Int64.toInt h
  rw [Int64.toInt_ofNat_of_lt ha, Int64.toInt_ofNat_of_lt hb] at h1
  exact Int.ofNat.inj h1
theorem nmI_nN : ∀ k, (∀ j, j < k → dgB (B (p + j)) = true) → nmI B p k = nI (nN B p k)
  | 0, _ => rfl
  | k + 1, h => by
    have h1 := h k (Nat.lt_succ_self _)
    have h2 : 48 ≤ B (p + k) := by unfold dgB at h1; simp only [decide_eq_true_eq] at h1; exact h1.1
    obtain ⟨c, hc⟩ : ∃ c, B (p + k) = c + 48 := ⟨B (p + k) - 48, by omega⟩
    rw [nmI, nN, nmI_nN k (fun j hj => h j (by omega)), hc, Nat.add_sub_cancel]
    show 10 * Int32.ofNat (nN B p k) + Int32.ofNat (c + 48) - 48 = Int32.ofNat (nN B p k * 10 + c)
    rw [Int32.ofNat_add, Int32.ofNat_add, Int32.ofNat_mul, Int32.mul_comm, ← Int32.add_assoc]
    show Int32.ofNat (nN B p k) * Int32.ofNat 10 + Int32.ofNat c + Int32.ofNat 48 - Int32.ofNat 48 = _
    rw [Int32.add_sub_cancel]
theorem i64_32 (n : Nat) : (Int64.ofNat n).toInt32 = nI n := by
  apply Int32.toBitVec.inj
  show (BitVec.ofNat 64 n).signExtend 32 = BitVec.ofNat 32 n
  rw [BitVec.signExtend_eq_setWidth_of_le _ (by decide)]
  apply BitVec.eq_of_toNat_eq
  simp
end TOK
theorem kk_kd : ∀ o, o < 45 → kkF o = kdF o := by decide +kernel
theorem TKF.mk9 {B : Nat → Nat} {ln lt lt2 : Nat} {K : Nat → Nat} {S : Nat → Int32} {V : Nat → Int64} {ω : RH} (h8 : ∀ i, B i < 256) (hl : ln ≤ 2000) (hT : Toks B ln lt K S V) (hM : MTk B ln lt2 ω) : lt2 = lt ∧ TKF B lt K S V ω ∧ (∀ i, i ≤ lt → ω 83 i = 0) := by
  have hKK := hT.hK
  obtain ⟨t1, t2, t3, t4, t5⟩ := hT
  obtain ⟨m1, m2, m3, m4, m5⟩ := hM
  have e : lt2 = lt := by
    rcases Nat.lt_trichotomy lt lt2 with h | h | h
    · exact absurd (m2 lt h).1 (t3.resolve_left (by omega))
    · exact h.symm
    · exact absurd (t2 lt2 h).1 (m4.resolve_left (by omega))
  subst e
  have hk : ∀ i, i < lt2 → K i = tkK B ln (tP B ln i) := fun i hi => (t2 i hi).2.1
  have hg : ∀ i, i < lt2 → gdT B ln i := fun i hi => (t2 i hi).1
  have h45 : ∀ i, i < lt2 → K i < 45 := fun i hi => by
    rw [hk i hi]
    rcases tkK_k h8 (hg i hi).1 (hg i hi).2 with ⟨_, _, _, h⟩ | ⟨_, _, _, _, h⟩ | ⟨_, _, _, h⟩ <;> omega
  refine ⟨rfl, ⟨⟨t1, hKK.2⟩, fun i hi => ?_, fun i hi => ⟨⟨by have := h45 i hi; omega, by have := h45 i hi; omega⟩, ?_⟩, fun i j hi hj e1 e2 => ?_⟩, fun i hi => (m3 i hi).2.1⟩
  · by_cases e : i = lt2
    · subst e
      refine ⟨?_, ⟨hKK.1 _ (Nat.le_refl _), by have := hKK.2; omega⟩, (m3 _ (Nat.le_refl _)).1.trans t4.symm⟩
      rw [m5, t5]; split <;> rfl
    · have hi' : i < lt2 := by omega
      have h9 := h45 i hi'
      exact ⟨by rw [kk_kd _ h9, hk i hi']; exact (m2 i hi').2.1, ⟨by omega, by omega⟩, (m3 i hi).1.trans (t2 i hi').2.2.1.symm⟩
  · have hge := tkE_le (B := B) (hg i hi).1
    refine ⟨tP B ln i, tkE B ln (tP B ln i) - tP B ln i, (m3 i (Nat.le_of_lt hi)).1, (m2 i hi).2.2, by have := (hg i hi).2; omega, fun e => ?_⟩
    rw [hk i hi] at e
    rcases tkK_k h8 (hg i hi).1 (hg i hi).2 with ⟨_, _, _, h⟩ | ⟨h1, h2, h3, h4, h5⟩ | ⟨_, _, _, h⟩
    · omega
    · rw [(t2 i hi).2.2.2 (Or.inr h2), h3]
      unfold tkV
      rw [if_neg (by rw [h1]; decide), i64_32, nmI_nN _ (fun j hj => rn_in (ln := ln) ln (by omega) (by omega))]
    · omega
  · rw [hk i hi] at e1
    rw [hk j hj] at e2
    have f : ∀ k, k < lt2 → tkK B ln (tP B ln k) = 43 → V k = Int64.ofNat (cN B (tP B ln k) (tkE B ln (tP B ln k) - tP B ln k)) ∧ (∀ x, x < tkE B ln (tP B ln k) - tP B ln k → ldB (B (tP B ln k + x)) = true) ∧ tkE B ln (tP B ln k) - tP B ln k ≤ 10 := fun k hk' e => by
      rcases tkK_k h8 (hg k hk').1 (hg k hk').2 with ⟨h1, h2, h3, h⟩ | ⟨h1, h2, h3, h4, h5⟩ | ⟨_, _, _, h⟩
      · refine ⟨?_, fun x hx => ?_, by rw [h2]; exact h3⟩
        · rw [(t2 k hk').2.2.2 (Or.inl h1), h2]; unfold tkV; rw [if_pos h1]
        · rw [h2] at hx; exact rn_in (ln := ln) ln (by omega) (by omega)
      · omega
      · omega
    obtain ⟨f1, f2, f3⟩ := f i hi e1
    obtain ⟨g1, g2, g3⟩ := f j hj e2
    have hgi := tkE_le (B := B) (hg i hi).1
    have hgj := tkE_le (B := B) (hg j hj).1
    refine ⟨tP B ln i, tkE B ln (tP B ln i) - tP B ln i, tP B ln j, tkE B ln (tP B ln j) - tP B ln j, (m3 i (Nat.le_of_lt hi)).1, (m2 i hi).2.2, by have := (hg i hi).2; omega, (m3 j (Nat.le_of_lt hj)).1, (m2 j hj).2.2, by have := (hg j hj).2; omega, ?_⟩
    rw [f1, g1]
    have b1 := Nat.lt_of_lt_of_le (cN_lt _ f2) (Nat.pow_le_pow_right (by decide) f3)
    have b2 := Nat.lt_of_lt_of_le (cN_lt _ g2) (Nat.pow_le_pow_right (by decide) g3)
    constructor
    · rintro ⟨a1, a2⟩
      rw [a1] at a2 ⊢
      rw [cN_same _ a2]
    · intro a
      exact cN_inj _ _ f2 g2 (i64_inj (Nat.lt_trans b1 (by decide)) (Nat.lt_trans b2 (by decide)) a)
