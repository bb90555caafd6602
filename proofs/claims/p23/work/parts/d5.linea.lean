/-! lines read: stretches, horses, logs -/
def PI (V : Nat → Int64) (S : Nat → Int32) (q : PQ) (a b c h w : Nat) (D : RH) : Prop := q.1 = true ∧ (∀ i, q.2.1 ≤ i → q.2.2.2.2.2 i = 0) ∧ TI V S q.2.2.2.2.2 q.2.1 a b c h w D
theorem TI.t7m {V : Nat → Int64} {S : Nat → Int32} {rl : Nat → Int32} {T a b c h w n : Nat} {D : RH} (hT : TI V S rl (T + 1) a b c h w D) (r : rl (T + 1) = 7) (hV : V (T + 1) = Int64.ofNat n) (h1 : n ≤ 9) (hm : rl T = 19) : TI V S rl (T + 1 + 1) a b c h w (u2 D 42 (a - 1) (-(nI n))) := by
  have := hT.t7 r hV h1
  rw [show rl (T + 1 - 1) = 19 from hm, if_pos rfl] at this
  exact this
theorem TI.t7p {V : Nat → Int64} {S : Nat → Int32} {rl : Nat → Int32} {T a b c h w n : Nat} {D : RH} (hT : TI V S rl (T + 1) a b c h w D) (r : rl (T + 1) = 7) (hV : V (T + 1) = Int64.ofNat n) (h1 : n ≤ 9) (hm : rl T = 0) : TI V S rl (T + 1 + 1) a b c h w (u2 D 42 (a - 1) (nI n)) := by
  have := hT.t7 r hV h1
  rw [show rl (T + 1 - 1) = 0 from hm, if_neg (by decide)] at this
  exact this
theorem slm : ∀ k, k < 9 → -(nI (9 - k)) = nI k - 9 := by decide
theorem slp : ∀ k, k < 19 → ¬ k < 9 → nI (k - 9) = nI k - 9 := by decide
theorem wn_n (n : Nat) (w : List Nat) (h : n < 100) : wnP (nP n w) := Or.inr ((by decide : ∀ n, n < 100 → dgB (LT (dgL n) 0) = true) n h)
theorem wn_a (c n : Nat) (w : List Nat) (h : ltB c = true) : wnP (aP c n w) := Or.inl h
theorem ln_T {Δ : Nat → Nat → Nat} (ok : LDok Δ) {K : Nat → Nat} {V : Nat → Int64} {S : Nat → Int32} {vv : Nat → Int32} {q q1 : PQ} {β β1 : RH} {i a b c h w : Nat} {D : RH} (hi : i < Δ 0 3) (hP : PI V S q i b c h w D) (hA : AtL K V q.2.1 (plT Δ i)) (hL : LNr K vv q.2 β q1 β1) : PI V S q1 (i + 1) b c h w (u2 (u2 (u2 D 41 i (nI (Δ 1 i))) 42 i (nI (Δ 2 i) - 9)) 63 i (nI (Δ 3 i))) ∧ q1.2.1 = q.2.1 + (plT Δ i).length ∧ (q1.2.2.1 = q.2.2.1 ∧ q1.2.2.2.1 = q.2.2.2.1 ∧ q1.2.2.2.2.1 = q.2.2.2.2.1) ∧ β1 = β := by
  obtain ⟨⟨o3, o4, o5, o6, o7⟩, ⟨o8, o9, o10⟩, ⟨o11, o12, o13, o14⟩, o15, -⟩ := ok
  have b0 := o8 i
  have b1 := o9 i
  have b2 := o10 i
  obtain ⟨g, t, n, o, x, r⟩ := q
  obtain ⟨g1, hz, hT⟩ := hP
  change g = true at g1
  subst g1
  change ∀ i, t ≤ i → r i = 0 at hz
  change TI V S r t i b c h w D at hT
  change AtL K V t (plT Δ i) at hA
  change LNr K vv (t, n, o, x, r) β q1 β1 at hL
  unfold plT at hA ⊢
  split at hA
  · rename_i cs
    simp only [if_pos cs]
    obtain ⟨⟨k0, v0⟩, ⟨k1, v1⟩, ⟨k2, v2⟩, ⟨k3, v3⟩, ⟨k4, v4⟩, ⟨k5, v5⟩, ⟨k6, v6⟩, ⟨k7, v7⟩, ⟨k8, v8⟩, ⟨k9, v9⟩, -⟩ := hA
    replace k0 : K (t) = 0 := k0
    replace k1 : K (t + 1) = 43 := k1
    replace k2 : K (t + 1 + 1) = 1 := k2
    replace k3 : K (t + 1 + 1 + 1) = 44 := k3
    replace k4 : K (t + 1 + 1 + 1 + 1) = 2 := k4
    replace k5 : K (t + 1 + 1 + 1 + 1 + 1) = 35 := k5
    replace k6 : K (t + 1 + 1 + 1 + 1 + 1 + 1) = 44 := k6
    replace k7 : K (t + 1 + 1 + 1 + 1 + 1 + 1 + 1) = 3 := k7
    replace k8 : K (t + 1 + 1 + 1 + 1 + 1 + 1 + 1 + 1) = 44 := k8
    replace k9 : K (t + 1 + 1 + 1 + 1 + 1 + 1 + 1 + 1 + 1) = 32 := k9
    replace v1 : V (t + 1) = nmV 115 (i) := v1 (wn_a _ _ _ rfl)
    replace v3 : V (t + 1 + 1 + 1) = Int64.ofNat (Δ 1 i) := v3 (wn_n _ _ (by omega))
    replace v6 : V (t + 1 + 1 + 1 + 1 + 1 + 1) = Int64.ofNat (9 - Δ 2 i) := v6 (wn_n _ _ (by omega))
    replace v8 : V (t + 1 + 1 + 1 + 1 + 1 + 1 + 1 + 1) = Int64.ofNat (Δ 3 i) := v8 (wn_n _ _ (by omega))
    have e : tkQ K 32 (lnst K (t, n, o, x, r)) = (true, (t + 1 + 1 + 1 + 1 + 1 + 1 + 1 + 1 + 1 + 1, n, o, x, uI (uI (uI (uI (uI (r) (t + 1) 1) (t + 1 + 1 + 1) 6) (t + 1 + 1 + 1 + 1 + 1) 19) (t + 1 + 1 + 1 + 1 + 1 + 1) 7) (t + 1 + 1 + 1 + 1 + 1 + 1 + 1 + 1) 8)) := by
      simp only [lnst, tkQ, tkR, opR, adv, rol, k0, k1, k2, k3, k4, k5, k6, k7, k8, k9, reduceIte, and_self, and_true, true_and, and_false, Nat.reduceEqDiff]
    obtain ⟨rfl, rfl⟩ : q1 = tkQ K 32 (lnst K (t, n, o, x, r)) ∧ β1 = β := by
      rcases hL with ⟨z, a1, a2⟩ | ⟨z, a1, a2⟩ | ⟨z, a1, a2⟩ | ⟨z, -⟩ | ⟨z, -⟩ | ⟨z, -⟩
      · exact ⟨a1, a2⟩
      · exact absurd (k0.symm.trans z) (by decide)
      · exact absurd (k0.symm.trans z) (by decide)
      · exact absurd (k0.symm.trans z) (by decide)
      · exact absurd (k0.symm.trans z) (by decide)
      · exact absurd (Or.inl k0) z
    rw [e]
    refine ⟨⟨rfl, fun j hj => ?_, ?_⟩, rfl, ⟨rfl, rfl, rfl⟩, rfl⟩
    · change t + 1 + 1 + 1 + 1 + 1 + 1 + 1 + 1 + 1 + 1 ≤ j at hj
      show (uI (uI (uI (uI (uI (r) (t + 1) 1) (t + 1 + 1 + 1) 6) (t + 1 + 1 + 1 + 1 + 1) 19) (t + 1 + 1 + 1 + 1 + 1 + 1) 7) (t + 1 + 1 + 1 + 1 + 1 + 1 + 1 + 1) 8) j = 0
      unfold uI
      rw [if_neg (by omega), if_neg (by omega), if_neg (by omega), if_neg (by omega), if_neg (by omega)]
      exact hz j (by omega)
    · show TI V S (uI (uI (uI (uI (uI (r) (t + 1) 1) (t + 1 + 1 + 1) 6) (t + 1 + 1 + 1 + 1 + 1) 19) (t + 1 + 1 + 1 + 1 + 1 + 1) 7) (t + 1 + 1 + 1 + 1 + 1 + 1 + 1 + 1) 8) (t + 1 + 1 + 1 + 1 + 1 + 1 + 1 + 1 + 1 + 1) (i + 1) b c h w _
      generalize hR : uI (uI (uI (uI (uI (r) (t + 1) 1) (t + 1 + 1 + 1) 6) (t + 1 + 1 + 1 + 1 + 1) 19) (t + 1 + 1 + 1 + 1 + 1 + 1) 7) (t + 1 + 1 + 1 + 1 + 1 + 1 + 1 + 1) 8 = R
      have hlo : ∀ j, j < t → R j = r j := fun j hj => by rw [← hR]; unfold uI; rw [if_neg (by omega), if_neg (by omega), if_neg (by omega), if_neg (by omega), if_neg (by omega)]
      have r0 : R (t) = 0 := by rw [← hR]; unfold uI; rw [if_neg (by omega), if_neg (by omega), if_neg (by omega), if_neg (by omega), if_neg (by omega)]; exact hz _ (by omega)
      have r1 : R (t + 1) = 1 := by rw [← hR]; unfold uI; rw [if_neg (by omega), if_neg (by omega), if_neg (by omega), if_neg (by omega), if_pos rfl]
      have r2 : R (t + 1 + 1) = 0 := by rw [← hR]; unfold uI; rw [if_neg (by omega), if_neg (by omega), if_neg (by omega), if_neg (by omega), if_neg (by omega)]; exact hz _ (by omega)
      have r3 : R (t + 1 + 1 + 1) = 6 := by rw [← hR]; unfold uI; rw [if_neg (by omega), if_neg (by omega), if_neg (by omega), if_pos rfl]
      have r4 : R (t + 1 + 1 + 1 + 1) = 0 := by rw [← hR]; unfold uI; rw [if_neg (by omega), if_neg (by omega), if_neg (by omega), if_neg (by omega), if_neg (by omega)]; exact hz _ (by omega)
      have r5 : R (t + 1 + 1 + 1 + 1 + 1) = 19 := by rw [← hR]; unfold uI; rw [if_neg (by omega), if_neg (by omega), if_pos rfl]
      have r6 : R (t + 1 + 1 + 1 + 1 + 1 + 1) = 7 := by rw [← hR]; unfold uI; rw [if_neg (by omega), if_pos rfl]
      have r7 : R (t + 1 + 1 + 1 + 1 + 1 + 1 + 1) = 0 := by rw [← hR]; unfold uI; rw [if_neg (by omega), if_neg (by omega), if_neg (by omega), if_neg (by omega), if_neg (by omega)]; exact hz _ (by omega)
      have r8 : R (t + 1 + 1 + 1 + 1 + 1 + 1 + 1 + 1) = 8 := by rw [← hR]; unfold uI; rw [if_pos rfl]
      have r9 : R (t + 1 + 1 + 1 + 1 + 1 + 1 + 1 + 1 + 1) = 0 := by rw [← hR]; unfold uI; rw [if_neg (by omega), if_neg (by omega), if_neg (by omega), if_neg (by omega), if_neg (by omega)]; exact hz _ (by omega)
      have h0 := hT.cc hlo
      have h1 := h0.t0 r0
      have h2 := h1.t1 r1 v1 (by omega)
      have h3 := h2.t0 r2
      have h4 := h3.t6 r3 v3 (by omega)
      have h5 := h4.t0 r4
      have h6 := h5.t19 r5
      have h7 := h6.t7m r6 v6 (by omega) r5
      have h8 := h7.t0 r7
      have h9 := h8.t8 r8 v8 (by omega)
      have h10 := h9.t0 r9
      rw [slm _ cs] at h10
      exact h10
  · rename_i cs
    simp only [if_neg cs]
    obtain ⟨⟨k0, v0⟩, ⟨k1, v1⟩, ⟨k2, v2⟩, ⟨k3, v3⟩, ⟨k4, v4⟩, ⟨k5, v5⟩, ⟨k6, v6⟩, ⟨k7, v7⟩, ⟨k8, v8⟩, -⟩ := hA
    replace k0 : K (t) = 0 := k0
    replace k1 : K (t + 1) = 43 := k1
    replace k2 : K (t + 1 + 1) = 1 := k2
    replace k3 : K (t + 1 + 1 + 1) = 44 := k3
    replace k4 : K (t + 1 + 1 + 1 + 1) = 2 := k4
    replace k5 : K (t + 1 + 1 + 1 + 1 + 1) = 44 := k5
    replace k6 : K (t + 1 + 1 + 1 + 1 + 1 + 1) = 3 := k6
    replace k7 : K (t + 1 + 1 + 1 + 1 + 1 + 1 + 1) = 44 := k7
    replace k8 : K (t + 1 + 1 + 1 + 1 + 1 + 1 + 1 + 1) = 32 := k8
    replace v1 : V (t + 1) = nmV 115 (i) := v1 (wn_a _ _ _ rfl)
    replace v3 : V (t + 1 + 1 + 1) = Int64.ofNat (Δ 1 i) := v3 (wn_n _ _ (by omega))
    replace v5 : V (t + 1 + 1 + 1 + 1 + 1) = Int64.ofNat (Δ 2 i - 9) := v5 (wn_n _ _ (by omega))
    replace v7 : V (t + 1 + 1 + 1 + 1 + 1 + 1 + 1) = Int64.ofNat (Δ 3 i) := v7 (wn_n _ _ (by omega))
    have e : tkQ K 32 (lnst K (t, n, o, x, r)) = (true, (t + 1 + 1 + 1 + 1 + 1 + 1 + 1 + 1 + 1, n, o, x, uI (uI (uI (uI (r) (t + 1) 1) (t + 1 + 1 + 1) 6) (t + 1 + 1 + 1 + 1 + 1) 7) (t + 1 + 1 + 1 + 1 + 1 + 1 + 1) 8)) := by
      simp only [lnst, tkQ, tkR, opR, adv, rol, k0, k1, k2, k3, k4, k5, k6, k7, k8, reduceIte, and_self, and_true, true_and, and_false, Nat.reduceEqDiff]
    obtain ⟨rfl, rfl⟩ : q1 = tkQ K 32 (lnst K (t, n, o, x, r)) ∧ β1 = β := by
      rcases hL with ⟨z, a1, a2⟩ | ⟨z, a1, a2⟩ | ⟨z, a1, a2⟩ | ⟨z, -⟩ | ⟨z, -⟩ | ⟨z, -⟩
      · exact ⟨a1, a2⟩
      · exact absurd (k0.symm.trans z) (by decide)
      · exact absurd (k0.symm.trans z) (by decide)
      · exact absurd (k0.symm.trans z) (by decide)
      · exact absurd (k0.symm.trans z) (by decide)
      · exact absurd (Or.inl k0) z
    rw [e]
    refine ⟨⟨rfl, fun j hj => ?_, ?_⟩, rfl, ⟨rfl, rfl, rfl⟩, rfl⟩
    · change t + 1 + 1 + 1 + 1 + 1 + 1 + 1 + 1 + 1 ≤ j at hj
      show (uI (uI (uI (uI (r) (t + 1) 1) (t + 1 + 1 + 1) 6) (t + 1 + 1 + 1 + 1 + 1) 7) (t + 1 + 1 + 1 + 1 + 1 + 1 + 1) 8) j = 0
      unfold uI
      rw [if_neg (by omega), if_neg (by omega), if_neg (by omega), if_neg (by omega)]
      exact hz j (by omega)
    · show TI V S (uI (uI (uI (uI (r) (t + 1) 1) (t + 1 + 1 + 1) 6) (t + 1 + 1 + 1 + 1 + 1) 7) (t + 1 + 1 + 1 + 1 + 1 + 1 + 1) 8) (t + 1 + 1 + 1 + 1 + 1 + 1 + 1 + 1 + 1) (i + 1) b c h w _
      generalize hR : uI (uI (uI (uI (r) (t + 1) 1) (t + 1 + 1 + 1) 6) (t + 1 + 1 + 1 + 1 + 1) 7) (t + 1 + 1 + 1 + 1 + 1 + 1 + 1) 8 = R
      have hlo : ∀ j, j < t → R j = r j := fun j hj => by rw [← hR]; unfold uI; rw [if_neg (by omega), if_neg (by omega), if_neg (by omega), if_neg (by omega)]
      have r0 : R (t) = 0 := by rw [← hR]; unfold uI; rw [if_neg (by omega), if_neg (by omega), if_neg (by omega), if_neg (by omega)]; exact hz _ (by omega)
      have r1 : R (t + 1) = 1 := by rw [← hR]; unfold uI; rw [if_neg (by omega), if_neg (by omega), if_neg (by omega), if_pos rfl]
      have r2 : R (t + 1 + 1) = 0 := by rw [← hR]; unfold uI; rw [if_neg (by omega), if_neg (by omega), if_neg (by omega), if_neg (by omega)]; exact hz _ (by omega)
      have r3 : R (t + 1 + 1 + 1) = 6 := by rw [← hR]; unfold uI; rw [if_neg (by omega), if_neg (by omega), if_pos rfl]
      have r4 : R (t + 1 + 1 + 1 + 1) = 0 := by rw [← hR]; unfold uI; rw [if_neg (by omega), if_neg (by omega), if_neg (by omega), if_neg (by omega)]; exact hz _ (by omega)
      have r5 : R (t + 1 + 1 + 1 + 1 + 1) = 7 := by rw [← hR]; unfold uI; rw [if_neg (by omega), if_pos rfl]
      have r6 : R (t + 1 + 1 + 1 + 1 + 1 + 1) = 0 := by rw [← hR]; unfold uI; rw [if_neg (by omega), if_neg (by omega), if_neg (by omega), if_neg (by omega)]; exact hz _ (by omega)
      have r7 : R (t + 1 + 1 + 1 + 1 + 1 + 1 + 1) = 8 := by rw [← hR]; unfold uI; rw [if_pos rfl]
      have r8 : R (t + 1 + 1 + 1 + 1 + 1 + 1 + 1 + 1) = 0 := by rw [← hR]; unfold uI; rw [if_neg (by omega), if_neg (by omega), if_neg (by omega), if_neg (by omega)]; exact hz _ (by omega)
      have h0 := hT.cc hlo
      have h1 := h0.t0 r0
      have h2 := h1.t1 r1 v1 (by omega)
      have h3 := h2.t0 r2
      have h4 := h3.t6 r3 v3 (by omega)
      have h5 := h4.t0 r4
      have h6 := h5.t7p r5 v5 (by omega) r4
      have h7 := h6.t0 r6
      have h8 := h7.t8 r7 v7 (by omega)
      have h9 := h8.t0 r8
      rw [slp _ b1 cs] at h9
      exact h9
/-- a horse told -/
def dH (Δ : Nat → Nat → Nat) (D : RH) (i : Nat) : RH := if Δ 7 i = 1 then u2 (u2 (u2 (u2 D 11 i (nI (Δ 4 i))) 60 i (nI (Δ 5 i))) 61 i (nI (Δ 6 i))) 14 i 1 else u2 (u2 (u2 D 11 i (nI (Δ 4 i))) 60 i (nI (Δ 5 i))) 61 i (nI (Δ 6 i))
theorem ln_H {Δ : Nat → Nat → Nat} (ok : LDok Δ) {K : Nat → Nat} {V : Nat → Int64} {S : Nat → Int32} {vv : Nat → Int32} {q q1 : PQ} {β β1 : RH} {i a b c h w : Nat} {D : RH} (hi : i < Δ 0 4) (hP : PI V S q a i c h w D) (hA : AtL K V q.2.1 (plH Δ i)) (hL : LNr K vv q.2 β q1 β1) : PI V S q1 a (i + 1) c h w (dH Δ D i) ∧ q1.2.1 = q.2.1 + (plH Δ i).length ∧ (q1.2.2.1 = q.2.2.1 ∧ q1.2.2.2.1 = q.2.2.2.1 ∧ q1.2.2.2.2.1 = q.2.2.2.2.1) ∧ β1 = β := by
  obtain ⟨⟨o3, o4, o5, o6, o7⟩, ⟨o8, o9, o10⟩, ⟨o11, o12, o13, o14⟩, o15, -⟩ := ok
  have b0 := o11 i
  have b1 := o12 i
  have b2 := o13 i
  have b3 := o14 i
  obtain ⟨g, t, n, o, x, r⟩ := q
  obtain ⟨g1, hz, hT⟩ := hP
  change g = true at g1
  subst g1
  change ∀ i, t ≤ i → r i = 0 at hz
  change TI V S r t a i c h w D at hT
  change AtL K V t (plH Δ i) at hA
  change LNr K vv (t, n, o, x, r) β q1 β1 at hL
  unfold plH at hA ⊢
  split at hA
  · rename_i cs
    simp only [if_pos cs]
    obtain ⟨⟨k0, v0⟩, ⟨k1, v1⟩, ⟨k2, v2⟩, ⟨k3, v3⟩, ⟨k4, v4⟩, ⟨k5, v5⟩, ⟨k6, v6⟩, ⟨k7, v7⟩, ⟨k8, v8⟩, ⟨k9, v9⟩, -⟩ := hA
    replace k0 : K (t) = 4 := k0
    replace k1 : K (t + 1) = 43 := k1
    replace k2 : K (t + 1 + 1) = 5 := k2
    replace k3 : K (t + 1 + 1 + 1) = 44 := k3
    replace k4 : K (t + 1 + 1 + 1 + 1) = 6 := k4
    replace k5 : K (t + 1 + 1 + 1 + 1 + 1) = 44 := k5
    replace k6 : K (t + 1 + 1 + 1 + 1 + 1 + 1) = 7 := k6
    replace k7 : K (t + 1 + 1 + 1 + 1 + 1 + 1 + 1) = 44 := k7
    replace k8 : K (t + 1 + 1 + 1 + 1 + 1 + 1 + 1 + 1) = 8 := k8
    replace k9 : K (t + 1 + 1 + 1 + 1 + 1 + 1 + 1 + 1 + 1) = 32 := k9
    replace v1 : V (t + 1) = nmV 104 (i) := v1 (wn_a _ _ _ rfl)
    replace v3 : V (t + 1 + 1 + 1) = Int64.ofNat (Δ 4 i) := v3 (wn_n _ _ (by omega))
    replace v5 : V (t + 1 + 1 + 1 + 1 + 1) = Int64.ofNat (Δ 5 i) := v5 (wn_n _ _ (by omega))
    replace v7 : V (t + 1 + 1 + 1 + 1 + 1 + 1 + 1) = Int64.ofNat (Δ 6 i) := v7 (wn_n _ _ (by omega))
    have e : tkQ K 32 (lnho K (t, n, o, x, r)) = (true, (t + 1 + 1 + 1 + 1 + 1 + 1 + 1 + 1 + 1 + 1, n, o, x, uI (uI (uI (uI (uI (r) (t + 1) 2) (t + 1 + 1 + 1) 9) (t + 1 + 1 + 1 + 1 + 1) 10) (t + 1 + 1 + 1 + 1 + 1 + 1 + 1) 11) (t + 1 + 1 + 1 + 1 + 1 + 1 + 1 + 1) 12)) := by
      simp only [lnho, tkQ, tkR, opR, adv, rol, k0, k1, k2, k3, k4, k5, k6, k7, k8, k9, reduceIte, and_self, and_true, true_and, and_false, Nat.reduceEqDiff]
    obtain ⟨rfl, rfl⟩ : q1 = tkQ K 32 (lnho K (t, n, o, x, r)) ∧ β1 = β := by
      rcases hL with ⟨z, a1, a2⟩ | ⟨z, a1, a2⟩ | ⟨z, a1, a2⟩ | ⟨z, -⟩ | ⟨z, -⟩ | ⟨z, -⟩
      · exact absurd (k0.symm.trans z) (by decide)
      · exact ⟨a1, a2⟩
      · exact absurd (k0.symm.trans z) (by decide)
      · exact absurd (k0.symm.trans z) (by decide)
      · exact absurd (k0.symm.trans z) (by decide)
      · exact absurd (Or.inr (Or.inl k0)) z
    rw [e]
    refine ⟨⟨rfl, fun j hj => ?_, ?_⟩, rfl, ⟨rfl, rfl, rfl⟩, rfl⟩
    · change t + 1 + 1 + 1 + 1 + 1 + 1 + 1 + 1 + 1 + 1 ≤ j at hj
      show (uI (uI (uI (uI (uI (r) (t + 1) 2) (t + 1 + 1 + 1) 9) (t + 1 + 1 + 1 + 1 + 1) 10) (t + 1 + 1 + 1 + 1 + 1 + 1 + 1) 11) (t + 1 + 1 + 1 + 1 + 1 + 1 + 1 + 1) 12) j = 0
      unfold uI
      rw [if_neg (by omega), if_neg (by omega), if_neg (by omega), if_neg (by omega), if_neg (by omega)]
      exact hz j (by omega)
    · show TI V S (uI (uI (uI (uI (uI (r) (t + 1) 2) (t + 1 + 1 + 1) 9) (t + 1 + 1 + 1 + 1 + 1) 10) (t + 1 + 1 + 1 + 1 + 1 + 1 + 1) 11) (t + 1 + 1 + 1 + 1 + 1 + 1 + 1 + 1) 12) (t + 1 + 1 + 1 + 1 + 1 + 1 + 1 + 1 + 1 + 1) a (i + 1) c h w _
      generalize hR : uI (uI (uI (uI (uI (r) (t + 1) 2) (t + 1 + 1 + 1) 9) (t + 1 + 1 + 1 + 1 + 1) 10) (t + 1 + 1 + 1 + 1 + 1 + 1 + 1) 11) (t + 1 + 1 + 1 + 1 + 1 + 1 + 1 + 1) 12 = R
      have hlo : ∀ j, j < t → R j = r j := fun j hj => by rw [← hR]; unfold uI; rw [if_neg (by omega), if_neg (by omega), if_neg (by omega), if_neg (by omega), if_neg (by omega)]
      have r0 : R (t) = 0 := by rw [← hR]; unfold uI; rw [if_neg (by omega), if_neg (by omega), if_neg (by omega), if_neg (by omega), if_neg (by omega)]; exact hz _ (by omega)
      have r1 : R (t + 1) = 2 := by rw [← hR]; unfold uI; rw [if_neg (by omega), if_neg (by omega), if_neg (by omega), if_neg (by omega), if_pos rfl]
      have r2 : R (t + 1 + 1) = 0 := by rw [← hR]; unfold uI; rw [if_neg (by omega), if_neg (by omega), if_neg (by omega), if_neg (by omega), if_neg (by omega)]; exact hz _ (by omega)
      have r3 : R (t + 1 + 1 + 1) = 9 := by rw [← hR]; unfold uI; rw [if_neg (by omega), if_neg (by omega), if_neg (by omega), if_pos rfl]
      have r4 : R (t + 1 + 1 + 1 + 1) = 0 := by rw [← hR]; unfold uI; rw [if_neg (by omega), if_neg (by omega), if_neg (by omega), if_neg (by omega), if_neg (by omega)]; exact hz _ (by omega)
      have r5 : R (t + 1 + 1 + 1 + 1 + 1) = 10 := by rw [← hR]; unfold uI; rw [if_neg (by omega), if_neg (by omega), if_pos rfl]
      have r6 : R (t + 1 + 1 + 1 + 1 + 1 + 1) = 0 := by rw [← hR]; unfold uI; rw [if_neg (by omega), if_neg (by omega), if_neg (by omega), if_neg (by omega), if_neg (by omega)]; exact hz _ (by omega)
      have r7 : R (t + 1 + 1 + 1 + 1 + 1 + 1 + 1) = 11 := by rw [← hR]; unfold uI; rw [if_neg (by omega), if_pos rfl]
      have r8 : R (t + 1 + 1 + 1 + 1 + 1 + 1 + 1 + 1) = 12 := by rw [← hR]; unfold uI; rw [if_pos rfl]
      have r9 : R (t + 1 + 1 + 1 + 1 + 1 + 1 + 1 + 1 + 1) = 0 := by rw [← hR]; unfold uI; rw [if_neg (by omega), if_neg (by omega), if_neg (by omega), if_neg (by omega), if_neg (by omega)]; exact hz _ (by omega)
      have h0 := hT.cc hlo
      have h1 := h0.t0 r0
      have h2 := h1.t2 r1 v1 (by omega)
      have h3 := h2.t0 r2
      have h4 := h3.t9 r3 v3 (by omega)
      have h5 := h4.t0 r4
      have h6 := h5.t10 r5 v5 (by omega)
      have h7 := h6.t0 r6
      have h8 := h7.t11 r7 v7 (by omega)
      have h9 := h8.t12 r8
      have h10 := h9.t0 r9
      rw [dH, if_pos cs]
      exact h10
  · rename_i cs
    simp only [if_neg cs]
    obtain ⟨⟨k0, v0⟩, ⟨k1, v1⟩, ⟨k2, v2⟩, ⟨k3, v3⟩, ⟨k4, v4⟩, ⟨k5, v5⟩, ⟨k6, v6⟩, ⟨k7, v7⟩, ⟨k8, v8⟩, -⟩ := hA
    replace k0 : K (t) = 4 := k0
    replace k1 : K (t + 1) = 43 := k1
    replace k2 : K (t + 1 + 1) = 5 := k2
    replace k3 : K (t + 1 + 1 + 1) = 44 := k3
    replace k4 : K (t + 1 + 1 + 1 + 1) = 6 := k4
    replace k5 : K (t + 1 + 1 + 1 + 1 + 1) = 44 := k5
    replace k6 : K (t + 1 + 1 + 1 + 1 + 1 + 1) = 7 := k6
    replace k7 : K (t + 1 + 1 + 1 + 1 + 1 + 1 + 1) = 44 := k7
    replace k8 : K (t + 1 + 1 + 1 + 1 + 1 + 1 + 1 + 1) = 32 := k8
    replace v1 : V (t + 1) = nmV 104 (i) := v1 (wn_a _ _ _ rfl)
    replace v3 : V (t + 1 + 1 + 1) = Int64.ofNat (Δ 4 i) := v3 (wn_n _ _ (by omega))
    replace v5 : V (t + 1 + 1 + 1 + 1 + 1) = Int64.ofNat (Δ 5 i) := v5 (wn_n _ _ (by omega))
    replace v7 : V (t + 1 + 1 + 1 + 1 + 1 + 1 + 1) = Int64.ofNat (Δ 6 i) := v7 (wn_n _ _ (by omega))
    have e : tkQ K 32 (lnho K (t, n, o, x, r)) = (true, (t + 1 + 1 + 1 + 1 + 1 + 1 + 1 + 1 + 1, n, o, x, uI (uI (uI (uI (r) (t + 1) 2) (t + 1 + 1 + 1) 9) (t + 1 + 1 + 1 + 1 + 1) 10) (t + 1 + 1 + 1 + 1 + 1 + 1 + 1) 11)) := by
      simp only [lnho, tkQ, tkR, opR, adv, rol, k0, k1, k2, k3, k4, k5, k6, k7, k8, reduceIte, and_self, and_true, true_and, and_false, Nat.reduceEqDiff]
    obtain ⟨rfl, rfl⟩ : q1 = tkQ K 32 (lnho K (t, n, o, x, r)) ∧ β1 = β := by
      rcases hL with ⟨z, a1, a2⟩ | ⟨z, a1, a2⟩ | ⟨z, a1, a2⟩ | ⟨z, -⟩ | ⟨z, -⟩ | ⟨z, -⟩
      · exact absurd (k0.symm.trans z) (by decide)
      · exact ⟨a1, a2⟩
      · exact absurd (k0.symm.trans z) (by decide)
      · exact absurd (k0.symm.trans z) (by decide)
      · exact absurd (k0.symm.trans z) (by decide)
      · exact absurd (Or.inr (Or.inl k0)) z
    rw [e]
    refine ⟨⟨rfl, fun j hj => ?_, ?_⟩, rfl, ⟨rfl, rfl, rfl⟩, rfl⟩
    · change t + 1 + 1 + 1 + 1 + 1 + 1 + 1 + 1 + 1 ≤ j at hj
      show (uI (uI (uI (uI (r) (t + 1) 2) (t + 1 + 1 + 1) 9) (t + 1 + 1 + 1 + 1 + 1) 10) (t + 1 + 1 + 1 + 1 + 1 + 1 + 1) 11) j = 0
      unfold uI
      rw [if_neg (by omega), if_neg (by omega), if_neg (by omega), if_neg (by omega)]
      exact hz j (by omega)
    · show TI V S (uI (uI (uI (uI (r) (t + 1) 2) (t + 1 + 1 + 1) 9) (t + 1 + 1 + 1 + 1 + 1) 10) (t + 1 + 1 + 1 + 1 + 1 + 1 + 1) 11) (t + 1 + 1 + 1 + 1 + 1 + 1 + 1 + 1 + 1) a (i + 1) c h w _
      generalize hR : uI (uI (uI (uI (r) (t + 1) 2) (t + 1 + 1 + 1) 9) (t + 1 + 1 + 1 + 1 + 1) 10) (t + 1 + 1 + 1 + 1 + 1 + 1 + 1) 11 = R
      have hlo : ∀ j, j < t → R j = r j := fun j hj => by rw [← hR]; unfold uI; rw [if_neg (by omega), if_neg (by omega), if_neg (by omega), if_neg (by omega)]
      have r0 : R (t) = 0 := by rw [← hR]; unfold uI; rw [if_neg (by omega), if_neg (by omega), if_neg (by omega), if_neg (by omega)]; exact hz _ (by omega)
      have r1 : R (t + 1) = 2 := by rw [← hR]; unfold uI; rw [if_neg (by omega), if_neg (by omega), if_neg (by omega), if_pos rfl]
      have r2 : R (t + 1 + 1) = 0 := by rw [← hR]; unfold uI; rw [if_neg (by omega), if_neg (by omega), if_neg (by omega), if_neg (by omega)]; exact hz _ (by omega)
      have r3 : R (t + 1 + 1 + 1) = 9 := by rw [← hR]; unfold uI; rw [if_neg (by omega), if_neg (by omega), if_pos rfl]
      have r4 : R (t + 1 + 1 + 1 + 1) = 0 := by rw [← hR]; unfold uI; rw [if_neg (by omega), if_neg (by omega), if_neg (by omega), if_neg (by omega)]; exact hz _ (by omega)
      have r5 : R (t + 1 + 1 + 1 + 1 + 1) = 10 := by rw [← hR]; unfold uI; rw [if_neg (by omega), if_pos rfl]
      have r6 : R (t + 1 + 1 + 1 + 1 + 1 + 1) = 0 := by rw [← hR]; unfold uI; rw [if_neg (by omega), if_neg (by omega), if_neg (by omega), if_neg (by omega)]; exact hz _ (by omega)
      have r7 : R (t + 1 + 1 + 1 + 1 + 1 + 1 + 1) = 11 := by rw [← hR]; unfold uI; rw [if_pos rfl]
      have r8 : R (t + 1 + 1 + 1 + 1 + 1 + 1 + 1 + 1) = 0 := by rw [← hR]; unfold uI; rw [if_neg (by omega), if_neg (by omega), if_neg (by omega), if_neg (by omega)]; exact hz _ (by omega)
      have h0 := hT.cc hlo
      have h1 := h0.t0 r0
      have h2 := h1.t2 r1 v1 (by omega)
      have h3 := h2.t0 r2
      have h4 := h3.t9 r3 v3 (by omega)
      have h5 := h4.t0 r4
      have h6 := h5.t10 r5 v5 (by omega)
      have h7 := h6.t0 r6
      have h8 := h7.t11 r7 v7 (by omega)
      have h9 := h8.t0 r8
      rw [dH, if_neg cs]
      exact h9
theorem ln_G {Δ : Nat → Nat → Nat} (ok : LDok Δ) {K : Nat → Nat} {V : Nat → Int64} {S : Nat → Int32} {vv : Nat → Int32} {q q1 : PQ} {β β1 : RH} {i a b c h w : Nat} {D : RH} (hi : i < Δ 0 5) (hP : PI V S q a b i h w D) (hA : AtL K V q.2.1 (plG Δ i)) (hL : LNr K vv q.2 β q1 β1) : PI V S q1 a b (i + 1) h w (u2 D 31 i (nI (Δ 8 i))) ∧ q1.2.1 = q.2.1 + (plG Δ i).length ∧ (q1.2.2.1 = q.2.2.1 ∧ q1.2.2.2.1 = q.2.2.2.1 ∧ q1.2.2.2.2.1 = q.2.2.2.2.1) ∧ β1 = β := by
  obtain ⟨⟨o3, o4, o5, o6, o7⟩, ⟨o8, o9, o10⟩, ⟨o11, o12, o13, o14⟩, o15, -⟩ := ok
  have b0 := o15 i
  obtain ⟨g, t, n, o, x, r⟩ := q
  obtain ⟨g1, hz, hT⟩ := hP
  change g = true at g1
  subst g1
  change ∀ i, t ≤ i → r i = 0 at hz
  change TI V S r t a b i h w D at hT
  change AtL K V t (plG Δ i) at hA
  change LNr K vv (t, n, o, x, r) β q1 β1 at hL
  unfold plG at hA ⊢
  obtain ⟨⟨k0, v0⟩, ⟨k1, v1⟩, ⟨k2, v2⟩, ⟨k3, v3⟩, ⟨k4, v4⟩, -⟩ := hA
  replace k0 : K (t) = 9 := k0
  replace k1 : K (t + 1) = 43 := k1
  replace k2 : K (t + 1 + 1) = 10 := k2
  replace k3 : K (t + 1 + 1 + 1) = 44 := k3
  replace k4 : K (t + 1 + 1 + 1 + 1) = 32 := k4
  replace v1 : V (t + 1) = nmV 103 (i) := v1 (wn_a _ _ _ rfl)
  replace v3 : V (t + 1 + 1 + 1) = Int64.ofNat (Δ 8 i) := v3 (wn_n _ _ (by omega))
  have e : tkQ K 32 (lnlo K (t, n, o, x, r)) = (true, (t + 1 + 1 + 1 + 1 + 1, n, o, x, uI (uI (r) (t + 1) 3) (t + 1 + 1 + 1) 13)) := by
    simp only [lnlo, tkQ, tkR, opR, adv, rol, k0, k1, k2, k3, k4, reduceIte, and_self, and_true, true_and, and_false, Nat.reduceEqDiff]
  obtain ⟨rfl, rfl⟩ : q1 = tkQ K 32 (lnlo K (t, n, o, x, r)) ∧ β1 = β := by
    rcases hL with ⟨z, a1, a2⟩ | ⟨z, a1, a2⟩ | ⟨z, a1, a2⟩ | ⟨z, -⟩ | ⟨z, -⟩ | ⟨z, -⟩
    · exact absurd (k0.symm.trans z) (by decide)
    · exact absurd (k0.symm.trans z) (by decide)
    · exact ⟨a1, a2⟩
    · exact absurd (k0.symm.trans z) (by decide)
    · exact absurd (k0.symm.trans z) (by decide)
    · exact absurd (Or.inr (Or.inr (Or.inl k0))) z
  rw [e]
  refine ⟨⟨rfl, fun j hj => ?_, ?_⟩, rfl, ⟨rfl, rfl, rfl⟩, rfl⟩
  · change t + 1 + 1 + 1 + 1 + 1 ≤ j at hj
    show (uI (uI (r) (t + 1) 3) (t + 1 + 1 + 1) 13) j = 0
    unfold uI
    rw [if_neg (by omega), if_neg (by omega)]
    exact hz j (by omega)
  · show TI V S (uI (uI (r) (t + 1) 3) (t + 1 + 1 + 1) 13) (t + 1 + 1 + 1 + 1 + 1) a b (i + 1) h w _
    generalize hR : uI (uI (r) (t + 1) 3) (t + 1 + 1 + 1) 13 = R
    have hlo : ∀ j, j < t → R j = r j := fun j hj => by rw [← hR]; unfold uI; rw [if_neg (by omega), if_neg (by omega)]
    have r0 : R (t) = 0 := by rw [← hR]; unfold uI; rw [if_neg (by omega), if_neg (by omega)]; exact hz _ (by omega)
    have r1 : R (t + 1) = 3 := by rw [← hR]; unfold uI; rw [if_neg (by omega), if_pos rfl]
    have r2 : R (t + 1 + 1) = 0 := by rw [← hR]; unfold uI; rw [if_neg (by omega), if_neg (by omega)]; exact hz _ (by omega)
    have r3 : R (t + 1 + 1 + 1) = 13 := by rw [← hR]; unfold uI; rw [if_pos rfl]
    have r4 : R (t + 1 + 1 + 1 + 1) = 0 := by rw [← hR]; unfold uI; rw [if_neg (by omega), if_neg (by omega)]; exact hz _ (by omega)
    have h0 := hT.cc hlo
    have h1 := h0.t0 r0
    have h2 := h1.t3 r1 v1 (by omega)
    have h3 := h2.t0 r2
    have h4 := h3.t13 r3 v3 (by omega)
    have h5 := h4.t0 r4
    exact h5
