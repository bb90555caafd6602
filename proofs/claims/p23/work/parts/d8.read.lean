/-! the whole list read -/
section LSC2
variable {K : Nat → Nat} {vv : Nat → Int32} {q q' : PQ} {β β' : RH} {s : PS}
theorem tkR_c {k : Nat} {x : Int32} (z : (tkR K k x q).1 = true) : q.1 = true ∧ (tkR K k x q).2.1 = q.2.1 + 1 ∧ (tkR K k x q).2.2.1 = q.2.2.1 := by
  obtain ⟨h1, -, h3⟩ := tkR_t z
  rw [h3]; exact ⟨h1, rfl, rfl⟩
theorem lnhq_c (z : (lnhq K s).1 = true) : SCq (true, s) (lnhq K s) := by
  unfold lnhq at z ⊢
  obtain ⟨z1, e1, e2⟩ := tkQ_c z
  obtain ⟨z3, e3, e4⟩ := tkR_c z1
  unfold SCq
  rw [e1, e2, e3, e4]
  show s.2.1 + s.1 ≤ s.2.1 + (s.1 + 1 + 1 + 1); omega
theorem lnwq_c (z : (lnwq K s).1 = true) : SCq (true, s) (lnwq K s) := by
  unfold lnwq at z ⊢
  obtain ⟨z1, e1, e2⟩ := tkQ_c z
  obtain ⟨z3, e3, e4⟩ := tkR_c z1
  obtain ⟨z5, e5, e6⟩ := tkQ_c z3
  obtain ⟨z7, e7, e8⟩ := tkR_c z5
  unfold SCq
  rw [e1, e2, e3, e4, e5, e6, e7, e8]
  show s.2.1 + s.1 ≤ s.2.1 + (s.1 + 1 + 1 + 1 + 1 + 1); omega
theorem LNr.cnt (h : LNr K vv s β q' β') (z : q'.1 = true) : SCq (true, s) q' := by
  rcases h with ⟨-, rfl, -⟩ | ⟨-, rfl, -⟩ | ⟨-, rfl, -⟩ | ⟨-, q1, ⟨q4, p1, p2, -⟩, rfl⟩ | ⟨-, q1, ⟨p1, -⟩, rfl⟩ | ⟨-, rfl, -⟩
  · obtain ⟨z1, e1, e2⟩ := tkQ_c z
    have x := lnst_x z1
    unfold SCq; rw [e1, e2, x.2.1]
    have := x.1
    show s.2.1 + s.1 ≤ s.2.1 + _; omega
  · obtain ⟨z1, e1, e2⟩ := tkQ_c z
    have x := lnho_x z1
    unfold SCq; rw [e1, e2, x.2.1]
    have := x.1
    show s.2.1 + s.1 ≤ s.2.1 + _; omega
  · obtain ⟨z1, e1, e2⟩ := tkQ_c z
    have x := lnlo_x z1
    unfold SCq; rw [e1, e2, x.2.1]
    have := x.1
    show s.2.1 + s.1 ≤ s.2.1 + _; omega
  · obtain ⟨z1, e1, e2⟩ := tkQ_c z
    have h4 : q4.1 = true ∧ SCq q4 q1 := by
      rcases p2 with ⟨g1, -, g3⟩ | ⟨-, g3⟩
      · have := (g3.cnt z1).2
        refine ⟨g1, ?_⟩
        change q1.2.2.1 + (q4.2.1 + 1) ≤ q4.2.2.1 + q1.2.1 at this
        unfold SCq; omega
      · subst g3; exact ⟨z1, Nat.le_refl _⟩
    obtain ⟨b1, b2⟩ := p1.cnt h4.1
    have b3 := lnhq_c b1
    have h5 := h4.2
    unfold SCq at *
    rw [e1, e2]; omega
  · obtain ⟨z1, e1, e2⟩ := tkQ_c z
    obtain ⟨b1, b2⟩ := p1.cnt z1
    have b3 := lnwq_c b1
    unfold SCq at *
    rw [e1, e2]; omega
  · exact absurd z (by simp)
theorem LSr.cnt (h : LSr K vv q β q' β') : q'.1 = true → q.1 = true ∧ SCq q q' := by
  refine h (fun q _ q' _ => q'.1 = true → q.1 = true ∧ SCq q q') ⟨fun s β z => absurd z (by simp), fun s β e z => ⟨rfl, Nat.le_refl _⟩, fun s β q1 β1 q2 β2 e45 hl g z => ⟨rfl, ?_⟩⟩
  obtain ⟨z1, g2⟩ := g z
  have := hl.cnt z1
  unfold SCq at *; omega
end LSC2
/-- what the told numbers are -/
def DX (Δ : Nat → Nat → Nat) (D : RH) (a b c h w : Nat) : Prop := (∀ i, i < a → D 41 i = nI (Δ 1 i) ∧ D 42 i = nI (Δ 2 i) - 9 ∧ D 63 i = nI (Δ 3 i)) ∧
  (∀ i, i < b → D 11 i = nI (Δ 4 i) ∧ D 60 i = nI (Δ 5 i) ∧ D 61 i = nI (Δ 6 i) ∧ D 14 i = nI (Δ 7 i)) ∧ (∀ i, b ≤ i → D 14 i = 0) ∧ (∀ i, i < c → D 31 i = nI (Δ 8 i)) ∧ (∀ i, i < h → D 50 i = nI (i % Δ 0 4)) ∧ ∀ i, i < w → D 55 i = nI (Δ 15 i) ∧ D 56 i = nI (Δ 16 i)
def LSt (Δ : Nat → Nat → Nat) (cn : Nat → Nat) (V : Nat → Int64) (S : Nat → Int32) (a b c h w N : Nat) (q : PQ) (β : RH) : Prop := ∃ D, PI V S q a b c h w D ∧ DX Δ D a b c h w ∧ q.2.2.1 ≤ N ∧ (∀ i, i < h → HSi cn Δ V q β i) ∧ ∀ i, i < w → WSi cn Δ V q β i
section WLK
variable {K : Nat → Nat} {V : Nat → Int64} {S : Nat → Int32} {vv : Nat → Int32} {Δ : Nat → Nat → Nat} {cn : Nat → Nat} {q q1 q' : PQ} {β β1 β' : RH} {i a b c h w N : Nat}
theorem AtL.cat {F : Nat → List Pc} {k : Nat} : ∀ {t : Nat}, AtL K V t (catP F k) → ∀ j, j < k → AtL K V (t + (catP F j).length) (F j) := by
  induction k with
  | zero => intro t h j hj; exact absurd hj (Nat.not_lt_zero _)
  | succ k ih =>
    intro t h j hj
    rw [catP, AtL.app] at h
    by_cases e : j = k
    · subst e; exact h.2
    · exact ih h.1 j (by omega)
/-- line after line -/
theorem walkF {F : Nat → List Pc} {P : Nat → PQ → RH → Prop} (k : Nat) (h1 : ∀ i q β, i ≤ k → P i q β → q.1 = true) (h45 : ∀ i t, i < k → AtL K V t (F i) → ¬ K t = 45)
    (hs : ∀ i q β q1 β1, i < k → P i q β → AtL K V q.2.1 (F i) → LNr K vv q.2 β q1 β1 → P (i + 1) q1 β1 ∧ q1.2.1 = q.2.1 + (F i).length) (hP : P 0 q β) (hA : AtL K V q.2.1 (catP F k)) (hL : LSr K vv q β q' β') :
    ∃ q2 β2, P k q2 β2 ∧ q2.2.1 = q.2.1 + (catP F k).length ∧ LSr K vv q2 β2 q' β' := by
  have key : ∀ j, j ≤ k → ∃ q2 β2, P j q2 β2 ∧ q2.2.1 = q.2.1 + (catP F j).length ∧ LSr K vv q2 β2 q' β' := by
    intro j
    induction j with
    | zero => intro _; exact ⟨q, β, hP, rfl, hL⟩
    | succ j ih =>
      intro hj
      obtain ⟨⟨g, s⟩, β2, p1, p2, p3⟩ := ih (by omega)
      have hg : g = true := h1 j _ _ (by omega) p1
      subst hg
      have hAj := AtL.cat hA j (by omega)
      rw [← p2] at hAj
      obtain ⟨q1, β1, l1, l2⟩ := (p3.inv).2 (h45 j _ (by omega) hAj)
      obtain ⟨n1, n2⟩ := hs j _ _ _ _ (by omega) p1 hAj l1
      exact ⟨q1, β1, n1, by rw [n2, p2, catP, List.length_append]; omega, l2⟩
  exact key k (Nat.le_refl _)
theorem LSt.g (h : LSt Δ cn V S a b c h w N q β) : q.1 = true := by obtain ⟨D, h1, -⟩ := h; exact h1.1
theorem LSt.T (ok : LDok Δ) (hi : i < Δ 0 3) (h : LSt Δ cn V S i 0 0 0 0 N q β) (hA : AtL K V q.2.1 (plT Δ i)) (hL : LNr K vv q.2 β q1 β1) : LSt Δ cn V S (i + 1) 0 0 0 0 N q1 β1 ∧ q1.2.1 = q.2.1 + (plT Δ i).length := by
  obtain ⟨D, h1, ⟨d1, d2, d3, d4, d5, d6⟩, h3, h4, h5⟩ := h
  obtain ⟨g1, g2, ⟨g3, g4, g5⟩, g6⟩ := ln_T (a := 0) ok hi h1 hA hL
  refine ⟨⟨_, g1, ⟨fun j hj => ?_, fun j hj => absurd hj (Nat.not_lt_zero _), fun j hj => ?_, fun j hj => absurd hj (Nat.not_lt_zero _), fun j hj => absurd hj (Nat.not_lt_zero _), fun j hj => absurd hj (Nat.not_lt_zero _)⟩, by rw [g3]; exact h3, fun j hj => absurd hj (Nat.not_lt_zero _), fun j hj => absurd hj (Nat.not_lt_zero _)⟩, g2⟩
  · by_cases e : j = i
    · subst e; simp [u2]
    · have := d1 j (by omega); simpa [u2, e] using this
  · have := d3 j hj; simpa [u2] using this
theorem LSt.H (ok : LDok Δ) (hi : i < Δ 0 4) (h : LSt Δ cn V S (Δ 0 3) i 0 0 0 N q β) (hA : AtL K V q.2.1 (plH Δ i)) (hL : LNr K vv q.2 β q1 β1) : LSt Δ cn V S (Δ 0 3) (i + 1) 0 0 0 N q1 β1 ∧ q1.2.1 = q.2.1 + (plH Δ i).length := by
  obtain ⟨D, h1, ⟨d1, d2, d3, d4, d5, d6⟩, h3, h4, h5⟩ := h
  obtain ⟨g1, g2, ⟨g3, g4, g5⟩, g6⟩ := ln_H (b := 0) ok hi h1 hA hL
  have b7 := ok.2.2.1.2.2.2 i
  have z14 := d3 i (Nat.le_refl _)
  refine ⟨⟨_, g1, ⟨fun j hj => ?_, fun j hj => ?_, fun j hj => ?_, fun j hj => absurd hj (Nat.not_lt_zero _), fun j hj => absurd hj (Nat.not_lt_zero _), fun j hj => absurd hj (Nat.not_lt_zero _)⟩, by rw [g3]; exact h3, fun j hj => absurd hj (Nat.not_lt_zero _), fun j hj => absurd hj (Nat.not_lt_zero _)⟩, g2⟩
  · have := d1 j hj
    unfold dH; split <;> simpa [u2] using this
  · by_cases e : j = i
    · subst e
      unfold dH
      by_cases c7 : Δ 7 j = 1
      · rw [if_pos c7, c7]; refine ⟨?_, ?_, ?_, ?_⟩ <;> simp [u2]; rfl
      · rw [if_neg c7, show Δ 7 j = 0 by omega]; refine ⟨?_, ?_, ?_, ?_⟩ <;> simp [u2]; exact z14
    · have := d2 j (by omega)
      unfold dH; split <;> simpa [u2, e] using this
  · have := d3 j (by omega)
    unfold dH
    split
    · simpa [u2, show ¬ j = i by omega] using this
    · simpa [u2] using this
theorem LSt.G (ok : LDok Δ) (hi : i < Δ 0 5) (h : LSt Δ cn V S (Δ 0 3) (Δ 0 4) i 0 0 N q β) (hA : AtL K V q.2.1 (plG Δ i)) (hL : LNr K vv q.2 β q1 β1) : LSt Δ cn V S (Δ 0 3) (Δ 0 4) (i + 1) 0 0 N q1 β1 ∧ q1.2.1 = q.2.1 + (plG Δ i).length := by
  obtain ⟨D, h1, ⟨d1, d2, d3, d4, d5, d6⟩, h3, h4, h5⟩ := h
  obtain ⟨g1, g2, ⟨g3, g4, g5⟩, g6⟩ := ln_G (c := 0) ok hi h1 hA hL
  refine ⟨⟨_, g1, ⟨fun j hj => ?_, fun j hj => ?_, fun j hj => ?_, fun j hj => ?_, fun j hj => absurd hj (Nat.not_lt_zero _), fun j hj => absurd hj (Nat.not_lt_zero _)⟩, by rw [g3]; exact h3, fun j hj => absurd hj (Nat.not_lt_zero _), fun j hj => absurd hj (Nat.not_lt_zero _)⟩, g2⟩
  · have := d1 j hj; simpa [u2] using this
  · have := d2 j hj; simpa [u2] using this
  · have := d3 j hj; simpa [u2] using this
  · by_cases e : j = i
    · subst e; simp [u2]
    · have := d4 j (by omega); simpa [u2, e] using this
theorem LSt.kk (ok : LDok Δ) (hvv : ∀ t, vv t = (V t).toInt32) (hc3 : cn 3 = Δ 0 3) (hc4 : cn 4 = Δ 0 4) (hi : i < Δ 0 6) (ht : q.2.1 < 600 ∧ N < 600) (h : LSt Δ cn V S (Δ 0 3) (Δ 0 4) (Δ 0 5) i 0 N q β) (hA : AtL K V q.2.1 (plK Δ i)) (hL : LNr K vv q.2 β q1 β1) : LSt Δ cn V S (Δ 0 3) (Δ 0 4) (Δ 0 5) (i + 1) 0 (N + 24) q1 β1 ∧ q1.2.1 = q.2.1 + (plK Δ i).length := by
  obtain ⟨D, h1, ⟨d1, d2, d3, d4, d5, d6⟩, h3, h4, h5⟩ := h
  obtain ⟨g1, g2, g3, g4, g5, g6⟩ := ln_K ok hvv hc3 hc4 hi h1 ⟨ht.1, by omega⟩ hA hL
  refine ⟨⟨_, g1, ⟨fun j hj => ?_, fun j hj => ?_, fun j hj => ?_, fun j hj => ?_, fun j hj => ?_, fun j hj => absurd hj (Nat.not_lt_zero _)⟩, by omega, fun j hj => ?_, fun j hj => absurd hj (Nat.not_lt_zero _)⟩, g2⟩
  · have := d1 j hj; simpa [u2] using this
  · have := d2 j hj; simpa [u2] using this
  · have := d3 j hj; simpa [u2] using this
  · have := d4 j hj; simpa [u2] using this
  · by_cases e : j = i
    · subst e; simp [u2]
    · have := d5 j (by omega); simpa [u2, e] using this
  · by_cases e : j = i
    · subst e; exact g6
    · exact (h4 j (by omega)).mv g4 (fun f f1 f2 => g5 f j (by omega))
theorem LSt.W (ok : LDok Δ) (hvv : ∀ t, vv t = (V t).toInt32) (hc3 : cn 3 = Δ 0 3) (hc4 : cn 4 = Δ 0 4) (hi : i < Δ 0 7) (ht : q.2.1 < 600 ∧ N < 600) (h : LSt Δ cn V S (Δ 0 3) (Δ 0 4) (Δ 0 5) (Δ 0 6) i N q β) (hA : AtL K V q.2.1 (plW Δ i)) (hL : LNr K vv q.2 β q1 β1) : LSt Δ cn V S (Δ 0 3) (Δ 0 4) (Δ 0 5) (Δ 0 6) (i + 1) (N + 12) q1 β1 ∧ q1.2.1 = q.2.1 + (plW Δ i).length := by
  obtain ⟨D, h1, ⟨d1, d2, d3, d4, d5, d6⟩, h3, h4, h5⟩ := h
  obtain ⟨g1, g2, g3, g4, g5, g6⟩ := ln_W ok hvv hc3 hc4 hi h1 ⟨ht.1, by omega⟩ hA hL
  refine ⟨⟨_, g1, ⟨fun j hj => ?_, fun j hj => ?_, fun j hj => ?_, fun j hj => ?_, fun j hj => ?_, fun j hj => ?_⟩, by omega, fun j hj => ?_, fun j hj => ?_⟩, g2⟩
  · have := d1 j hj; simpa [u2] using this
  · have := d2 j hj; simpa [u2] using this
  · have := d3 j hj; simpa [u2] using this
  · have := d4 j hj; simpa [u2] using this
  · have := d5 j hj; simpa [u2] using this
  · by_cases e : j = i
    · subst e; simp [u2]
    · have := d6 j (by omega); simpa [u2, e] using this
  · exact (h4 j hj).mv g4 (fun f f1 f2 => g5 f j (by omega))
  · by_cases e : j = i
    · subst e; exact g6
    · exact (h5 j (by omega)).mv g4 (fun f f1 f2 => g5 f j (by omega))
theorem catP_mono {F : Nat → List Pc} {j k : Nat} (h : j ≤ k) : (catP F j).length ≤ (catP F k).length := by
  induction k with
  | zero => rw [show j = 0 by omega]; exact Nat.le_refl _
  | succ k ih =>
    by_cases e : j = k + 1
    · rw [e]; exact Nat.le_refl _
    · have := ih (by omega)
      rw [catP, List.length_append]; omega
/-- the whole list read -/
theorem list_read (ok : LDok Δ) (hvv : ∀ t, vv t = (V t).toInt32) (hc3 : cn 3 = Δ 0 3) (hc4 : cn 4 = Δ 0 4) (hA : AtL K V 0 (plX Δ)) (h45 : K (plX Δ).length = 45) (hL : LSr K vv pq0 be0 q' β') : LSt Δ cn V S (Δ 0 3) (Δ 0 4) (Δ 0 5) (Δ 0 6) (Δ 0 7) 156 q' β' ∧ q'.2.1 = (plX Δ).length := by
  have hlen := plX_len ok
  obtain ⟨⟨o3, o4, o5, o6, o7⟩, -⟩ := id ok
  have el : (plX Δ).length = ((((catP (plT Δ) (Δ 0 3)).length + (catP (plH Δ) (Δ 0 4)).length) + (catP (plG Δ) (Δ 0 5)).length) + (catP (plK Δ) (Δ 0 6)).length) + (catP (plW Δ) (Δ 0 7)).length := by
    unfold plX; simp only [List.length_append]
  unfold plX at hA
  rw [AtL.app, AtL.app, AtL.app, AtL.app] at hA
  obtain ⟨⟨⟨⟨aT, aH⟩, aG⟩, aK⟩, aW⟩ := hA
  simp only [List.length_append] at aH aG aK aW
  have P0 : LSt Δ cn V S 0 0 0 0 0 0 pq0 be0 := ⟨fun _ _ => 0, ⟨rfl, fun _ _ => rfl, rfl, ⟨fun n hn => (if_neg (Nat.not_lt_zero _)).symm, fun n hn => (if_neg (Nat.not_lt_zero _)).symm, fun n hn => (if_neg (Nat.not_lt_zero _)).symm⟩, rfl, rfl, rfl, rfl, rfl, rfl⟩, ⟨fun j hj => absurd hj (Nat.not_lt_zero _), fun j hj => absurd hj (Nat.not_lt_zero _), fun _ _ => rfl, fun j hj => absurd hj (Nat.not_lt_zero _), fun j hj => absurd hj (Nat.not_lt_zero _), fun j hj => absurd hj (Nat.not_lt_zero _)⟩, Nat.le_refl _, fun j hj => absurd hj (Nat.not_lt_zero _), fun j hj => absurd hj (Nat.not_lt_zero _)⟩
  obtain ⟨q1, β1, p1, e1, l1⟩ := walkF (F := plT Δ) (P := fun i q β => LSt Δ cn V S i 0 0 0 0 0 q β) (Δ 0 3) (fun i q β _ h => h.g) (fun i t hi h q => by
    unfold plT at h; split at h <;> exact absurd (h.1.1.symm.trans q) (by decide)) (fun i q β q1 β1 hi h a l => h.T ok hi a l) P0 aT hL
  change q1.2.1 = 0 + _ at e1
  obtain ⟨q2, β2, p2, e2, l2⟩ := walkF (F := plH Δ) (P := fun i q β => LSt Δ cn V S (Δ 0 3) i 0 0 0 0 q β) (Δ 0 4) (fun i q β _ h => h.g) (fun i t hi h q => by
    unfold plH at h; split at h <;> exact absurd (h.1.1.symm.trans q) (by decide)) (fun i q β q1 β1 hi h a l => h.H ok hi a l) p1 (by rw [e1]; exact aH) l1
  obtain ⟨q3, β3, p3, e3, l3⟩ := walkF (F := plG Δ) (P := fun i q β => LSt Δ cn V S (Δ 0 3) (Δ 0 4) i 0 0 0 q β) (Δ 0 5) (fun i q β _ h => h.g) (fun i t hi h q => by
    unfold plG at h; exact absurd (h.1.1.symm.trans q) (by decide)) (fun i q β q1 β1 hi h a l => h.G ok hi a l) p2 (by rw [e2, e1, Nat.add_assoc]; rw [Nat.zero_add] at aG ⊢; exact aG) l2
  obtain ⟨q4, β4, p4, e4, l4⟩ := walkF (F := plK Δ) (P := fun i q β => LSt Δ cn V S (Δ 0 3) (Δ 0 4) (Δ 0 5) i 0 (24 * i) q β ∧ q.2.1 ≤ q3.2.1 + (catP (plK Δ) i).length) (Δ 0 6) (fun i q β _ h => h.1.g) (fun i t hi h q => by
    unfold plK at h; exact absurd (h.1.1.symm.trans q) (by decide)) (fun i q β q1 β1 hi h a l => by
      have hm := catP_mono (F := plK Δ) (show i ≤ Δ 0 6 by omega)
      obtain ⟨g1, g2⟩ := h.1.kk ok hvv hc3 hc4 hi ⟨by omega, by omega⟩ a l
      exact ⟨⟨g1, by rw [g2, catP, List.length_append]; have := h.2; omega⟩, g2⟩) ⟨p3, Nat.le_refl _⟩ (by rw [e3, e2, e1]; rw [Nat.zero_add] at aK ⊢; exact aK) l3
  have hN : LSt Δ cn V S (Δ 0 3) (Δ 0 4) (Δ 0 5) (Δ 0 6) 0 120 q4 β4 := by
    obtain ⟨D, h1, h2, h3, h4⟩ := p4.1
    exact ⟨D, h1, h2, by omega, h4⟩
  obtain ⟨q5, β5, p5, e5, l5⟩ := walkF (F := plW Δ) (P := fun i q β => LSt Δ cn V S (Δ 0 3) (Δ 0 4) (Δ 0 5) (Δ 0 6) i (120 + 12 * i) q β ∧ q.2.1 ≤ q4.2.1 + (catP (plW Δ) i).length) (Δ 0 7) (fun i q β _ h => h.1.g) (fun i t hi h q => by
    unfold plW at h; exact absurd (h.1.1.symm.trans q) (by decide)) (fun i q β q1 β1 hi h a l => by
      have hm := catP_mono (F := plW Δ) (show i ≤ Δ 0 7 by omega)
      obtain ⟨g1, g2⟩ := h.1.W ok hvv hc3 hc4 hi ⟨by omega, by omega⟩ a l
      exact ⟨⟨by rw [show 120 + 12 * (i + 1) = 120 + 12 * i + 12 by omega]; exact g1, by rw [g2, catP, List.length_append]; have := h.2; omega⟩, g2⟩) ⟨hN, Nat.le_refl _⟩ (by rw [e4, e3, e2, e1]; rw [Nat.zero_add] at aW ⊢; exact aW) l4
  obtain ⟨g5, s5⟩ := q5
  have hg : g5 = true := p5.1.g
  subst hg
  have ef : s5.1 = (plX Δ).length := by
    have : s5.1 = _ := e5
    omega
  obtain ⟨rfl, rfl⟩ := l5.inv.1 (by rw [ef]; exact h45)
  refine ⟨?_, ef⟩
  obtain ⟨D, h1, h2, h3, h4⟩ := p5.1
  exact ⟨D, h1, h2, by omega, h4⟩
end WLK
