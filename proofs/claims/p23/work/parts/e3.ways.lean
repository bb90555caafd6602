/-! a horse moves: each way -/
section ST3
variable {a b c wc : Nat} {σ : Nat → Nat} {π ρ ρ' R : RH} {x m : Int32} {j t N u L : Nat}
theorem s2_mk (h : SI a b c ρ) (hj : j < b) (hp : ρ 15 j = nI t) (ht : t < a) (h20 : ρ 20 j = 0) (hN : ndF c ρ j t = nI N ∧ N ≤ 1600) (hA : ∀ f i, MF f → ρ' f i = ρ f i) (hB : ∀ f i, i ≠ j → 12 ≤ f → f < 20 → ρ' f i = ρ f i) (h20' : ∀ i, ρ' 20 i = ρ 20 i ∨ ρ' 20 i = 1) (hC : ∀ l, LCh c ρ ρ' j l)
    (hD : SH a ρ' j) (hD2 : ∃ k, k ≤ 9 ∧ ρ' 12 j = nI k ∧ (ρ' 16 j = 1 → 1 ≤ k)) (hE : ρ' 16 j = 1 ↔ ∃ l, l < c ∧ OWN ρ' j l) (hF : RI a b c ρ') (hw : wOf c ρ' 3 + ρ 19 j = wOf c ρ 3 + ρ' 19 j) (hJ : HJm c ρ ρ' j t N) : SI a b c ρ' ∧ S2 a c ρ ρ' j :=
  ⟨h.of2 hj hA hB hC hp ht hD hD2 hE hF, hA, hB, h20', hC, hw, Or.inr ⟨h20, t, N, ht, hp, hN.1, hN.2, hJ⟩⟩
/-- nothing of the logs, and the way, has changed -/
theorem own_same (h : SI a b c ρ) (hj : j < b) (e16 : ρ' 16 j = ρ 16 j) (hl : ∀ l, ρ' 32 l = ρ 32 l ∧ ρ' 33 l = ρ 33 l) : ρ' 16 j = 1 ↔ ∃ l, l < c ∧ OWN ρ' j l := by
  rw [e16, (h.2.1 j hj).2.1]
  exact ⟨fun ⟨l, y1, y2⟩ => ⟨l, y1, (hl l).1.trans y2.1, (hl l).2.trans y2.2⟩, fun ⟨l, y1, y2⟩ => ⟨l, y1, (hl l).1.symm.trans y2.1, (hl l).2.symm.trans y2.2⟩⟩
theorem w3_same (hl : ∀ l, ρ' 31 l = ρ 31 l ∧ (ρ' 32 l = 3 ↔ ρ 32 l = 3)) : wOf c ρ' 3 = wOf c ρ 3 := sm_cong (fun l _ => by
  simp only [(hl l).1, (hl l).2])
theorem SI.sh (h : SI a b c ρ) (hj : j < b) (hp : ρ 15 j = nI t) (ht : t < a) : ∃ u L, b01 (ρ 16 j) ∧ ρ 17 j = nI u ∧ ρ 41 t = nI L ∧ u < L ∧ L ≤ 9 ∧ 1 ≤ L := by
  have ha := h.1.1
  rcases (h.2.1 j hj).1 with ⟨y1, -⟩ | ⟨t3, u, L, y1, y2, y3, y4, y5, y6⟩
  · rw [hp] at y1; exact absurd y1 (nI_m1 (by omega))
  · have e : t3 = t := (nI_eq (by omega) (by omega)).mp (y2.symm.trans hp)
    subst e
    exact ⟨u, L, y3, y4, y5, y6.1, y6.2, by omega⟩
/-- on the same stretch, the same way, with the same logs -/
theorem s2_stay (h : SI a b c ρ) (hj : j < b) (hp : ρ 15 j = nI t) (ht : t < a) (h20 : ρ 20 j = 0) (hN : ndF c ρ j t = nI N ∧ N ≤ 1600) (hA : ∀ f i, ¬ f = 17 → ¬ f = 18 → ρ' f i = ρ f i) (hB : ∀ f i, i ≠ j → ρ' f i = ρ f i)
    (hu : ∃ u', u' < L ∧ ρ' 17 j = nI u') (hL : ρ 41 t = nI L ∧ L ≤ 9) (hF : RI a b c ρ') (hJ : HJm c ρ ρ' j t N) : SI a b c ρ' ∧ S2 a c ρ ρ' j := by
  have hl : ∀ l, ρ' 32 l = ρ 32 l ∧ ρ' 33 l = ρ 33 l := fun l => ⟨hA 32 l (by decide) (by decide), hA 33 l (by decide) (by decide)⟩
  obtain ⟨u', hu1, hu2⟩ := hu
  obtain ⟨u, L0, s1, s2, s3, s4, s5, s6⟩ := h.sh hj hp ht
  refine s2_mk h hj hp ht h20 hN (fun f i hf => hA f i (by unfold MF at hf; omega) (by unfold MF at hf; omega)) (fun f i hi _ _ => hB f i hi) (fun i => Or.inl (hA 20 i (by decide) (by decide))) (fun l => Or.inl ⟨(hl l).1, (hl l).2, hA 34 l (by decide) (by decide)⟩) (Or.inr ⟨t, u', L, ht, (hA 15 j (by decide) (by decide)).trans hp, by rw [hA 16 j (by decide) (by decide)]; exact s1, hu2, (hA 41 t (by decide) (by decide)).trans hL.1, hu1, hL.2⟩) ?_ (own_same h hj (hA 16 j (by decide) (by decide)) hl) hF ?_ hJ
  · obtain ⟨k, k1, k2, k3⟩ := (h.2.1 j hj).2.2.1
    exact ⟨k, k1, (hA 12 j (by decide) (by decide)).trans k2, by rw [hA 16 j (by decide) (by decide)]; exact k3⟩
  · rw [w3_same (fun l => ⟨hA 31 l (by decide) (by decide), by rw [hA 32 l (by decide) (by decide)]⟩), hA 19 j (by decide) (by decide)]
theorem s2_tire (h : SI a b c ρ) (hj : j < b) (hp : ρ 15 j = nI t) (ht : t < a) (h20 : ρ 20 j = 0) (hN : ndF c ρ j t = nI N ∧ N ≤ 1600) (hx : x = -4 ∨ x = -2) : SI a b c (tireC ρ j x) ∧ S2 a c ρ (tireC ρ j x) j := by
  obtain ⟨u, L, s1, s2, s3, s4, s5, s6⟩ := h.sh hj hp ht
  obtain ⟨k, k1, k2⟩ := r_n (h.2.2.2.2.2.1 j hj).2.2.2.2.1 (h.2.2.2.2.2.1 j hj).2.2.2.2.2
  have e18 : ∃ k', k' ≤ k ∧ k ≤ k' + 4 ∧ tireC ρ j x 18 j = nI k' := by
    unfold tireC
    rw [u2_s, k2]
    rcases hx with rfl | rfl
    · exact ⟨k - 4, by omega, by omega, (tr4 k k1).1⟩
    · exact ⟨k - 2, by omega, by omega, (tr4 k k1).2.1⟩
  obtain ⟨k', k3, k4, k5⟩ := e18
  have hA : ∀ f i, ¬ f = 17 → ¬ f = 18 → tireC ρ j x f i = ρ f i := fun f i _ g => u2_f g
  refine s2_stay h hj hp ht h20 hN hA (fun f i hi => u2_i hi) ⟨u, s4, (u2_f (by decide)).trans s2⟩ ⟨s3, s5⟩ h.2.2.2.2.2.tire (Or.inl ⟨⟨hA 12 j (by decide) (by decide), hA 15 j (by decide) (by decide), hA 16 j (by decide) (by decide), u2_f (by decide), hA 19 j (by decide) (by decide)⟩, k, k', ⟨k1, by omega, k4, by omega⟩, k2, k5⟩)
theorem s2_break (h : SI a b c ρ) (hj : j < b) (hp : ρ 15 j = nI t) (ht : t < a) (h20 : ρ 20 j = 0) (hN : ndF c ρ j t = nI N ∧ N ≤ 1600) (hq : ρ 13 j < nI N) (h0 : ρ 16 j = 0 → N = 0) : SI a b c (bkC c ρ j t) ∧ S2 a c ρ (bkC c ρ j t) j := by
  obtain ⟨u, L, s1, s2, s3, s4, s5, s6⟩ := h.sh hj hp ht
  obtain ⟨⟨k, k1, k2, k3⟩, -, n, n1, n2, n3⟩ := (h.2.1 j hj).2.2
  have d1 : ρ 16 j = 1 := by
    rcases s1 with e | e
    · have := h0 e
      rw [this, n3] at hq
      exact absurd ((nI_ltI (a := n) (b := 0) (by omega) (by decide)).mp hq) (Nat.not_lt_zero _)
    · exact e
  have hF := h.2.2.2.2.2.bk (j := j) ht
  have hm : ∀ f l, mpL (u2 (u2 ρ 12 j (ρ 12 j - 1)) 8 0 (ρ 8 0 + 1)) 1 (nI j) 2 (nI t) c f l = if l < c ∧ ρ 32 l = 1 ∧ ρ 33 l = nI j ∧ (f = 32 ∨ f = 33) then (if f = 32 then 2 else nI t) else u2 (u2 ρ 12 j (ρ 12 j - 1)) 8 0 (ρ 8 0 + 1) f l := fun f l => by
    unfold mpL
    rw [show u2 (u2 ρ 12 j (ρ 12 j - 1)) 8 0 (ρ 8 0 + 1) 32 l = ρ 32 l by rw [u2_f (by decide), u2_f (by decide)], show u2 (u2 ρ 12 j (ρ 12 j - 1)) 8 0 (ρ 8 0 + 1) 33 l = ρ 33 l by rw [u2_f (by decide), u2_f (by decide)]]
  have e0 : ∀ f i, ¬ f = 8 → ¬ f = 12 → ¬ f = 15 → ¬ f = 16 → ¬ f = 17 → ¬ f = 32 → ¬ f = 33 → bkC c ρ j t f i = ρ f i := fun f i h1 h2 h3 h4 h5 h6 h7 => by
    unfold bkC standC; rw [u2_f h5, u2_f h4, u2_f h3, hm, if_neg (by omega), u2_f h1, u2_f h2]
  have ei : ∀ f i, i ≠ j → 12 ≤ f → f < 20 → bkC c ρ j t f i = ρ f i := fun f i hi h1 h2 => by
    unfold bkC standC; rw [u2_i hi, u2_i hi, u2_i hi, hm, if_neg (by omega), u2_f (by omega), u2_i hi]
  have e12 : bkC c ρ j t 12 j = ρ 12 j - 1 := by unfold bkC standC; rw [u2_f (by decide), u2_f (by decide), u2_f (by decide), hm, if_neg (by omega), u2_f (by decide), u2_s]
  have e15 : bkC c ρ j t 15 j = nI t := by unfold bkC standC; rw [u2_f (by decide), u2_f (by decide), u2_s]
  have e16 : bkC c ρ j t 16 j = 0 := by unfold bkC standC; rw [u2_f (by decide), u2_s]
  have e17 : bkC c ρ j t 17 j = ρ 41 t - 1 - ρ 17 j := by unfold bkC standC; rw [u2_s]
  have el : ∀ f l, (f = 32 ∨ f = 33) → bkC c ρ j t f l = if l < c ∧ OWN ρ j l then (if f = 32 then 2 else nI t) else ρ f l := fun f l hf => by
    unfold bkC standC
    rw [u2_f (by omega), u2_f (by omega), u2_f (by omega), hm]
    by_cases q : l < c ∧ OWN ρ j l
    · rw [if_pos q, if_pos ⟨q.1, q.2.1, q.2.2, hf⟩]
    · rw [if_neg q, if_neg (fun w => q ⟨w.1, w.2.1, w.2.2.1⟩), u2_f (by omega), u2_f (by omega)]
  generalize bkC c ρ j t = ρ9 at *
  have e34 : ∀ l, ρ9 34 l = ρ 34 l := fun l => e0 34 l (by decide) (by decide) (by decide) (by decide) (by decide) (by decide) (by decide)
  refine s2_mk h hj hp ht h20 hN (fun f i hf => e0 f i (by unfold MF at hf; omega) (by unfold MF at hf; omega) (by unfold MF at hf; omega) (by unfold MF at hf; omega) (by unfold MF at hf; omega) (by unfold MF at hf; omega) (by unfold MF at hf; omega)) ei (fun i => Or.inl (e0 20 i (by decide) (by decide) (by decide) (by decide) (by decide) (by decide) (by decide))) (fun l => ?_) (Or.inr ⟨t, L - 1 - u, L, ht, e15, Or.inl e16, ?_, (e0 41 t (by decide) (by decide) (by decide) (by decide) (by decide) (by decide) (by decide)).trans s3, by omega, s5⟩) ⟨k - 1, by omega, ?_, fun w => absurd (e16.symm.trans w) (by decide)⟩ ⟨fun w => absurd (e16.symm.trans w) (by decide), fun ⟨l, l1, l2, l3⟩ => ?_⟩ hF ?_ (Or.inr (Or.inl ⟨⟨hq, d1⟩, e12, e15.trans hp.symm, e16, e17, e0 18 j (by decide) (by decide) (by decide) (by decide) (by decide) (by decide) (by decide), e0 19 j (by decide) (by decide) (by decide) (by decide) (by decide) (by decide) (by decide)⟩))
  · by_cases q : l < c ∧ OWN ρ j l
    · refine Or.inr ⟨q.1, q.2, e16, Or.inl ⟨?_, ?_, e34 l⟩⟩
      · rw [el 32 l (Or.inl rfl), if_pos q, if_pos rfl]
      · rw [el 33 l (Or.inr rfl), if_pos q, if_neg (by decide), hp]
    · exact Or.inl ⟨by rw [el 32 l (Or.inl rfl), if_neg q], by rw [el 33 l (Or.inr rfl), if_neg q], e34 l⟩
  · rw [e17, s3, s2, show nI L - 1 = nI (L - 1) from nI_sub (n := 1) (by omega) (by omega), nI_sub (by omega) (by omega)]
  · rw [e12, k2]; exact nI_sub (n := 1) (k3 d1) (by omega)
  · rw [el 32 l (Or.inl rfl)] at l2
    by_cases q : l < c ∧ OWN ρ j l
    · rw [if_pos q, if_pos rfl] at l2; exact absurd l2 (by decide)
    · rw [if_neg q] at l2
      rw [el 33 l (Or.inr rfl), if_neg q] at l3
      exact absurd ⟨l1, l2, l3⟩ q
  · rw [w3_same (ρ' := ρ9) (ρ := ρ) (fun l => ⟨e0 31 l (by decide) (by decide) (by decide) (by decide) (by decide) (by decide) (by decide), ?_⟩), e0 19 j (by decide) (by decide) (by decide) (by decide) (by decide) (by decide) (by decide)]
    rw [el 32 l (Or.inl rfl)]
    by_cases q : l < c ∧ OWN ρ j l
    · rw [if_pos q, if_pos rfl, q.2.1]; decide
    · rw [if_neg q]
end ST3
