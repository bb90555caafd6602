/-! an hour: what changes -/
theorem i32_rc (x y z : Int32) : x + y + z = x + z + y := by rw [Int32.add_assoc, Int32.add_comm y, ← Int32.add_assoc]
section ST5
variable {a b c hc wc : Nat} {σ : Nat → Nat} {π ρ ρ' R ρk : RH} {x m : Int32} {j k t N u L : Nat}
def P1 (c : Nat) (ρ ρk : RH) (k : Nat) : Prop :=
  (∀ f i, (f < 15 ∨ (17 < f ∧ f < 20) ∨ (20 < f ∧ f < 32) ∨ 33 < f) → ρk f i = ρ f i) ∧ (∀ i f, k ≤ i → 15 ≤ f → f ≤ 20 → ρk f i = ρ f i) ∧
  (∀ i, i < k → (ρk 20 i = 0 ∧ ∀ f, 15 ≤ f → f < 20 → ρk f i = ρ f i) ∨ (ρk 20 i = 1 ∧ (ρ 15 i = -1 ∧ ¬ ρ 12 i ≤ 0) ∧ ρk 15 i = nI 0 ∧ ρk 16 i = 1 ∧ ρk 17 i = 0)) ∧
  (∀ l, (ρk 32 l = ρ 32 l ∧ ρk 33 l = ρ 33 l) ∨ (l < c ∧ ρ 32 l = 0 ∧ ρk 32 l = 1 ∧ ∃ i, i < k ∧ ρk 33 l = nI i ∧ ρk 20 i = 1))
theorem SI.p1 (h : SI a b c ρ) : ∀ k, k ≤ b → SI a b c (o1C a c hc σ π ρ k) ∧ P1 c ρ (o1C a c hc σ π ρ k) k
  | 0, _ => ⟨h, fun _ _ _ => rfl, fun _ _ _ _ _ => rfl, fun _ q => absurd q (Nat.not_lt_zero _), fun _ => Or.inl ⟨rfl, rfl⟩⟩
  | k + 1, hk => by
    obtain ⟨h1, pA, pB, pC, pD⟩ := SI.p1 h k (by omega)
    obtain ⟨h2, sA, sB, sC, sD⟩ := h1.s1 (hc := hc) (σ := σ) (π := π) (j := k) (by omega)
    refine ⟨h2, ?_⟩
    rw [o1C]
    generalize otC a c hc σ π (u2 (o1C a c hc σ π ρ k) 20 k 0) k = ρ2 at *
    generalize o1C a c hc σ π ρ k = ρ1 at *
    refine ⟨fun f i hf => (sA f i hf).trans (pA f i hf), fun i f g1 g2 g3 => (sB f i (by omega) g2 g3).trans (pB i f (by omega) g2 g3), fun i hi => ?_, fun l => ?_⟩
    · by_cases e : i = k
      · subst e
        rcases sD with ⟨d1, d2⟩ | ⟨d1, ⟨d2, d3⟩, d4, d5, d6, -⟩
        · exact Or.inl ⟨d1, fun f g1 g2 => (d2 f g1 g2).trans (pB i f (Nat.le_refl _) g1 (by omega))⟩
        · rw [pB i 15 (Nat.le_refl _) (by decide) (by decide)] at d2
          rw [pA 12 i (by omega)] at d3
          exact Or.inr ⟨d1, ⟨d2, d3⟩, d4, d5, d6⟩
      · rcases pC i (by omega) with ⟨d1, d2⟩ | ⟨d1, d2, d4, d5, d6⟩
        · exact Or.inl ⟨(sB 20 i e (by decide) (by decide)).trans d1, fun f g1 g2 => (sB f i e g1 (by omega)).trans (d2 f g1 g2)⟩
        · exact Or.inr ⟨(sB 20 i e (by decide) (by decide)).trans d1, d2, (sB 15 i e (by decide) (by decide)).trans d4, (sB 16 i e (by decide) (by decide)).trans d5, (sB 17 i e (by decide) (by decide)).trans d6⟩
    · rcases sC l with ⟨e1, e2⟩ | ⟨e1, e2, e3, e4, e5⟩
      · rcases pD l with ⟨g1, g2⟩ | ⟨g1, g2, g3, i, g4, g5, g6⟩
        · exact Or.inl ⟨e1.trans g1, e2.trans g2⟩
        · exact Or.inr ⟨g1, g2, e1.trans g3, i, by omega, e2.trans g5, (sB 20 i (by omega) (by decide) (by decide)).trans g6⟩
      · rcases pD l with ⟨g1, g2⟩ | ⟨g1, g2, g3, -⟩
        · exact Or.inr ⟨e1, g1.symm.trans e2, e3, k, by omega, e4, e5⟩
        · rw [e2] at g3; exact absurd g3 (by decide)
def P2 (a c : Nat) (R ρk : RH) (k : Nat) : Prop :=
  (∀ f i, MF f → ρk f i = R f i) ∧ (∀ i f, k ≤ i → 12 ≤ f → f < 20 → ρk f i = R f i) ∧ (∀ i, ρk 20 i = R 20 i ∨ ρk 20 i = 1) ∧
  (∀ i, i < k → (ρk 12 i = R 12 i ∧ ∀ f, 15 ≤ f → f < 20 → ρk f i = R f i) ∨ (R 20 i = 0 ∧ ∃ t N, t < a ∧ R 15 i = nI t ∧ ndF c R i t = nI N ∧ N ≤ 1600 ∧ HJm c R ρk i t N)) ∧
  (∀ l, (ρk 32 l = R 32 l ∧ ρk 33 l = R 33 l ∧ ρk 34 l = R 34 l) ∨ (l < c ∧ ∃ i, i < k ∧ OWN R i l ∧ ρk 16 i = 0 ∧ ((ρk 32 l = 2 ∧ ρk 34 l = R 34 l) ∨ (ρk 32 l = 3 ∧ ρk 34 l = R 6 0)))) ∧
  wOf c ρk 3 + sm (fun i => R 19 i) k = wOf c R 3 + sm (fun i => ρk 19 i) k
theorem TRd.cg {ρ2 ρ2' : RH} (h : TRd ρ ρ' j N) (e1 : ρ2 18 j = ρ 18 j) (e2 : ρ2' 18 j = ρ' 18 j) : TRd ρ2 ρ2' j N := by
  obtain ⟨k, k', h1, h2, h3⟩ := h
  exact ⟨k, k', h1, e1.trans h2, e2.trans h3⟩
theorem HJm.cg {ρ2 ρ2' : RH} (h : HJm c ρ ρ' j t N) (e1 : ∀ f, 12 ≤ f → f < 20 → ρ2 f j = ρ f j) (e2 : ∀ f, 12 ≤ f → f < 20 → ρ2' f j = ρ' f j) (e3 : ρ2 41 t = ρ 41 t) (e4 : ldOf c ρ2 (nI j) = ldOf c ρ (nI j)) : HJm c ρ2 ρ2' j t N := by
  have hT : TRd ρ ρ' j N → TRd ρ2 ρ2' j N := fun q => q.cg (e1 18 (by decide) (by decide)) (e2 18 (by decide) (by decide))
  unfold HJm at h ⊢
  rw [e1 12 (by decide) (by decide), e1 13 (by decide) (by decide), e1 15 (by decide) (by decide), e1 16 (by decide) (by decide), e1 17 (by decide) (by decide), e1 18 (by decide) (by decide), e1 19 (by decide) (by decide), e2 12 (by decide) (by decide), e2 15 (by decide) (by decide), e2 16 (by decide) (by decide), e2 17 (by decide) (by decide), e2 18 (by decide) (by decide), e2 19 (by decide) (by decide), e3, e4]
  rcases h with ⟨h1, h2⟩ | h | ⟨⟨h1, h2, h3⟩, h4⟩
  · exact Or.inl ⟨h1, hT h2⟩
  · exact Or.inr (Or.inl h)
  · exact Or.inr (Or.inr ⟨⟨h1, h2, hT h3⟩, h4⟩)
theorem ndF_cg {ρ2 : RH} (e16 : ρ2 16 j = ρ 16 j) (e4 : ldOf c ρ2 (nI j) = ldOf c ρ (nI j)) (e5 : ρ2 42 t = ρ 42 t) (e6 : ρ2 43 t = ρ 43 t) : ndF c ρ2 j t = ndF c ρ j t := by
  unfold ndF needF; rw [e16, e4, e5, e6]
theorem ld_own {ρ2 : RH} (e : ∀ l, l < c → ρ2 31 l = ρ 31 l ∧ (OWN ρ2 j l ↔ OWN ρ j l)) : ldOf c ρ2 (nI j) = ldOf c ρ (nI j) := sm_cong (fun l hl => by
  obtain ⟨e1, e2⟩ := e l hl
  show (if OWN ρ2 j l then ρ2 31 l else 0) = if OWN ρ j l then ρ 31 l else 0
  by_cases q : OWN ρ j l
  · rw [if_pos q, if_pos (e2.mpr q), e1]
  · rw [if_neg q, if_neg (fun w => q (e2.mp w))])
theorem SI.p2 (h : SI a b c R) : ∀ k, k ≤ b → SI a b c (o2C a b c wc σ π R k) ∧ P2 a c R (o2C a b c wc σ π R k) k
  | 0, _ => ⟨h, fun _ _ _ => rfl, fun _ _ _ _ _ => rfl, fun _ => Or.inl rfl, fun _ q => absurd q (Nat.not_lt_zero _), fun _ => Or.inl ⟨rfl, rfl, rfl⟩, rfl⟩
  | k + 1, hk => by
    obtain ⟨h1, pA, pB, pZ, pC, pD, pE⟩ := SI.p2 h k (by omega)
    obtain ⟨h2, sA, sB, sZ, sC, sE, sD⟩ := h1.s2 (wc := wc) (σ := σ) (π := π) (j := k) (by omega)
    have hb := h.1.2.1
    refine ⟨h2, ?_⟩
    rw [o2C]
    generalize moC a b c wc σ π (o2C a b c wc σ π R k) k = ρ2 at *
    generalize o2C a b c wc σ π R k = ρ1 at *
    have hld : ldOf c ρ1 (nI k) = ldOf c R (nI k) := ld_own (fun l hl => ⟨pA 31 l (by unfold MF; omega), by
      unfold OWN
      rcases pD l with ⟨g1, g2, -⟩ | ⟨-, i, i1, ⟨o1, o2⟩, -, ⟨g1, -⟩ | ⟨g1, -⟩⟩
      · rw [g1, g2]
      · rw [g1, o2]
        exact ⟨fun w => absurd w.1 (by decide), fun w => absurd ((nI_eq (by omega) (by omega)).mp w.2) (by omega)⟩
      · rw [g1, o2]
        exact ⟨fun w => absurd w.1 (by decide), fun w => absurd ((nI_eq (by omega) (by omega)).mp w.2) (by omega)⟩⟩)
    refine ⟨fun f i hf => (sA f i hf).trans (pA f i hf), fun i f g1 g2 g3 => (sB f i (by omega) g2 g3).trans (pB i f (by omega) g2 g3), fun i => ?_, fun i hi => ?_, fun l => ?_, ?_⟩
    · rcases sZ i with e | e
      · rw [e]; exact pZ i
      · exact Or.inr e
    · by_cases e : i = k
      · subst e
        have e1 : ∀ f, 12 ≤ f → f < 20 → R f i = ρ1 f i := fun f g1 g2 => (pB i f (Nat.le_refl _) g1 g2).symm
        rcases sD with ⟨d1, d2⟩ | ⟨d0, t, N, d1, d2, d3, d4, d5⟩
        · exact Or.inl ⟨d1.trans (e1 12 (by decide) (by decide)).symm, fun f g1 g2 => (d2 f g1 g2).trans (e1 f (by omega) g2).symm⟩
        · refine Or.inr ⟨?_, t, N, d1, (e1 15 (by decide) (by decide)).trans d2, ?_, d4, d5.cg e1 (fun _ _ _ => rfl) (pA 41 t (by unfold MF; omega)).symm hld.symm⟩
          · rcases pZ i with e | e
            · exact e.symm.trans d0
            · rw [d0] at e; exact absurd e (by decide)
          · rw [← d3]
            exact (ndF_cg (pB i 16 (Nat.le_refl _) (by decide) (by decide)) hld (pA 42 t (by unfold MF; omega)) (pA 43 t (by unfold MF; omega))).symm
      · have e2 : ∀ f, 12 ≤ f → f < 20 → ρ2 f i = ρ1 f i := fun f g1 g2 => sB f i e g1 g2
        rcases pC i (by omega) with ⟨d1, d2⟩ | ⟨d0, t, N, d1, d2, d3, d4, d5⟩
        · exact Or.inl ⟨(e2 12 (by decide) (by decide)).trans d1, fun f g1 g2 => (e2 f (by omega) g2).trans (d2 f g1 g2)⟩
        · exact Or.inr ⟨d0, t, N, d1, d2, d3, d4, d5.cg (fun _ _ _ => rfl) e2 rfl rfl⟩
    · rcases sC l with ⟨e1, e2, e3⟩ | ⟨e0, ⟨o1, o2⟩, e16, e4⟩
      · rcases pD l with ⟨g1, g2, g3⟩ | ⟨g0, i, g1, g2, g3, g4⟩
        · exact Or.inl ⟨e1.trans g1, e2.trans g2, e3.trans g3⟩
        · refine Or.inr ⟨g0, i, by omega, g2, (sB 16 i (by omega) (by decide) (by decide)).trans g3, ?_⟩
          rw [e1, e3]; exact g4
      · rcases pD l with ⟨g1, g2, g3⟩ | ⟨g0, i, g1, g2, g3, ⟨g4, -⟩ | ⟨g4, -⟩⟩
        · refine Or.inr ⟨e0, k, by omega, ⟨g1.symm.trans o1, g2.symm.trans o2⟩, e16, ?_⟩
          rcases e4 with ⟨y1, -, y3⟩ | ⟨y1, -, y3⟩
          · exact Or.inl ⟨y1, y3.trans g3⟩
          · exact Or.inr ⟨y1, y3.trans (pA 6 0 (by unfold MF; omega))⟩
        · rw [o1] at g4; exact absurd g4 (by decide)
        · rw [o1] at g4; exact absurd g4 (by decide)
    · have e1 : sm (fun i => ρ2 19 i) k = sm (fun i => ρ1 19 i) k := sm_cong (fun i hi => sB 19 i (by omega) (by decide) (by decide))
      rw [sm, sm, e1, ← pB k 19 (Nat.le_refl _) (by decide) (by decide), ← Int32.add_assoc, i32_rc, sE, i32_rc, pE, Int32.add_assoc]
/-- how a horse has come through an hour, needing N at its beginning -/
def HJ (a c : Nat) (ρ ρ' : RH) (j : Nat) : Prop :=
  (ρ 15 j = -1 ∧ ¬ ρ 12 j ≤ 0 ∧ ρ' 15 j = 0 ∧ ρ' 16 j = 1 ∧ ρ' 17 j = 0 ∧ ρ' 12 j = ρ 12 j ∧ ρ' 18 j = ρ 18 j ∧ ρ' 19 j = ρ 19 j) ∨
  (ρ' 12 j = ρ 12 j ∧ ∀ f, 15 ≤ f → f < 20 → ρ' f j = ρ f j) ∨
  (∃ t N, t < a ∧ ρ 15 j = nI t ∧ ndF c ρ j t = nI N ∧ N ≤ 1600 ∧ HJm c ρ ρ' j t N)
/-- what has become of a log -/
def LJ (ρ ρ' : RH) (l : Nat) : Prop := (ρ' 32 l = ρ 32 l ∧ ρ' 33 l = ρ 33 l ∧ ρ' 34 l = ρ 34 l) ∨ (ρ 32 l = 0 ∧ ρ' 32 l = 1) ∨ (ρ 32 l = 1 ∧ ρ' 32 l = 2) ∨ (ρ 32 l = 1 ∧ ρ' 32 l = 3 ∧ ρ' 34 l = ρ 6 0)
def FZ (ρ : RH) (x : Int32) : Int32 := if ρ 6 0 - ρ 6 0 / 6 * 6 = 0 then maxI 0 (minI (x + ρ 7 0) 9) else x
theorem fz_n (x : Int32) : ∃ f, f ≤ 9 ∧ maxI 0 (minI x 9) = nI f := by
  have hd : ∀ y : Int32, 0 ≤ y → y ≤ 9 → ∃ f, f ≤ 9 ∧ y = nI f := fun y h1 h2 => by
    have h1' := Int32.le_iff_toInt_le.mp h1
    have h2' := Int32.le_iff_toInt_le.mp h2
    have e1 : (0 : Int32).toInt = 0 := rfl
    have e2 : (9 : Int32).toInt = 9 := rfl
    rw [e1] at h1'
    rw [e2] at h2'
    refine ⟨y.toInt.toNat, by omega, ?_⟩
    apply Int32.toInt_inj.mp
    rw [nI_toInt (by omega)]; omega
  refine hd _ ?_ ?_
  · unfold maxI; split
    · rename_i q; exact Int32.le_of_lt q
    · exact Int32.le_refl _
  · unfold maxI minI
    by_cases h : x < 9
    · rw [if_pos h]
      split
      · exact Int32.le_of_lt h
      · decide
    · rw [if_neg h]; decide
theorem fr_43 {ρ : RH} (ht : t < a) : frC a ρ 43 t = FZ ρ (ρ 43 t) := by
  unfold frC FZ
  split
  · unfold fzC; rw [if_pos ⟨rfl, ht⟩]
  · rfl
theorem fr_f {ρ : RH} {f i : Nat} (hf : f ≠ 43) : frC a ρ f i = ρ f i := by
  unfold frC
  split
  · exact fzC_f hf
  · rfl
theorem SI.fr (h : SI a b c ρ) (hh : ∃ r, r < 100 ∧ ρ 6 0 = nI r) : SI a b c (u2 (frC a ρ) 6 0 ((frC a ρ) 6 0 + 1)) := by
  have e : ∀ f i, f ≠ 43 → f ≠ 6 → u2 (frC a ρ) 6 0 ((frC a ρ) 6 0 + 1) f i = ρ f i := fun f i g1 g2 => by rw [u2_f g2, fr_f g1]
  have e43 : ∀ t, t < a → u2 (frC a ρ) 6 0 ((frC a ρ) 6 0 + 1) 43 t = FZ ρ (ρ 43 t) := fun t ht => by rw [u2_f (by decide), fr_43 ht]
  have e6 : u2 (frC a ρ) 6 0 ((frC a ρ) 6 0 + 1) 6 0 = ρ 6 0 + 1 := by rw [u2_s, fr_f (by decide)]
  have hR : RI a b c (u2 (frC a ρ) 6 0 ((frC a ρ) 6 0 + 1)) := (h.2.2.2.2.2.fr).u (by decide)
  generalize u2 (frC a ρ) 6 0 ((frC a ρ) 6 0 + 1) = ρ9 at *
  obtain ⟨h1, h2, h3, h4, -, -⟩ := h
  obtain ⟨r, r1, r2⟩ := hh
  refine ⟨h1, fun i hi => ?_, fun l hl => ?_, fun t ht => ?_, ⟨r + 1, by omega, by rw [e6, r2]; exact nI_1 r⟩, hR⟩
  · obtain ⟨g1, g2, ⟨k, k1, k2, k3⟩, ⟨m, m1, m2, m3⟩, n, n1, n2, n3⟩ := h2 i hi
    have eo : ∀ l, OWN ρ9 i l ↔ OWN ρ i l := fun l => by
      unfold OWN; rw [e 32 l (by decide) (by decide), e 33 l (by decide) (by decide)]
    have e16 := e 16 i (by decide) (by decide)
    refine ⟨?_, ?_, ⟨k, k1, (e 12 i (by decide) (by decide)).trans k2, by rw [e16]; exact k3⟩, ⟨m, m1, m2, (e 11 i (by decide) (by decide)).trans m3⟩, n, n1, n2, (e 13 i (by decide) (by decide)).trans n3⟩
    · rcases g1 with ⟨q1, q2, q3⟩ | ⟨t, u, L, q1, q2, q3, q4, q5, q6⟩
      · exact Or.inl ⟨(e 15 i (by decide) (by decide)).trans q1, e16.trans q2, (e 17 i (by decide) (by decide)).trans q3⟩
      · exact Or.inr ⟨t, u, L, q1, (e 15 i (by decide) (by decide)).trans q2, by rw [e16]; exact q3, (e 17 i (by decide) (by decide)).trans q4, (e 41 t (by decide) (by decide)).trans q5, q6⟩
    · rw [e16, g2]
      exact ⟨fun ⟨l, q1, q2⟩ => ⟨l, q1, (eo l).mpr q2⟩, fun ⟨l, q1, q2⟩ => ⟨l, q1, (eo l).mp q2⟩⟩
  · have := h3 l hl
    unfold LGi
    rw [e 32 l (by decide) (by decide), e 33 l (by decide) (by decide), e 34 l (by decide) (by decide)]
    exact this
  · obtain ⟨L, s, f, ⟨g1, g2, g3, g3'⟩, g4, g5, g6⟩ := h4 t ht
    obtain ⟨f', f1, f2⟩ : ∃ f', f' ≤ 9 ∧ FZ ρ (ρ 43 t) = nI f' := by
      unfold FZ
      split
      · exact fz_n _
      · exact ⟨f, g3', g6⟩
    exact ⟨L, s, f', ⟨g1, g2, g3, f1⟩, (e 41 t (by decide) (by decide)).trans g4, (e 42 t (by decide) (by decide)).trans g5, (e43 t ht).trans f2⟩
/-- an hour's facts -/
def HR (a b c : Nat) (ρ ρ' : RH) : Prop :=
  (ρ' 6 0 = ρ 6 0 + 1 ∧ ∀ f i, FX f → f ≠ 6 → ρ' f i = ρ f i) ∧ (∀ t, t < a → ρ' 43 t = FZ ρ (ρ 43 t)) ∧ (∀ j, j < b → HJ a c ρ ρ' j) ∧ (∀ l, l < c → LJ ρ ρ' l) ∧
  wOf c ρ' 3 + sm (fun i => ρ 19 i) b = wOf c ρ 3 + sm (fun i => ρ' 19 i) b
theorem SI.hr (h : SI a b c ρ) (hh : ∃ r, r < 100 ∧ ρ 6 0 = nI r) : SI a b c (hrC a b c hc wc σ π ρ) ∧ HR a b c ρ (hrC a b c hc wc σ π ρ) := by
  obtain ⟨h1, pA, -, pC, pD⟩ := h.p1 (hc := hc) (σ := σ) (π := π) b (Nat.le_refl _)
  obtain ⟨h2, qA, -, qZ, qC, qD, qE⟩ := h1.p2 (wc := wc) (σ := σ) (π := π) b (Nat.le_refl _)
  have hfx : ∀ f i, FX f → f ≠ 6 → hrC a b c hc wc σ π ρ f i = ρ f i := fun f i g1 g2 => by
    unfold hrC; rw [u2_f g2, fr_f (by unfold FX at g1; omega), o2_fx g1, o1_fx g1]
  have h43 : ∀ t, t < a → hrC a b c hc wc σ π ρ 43 t = FZ ρ (ρ 43 t) := fun t ht => by
    unfold hrC
    rw [u2_f (by decide), fr_43 ht]
    unfold FZ
    rw [o2_fx (Or.inl rfl), o1_fx (Or.inl rfl), o2_fx (Or.inr (Or.inl rfl)), o1_fx (Or.inr (Or.inl rfl)), qA 43 t (by unfold MF; omega), pA 43 t (by omega)]
  have h6 : hrC a b c hc wc σ π ρ 6 0 = ρ 6 0 + 1 := by
    unfold hrC; rw [u2_s, fr_f (by decide), o2_fx (Or.inl rfl), o1_fx (Or.inl rfl)]
  have hot : ∀ f i, f ≠ 43 → f ≠ 6 → hrC a b c hc wc σ π ρ f i = o2C a b c wc σ π (o1C a c hc σ π ρ b) b f i := fun f i g1 g2 => by
    unfold hrC; rw [u2_f g2, fr_f g1]
  have hs : SI a b c (hrC a b c hc wc σ π ρ) := h2.fr (by
    obtain ⟨r, r1, r2⟩ := hh
    exact ⟨r, r1, by rw [o2_fx (Or.inl rfl), o1_fx (Or.inl rfl)]; exact r2⟩)
  refine ⟨hs, ⟨h6, hfx⟩, h43, ?_⟩
  have hb := h.1.2.1
  generalize hrC a b c hc wc σ π ρ = ρ9 at *
  generalize hE : o2C a b c wc σ π (o1C a c hc σ π ρ b) b = ρ2 at *
  generalize o1C a c hc σ π ρ b = R at *
  refine ⟨fun j hj => ?_, fun l hl => ?_, ?_⟩
  · have e9 : ∀ f, 12 ≤ f → f < 20 → ρ9 f j = ρ2 f j := fun f g1 g2 => hot f j (by omega) (by omega)
    rcases pC j hj with ⟨d1, d2⟩ | ⟨d1, ⟨d2, d3⟩, d4, d5, d6⟩
    · right
      have eR : ∀ f, 12 ≤ f → f < 20 → R f j = ρ f j := fun f g1 g2 => by
        by_cases z : f < 15
        · exact pA f j (Or.inl z)
        · exact d2 f (by omega) g2
      rcases qC j hj with ⟨y1, y2⟩ | ⟨y0, t, N, y1, y2, y3, y4, y5⟩
      · exact Or.inl ⟨(e9 12 (by decide) (by decide)).trans (y1.trans (eR 12 (by decide) (by decide))), fun f g1 g2 => (e9 f (by omega) g2).trans ((y2 f g1 g2).trans (eR f (by omega) g2))⟩
      · have hld : ldOf c R (nI j) = ldOf c ρ (nI j) := ld_own (fun l hl => ⟨pA 31 l (by omega), by
          unfold OWN
          rcases pD l with ⟨g1, g2⟩ | ⟨-, g1, g2, i, g3, g4, g5⟩
          · rw [g1, g2]
          · rw [g2, g4, g1]
            refine ⟨fun w => ?_, fun w => absurd w.1 (by decide)⟩
            have : i = j := (nI_eq (by omega) (by omega)).mp w.2
            subst this
            rw [d1] at g5; exact absurd g5 (by decide)⟩)
        refine Or.inr ⟨t, N, y1, (eR 15 (by decide) (by decide)).symm.trans y2, ?_, y4, y5.cg (fun f g1 g2 => (eR f g1 g2).symm) e9 (pA 41 t (by omega)).symm hld.symm⟩
        rw [← y3]
        exact (ndF_cg (eR 16 (by decide) (by decide)) hld (pA 42 t (by omega)) (pA 43 t (by omega))).symm
    · left
      rcases qC j hj with ⟨y1, y2⟩ | ⟨y0, -⟩
      · exact ⟨d2, d3, (e9 15 (by decide) (by decide)).trans ((y2 15 (by decide) (by decide)).trans d4), (e9 16 (by decide) (by decide)).trans ((y2 16 (by decide) (by decide)).trans d5), (e9 17 (by decide) (by decide)).trans ((y2 17 (by decide) (by decide)).trans d6), (e9 12 (by decide) (by decide)).trans (y1.trans (pA 12 j (by omega))), (e9 18 (by decide) (by decide)).trans ((y2 18 (by decide) (by decide)).trans (pA 18 j (by omega))), (e9 19 (by decide) (by decide)).trans ((y2 19 (by decide) (by decide)).trans (pA 19 j (by omega)))⟩
      · rw [d1] at y0; exact absurd y0 (by decide)
  · unfold LJ
    rw [hot 32 l (by decide) (by decide), hot 33 l (by decide) (by decide), hot 34 l (by decide) (by decide)]
    have e34 : R 34 l = ρ 34 l := pA 34 l (by omega)
    have e6 : R 6 0 = ρ 6 0 := pA 6 0 (by omega)
    rcases qD l with ⟨g1, g2, g3⟩ | ⟨-, i, i1, ⟨o1, o2⟩, g16, g4⟩
    · rcases pD l with ⟨d1, d2⟩ | ⟨-, d1, d2, -⟩
      · exact Or.inl ⟨g1.trans d1, g2.trans d2, g3.trans e34⟩
      · exact Or.inr (Or.inl ⟨d1, g1.trans d2⟩)
    · rcases pD l with ⟨d1, d2⟩ | ⟨-, d1, d2, i', d3, d4, d5⟩
      · rcases g4 with ⟨y1, y2⟩ | ⟨y1, y2⟩
        · exact Or.inr (Or.inr (Or.inl ⟨d1.symm.trans o1, y1⟩))
        · exact Or.inr (Or.inr (Or.inr ⟨d1.symm.trans o1, y1, y2.trans e6⟩))
      · exfalso
        have : i' = i := (nI_eq (by omega) (by omega)).mp (d4.symm.trans o2)
        subst this
        rcases pC i' i1 with ⟨z1, -⟩ | ⟨z1, -, -, z5, -⟩
        · rw [d5] at z1; exact absurd z1 (by decide)
        · rcases qC i' i1 with ⟨-, y2⟩ | ⟨y0, -⟩
          · rw [y2 16 (by decide) (by decide), z5] at g16; exact absurd g16 (by decide)
          · rw [d5] at y0; exact absurd y0 (by decide)
  · have e1 : wOf c ρ9 3 = wOf c ρ2 3 := sm_cong (fun l _ => by simp only [hot 31 l (by decide) (by decide), hot 32 l (by decide) (by decide)])
    have e2 : wOf c R 3 = wOf c ρ 3 := w3_same (fun l => ⟨pA 31 l (by omega), by
      rcases pD l with ⟨g1, -⟩ | ⟨-, g1, g2, -⟩
      · rw [g1]
      · rw [g1, g2]; decide⟩)
    have e3 : sm (fun i => R 19 i) b = sm (fun i => ρ 19 i) b := sm_cong (fun i _ => pA 19 i (by omega))
    have e4 : sm (fun i => ρ9 19 i) b = sm (fun i => ρ2 19 i) b := sm_cong (fun i _ => hot 19 i (by decide) (by decide))
    rw [e1, ← e2, ← e3, e4]; exact qE
end ST5
