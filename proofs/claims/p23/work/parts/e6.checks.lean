/-! what the law asks of an hour -/
section CHK
variable {a b c hc wc : Nat} {σ : Nat → Nat} {π ρ ρ' : RH} {j h g t N : Nat}
/-- what the law notes as a horse's need -/
def nvF (c : Nat) (ρ : RH) (h : Nat) : Int32 := if ρ 15 h < 0 then 0 else if ρ 16 h = 0 then 0 else needF c ρ (nI h) (ρ 15 h).toNatClampNeg
def aB (x : Int32) : Int32 := if 0 ≤ x then x else 0 - x
/-- a horse before the hour -/
def HB (a c : Nat) (ρ : RH) (h : Nat) : Prop :=
  ¬ ρ 15 h < -1 ∧ ρ 15 h < nI a ∧ (ρ 15 h < 0 → ρ 16 h = 0 ∧ ρ 17 h = 0) ∧ (0 ≤ ρ 15 h → 0 ≤ ρ 17 h ∧ ∃ t, t < a ∧ ρ 15 h = nI t ∧ ρ 17 h < ρ 41 t) ∧ (0 < ldOf c ρ (nI h) ↔ ρ 16 h = 1) ∧ (0 ≤ ρ 18 h ∧ ρ 18 h ≤ 60) ∧ 0 ≤ ρ 12 h ∧ ρ 12 h ≤ 9
/-- a horse behind the hour -/
def HQ (a c : Nat) (ρ ρ' : RH) (h : Nat) : Prop :=
  (ρ' 12 h < ρ 12 h ↔ (0 ≤ ρ 15 h ∧ ρ 13 h < nvF c ρ h ∧ ρ' 16 h = 0 ∧ ρ' 19 h = ρ 19 h)) ∧
  (ρ' 12 h < ρ 12 h → ρ' 12 h = ρ 12 h - 1 ∧ ρ' 15 h = ρ 15 h ∧ ldOf c ρ' (nI h) = 0 ∧ ∃ t, t < a ∧ ρ' 15 h = nI t ∧ ρ' 17 h = ρ' 41 t - 1 - ρ 17 h) ∧
  aB (ρ' 15 h - ρ 15 h) ≤ 1 ∧ ρ' 18 h ≤ ρ 18 h + nvF c ρ h / 8 ∧ ρ 18 h - 4 ≤ ρ' 18 h ∧
  (ρ' 15 h = ρ 15 h → ρ' 16 h = ρ 16 h → ρ 17 h ≤ ρ' 17 h ∧ ρ' 17 h ≤ ρ 17 h + 2) ∧
  (ρ 16 h = 0 → 0 ≤ ρ 15 h → ρ' 15 h ≤ ρ 15 h ∧ ¬ ρ' 16 h = 1) ∧
  (ρ 15 h < 0 → 0 ≤ ρ' 15 h → ρ' 15 h = 0 ∧ ¬ ρ 12 h = 0 ∧ ¬ ldOf c ρ' (nI h) = 0 ∧ ρ' 17 h = 0)
theorem nI_nneg {n : Nat} (h : n < 2 ^ 31) : ¬ nI n < 0 := Int32.not_lt.mpr (nI_pos2 h)
theorem SI.hb (h : SI a b c ρ) (hj : j < b) : HB a c ρ j := by
  have ha := h.1.1
  obtain ⟨g1, g2, ⟨k, k1, k2, k3⟩, -, -⟩ := h.2.1 j hj
  obtain ⟨-, b16, -, -, b18⟩ := h.2.2.2.2.2.1 j hj
  obtain ⟨l0, l1⟩ := h.ld0 hj
  have hl : 0 < ldOf c ρ (nI j) ↔ ρ 16 j = 1 := ⟨fun q => by
    rcases b16 with e | e
    · rw [l0 e] at q; exact absurd q (by decide)
    · exact e, l1⟩
  have h12 : 0 ≤ ρ 12 j ∧ ρ 12 j ≤ 9 := by
    rw [k2]; exact ⟨nI_pos2 (by omega), (nI_leI (a := k) (b := 9) (by omega) (by decide)).mpr k1⟩
  rcases g1 with ⟨q1, q2, q3⟩ | ⟨t, u, L, q1, q2, q3, q4, q5, q6, q7⟩
  · refine ⟨by rw [q1]; decide, ?_, fun _ => ⟨q2, q3⟩, fun z => absurd z (by rw [q1]; decide), hl, b18, h12⟩
    rw [q1]; exact Int32.lt_iff_toInt_lt.mpr (by rw [nI_toInt (by omega)]; have : (-1 : Int32).toInt = -1 := rfl; omega)
  · refine ⟨?_, ?_, fun z => absurd z (by rw [q2]; exact nI_nneg (by omega)), fun _ => ⟨?_, t, q1, q2, ?_⟩, hl, b18, h12⟩
    · rw [q2]; exact fun z => by
        have z := Int32.lt_iff_toInt_lt.mp z
        rw [nI_toInt (by omega)] at z
        have : (-1 : Int32).toInt = -1 := rfl
        omega
    · rw [q2]; exact (nI_ltI (by omega) (by omega)).mpr q1
    · rw [q4]; exact nI_pos2 (by omega)
    · rw [q4, q5]; exact (nI_ltI (by omega) (by omega)).mpr q6
theorem sub4 {k k' : Nat} (h1 : k ≤ 60) (h2 : k' ≤ 60) (h3 : k ≤ k' + 4) : nI k - 4 ≤ nI k' := by
  have e4 : (4 : Int32).toInt = 4 := rfl
  have e : (nI k - 4).toInt = (k : Int) - 4 := by
    have := i32_sub (x := nI k) (y := 4) (by rw [nI_toInt (by omega), e4]; omega) (by rw [nI_toInt (by omega), e4]; omega)
    rw [this, nI_toInt (by omega), e4]
  exact Int32.le_iff_toInt_le.mpr (by rw [e, nI_toInt (by omega)]; omega)
theorem nv_t (h15 : ρ 15 j = nI t) (ht : t < 2 ^ 30) : nvF c ρ j = ndF c ρ j t := by
  unfold nvF ndF
  rw [h15, if_neg (nI_nneg (by omega)), nI_cl (by omega)]
theorem nv_0 (h15 : ρ 15 j = -1) : nvF c ρ j = 0 := by
  unfold nvF
  rw [h15, if_pos (by decide)]
theorem ab_eq {x : Int32} : aB (x - x) ≤ 1 := by rw [Int32.sub_self]; decide
theorem ab_1 (t : Nat) : aB (nI (t + 1) - nI t) ≤ 1 ∧ (t + 1 < 2 ^ 30 → aB (nI t - nI (t + 1)) ≤ 1) := by
  refine ⟨?_, fun h => ?_⟩
  · rw [← nI_1 t, Int32.add_comm, Int32.add_sub_cancel]; decide
  · have : nI t - nI (t + 1) = -1 := by
      rw [← nI_1 t]
      apply Int32.toBitVec_inj.mp
      show (nI t).toBitVec - ((nI t).toBitVec + 1#32) = 4294967295#32
      bv_omega
    rw [this]; decide
theorem SI.hq (h : SI a b c ρ) (h' : SI a b c ρ') (hr : HR a b c ρ ρ') (hj : j < b) : HQ a c ρ ρ' j := by
  have ha := h.1.1
  obtain ⟨⟨-, fx⟩, -, hJ, -, -⟩ := hr
  obtain ⟨g1, g2, ⟨k, k1, k2, k3⟩, -, n13, n1, n2, n3⟩ := h.2.1 j hj
  obtain ⟨g1', -, -, -, -⟩ := h'.2.1 j hj
  obtain ⟨-, b16, -, -, b18⟩ := h.2.2.2.2.2.1 j hj
  obtain ⟨l0, l1⟩ := h'.ld0 hj
  obtain ⟨i, i1, i2⟩ := r_n b18.1 b18.2
  obtain ⟨-, -, -, -, -, -, -, -⟩ := h.hb hj
  -- the need
  have hN : ∃ N, N ≤ 1600 ∧ nvF c ρ j = nI N ∧ (ρ 16 j = 0 → N = 0) := by
    rcases g1 with ⟨q1, -, -⟩ | ⟨t, u, L, q1, q2, -⟩
    · exact ⟨0, by omega, nv_0 q1, fun _ => rfl⟩
    · obtain ⟨N, y1, y2, y3⟩ := h.nd2 q1 j
      exact ⟨N, y1, (nv_t q2 (by omega)).trans y2, y3⟩
  obtain ⟨N, N1, N2, N3⟩ := hN
  have hN8 : nvF c ρ j / 8 = nI (N / 8) := by rw [N2]; exact nI_div (b := 8) (by omega) (by decide)
  have le18 : ∀ {i' : Nat}, i' ≤ 60 → i' ≤ i + N / 8 → nI i' ≤ ρ 18 j + nvF c ρ j / 8 := fun {i'} y1 y2 => by
    rw [hN8, i2, nI_add]; exact (nI_leI (by omega) (by omega)).mpr y2
  have h17 : ∃ u, u ≤ 9 ∧ ρ 17 j = nI u := by
    rcases g1 with ⟨-, -, q3⟩ | ⟨t, u, L, q1, q2, q3, q4, q5, q6, q7⟩
    · exact ⟨0, by omega, q3⟩
    · exact ⟨u, by omega, q4⟩
  obtain ⟨u, u1, u2'⟩ := h17
  have no13 : ρ 16 j = 0 → ¬ ρ 13 j < nvF c ρ j := fun e q => by
    rw [N2, N3 e, n3] at q
    exact absurd ((nI_ltI (a := n13) (b := 0) (by omega) (by decide)).mp q) (Nat.not_lt_zero _)
  have lt_irr : ∀ {x y : Int32}, x = y → ¬ x < y := fun e q => by rw [e] at q; exact Int32.lt_irrefl q
  have u02 : ρ 17 j ≤ ρ 17 j ∧ ρ 17 j ≤ ρ 17 j + 2 := by
    rw [u2']
    exact ⟨Int32.le_refl _, by rw [show (2 : Int32) = nI 2 from rfl, nI_add]; exact (nI_leI (by omega) (by omega)).mpr (by omega)⟩
  have neg1 : ∀ {t : Nat}, t < 2 ^ 30 → ρ 15 j = nI t → ¬ ρ 15 j < 0 := fun ht e => by rw [e]; exact nI_nneg (by omega)
  rcases hJ j hj with ⟨d15, d12, e15, e16, e17, e12, e18, e19⟩ | ⟨e12, ef⟩ | ⟨t, N', ht, d15, dN, hN16, hm⟩
  · refine ⟨⟨fun q => absurd q (lt_irr e12), fun q => absurd q.1 (by rw [d15]; decide)⟩, fun q => absurd q (lt_irr e12), by rw [e15, d15]; decide, ?_, ?_, fun q => absurd q (by rw [e15, d15]; decide), fun _ q => absurd q (by rw [d15]; decide), fun _ _ => ⟨e15, fun q => d12 (by rw [q]; decide), fun q => ?_, e17⟩⟩
    · rw [e18, i2]; rw [← i2]; rw [i2] ; exact i2 ▸ le18 i1 (by omega)
    · rw [e18, i2]; exact sub4 i1 i1 (by omega)
    · have := l1 e16
      rw [q] at this; exact absurd this (by decide)
  · have e15 := ef 15 (by decide) (by decide)
    have e16 := ef 16 (by decide) (by decide)
    have e17 := ef 17 (by decide) (by decide)
    have e18 := ef 18 (by decide) (by decide)
    have e19 := ef 19 (by decide) (by decide)
    refine ⟨⟨fun q => absurd q (lt_irr e12), fun q => absurd q.2.1 (no13 (e16.symm.trans q.2.2.1))⟩, fun q => absurd q (lt_irr e12), by rw [e15]; exact ab_eq, ?_, ?_, fun _ _ => by rw [e17]; exact u02, fun q _ => ⟨by rw [e15]; exact Int32.le_refl _, by rw [e16, q]; decide⟩, fun q1 q2 => absurd q1 (by rw [e15] at q2; exact Int32.not_lt.mpr q2)⟩
    · rw [e18]; exact i2 ▸ le18 i1 (by omega)
    · rw [e18, i2]; exact sub4 i1 i1 (by omega)
  · have hnv : nI N' = nvF c ρ j := by rw [nv_t d15 (by omega), dN]
    have p15 : 0 ≤ ρ 15 j := by rw [d15]; exact nI_pos2 (by omega)
    have nn : ¬ ρ 15 j < 0 := neg1 (by omega) d15
    have hTR : TRd ρ ρ' j N' → ρ' 18 j ≤ ρ 18 j + nvF c ρ j / 8 ∧ ρ 18 j - 4 ≤ ρ' 18 j := fun ⟨z, z', ⟨z1, z2, z3, z4⟩, z5, z6⟩ => by
      have ez : z = i := (nI_eq (by omega) (by omega)).mp (z5.symm.trans i2)
      subst ez
      have eN : N' % 2 ^ 32 = N % 2 ^ 32 := by
        have := congrArg Int32.toBitVec (hnv.trans N2)
        have := congrArg BitVec.toNat this
        simpa [nI] using this
      have eN2 : N' = N := by omega
      subst eN2
      rw [z6]
      exact ⟨le18 z2 z4, by rw [z5]; exact sub4 z1 z2 z3⟩
    rcases hm with ⟨⟨e12, e15, e16, e17, e19⟩, hT⟩ | ⟨⟨q1, q2⟩, e12, e15, e16, e17, e18, e19⟩ | ⟨⟨q0, e12, hT⟩, hw⟩
    · obtain ⟨t1, t2⟩ := hTR hT
      refine ⟨⟨fun q => absurd q (lt_irr e12), fun q => absurd q.2.1 (no13 (e16.symm.trans q.2.2.1))⟩, fun q => absurd q (lt_irr e12), by rw [e15]; exact ab_eq, t1, t2, fun _ _ => by rw [e17]; exact u02, fun q _ => ⟨by rw [e15]; exact Int32.le_refl _, by rw [e16, q]; decide⟩, fun q => absurd q nn⟩
    · have hk := k3 q2
      have e12' : ρ' 12 j = nI (k - 1) := by rw [e12, k2]; exact nI_sub (n := 1) hk (by omega)
      have hlt : ρ' 12 j < ρ 12 j := by rw [e12', k2]; exact (nI_ltI (by omega) (by omega)).mpr (by omega)
      refine ⟨⟨fun _ => ⟨p15, by rw [← hnv]; exact q1, e16, e19⟩, fun _ => hlt⟩, fun _ => ⟨e12, e15, l0 e16, t, ht, e15.trans d15, ?_⟩, by rw [e15]; exact ab_eq, ?_, ?_, fun _ q => absurd (e16.symm.trans (q.trans q2)) (by decide), fun q => absurd (q2.symm.trans q) (by decide), fun q => absurd q nn⟩
      · rw [e17, fx 41 t (by unfold FX; omega) (by decide)]
      · rw [e18]; exact i2 ▸ le18 i1 (by omega)
      · rw [e18, i2]; exact sub4 i1 i1 (by omega)
    · obtain ⟨t1, t2⟩ := hTR hT
      have f1 : (ρ' 12 j < ρ 12 j ↔ (0 ≤ ρ 15 j ∧ ρ 13 j < nvF c ρ j ∧ ρ' 16 j = 0 ∧ ρ' 19 j = ρ 19 j)) := ⟨fun q => absurd q (lt_irr e12), fun q => absurd (by rw [hnv]; exact q.2.1) q0⟩
      have f2 : ∀ {P : Prop}, ρ' 12 j < ρ 12 j → P := fun q => absurd q (lt_irr e12)
      rcases hw with ⟨e15, e16, e19, w, w', w1, w2, w3, w4, w5⟩ | ⟨e16, e19, e17, t', w1, w2, w3⟩ | ⟨w0, w1, w2, w3, w4, w5⟩ | ⟨w1, w2, w3, w4, w5⟩
      · refine ⟨f1, f2, by rw [e15]; exact ab_eq, t1, t2, fun _ _ => ?_, fun q _ => ⟨by rw [e15]; exact Int32.le_refl _, by rw [e16, q]; decide⟩, fun q => absurd q nn⟩
        rw [w1, w2]
        exact ⟨(nI_leI (by omega) (by omega)).mpr w3, by rw [show (2 : Int32) = nI 2 from rfl, nI_add]; exact (nI_leI (by omega) (by omega)).mpr w4⟩
      · refine ⟨f1, f2, ?_, t1, t2, fun q => ?_, fun q _ => ?_, fun q => absurd q nn⟩
        · rw [w1, d15]
          rcases w3 with ⟨-, rfl⟩ | ⟨-, rfl⟩
          · exact (ab_1 t).1
          · exact (ab_1 t').2 (by omega)
        · exfalso
          rw [w1, d15] at q
          have := (nI_eq (by omega) (by omega)).mp q
          omega
        · rcases w3 with ⟨z, -⟩ | ⟨z, rfl⟩
          · exact absurd (q.symm.trans z) (by decide)
          · rw [w1, d15, e16, q]
            exact ⟨(nI_leI (by omega) (by omega)).mpr (by omega), by decide⟩
      · subst w0
        refine ⟨f1, f2, by rw [w2, d15]; decide, t1, t2, fun q => absurd (w2.symm.trans (q.trans d15)) (by decide), fun q _ => ⟨by rw [w2, d15]; decide, by rw [w3]; decide⟩, fun q => absurd q nn⟩
      · refine ⟨f1, f2, by rw [w2]; exact ab_eq, t1, t2, fun _ q => absurd (w3.symm.trans (q.trans w1)) (by decide), fun q => absurd (w1.symm.trans q) (by decide), fun q => absurd q nn⟩
/-- a log behind the hour -/
def LQQ (a : Nat) (ρ ρ' : RH) (l : Nat) : Prop :=
  ρ' 31 l = ρ 31 l ∧ ¬ ρ' 32 l < ρ 32 l ∧ (ρ' 32 l = 3 ↔ 0 ≤ ρ' 34 l) ∧ ((ρ' 32 l = 1 ∨ ρ' 32 l = 2) ↔ 0 ≤ ρ' 33 l) ∧
  (ρ' 32 l = 3 → ρ 32 l < 3 → ρ' 34 l = ρ 6 0 ∧ ρ 32 l = 1) ∧ (ρ' 32 l = 2 → ¬ ρ 32 l = 2 → ρ 32 l = 1) ∧ (ρ' 32 l = 1 → ρ 32 l = 1 → ρ' 33 l = ρ 33 l) ∧ (ρ' 32 l = 2 → ∃ t, t < a ∧ ρ' 33 l = nI t)
theorem SI.lq (h : SI a b c ρ) (h' : SI a b c ρ') (hr : HR a b c ρ ρ') {l : Nat} (hl : l < c) : LQQ a ρ ρ' l := by
  have ha := h.1.1
  have hb := h.1.2.1
  obtain ⟨⟨-, fx⟩, -, -, hL, -⟩ := hr
  have g := h'.2.2.1 l hl
  have g0 := h.2.2.1 l hl
  have w : ∀ {x y : Int32} {P : Prop}, x = y → ¬ x = y → P := fun e n => absurd e n
  refine ⟨fx 31 l (by unfold FX; omega) (by decide), ?_, ?_, ?_, ?_, ?_, ?_, ?_⟩
  · rcases hL l hl with ⟨e, -⟩ | ⟨e1, e2⟩ | ⟨e1, e2⟩ | ⟨e1, e2, -⟩
    · rw [e]; exact Int32.lt_irrefl
    all_goals rw [e1, e2]; decide
  · rcases g with ⟨q1, q2, q3⟩ | ⟨x, x1, q1, q2, q3⟩ | ⟨x, x1, q1, q2, q3⟩ | ⟨q1, q2, x, x1, q3⟩
    · rw [q1, q3]; decide
    · rw [q1, q3]; decide
    · rw [q1, q3]; decide
    · rw [q1, q3]; exact ⟨fun _ => nI_pos2 (by omega), fun _ => rfl⟩
  · rcases g with ⟨q1, q2, q3⟩ | ⟨x, x1, q1, q2, q3⟩ | ⟨x, x1, q1, q2, q3⟩ | ⟨q1, q2, x, x1, q3⟩
    · rw [q1, q2]; decide
    · rw [q1, q2]; exact ⟨fun _ => nI_pos2 (by omega), fun _ => Or.inl rfl⟩
    · rw [q1, q2]; exact ⟨fun _ => nI_pos2 (by omega), fun _ => Or.inr rfl⟩
    · rw [q1, q2]; decide
  · intro z1 z2
    rcases hL l hl with ⟨e, -⟩ | ⟨e1, e2⟩ | ⟨e1, e2⟩ | ⟨e1, e2, e3⟩
    · rw [← e, z1] at z2; exact absurd z2 (by decide)
    · rw [z1] at e2; exact absurd e2 (by decide)
    · rw [z1] at e2; exact absurd e2 (by decide)
    · exact ⟨e3, e1⟩
  · intro z1 z2
    rcases hL l hl with ⟨e, -⟩ | ⟨e1, e2⟩ | ⟨e1, e2⟩ | ⟨e1, e2, e3⟩
    · exact absurd (e.symm.trans z1) z2
    · rw [z1] at e2; exact absurd e2 (by decide)
    · exact e1
    · exact e1
  · intro z1 z2
    rcases hL l hl with ⟨-, e, -⟩ | ⟨e1, e2⟩ | ⟨e1, e2⟩ | ⟨e1, e2, e3⟩
    · exact e
    · rw [z2] at e1; exact absurd e1 (by decide)
    · rw [z1] at e2; exact absurd e2 (by decide)
    · rw [z1] at e2; exact absurd e2 (by decide)
  · intro z
    rcases g with ⟨q1, -⟩ | ⟨x, x1, q1, -⟩ | ⟨x, x1, q1, q2, -⟩ | ⟨q1, -⟩
    · rw [z] at q1; exact absurd q1 (by decide)
    · rw [z] at q1; exact absurd q1 (by decide)
    · exact ⟨x, x1, q2⟩
    · rw [z] at q1; exact absurd q1 (by decide)
/-- what the horses have brought -/
theorem i32_4 (x1 x2 x3 x4 : Int32) : x1 - x2 + (x3 - x4) = x1 + x3 - (x2 + x4) := by
  simp only [Int32.sub_eq_add_neg, Int32.neg_add]
  ac_rfl
theorem i32_5 {x1 x2 x3 x4 : Int32} (e : x1 + x3 = x2 + x4) : x4 - x3 = x1 - x2 := by
  have h : x4 = x1 - x2 + x3 := by
    have : x2 + x4 - x2 = x4 := by rw [Int32.add_comm, Int32.add_sub_cancel]
    rw [← this, ← e, Int32.sub_eq_add_neg, Int32.sub_eq_add_neg]
    ac_rfl
  rw [h, Int32.add_sub_cancel]
theorem sm_sub (f g : Nat → Int32) (n : Nat) : sm (fun k => f k - g k) n = sm f n - sm g n := by
  induction n with
  | zero => show (0 : Int32) = 0 - 0; decide
  | succ n ih => rw [sm, sm, sm, ih, i32_4]
theorem HR.br (hr : HR a b c ρ ρ') : sm (fun i => ρ' 19 i - ρ 19 i) b = wOf c ρ' 3 - wOf c ρ 3 := by
  obtain ⟨-, -, -, -, e⟩ := hr
  rw [sm_sub]
  exact i32_5 e
theorem gb_1 : gbC a b c hc wc σ π ρ 1 = hrC a b c hc wc σ π ρ := rfl
theorem br_n0 : ¬ brG a b c hc wc σ π ρ j 1 200 = 0 := by
  have : ∀ n k, 1 ≤ k → k + n ≤ 201 → ¬ brG a b c hc wc σ π ρ j k n = 0 := by
    intro n
    induction n with
    | zero => intro k _ _; rw [brG]; decide
    | succ n ih =>
      intro k h1 h2
      rw [brG]
      split
      · exact fun q => absurd ((nI_eq (a := k) (b := 0) (by omega) (by decide)).mp q) (by omega)
      · exact ih (k + 1) (by omega) (by omega)
  exact this 200 1 (by omega) (by omega)
/-- numbers or -1 that look ahead -/
theorem brG_v : ∀ n k, (∃ q, k ≤ q ∧ q < k + n ∧ brG a b c hc wc σ π ρ j k n = nI q ∧ (gbC a b c hc wc σ π ρ q) 12 j < ρ 12 j) ∨ (brG a b c hc wc σ π ρ j k n = -1 ∧ ∀ q, k ≤ q → q < k + n → ¬ (gbC a b c hc wc σ π ρ q) 12 j < ρ 12 j)
  | 0, k => Or.inr ⟨rfl, fun q h1 h2 => absurd h1 (by omega)⟩
  | n + 1, k => by
    by_cases z : (gbC a b c hc wc σ π ρ k) 12 j < ρ 12 j
    · exact Or.inl ⟨k, Nat.le_refl _, by omega, by rw [brG, if_pos z], z⟩
    · rcases brG_v n (k + 1) with ⟨q, q1, q2, q3, q4⟩ | ⟨q1, q2⟩
      · exact Or.inl ⟨q, by omega, by omega, by rw [brG, if_neg z]; exact q3, q4⟩
      · refine Or.inr ⟨by rw [brG, if_neg z]; exact q1, fun q h1 h2 => ?_⟩
        by_cases e : q = k
        · subst e; exact z
        · exact q2 q (by omega) (by omega)
theorem br_1 : brG a b c hc wc σ π ρ j 1 200 = 1 ↔ (hrC a b c hc wc σ π ρ) 12 j < ρ 12 j := by
  rw [show (200 : Nat) = 199 + 1 from rfl, brG]
  refine ⟨fun h => ?_, fun h => if_pos h⟩
  by_cases z : (gbC a b c hc wc σ π ρ 1) 12 j < ρ 12 j
  · exact z
  · rw [if_neg z] at h
    rcases brG_v (a := a) (b := b) (c := c) (hc := hc) (wc := wc) (σ := σ) (π := π) (ρ := ρ) (j := j) 199 2 with ⟨q, q1, q2, q3, -⟩ | ⟨q1, -⟩
    · rw [q3] at h
      exact absurd ((nI_eq (a := q) (b := 1) (by omega) (by decide)).mp h) (by omega)
    · rw [q1] at h; exact absurd h (by decide)
theorem arG_v : ∀ n k, k + n ≤ 201 → (∃ q, k ≤ q ∧ q < k + n ∧ arG a b c hc wc σ π ρ j k n = nI q ∧ (gbC a b c hc wc σ π ρ q) 32 j = 3) ∨ (arG a b c hc wc σ π ρ j k n = -1)
  | 0, k, _ => Or.inr rfl
  | n + 1, k, hk => by
    by_cases z : (gbC a b c hc wc σ π ρ k) 32 j = 3
    · exact Or.inl ⟨k, Nat.le_refl _, by omega, by rw [arG, if_pos z], z⟩
    · rcases arG_v n (k + 1) (by omega) with ⟨q, q1, q2, q3, q4⟩ | q1
      · exact Or.inl ⟨q, by omega, by omega, by rw [arG, if_neg z]; exact q3, q4⟩
      · exact Or.inr (by rw [arG, if_neg z]; exact q1)
theorem ar_0 : arG a b c hc wc σ π ρ j 0 201 = 0 ↔ ρ 32 j = 3 := by
  rw [show (201 : Nat) = 200 + 1 from rfl, arG]
  refine ⟨fun h => ?_, fun h => if_pos h⟩
  by_cases z : (gbC a b c hc wc σ π ρ 0) 32 j = 3
  · exact z
  · rw [if_neg z] at h
    rcases arG_v (a := a) (b := b) (c := c) (hc := hc) (wc := wc) (σ := σ) (π := π) (ρ := ρ) (j := j) 200 1 (by omega) with ⟨q, q1, q2, q3, -⟩ | q1
    · rw [q3] at h
      exact absurd ((nI_eq (a := q) (b := 0) (by omega) (by decide)).mp h) (by omega)
    · rw [q1] at h; exact absurd h (by decide)
theorem ar_1 : arG a b c hc wc σ π ρ j 0 201 = 1 ↔ (¬ ρ 32 j = 3 ∧ (hrC a b c hc wc σ π ρ) 32 j = 3) := by
  rw [show (201 : Nat) = 199 + 1 + 1 from rfl, arG, arG]
  by_cases z0 : (gbC a b c hc wc σ π ρ 0) 32 j = 3
  · rw [if_pos z0]
    exact ⟨fun h => absurd h (by decide), fun h => absurd z0 h.1⟩
  · rw [if_neg z0]
    by_cases z : (gbC a b c hc wc σ π ρ (0 + 1)) 32 j = 3
    · rw [if_pos z]; exact ⟨fun _ => ⟨z0, z⟩, fun _ => rfl⟩
    · rw [if_neg z]
      refine ⟨fun h => ?_, fun h => absurd h.2 z⟩
      rcases arG_v (a := a) (b := b) (c := c) (hc := hc) (wc := wc) (σ := σ) (π := π) (ρ := ρ) (j := j) 199 (0 + 1 + 1) (by omega) with ⟨q, q1, q2, q3, -⟩ | q1
      · rw [q3] at h
        exact absurd ((nI_eq (a := q) (b := 1) (by omega) (by decide)).mp h) (by omega)
      · rw [q1] at h; exact absurd h (by decide)
theorem gb_s : ∀ n, gbC a b c hc wc σ π (hrC a b c hc wc σ π ρ) n = gbC a b c hc wc σ π ρ (n + 1)
  | 0 => rfl
  | n + 1 => by rw [gbC, gb_s n]; rfl
theorem arG_s : ∀ n m k q, n ≤ m → k + n ≤ 300 → q < 2 ^ 30 → arG a b c hc wc σ π ρ j (k + 1) n = nI q → arG a b c hc wc σ π (hrC a b c hc wc σ π ρ) j k m = nI (q - 1)
  | 0, m, k, q, _, _, hq, h => absurd h.symm (nI_m1 (by omega))
  | n + 1, 0, k, q, hm, _, _, _ => absurd hm (by omega)
  | n + 1, m + 1, k, q, hm, hk, hq, h => by
    rw [arG] at h ⊢
    rw [gb_s]
    by_cases z : (gbC a b c hc wc σ π ρ (k + 1)) 32 j = 3
    · rw [if_pos z] at h ⊢
      have := (nI_eq (a := k + 1) (b := q) (by omega) (by omega)).mp h
      rw [← this, Nat.add_sub_cancel]
    · rw [if_neg z] at h ⊢
      exact arG_s n m (k + 1) q (by omega) (by omega) hq h
theorem ar_s (h : 1 < arG a b c hc wc σ π ρ j 0 201) : arG a b c hc wc σ π (hrC a b c hc wc σ π ρ) j 0 201 = arG a b c hc wc σ π ρ j 0 201 - 1 := by
  have e : arG a b c hc wc σ π ρ j 0 201 = arG a b c hc wc σ π ρ j 1 200 := by
    rw [show (201 : Nat) = 200 + 1 from rfl, arG]
    refine if_neg (fun z => ?_)
    rw [show (201 : Nat) = 200 + 1 from rfl, arG, if_pos z] at h
    exact absurd h (by decide)
  rw [e] at h ⊢
  rcases arG_v (a := a) (b := b) (c := c) (hc := hc) (wc := wc) (σ := σ) (π := π) (ρ := ρ) (j := j) 200 1 (by omega) with ⟨q, q1, q2, q3, -⟩ | q1
  · rw [arG_s 200 201 0 q (by omega) (by omega) (by omega) q3, q3]
    exact (nI_sub (n := 1) q1 (by omega)).symm
  · rw [q1] at h; exact absurd h (by decide)
theorem ad_r (hs : Nat) : ∀ n, n ≤ 7 → -3 ≤ (adS a b c hc wc σ π ρ hs n).1 ∧ (adS a b c hc wc σ π ρ hs n).1 ≤ 3
  | 0, _ => by rw [adS]; decide
  | n + 1, hn => by
    rw [adS]
    split
    · exact (show ∀ k, k < 7 → -3 ≤ wk k ∧ wk k ≤ 3 by decide) n (by omega)
    · exact ad_r hs n (by omega)
theorem ch_r (hs : Nat) : ∀ n, 1 ≤ b → n ≤ b → b ≤ 100 → (chS a b c hc wc σ π ρ hs n).1 < nI b
  | 0, h1, _, h2 => by
    rw [chS]
    exact Int32.lt_iff_toInt_lt.mpr (by rw [nI_toInt (by omega)]; have : (-1 : Int32).toInt = -1 := rfl; show (-1 : Int32).toInt < _; omega)
  | n + 1, h1, hn, h2 => by
    rw [chS]
    split
    · exact (nI_ltI (by omega) (by omega)).mpr (by omega)
    · exact ch_r hs n h1 (by omega) h2
end CHK
