/-! a horse goes on -/
section ST4
variable {a b c wc : Nat} {σ : Nat → Nat} {π ρ ρ' R : RH} {x m : Int32} {j t N u L : Nat}
/-- a step further on the stretch, tired anew -/
def GPx (ρ R : RH) (j N : Nat) : Prop := (∀ f i, ¬ f = 17 → ¬ f = 18 → R f i = ρ f i) ∧ (∀ f i, i ≠ j → R f i = ρ f i) ∧ TRd ρ R j N
theorem GPx.gf (g : GPx ρ R j N) : ∀ f i, ¬ f = 17 → ¬ f = 18 → R f i = ρ f i := g.1
theorem GPx.gi (g : GPx ρ R j N) : ∀ f i, i ≠ j → R f i = ρ f i := g.2.1
theorem GPx.gt (g : GPx ρ R j N) : TRd ρ R j N := g.2.2
theorem s2_stand (h : SI a b c ρ) (hj : j < b) (hp : ρ 15 j = nI t) (ht : t < a) (h20 : ρ 20 j = 0) (hN : ndF c ρ j t = nI N ∧ N ≤ 1600) (hq : ¬ ρ 13 j < nI N) (g : GPx ρ R j N) (h2 : ∀ f i, ¬ f = 20 → ρ' f i = standC R j x m 0 f i) (h3 : ∀ i, ρ' 20 i = ρ 20 i ∨ ρ' 20 i = 1)
    (hm : ρ 16 j = m) (hx : (x = -1 ∧ t = 0 ∧ m = 0) ∨ ∃ t', t' < a ∧ x = nI t' ∧ ((m = 1 ∧ t' = t + 1) ∨ (m = 0 ∧ t = t' + 1))) (hF : RI a b c ρ') : SI a b c ρ' ∧ S2 a c ρ ρ' j := by
  have ha := h.1.1
  have hA : ∀ f i, ¬ f = 20 → ¬ f = 15 → ¬ f = 16 → ¬ f = 17 → ¬ f = 18 → ρ' f i = ρ f i := fun f i g1 g2 g3 g4 g5 => by
    rw [h2 f i g1]; unfold standC; rw [u2_f g4, u2_f g3, u2_f g2]; exact g.gf f i g4 g5
  have e15 : ρ' 15 j = x := by rw [h2 15 j (by decide)]; unfold standC; rw [u2_f (by decide), u2_f (by decide), u2_s]
  have e16 : ρ' 16 j = m := by rw [h2 16 j (by decide)]; unfold standC; rw [u2_f (by decide), u2_s]
  have e17 : ρ' 17 j = 0 := by rw [h2 17 j (by decide)]; unfold standC; rw [u2_s]
  have e18 : ρ' 18 j = R 18 j := by rw [h2 18 j (by decide)]; unfold standC; rw [u2_f (by decide), u2_f (by decide), u2_f (by decide)]
  have e19 : ρ' 19 j = ρ 19 j := hA 19 j (by decide) (by decide) (by decide) (by decide) (by decide)
  have e12 : ρ' 12 j = ρ 12 j := hA 12 j (by decide) (by decide) (by decide) (by decide) (by decide)
  have hB : ∀ f i, i ≠ j → 12 ≤ f → f < 20 → ρ' f i = ρ f i := fun f i hi g1 g2 => by
    rw [h2 f i (by omega)]; unfold standC; rw [u2_i hi, u2_i hi, u2_i hi]; exact g.gi f i hi
  have hl : ∀ l, ρ' 32 l = ρ 32 l ∧ ρ' 33 l = ρ 33 l := fun l => ⟨hA 32 l (by decide) (by decide) (by decide) (by decide) (by decide), hA 33 l (by decide) (by decide) (by decide) (by decide) (by decide)⟩
  obtain ⟨k, k1, k2, k3⟩ := (h.2.1 j hj).2.2.1
  have hT : TRd ρ ρ' j N := by
    obtain ⟨p, p', q1, q2, q3⟩ := g.gt
    exact ⟨p, p', q1, q2, e18.trans q3⟩
  refine s2_mk h hj hp ht h20 hN (fun f i hf => hA f i (by unfold MF at hf; omega) (by unfold MF at hf; omega) (by unfold MF at hf; omega) (by unfold MF at hf; omega) (by unfold MF at hf; omega)) hB h3 (fun l => Or.inl ⟨(hl l).1, (hl l).2, hA 34 l (by decide) (by decide) (by decide) (by decide) (by decide)⟩) ?_ ⟨k, k1, e12.trans k2, by rw [e16, ← hm]; exact k3⟩ (own_same h hj (e16.trans hm.symm) hl) hF ?_ (Or.inr (Or.inr ⟨⟨hq, e12, hT⟩, ?_⟩))
  · rcases hx with ⟨x1, x2, x3⟩ | ⟨t', x1, x2, x3⟩
    · exact Or.inl ⟨e15.trans x1, e16.trans x3, e17⟩
    · obtain ⟨L2, s, f, ⟨y1, y2, -⟩, y3, -⟩ := h.2.2.2.1 t' x1
      refine Or.inr ⟨t', 0, L2, x1, e15.trans x2, ?_, e17, (hA 41 t' (by decide) (by decide) (by decide) (by decide) (by decide)).trans y3, by omega, y2⟩
      rw [e16]
      rcases x3 with z | z
      · exact Or.inr z.1
      · exact Or.inl z.1
  · rw [w3_same (fun l => ⟨hA 31 l (by decide) (by decide) (by decide) (by decide) (by decide), by rw [(hl l).1]⟩), e19]
  · rcases hx with ⟨x1, x2, x3⟩ | ⟨t', x1, x2, x3⟩
    · exact Or.inr (Or.inr (Or.inl ⟨x2, hm.trans x3, e15.trans x1, e16.trans x3, e17, e19⟩))
    · exact Or.inr (Or.inl ⟨e16.trans hm.symm, e19, e17, t', e15.trans x2, by omega, by rw [hm]; exact x3⟩)
theorem s2_raft (h : SI a b c ρ) (hj : j < b) (hp : ρ 15 j = nI t) (ht : t < a) (h20 : ρ 20 j = 0) (hN : ndF c ρ j t = nI N ∧ N ≤ 1600) (hq : ¬ ρ 13 j < nI N) (g : GPx ρ R j N) (d1 : ρ 16 j = 1) (hF : RI a b c (standC (ulC R j c) j (nI t) 0 0)) : SI a b c (standC (ulC R j c) j (nI t) 0 0) ∧ S2 a c ρ (standC (ulC R j c) j (nI t) 0 0) j := by
  have hul : ∀ f i, ulC R j c f i = if f = 19 ∧ i = j then ρ 19 j + ldOf c ρ (nI j) else if i < c ∧ OWN ρ j i ∧ (f = 32 ∨ f = 33 ∨ f = 34) then (if f = 32 then 3 else if f = 33 then -1 else ρ 6 0) else R f i := fun f i => by
    unfold ulC
    rw [g.gf 19 j (by decide) (by decide), g.gf 32 i (by decide) (by decide), g.gf 33 i (by decide) (by decide), g.gf 6 0 (by decide) (by decide), ld_c (c := c) (ρ := ρ) (ρ' := R) (fun l _ => ⟨g.gf 31 l (by decide) (by decide), g.gf 32 l (by decide) (by decide), g.gf 33 l (by decide) (by decide)⟩)]
    by_cases q : f = 19 ∧ i = j
    · rw [if_pos q, if_pos q]
    · rw [if_neg q, if_neg q]
      by_cases w : i < c ∧ OWN ρ j i ∧ (f = 32 ∨ f = 33 ∨ f = 34)
      · rw [if_pos w, if_pos ⟨w.1, w.2.1.1, w.2.1.2, w.2.2⟩]
      · rw [if_neg w, if_neg (fun z => w ⟨z.1, ⟨z.2.1, z.2.2.1⟩, z.2.2.2⟩)]
  have hw : wOf c (standC (ulC R j c) j (nI t) 0 0) 3 = wOf c ρ 3 + ldOf c ρ (nI j) := by
    have e1 : wOf c (standC (ulC R j c) j (nI t) 0 0) 3 = wOf c (ulC R j c) 3 := w3_same (fun l => by
      unfold standC; rw [u2_f (by decide), u2_f (by decide), u2_f (by decide), u2_f (by decide), u2_f (by decide), u2_f (by decide)]; exact ⟨rfl, Iff.rfl⟩)
    rw [e1, wul, w3_same (ρ' := R) (ρ := ρ) (fun l => ⟨g.gf 31 l (by decide) (by decide), by rw [g.gf 32 l (by decide) (by decide)]⟩), ld_c (c := c) (ρ := ρ) (ρ' := R) (fun l _ => ⟨g.gf 31 l (by decide) (by decide), g.gf 32 l (by decide) (by decide), g.gf 33 l (by decide) (by decide)⟩)]
  have hA : ∀ f i, ¬ f = 15 → ¬ f = 16 → ¬ f = 17 → ¬ f = 18 → ¬ f = 19 → ¬ f = 32 → ¬ f = 33 → ¬ f = 34 → standC (ulC R j c) j (nI t) 0 0 f i = ρ f i := fun f i g1 g2 g3 g4 g5 g6 g7 g8 => by
    unfold standC; rw [u2_f g3, u2_f g2, u2_f g1, hul, if_neg (by omega), if_neg (by omega)]; exact g.gf f i g3 g4
  have hB : ∀ f i, i ≠ j → 12 ≤ f → f < 20 → standC (ulC R j c) j (nI t) 0 0 f i = ρ f i := fun f i hi g1 g2 => by
    unfold standC; rw [u2_i hi, u2_i hi, u2_i hi, hul, if_neg (by omega), if_neg (by omega)]; exact g.gi f i hi
  have e15 : standC (ulC R j c) j (nI t) 0 0 15 j = nI t := by unfold standC; rw [u2_f (by decide), u2_f (by decide), u2_s]
  have e16 : standC (ulC R j c) j (nI t) 0 0 16 j = 0 := by unfold standC; rw [u2_f (by decide), u2_s]
  have e17 : standC (ulC R j c) j (nI t) 0 0 17 j = 0 := by unfold standC; rw [u2_s]
  have e18 : standC (ulC R j c) j (nI t) 0 0 18 j = R 18 j := by unfold standC; rw [u2_f (by decide), u2_f (by decide), u2_f (by decide), hul, if_neg (by omega), if_neg (by omega)]
  have e19 : standC (ulC R j c) j (nI t) 0 0 19 j = ρ 19 j + ldOf c ρ (nI j) := by unfold standC; rw [u2_f (by decide), u2_f (by decide), u2_f (by decide), hul, if_pos ⟨rfl, rfl⟩]
  have el : ∀ f l, (f = 32 ∨ f = 33 ∨ f = 34) → standC (ulC R j c) j (nI t) 0 0 f l = if l < c ∧ OWN ρ j l then (if f = 32 then 3 else if f = 33 then -1 else ρ 6 0) else ρ f l := fun f l hf => by
    unfold standC; rw [u2_f (by omega), u2_f (by omega), u2_f (by omega), hul, if_neg (by omega)]
    by_cases q : l < c ∧ OWN ρ j l
    · rw [if_pos q, if_pos ⟨q.1, q.2, hf⟩]
    · rw [if_neg q, if_neg (fun w => q ⟨w.1, w.2.1⟩)]; exact g.gf f l (by omega) (by omega)
  generalize standC (ulC R j c) j (nI t) 0 0 = ρ9 at *
  obtain ⟨u, L, s1, s2, s3, s4, s5, s6⟩ := h.sh hj hp ht
  obtain ⟨k, k1, k2, k3⟩ := (h.2.1 j hj).2.2.1
  have e12 : ρ9 12 j = ρ 12 j := hA 12 j (by decide) (by decide) (by decide) (by decide) (by decide) (by decide) (by decide) (by decide)
  have hT : TRd ρ ρ9 j N := by
    obtain ⟨p, p', q1, q2, q3⟩ := g.gt
    exact ⟨p, p', q1, q2, e18.trans q3⟩
  refine s2_mk h hj hp ht h20 hN (fun f i hf => hA f i (by unfold MF at hf; omega) (by unfold MF at hf; omega) (by unfold MF at hf; omega) (by unfold MF at hf; omega) (by unfold MF at hf; omega) (by unfold MF at hf; omega) (by unfold MF at hf; omega) (by unfold MF at hf; omega)) hB (fun i => Or.inl (hA 20 i (by decide) (by decide) (by decide) (by decide) (by decide) (by decide) (by decide) (by decide))) (fun l => ?_) (Or.inr ⟨t, 0, L, ht, e15, Or.inl e16, e17, (hA 41 t (by decide) (by decide) (by decide) (by decide) (by decide) (by decide) (by decide) (by decide)).trans s3, by omega, s5⟩) ⟨k, k1, e12.trans k2, fun w => absurd (e16.symm.trans w) (by decide)⟩ ⟨fun w => absurd (e16.symm.trans w) (by decide), fun ⟨l, l1, l2, l3⟩ => ?_⟩ hF ?_ (Or.inr (Or.inr ⟨⟨hq, e12, hT⟩, Or.inr (Or.inr (Or.inr ⟨d1, e15.trans hp.symm, e16, e17, e19⟩))⟩))
  · by_cases q : l < c ∧ OWN ρ j l
    · refine Or.inr ⟨q.1, q.2, e16, Or.inr ⟨?_, ?_, ?_⟩⟩
      · rw [el 32 l (Or.inl rfl), if_pos q, if_pos rfl]
      · rw [el 33 l (Or.inr (Or.inl rfl)), if_pos q, if_neg (by decide), if_pos rfl]
      · rw [el 34 l (Or.inr (Or.inr rfl)), if_pos q, if_neg (by decide), if_neg (by decide)]
    · exact Or.inl ⟨by rw [el 32 l (Or.inl rfl), if_neg q], by rw [el 33 l (Or.inr (Or.inl rfl)), if_neg q], by rw [el 34 l (Or.inr (Or.inr rfl)), if_neg q]⟩
  · rw [el 32 l (Or.inl rfl)] at l2
    by_cases q : l < c ∧ OWN ρ j l
    · rw [if_pos q, if_pos rfl] at l2; exact absurd l2 (by decide)
    · rw [if_neg q] at l2
      rw [el 33 l (Or.inr (Or.inl rfl)), if_neg q] at l3
      exact absurd ⟨l1, l2, l3⟩ q
  · rw [hw, e19, Int32.add_assoc, Int32.add_comm (ldOf c ρ (nI j))]
theorem s2_go (h : SI a b c ρ) (hj : j < b) (hp : ρ 15 j = nI t) (ht : t < a) (h20 : ρ 20 j = 0) (hN : ndF c ρ j t = nI N ∧ N ≤ 1600) (hq : ¬ ρ 13 j < nI N) (h0 : ρ 16 j = 0 → N = 0) : SI a b c (goC a b c ρ j t (nI N)) ∧ S2 a c ρ (goC a b c ρ j t (nI N)) j := by
  have ha := h.1.1
  obtain ⟨u, L, s1, s2, s3, s4, s5, s6⟩ := h.sh hj hp ht
  obtain ⟨k, k1, k2⟩ := r_n (h.2.2.2.2.2.1 j hj).2.2.2.2.1 (h.2.2.2.2.2.1 j hj).2.2.2.2.2
  have hF : RI a b c (goC a b c ρ j t (nI N)) := h.2.2.2.2.2.go (by omega) hj ht
  have e17 : ∃ u', u + 1 ≤ u' ∧ u' ≤ u + 2 ∧ g2C ρ j t (nI N) 17 j = nI u' := by
    unfold g2C tireC
    rw [u2_f (by decide), u2_s, s2]
    rcases gdF_12 ρ j t with e | e
    · exact ⟨u + 1, by omega, by omega, by rw [e]; exact nI_1 u⟩
    · exact ⟨u + 2, by omega, by omega, by rw [e]; exact nI_add u 2⟩
  have g : GPx ρ (g2C ρ j t (nI N)) j N := by
    refine ⟨fun f i h1 h2 => ?_, fun f i hi => ?_, ?_⟩
    · unfold g2C tireC; rw [u2_f h2, u2_f h1]
    · unfold g2C tireC; rw [u2_i hi, u2_i hi]
    · unfold TRd
      have e18 : g2C ρ j t (nI N) 18 j = maxI 0 (minI (ρ 18 j + (if ρ 16 j = 0 then -1 else nI N / 8)) 60) := by
        unfold g2C tireC; rw [u2_s, u2_f (by decide)]
      rw [e18, k2]
      by_cases d : ρ 16 j = 0
      · rw [if_pos d]
        exact ⟨k, k - 1, ⟨k1, by omega, by omega, by omega⟩, rfl, (tr4 k k1).2.2⟩
      · rw [if_neg d, show nI N / 8 = nI (N / 8) from nI_div (b := 8) (by omega) (by decide)]
        exact ⟨k, min (k + N / 8) 60, ⟨k1, Nat.min_le_right _ _, by omega, Nat.min_le_left _ _⟩, rfl, trN k1 (by omega)⟩
  have hgR : RI a b c (g2C ρ j t (nI N)) := by
    unfold g2C; exact (h.2.2.2.2.2.u (by decide)).tire
  unfold goC at hF ⊢
  generalize hR : g2C ρ j t (nI N) = R at *
  obtain ⟨u', u1, u2', u3⟩ := e17
  by_cases q : R 17 j < ρ 41 t
  · rw [if_pos q]
    rw [u3, s3] at q
    have q' := (nI_ltI (by omega) (by omega)).mp q
    refine s2_stay h hj hp ht h20 hN g.gf g.gi ⟨u', q', u3⟩ ⟨s3, s5⟩ hgR (Or.inr (Or.inr ⟨⟨hq, g.gf 12 j (by decide) (by decide), g.gt⟩, Or.inl ⟨g.gf 15 j (by decide) (by decide), g.gf 16 j (by decide) (by decide), g.gf 19 j (by decide) (by decide), u, u', s2, u3, by omega, u2', by omega⟩⟩))
  · rw [if_neg q] at hF ⊢
    rw [u3, s3] at q
    have q' : L ≤ u' := Nat.le_of_not_lt (fun w => q ((nI_ltI (by omega) (by omega)).mpr w))
    have g16 : R 16 j = ρ 16 j := g.gf 16 j (by decide) (by decide)
    have hb16 : b01 (R 16 j) := by rw [g16]; exact s1
    unfold lvC at hF ⊢
    by_cases y1 : toF R j t < nI a
    · rw [if_pos y1] at hF ⊢
      by_cases y2 : toF R j t < 0
      · rw [if_pos y2] at hF ⊢
        obtain ⟨y3, y4⟩ := toF_n1 (by omega) hb16 y2
        have t0 : t = 0 := by
          unfold toF at y3
          rw [if_pos y4] at y3
          have : nI t = 0 := by
            have := congrArg (fun z => z + 1) y3
            simp only [Int32.add_assoc] at this
            rw [show (-1 : Int32) + 1 = 0 from rfl, Int32.add_zero] at this
            exact this
          exact (nI_eq (a := t) (b := 0) (by omega) (by decide)).mp this
        exact s2_stand h hj hp ht h20 hN hq g (fun f i _ => rfl) (fun i => Or.inl (by unfold standC; rw [u2_f (by decide), u2_f (by decide), u2_f (by decide)]; exact g.gf 20 i (by decide) (by decide))) (g16.symm.trans y4) (Or.inl ⟨rfl, t0, rfl⟩) hF
      · rw [if_neg y2] at hF ⊢
        by_cases y3 : cgF b R j (toF R j t) = 0
        · rw [if_pos y3] at hF ⊢
          have e17b : u2 R 17 j (ρ 41 t - 1) 17 j = nI (L - 1) := by
            rw [u2_s, s3]; exact nI_sub (n := 1) (by omega) (by omega)
          have hT : TRd ρ (u2 R 17 j (ρ 41 t - 1)) j N := by
            obtain ⟨p, p', q1, q2, q3⟩ := g.gt
            exact ⟨p, p', q1, q2, (u2_f (by decide)).trans q3⟩
          refine s2_stay h hj hp ht h20 hN (fun f i h1 h2 => (u2_f h1).trans (g.gf f i h1 h2)) (fun f i hi => (u2_i hi).trans (g.gi f i hi)) ⟨L - 1, by omega, e17b⟩ ⟨s3, s5⟩ hF (Or.inr (Or.inr ⟨⟨hq, (u2_f (by decide)).trans (g.gf 12 j (by decide) (by decide)), hT⟩, Or.inl ⟨(u2_f (by decide)).trans (g.gf 15 j (by decide) (by decide)), (u2_f (by decide)).trans g16, (u2_f (by decide)).trans (g.gf 19 j (by decide) (by decide)), u, L - 1, s2, e17b, by omega, by omega, by omega⟩⟩))
        · rw [if_neg y3] at hF ⊢
          obtain ⟨t', t1, t2⟩ := toF_pc ht (by omega) y1 y2
          refine s2_stand h hj hp ht h20 hN hq g (x := toF R j t) (m := R 16 j) (fun f i hf => ?_) (fun i => ?_) g16.symm (Or.inr ⟨t', t1, t2, ?_⟩) hF
          · unfold standC u2
            by_cases z1 : f = 17 ∧ i = j
            · rw [if_pos z1, if_pos z1]
            · rw [if_neg z1, if_neg z1]
              by_cases z2 : f = 16 ∧ i = j
              · rw [if_pos z2, if_pos z2]
              · rw [if_neg z2, if_neg z2]
                by_cases z3 : f = 15 ∧ i = j
                · rw [if_pos z3, if_pos z3]
                · rw [if_neg z3, if_neg z3, soC_f hf]
          · have e20 : standC (soC R j (toF R j t) b) j (toF R j t) (R 16 j) 0 20 i = soC R j (toF R j t) b 20 i := by
              unfold standC; rw [u2_f (by decide), u2_f (by decide), u2_f (by decide)]
            rw [e20]
            unfold soC
            split
            · exact Or.inr rfl
            · exact Or.inl (g.gf 20 i (by decide) (by decide))
          · unfold toF at t2
            rcases hb16 with e | e
            · rw [if_pos e] at t2
              right
              refine ⟨e, ?_⟩
              have : nI t = nI (t' + 1) := by
                have := congrArg (fun z => z + 1) t2
                simp only [Int32.add_assoc] at this
                rw [show (-1 : Int32) + 1 = 0 from rfl, Int32.add_zero] at this
                exact this.trans (nI_1 t')
              exact (nI_eq (by omega) (by omega)).mp this
            · rw [if_neg (by rw [e]; decide)] at t2
              left
              refine ⟨e, ?_⟩
              exact ((nI_eq (by omega) (by omega)).mp ((nI_1 t).symm.trans t2)).symm
    · rw [if_neg y1] at hF ⊢
      have d1 : ρ 16 j = 1 := by
        rcases hb16 with e | e
        · exfalso
          apply y1
          unfold toF
          rw [if_pos e]
          rcases Nat.eq_zero_or_pos t with w | w
          · subst w
            have : (nI 0 + -1 : Int32) = -1 := by decide
            rw [this]
            exact Int32.lt_iff_toInt_lt.mpr (by rw [nI_toInt (by omega)]; have : (-1 : Int32).toInt = -1 := rfl; omega)
          · have : nI t + -1 = nI (t - 1) := (Int32.sub_eq_add_neg _ _).symm.trans (nI_sub (n := 1) w (by omega))
            rw [this]
            exact (nI_ltI (by omega) (by omega)).mpr (by omega)
        · exact g16.symm.trans e
      exact s2_raft h hj hp ht h20 hN hq g d1 hF
theorem S2.rf0 : S2 a c ρ ρ j := ⟨fun _ _ _ => rfl, fun _ _ _ _ _ => rfl, fun _ => Or.inl rfl, fun _ => Or.inl ⟨rfl, rfl, rfl⟩, rfl, Or.inl ⟨rfl, fun _ _ _ => rfl⟩⟩
theorem SI.s2 (h : SI a b c ρ) (hj : j < b) : SI a b c (moC a b c wc σ π ρ j) ∧ S2 a c ρ (moC a b c wc σ π ρ j) j := by
  have ha := h.1.1
  unfold moC
  by_cases q : ¬ ρ 20 j = 0 ∨ hasI (ρ 15 j) (nI a) = 0
  · rw [if_pos q]; exact ⟨h, S2.rf0⟩
  · rw [if_neg q]
    have h20 : ρ 20 j = 0 := Classical.not_not.mp (fun z => q (Or.inl z))
    obtain ⟨t, ht, hp⟩ := (h.2.2.2.2.2.1 j hj).1.has (fun z => q (Or.inr z))
    rw [hp, nI_cl (by omega)]
    obtain ⟨N, n1, n2, n3⟩ := h.nd2 ht j
    unfold mtC
    split
    · split
      · rename_i y
        rw [n2] at y ⊢
        split
        · exact s2_go h hj hp ht h20 ⟨n2, n1⟩ (Int32.not_lt.mpr y) n3
        · exact s2_tire h hj hp ht h20 ⟨n2, n1⟩ (Or.inl rfl)
      · rename_i y
        rw [n2] at y
        exact s2_break h hj hp ht h20 ⟨n2, n1⟩ (Int32.not_le.mp y) n3
    · exact s2_tire h hj hp ht h20 ⟨n2, n1⟩ (Or.inr rfl)
end ST4
