/-! what the class holds when the law's list is taught -/
/-- the told numbers of a road -/
def RFr (Δ : Nat → Nat → Nat) (ρ : RH) : Prop := (∀ i, i < Δ 0 3 → ρ 41 i = nI (Δ 1 i) ∧ ρ 42 i = nI (Δ 2 i) - 9 ∧ ρ 43 i = nI (Δ 3 i)) ∧
  (∀ i, i < Δ 0 4 → ρ 11 i = nI (Δ 4 i) ∧ ρ 12 i = nI (Δ 5 i) ∧ ρ 13 i = nI (Δ 6 i) ∧ ρ 14 i = nI (Δ 7 i) ∧ ρ 15 i = -1 ∧ ρ 16 i = 0 ∧ ρ 17 i = 0 ∧ ρ 18 i = 0 ∧ ρ 19 i = 0 ∧ ρ 20 i = 0) ∧
  (∀ i, i < Δ 0 5 → ρ 31 i = nI (Δ 8 i) ∧ ρ 32 i = 0 ∧ ρ 33 i = -1 ∧ ρ 34 i = -1) ∧ ρ 8 0 = 0
theorem taught_ok {Δ : Nat → Nat → Nat} (ok : LDok Δ) {B : Nat → Nat} (hB : ∀ i, i < (ltX Δ).length → B i = (ltX Δ).getD i 0) {lt : Nat} {K : Nat → Nat} {S : Nat → Int32} {V : Nat → Int64} {q' : PQ} {β' : RH} (hT : Toks B (ltX Δ).length lt K S V) (hL : LSr K (fun t => (V t).toInt32) pq0 be0 q' β') :
    erV V S q' = 0 ∧ ∀ (a b c hn wn sn : Nat) (σ : Nat → Nat) (π ρ : RH) (ν : NU), LC V q'.2 β' a b c ρ ν hn wn sn σ π → (a = Δ 0 3 ∧ b = Δ 0 4 ∧ c = Δ 0 5 ∧ hn = Δ 0 6 ∧ wn = Δ 0 7) ∧ RFr Δ ρ ∧ PlOK a b hn wn σ π ∧ PE (Δ 0) σ π (VL Δ 6) (VL Δ 7) := by
  obtain ⟨h400, h45, hA⟩ := Toks.at ok hB hT
  have hlen := plX_len ok
  obtain ⟨⟨D, hP, hD, hN, hH, hW⟩, e1⟩ := list_read (cn := Δ 0) (S := S) ok (fun _ => rfl) rfl rfl hA h45 hL
  have hg := hP.1
  obtain ⟨hf, -, hz⟩ := hP.2.2
  refine ⟨by unfold erV; rw [if_pos hg]; exact hf, fun a b c hn wn sn σ π ρ ν hC => ?_⟩
  have hpl := (LSr.pl hL hg).2 PLS.pq0
  have hns := (LSr.ns hL hg).2 NS.pq0
  have hcn := (LSr.cnt hL hg).2
  have hC0 := hC
  obtain ⟨D2, hz2, -, ⟨t1, t2, t3, t4, t5, t6, t7⟩, hst⟩ := hC
  obtain ⟨z1, z2, z3, z4, z5, z6⟩ := hz
  obtain ⟨y1, y2, y3, y4, y5, y6⟩ := hz2
  have ea : a = Δ 0 3 := y1.symm.trans z1
  have eb : b = Δ 0 4 := y2.symm.trans z2
  have ec : c = Δ 0 5 := y3.symm.trans z3
  have eh : hn = Δ 0 6 := y4.symm.trans z4
  have ew : wn = Δ 0 7 := y5.symm.trans z5
  have eD : D2 = D := y6.symm.trans z6
  subst ea eb ec eh ew eD
  obtain ⟨d1, d2, d3, d4, d5, d6⟩ := hD
  obtain ⟨⟨o3, o4, o5, o6, o7⟩, -, -, -, ⟨o16, o17, o18, o19, o20, o21⟩, ⟨o22, o23, o24, o25, o26⟩⟩ := ok
  have hst2 : STq V q' q'.2.2.2.2.2 σ (π 70) := ⟨fun _ _ => rfl, fun j hj => by
    obtain ⟨s1, s2⟩ := hst
    obtain ⟨g1, g2, g3⟩ := s2 j (by rw [s1]; exact hj)
    exact ⟨g1, by rw [g3, g1]⟩⟩
  refine ⟨⟨rfl, rfl, rfl, rfl, rfl⟩, ⟨fun i hi => ?_, fun i hi => ?_, fun i hi => ?_, t4⟩, (hC0.pl hpl hns hf (by omega) (by unfold SCq at hcn; change q'.2.2.1 + 0 ≤ 0 + q'.2.1 at hcn; omega) (by omega) (by omega)).1, ⟨fun i hi => ?_, fun i hi => ?_⟩⟩
  · obtain ⟨g1, g2, g3⟩ := t1 i hi
    obtain ⟨k1, k2, k3⟩ := d1 i hi
    exact ⟨g1.trans k1, g2.trans k2, g3.trans k3⟩
  · obtain ⟨g1, g2, g3, g4, g5⟩ := t2 i hi
    obtain ⟨k1, k2, k3, k4⟩ := d2 i hi
    exact ⟨g1.trans k1, g2.trans k2, g3.trans k3, g4.trans k4, g5⟩
  · obtain ⟨g1, g2⟩ := t3 i hi
    exact ⟨g1.trans (d4 i hi), g2⟩
  · obtain ⟨f, m, t, ⟨h1, h2, h3⟩, ⟨l1, l2, l3⟩, h4⟩ := hH i hi
    obtain ⟨g1, g2, g3, g4⟩ := t5 i hi
    obtain ⟨h5, h6⟩ := h4 _ σ (π 70) hst2
    have b12 := o19 i
    refine ⟨i % Δ 0 4, Δ 9 i, Δ 10 i, Δ 11 i, ⟨rfl, Nat.mod_lt _ (by omega)⟩, ⟨rfl, o16 i⟩, ⟨rfl, by have := o17 i; omega⟩, ⟨rfl, o18 i⟩, g1.trans (d5 i hi), fun ρ => ?_, ?_⟩
    · rw [g2, g3, h1, h2]
      unfold vxF
      rw [nI_cl (by omega), nI_cl (by omega)]
      exact h5 ρ
    · rcases h6 with ⟨c1, c2⟩ | ⟨c1, c2, c3⟩
      · left
        exact ⟨if_pos c1, by rw [g3, g4, h2, h3, c2]⟩
      · right
        refine ⟨Δ 12 i - 3, Δ 13 i, Δ 14 i, ⟨(if_neg c1).trans (nI_sub (n := 3) (by omega) (by omega)), by omega⟩, ⟨rfl, o20 i⟩, ⟨rfl, o21 i⟩, ?_, fun ρ => ?_⟩
        · rw [g3, g4, h2, h3]
          exact fun e => by
            have := (nI_eq (a := m) (b := t) (by omega) (by omega)).mp e
            omega
        · rw [g3, g4, h2, h3]
          unfold vxF
          rw [nI_cl (by omega), nI_cl (by omega)]
          exact c3 ρ
  · obtain ⟨f, t, ⟨h1, h2⟩, ⟨l1, l2⟩, h4⟩ := hW i hi
    obtain ⟨g1, g2, g3, g4⟩ := t6 i hi
    obtain ⟨k1, k2⟩ := d6 i hi
    refine ⟨Δ 15 i, Δ 16 i, Δ 17 i, Δ 18 i, Δ 19 i, rfl, rfl, ⟨rfl, o24 i⟩, ⟨rfl, o25 i⟩, ⟨rfl, o26 i⟩, g1.trans k1, g2.trans k2, fun ρ => ?_⟩
    rw [g3, g4, h1, h2]
    unfold vxF
    rw [nI_cl (by omega), nI_cl (by omega)]
    exact h4 _ σ (π 70) hst2 ρ
