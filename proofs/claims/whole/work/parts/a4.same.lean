/-! class and reference hold the same new list -/
section JTS
variable {K : Nat → Nat} {V : Nat → Int64} {S : Nat → Int32} {q' : PQ} {a b c hn wn sn lt m z s1 : Nat} {ρ ρ' ρm π β' w : RH} {ν : NU} {σ : Nat → Nat} {τ : TY} {M : ME} {vv : Nat → Int32}
theorem PK.ps (h : LC V q'.2 β' a b c ρ ν hn wn sn σ π) {x y p : Int32} (g : PK q'.2 x y) (hp : p = x) (hs : q'.2.2.1 ≤ 400) : y = psI σ p := by
  obtain ⟨k, h1, h2, h3⟩ := g
  obtain ⟨D, z1, -, d1, t1⟩ := h
  unfold psI
  rw [hp, h2, nI_clamp (by omega), h3]
  rw [psF_c (σ := q'.2.2.2.1) (σ' := σ) (fun i hi => (t1.2 i (by have := t1.1; omega)).1)]
theorem JT.ri (hLS : LSr K vv pq0 be0 q' β') (hz : q'.1 = true) (hf : (flF V S q'.2.2.2.2.2 q'.2.1).1 = 0) (hN : ∀ i, i < lt → K i = 44 → ∃ c, c < 1000000 ∧ V i = Int64.ofNat c) (hRG : RGS K q'.2) (hle : q'.2.1 ≤ lt) (h : LC V q'.2 β' a b c ρ ν hn wn sn σ π) : RI a b c ρ := by
  obtain ⟨D, z1, -, d1, -⟩ := h
  refine ⟨fun i hi => ?_, fun l hl => ?_⟩
  · obtain ⟨e1, e2, e3, e4, e5, e6, e7, e8, e9, e10⟩ := d1.2.1 i hi
    rw [e4, e5, e6, e8, e10, ← z1.2.2.2.2.2]
    exact ⟨Or.inl rfl, Or.inl rfl, dt14 _ _, Or.inl rfl, by decide, by decide⟩
  · rw [(d1.2.2.1 l hl).1, ← z1.2.2.2.2.2]
    obtain ⟨t, h1, h2, h3⟩ := ((hLS.w3 hz).2 W13.pq0).1 l (by rw [z1.2.2.1]; exact hl)
    exact dt31 (k := q'.2.1) (fun i hi => flF_er (S := S) hi hf) (fun i hi hr => hN i (by omega) ((hRG.1 i).2.2.1 (by rw [hr]; decide))) q'.2.1 (Nat.le_refl _) ⟨t, h1, h2, by omega⟩
theorem JT.pl (hLS : LSr K vv pq0 be0 q' β') (hz : q'.1 = true) (hf : (flF V S q'.2.2.2.2.2 q'.2.1).1 = 0) (hNS : NS q'.2) (hle : q'.2.1 ≤ lt) (hl : lt ≤ 400) (hsn : q'.2.2.1 ≤ q'.2.1) (h : LC V q'.2 β' a b c ρ ν hn wn sn σ π) (hh : hn ≤ 12) (hw : wn ≤ 12) : PlOK a b hn wn σ π ∧ PmOK a b c hn wn sn σ π := LC.pl h ((hLS.pl hz).2 PLS.pq0) hNS hf (by omega) hsn hh hw
theorem JT.sl (h : LC V q'.2 β' a b c ρ ν hn wn sn σ π) (ha : a ≤ 8 ∧ b ≤ 6 ∧ c ≤ 20) (hw : NWP τ M z V q' β' w) (hB : BGN ρm w ρ') (h6 : ρm 6 0 = ρ 6 0) (h7 : ρm 7 0 = ρ 7 0) : ∀ f i, SL_in a b c f i → ρ' f i = ρ f i := by
  obtain ⟨D, z1, -, d1, -⟩ := h
  obtain ⟨b1, b2, b3, b4, b5, b6⟩ := hB
  have hD : ∀ f i, dfB f = true → w f i = D f i := fun f i hf => by rw [hw.2.2.1 f i hf, z1.2.2.2.2.2]
  intro f i hi
  rcases hi with ⟨rfl | rfl | rfl, rfl⟩ | ⟨rfl, hi⟩ | ⟨hff, hi⟩ | ⟨hff, hi⟩
  · exact b1.trans h6
  · exact b2.trans h7
  · exact b3.trans d1.2.2.2.1.symm
  · rw [b4 i (by omega), (d1.1 i hi).2.2]; exact hD 63 i rfl
  · obtain ⟨e1, e2, e3, e4, e5, e6, e7, e8, e9, e10⟩ := d1.2.1 i hi
    obtain ⟨c1, c2, c3, c4, c5, c6, c7⟩ := b5 i (by omega)
    rcases hff with rfl | rfl | rfl | rfl | rfl | rfl | rfl
    · rw [c1, e2]; exact hD 60 i rfl
    · rw [c2, e3]; exact hD 61 i rfl
    · rw [c3, e5]
    · rw [c4, e6]
    · rw [c5, e7]
    · rw [c6, e8]
    · rw [c7, e9]
  · obtain ⟨e1, e2, e3, e4⟩ := d1.2.2.1 i hi
    obtain ⟨c1, c2, c3⟩ := b6 i (by omega)
    rcases hff with rfl | rfl | rfl
    · rw [c1, e2]
    · rw [c2, e3]
    · rw [c3, e4]
theorem JT.wnn (h : LC V q'.2 β' a b c ρ ν hn wn sn σ π) (ha : a ≤ 8 ∧ b ≤ 6 ∧ c ≤ 20) (hh : hn ≤ 12) (hw9 : wn ≤ 12) (hs4 : sn ≤ 400) (hw : NWP τ M z V q' β' w) (hm : τ m = (11, 0)) (hmy : M m 11 = .ref z) (d1 : m < s1 ∨ s1 + 14 ≤ m) (d2 : z + 19 ≤ s1 ∨ s1 + 14 ≤ z) : WN τ M m z s1 a b c hn wn sn ρ π σ := by
  have h0 := h
  obtain ⟨D, z1, -, dt, t1⟩ := h
  obtain ⟨hV, hG, hDt, hH, hWt⟩ := hw
  rw [z1.1, z1.2.1, z1.2.2.1, z1.2.2.2.1, z1.2.2.2.2.1] at hV
  rw [z1.2.2.2.1] at hH
  rw [z1.2.2.2.2.1] at hWt
  have hn9 : q'.2.2.1 ≤ 400 := by have := t1.1; omega
  have hD : ∀ f i, dfB f = true → w f i = D f i := fun f i hf => by rw [hDt f i hf, z1.2.2.2.2.2]
  have hσ : ∀ i, i < sn → σ i = q'.2.2.2.1 i := fun i hi => (t1.2 i hi).1
  refine ⟨⟨ha.1, ha.2.1, ha.2.2, hh, hw9, hs4⟩, hm, hmy, d1, d2, _, _, _, _, w, hV, fun f i hf hi => ?_, fun f i hf hi => ?_, fun i hi => ?_, fun k hk => ?_, fun k hk => ?_, fun i hi => ?_⟩
  · rcases hf with rfl | rfl
    · rw [(dt.1 i hi).1]; exact hD 41 i rfl
    · rw [(dt.1 i hi).2.1]; exact hD 42 i rfl
  · obtain ⟨e1, e2, e3, e4, _⟩ := dt.2.1 i hi
    rcases hf with rfl | rfl
    · rw [e1]; exact hD 11 i rfl
    · rw [e4]; exact hD 14 i rfl
  · rw [(dt.2.2.1 i hi).1]; exact hD 31 i rfl
  · obtain ⟨e1, e2, e3, e4⟩ := dt.2.2.2.2.1 k hk
    obtain ⟨g1, g2, g3⟩ := hH k hk (by omega)
    exact ⟨by rw [e1]; exact hD 50 k rfl, g1.ps h0 e2 hn9, g2.ps h0 e3 hn9, g3.ps h0 e4 hn9⟩
  · obtain ⟨e1, e2, e3, e4⟩ := dt.2.2.2.2.2.1 k hk
    obtain ⟨g1, g2⟩ := hWt k hk (by omega)
    exact ⟨by rw [e1]; exact hD 55 k rfl, by rw [e2]; exact hD 56 k rfl, g1.ps h0 e3 hn9, g2.ps h0 e4 hn9⟩
  · have hi' : i < q'.2.2.1 := by have := t1.1; omega
    obtain ⟨g1, g2⟩ := hG.1 i hi'
    obtain ⟨p1, -, p3⟩ := t1.2 i hi
    rw [psF_c (σ := q'.2.2.2.1) (σ' := σ) (n := i) (fun j hj => hσ j (by omega)), p1]
    refine ⟨g1, fun z => ?_⟩
    rw [g2 z, p3, p1]
    by_cases e : nmB (q'.2.2.2.1 i) = true
    · rw [if_pos ⟨e, cnF_mono hi' e⟩]
    · rw [if_neg (fun q => e q.1)]
      have hne := fun q => e (nmB_i.mpr q)
      unfold rsF
      rw [if_neg (fun q => hne (Or.inl q)), if_neg (fun q => hne (Or.inr q))]
end JTS
