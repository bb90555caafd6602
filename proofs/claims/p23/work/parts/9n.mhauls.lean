def EXT (s s' : PS) : Prop := s.2.1 ≤ s'.2.1 ∧ ∀ i, i < s.2.1 → s'.2.2.1 i = s.2.2.1 i
def PK (s : PS) (x y : Int32) : Prop := ∃ k, k ≤ s.2.1 ∧ x = nI k ∧ y = nI (psF s.2.2.1 k)
def MW (w1 w0 : RH) (s : PS) (β : RH) (h v : Nat) : Prop := (∀ i, i < h → i < 12 → PK s (β 52 i) (w1 52 i) ∧ PK s (β 53 i) (w1 53 i) ∧ PK s (β 54 i) (w1 54 i)) ∧ (∀ i, i < v → i < 12 → PK s (β 57 i) (w1 57 i) ∧ PK s (β 59 i) (w1 59 i)) ∧ ∀ f i, ¬ f = 71 → ¬ f = 72 → ¬ f = 52 → ¬ f = 53 → ¬ f = 54 → ¬ f = 57 → ¬ f = 59 → w1 f i = w0 f i
section EXS
variable {K : Nat → Nat} {s s' s'' s4 : PS} {x y zz : Int32} {w w1 w0 wb wd β : RH} {h v p f i : Nat}
theorem EXT.rf (s : PS) : EXT s s := ⟨Nat.le_refl _, fun _ _ => rfl⟩
theorem EXT.tr (a : EXT s s') (b : EXT s' s'') : EXT s s'' := ⟨Nat.le_trans a.1 b.1, fun i hi => (b.2 i (Nat.lt_of_lt_of_le hi a.1)).trans (a.2 i hi)⟩
theorem PSM.ext (a : PSM K s s') : EXT s s' := ⟨a.2.1, fun i hi => (a.2.2.1 i hi).1⟩
theorem PSX.ext (a : PSX s s') : EXT s s' := ⟨by rw [a.2.1]; exact Nat.le_refl _, fun i _ => by rw [a.2.2.1]⟩
theorem PK.ext (a : PK s x y) (e : EXT s s') : PK s' x y := by
  obtain ⟨k, h1, h2, h3⟩ := a
  exact ⟨k, Nat.le_trans h1 e.1, h2, by rw [h3, psF_c (σ := s.2.2.1) (σ' := s'.2.2.1) (fun i hi => e.2 i (by omega))]⟩
theorem PK.nw (e : EXT s s') (hx : x = nI s.2.1) (hy : y = nI (psF s.2.2.1 s.2.1)) : PK s' x y := PK.ext ⟨s.2.1, Nat.le_refl _, hx, hy⟩ e
theorem GPw.up {a : Nat} {x : Int32} (g : GPw w s) (h1 : ¬ f = 71) (h2 : ¬ f = 72) : GPw (u2 w f a x) s := ⟨fun i hi => ⟨by rw [u2_f (fun e => h1 e.symm)]; exact (g.1 i hi).1, fun z => by rw [u2_f (fun e => h1 e.symm)]; exact (g.1 i hi).2 z⟩, fun i hi z => by rw [u2_f (fun e => h2 e.symm)]; exact g.2 i hi z⟩
theorem MW.ext (a : MW w1 w0 s β h v) (hw : ∀ f i, ¬ f = 71 → ¬ f = 72 → w f i = w1 f i) (e : EXT s s') : MW w w0 s' β h v := by
  obtain ⟨a1, a2, a3⟩ := a
  refine ⟨fun i h1 h2 => ?_, fun i h1 h2 => ?_, fun f i h1 h2 h3 h4 h5 h6 h7 => (hw f i h1 h2).trans (a3 f i h1 h2 h3 h4 h5 h6 h7)⟩
  · rw [hw 52 i (by decide) (by decide), hw 53 i (by decide) (by decide), hw 54 i (by decide) (by decide)]
    obtain ⟨b1, b2, b3⟩ := a1 i h1 h2
    exact ⟨b1.ext e, b2.ext e, b3.ext e⟩
  · rw [hw 57 i (by decide) (by decide), hw 59 i (by decide) (by decide)]
    obtain ⟨b1, b2⟩ := a2 i h1 h2
    exact ⟨b1.ext e, b2.ext e⟩
theorem MW.haul (a : MW w1 w0 s β h v) (hwa : ∀ f i, ¬ f = 71 → ¬ f = 72 → w f i = w1 f i) (hp : p = min h 12) (hb : ∀ f i, ¬ f = 71 → ¬ f = 72 → wb f i = u2 w 52 p x f i) (hd : ∀ f i, ¬ f = 71 → ¬ f = 72 → wd f i = u2 wb 53 p y f i) (e1 : EXT s s4) (e2 : EXT s4 s') (hx : x = nI (psF s.2.2.1 s.2.1)) (hy : y = nI (psF s4.2.2.1 s4.2.1)) (hz : zz = nI (psF s'.2.2.1 s'.2.1)) : MW (u2 wd 54 p zz) w0 s' (beH β h s.2.1 s4.2.1 s'.2.1) (h + 1) v := by
  obtain ⟨a1, a2, a3⟩ := a
  have g : ∀ f i, ¬ f = 71 → ¬ f = 72 → u2 wd 54 p zz f i = u2 (u2 (u2 w1 52 p x) 53 p y) 54 p zz f i := fun f i h1 h2 => by
    by_cases c4 : f = 54 ∧ i = p
    · rw [c4.1, c4.2, u2_s, u2_s]
    · have q4 : ∀ u : RH, u2 u 54 p zz f i = u f i := fun u => by
        by_cases q : f = 54
        · subst q; exact u2_i (fun e => c4 ⟨rfl, e⟩)
        · exact u2_f q
      rw [q4, q4, hd f i h1 h2]
      by_cases c3 : f = 53 ∧ i = p
      · rw [c3.1, c3.2, u2_s, u2_s]
      · have q3 : ∀ u : RH, u2 u 53 p y f i = u f i := fun u => by
          by_cases q : f = 53
          · subst q; exact u2_i (fun e => c3 ⟨rfl, e⟩)
          · exact u2_f q
        rw [q3, q3, hb f i h1 h2]
        by_cases c2 : f = 52 ∧ i = p
        · rw [c2.1, c2.2, u2_s, u2_s]
        · have q2 : ∀ u : RH, u2 u 52 p x f i = u f i := fun u => by
            by_cases q : f = 52
            · subst q; exact u2_i (fun e => c2 ⟨rfl, e⟩)
            · exact u2_f q
          rw [q2, q2, hwa f i h1 h2]
  refine ⟨fun i h1 h2 => ?_, fun i h1 h2 => ?_, fun f i h1 h2 h3 h4 h5 h6 h7 => ?_⟩
  · rw [g 52 i (by decide) (by decide), g 53 i (by decide) (by decide), g 54 i (by decide) (by decide)]
    by_cases e : i = h
    · subst e
      have hp' : p = i := by omega
      subst hp'
      refine ⟨PK.nw (e1.tr e2) (by simp [beH, u2]) (by simp [u2]; exact hx), PK.nw e2 (by simp [beH, u2]) (by simp [u2]; exact hy), PK.nw (EXT.rf _) (by simp [beH, u2]) (by simp [u2]; exact hz)⟩
    · obtain ⟨b1, b2, b3⟩ := a1 i (by omega) h2
      have hp' : ¬ i = p := by omega
      refine ⟨?_, ?_, ?_⟩
      · simpa [beH, u2, e, hp'] using b1.ext (e1.tr e2)
      · simpa [beH, u2, e, hp'] using b2.ext (e1.tr e2)
      · simpa [beH, u2, e, hp'] using b3.ext (e1.tr e2)
  · rw [g 57 i (by decide) (by decide), g 59 i (by decide) (by decide)]
    obtain ⟨b1, b2⟩ := a2 i h1 h2
    exact ⟨by simpa [beH, u2] using b1.ext (e1.tr e2), by simpa [beH, u2] using b2.ext (e1.tr e2)⟩
  · rw [g f i h1 h2, u2_f h5, u2_f h4, u2_f h3]; exact a3 f i h1 h2 h3 h4 h5 h6 h7
theorem MW.wait (a : MW w1 w0 s β h v) (hwa : ∀ f i, ¬ f = 71 → ¬ f = 72 → w f i = w1 f i) (hp : p = min v 12) (hb : ∀ f i, ¬ f = 71 → ¬ f = 72 → wb f i = u2 w 57 p x f i) (e1 : EXT s s') (hx : x = nI (psF s.2.2.1 s.2.1)) (hz : zz = nI (psF s'.2.2.1 s'.2.1)) : MW (u2 wb 59 p zz) w0 s' (beW β v s.2.1 s'.2.1) h (v + 1) := by
  obtain ⟨a1, a2, a3⟩ := a
  have g : ∀ f i, ¬ f = 71 → ¬ f = 72 → u2 wb 59 p zz f i = u2 (u2 w1 57 p x) 59 p zz f i := fun f i h1 h2 => by
    by_cases c4 : f = 59 ∧ i = p
    · rw [c4.1, c4.2, u2_s, u2_s]
    · have q4 : ∀ u : RH, u2 u 59 p zz f i = u f i := fun u => by
        by_cases q : f = 59
        · subst q; exact u2_i (fun e => c4 ⟨rfl, e⟩)
        · exact u2_f q
      rw [q4, q4, hb f i h1 h2]
      by_cases c2 : f = 57 ∧ i = p
      · rw [c2.1, c2.2, u2_s, u2_s]
      · have q2 : ∀ u : RH, u2 u 57 p x f i = u f i := fun u => by
          by_cases q : f = 57
          · subst q; exact u2_i (fun e => c2 ⟨rfl, e⟩)
          · exact u2_f q
        rw [q2, q2, hwa f i h1 h2]
  refine ⟨fun i h1 h2 => ?_, fun i h1 h2 => ?_, fun f i h1 h2 h3 h4 h5 h6 h7 => ?_⟩
  · rw [g 52 i (by decide) (by decide), g 53 i (by decide) (by decide), g 54 i (by decide) (by decide)]
    obtain ⟨b1, b2, b3⟩ := a1 i h1 h2
    exact ⟨by simpa [beW, u2] using b1.ext e1, by simpa [beW, u2] using b2.ext e1, by simpa [beW, u2] using b3.ext e1⟩
  · rw [g 57 i (by decide) (by decide), g 59 i (by decide) (by decide)]
    by_cases e : i = v
    · subst e
      have hp' : p = i := by omega
      subst hp'
      refine ⟨PK.nw e1 (by simp [beW, u2]) (by simp [u2]; exact hx), PK.nw (EXT.rf _) (by simp [beW, u2]) (by simp [u2]; exact hz)⟩
    · obtain ⟨b1, b2⟩ := a2 i (by omega) h2
      have hp' : ¬ i = p := by omega
      exact ⟨by simpa [beW, u2, e, hp'] using b1.ext e1, by simpa [beW, u2, e, hp'] using b2.ext e1⟩
  · rw [g f i h1 h2, u2_f h7, u2_f h6]; exact a3 f i h1 h2 h3 h4 h5 h6 h7
end EXS
def MLn (τ : TY) (M : ME) (m y z s1 s2 n8 : Nat) (B : Nat → Nat) (ω0 w0 : RH) (lt : Nat) (s : PS) (β : RH) : Prop := ∃ w1, MPl τ M m y z s1 s2 n8 B ω0 w1 (cntR s.2.2.2.2 4 s.1) (cntR s.2.2.2.2 5 s.1) lt 0 0 s ∧ MW w1 w0 s β (cntR s.2.2.2.2 4 s.1) (cntR s.2.2.2.2 5 s.1)
theorem MLn.mk9 {τ : TY} {M : ME} {m y z s1 s2 n8 lt h v : Nat} {B : Nat → Nat} {ω0 w0 w1 β : RH} {s : PS} (eh : cntR s.2.2.2.2 4 s.1 = h) (ev : cntR s.2.2.2.2 5 s.1 = v) (hW : MW w1 w0 s β h v) (hP : MPl τ M m y z s1 s2 n8 B ω0 w1 h v lt 0 0 s) : MLn τ M m y z s1 s2 n8 B ω0 w0 lt s β := ⟨w1, by rw [eh, ev]; exact hP, by rw [eh, ev]; exact hW⟩
