def nmB (o : Nat) : Bool := [20, 21, 6, 3, 22].contains o
def cnF (σ : Nat → Nat) : Nat → Nat
  | 0 => 0
  | i + 1 => cnF σ i + (if nmB (σ i) = true then 1 else 0)
theorem psF_c {σ σ' : Nat → Nat} : ∀ {n : Nat}, (∀ i, i < n → σ' i = σ i) → psF σ' n = psF σ n
  | 0, _ => rfl
  | n + 1, h => by rw [psF, psF, psF_c (fun i hi => h i (by omega)), h n (by omega)]
theorem cnF_c {σ σ' : Nat → Nat} : ∀ {n : Nat}, (∀ i, i < n → σ' i = σ i) → cnF σ' n = cnF σ n
  | 0, _ => rfl
  | n + 1, h => by rw [cnF, cnF, cnF_c (fun i hi => h i (by omega)), h n (by omega)]
theorem psF_u {σ : Nat → Nat} {n o : Nat} : psF (u1 σ n o) (n + 1) = psF σ n + wdF o := by rw [psF, psF_c (fun i hi => u1_i (by omega)), u1_s]
theorem cnF_u {σ : Nat → Nat} {n o : Nat} : cnF (u1 σ n o) (n + 1) = cnF σ n + (if nmB o = true then 1 else 0) := by rw [cnF, cnF_c (fun i hi => u1_i (by omega)), u1_s]
theorem cnF_mono {σ : Nat → Nat} {i n : Nat} (h : i < n) (hi : nmB (σ i) = true) : cnF σ i < cnF σ n := by
  induction n with
  | zero => omega
  | succ n ih =>
    rw [cnF]
    by_cases e : i = n
    · subst e; rw [if_pos hi]; omega
    · have := ih (by omega); omega
def GPw (w : RH) (s : PS) : Prop := (∀ i, i < s.2.1 → w 71 (psF s.2.2.1 i) = nI (mkF (s.2.2.1 i)) ∧ (wdF (s.2.2.1 i) = 2 → w 71 (psF s.2.2.1 i + 1) = s.2.2.2.1 i)) ∧ ∀ i, i < s.2.1 → nmB (s.2.2.1 i) = true → w 72 (cnF s.2.2.1 i) = nI (psF s.2.2.1 i + 1)
theorem psF_nx {σ : Nat → Nat} {i n : Nat} (h : i < n) : psF σ i + wdF (σ i) ≤ psF σ n := by
  have h1 : psF σ (i + 1) = psF σ i + wdF (σ i) := rfl
  by_cases e : i + 1 = n
  · rw [← e, h1]; exact Nat.le_refl _
  · have := ps_mono (σ := σ) (show i + 1 < n by omega); omega
theorem GPw.st {w w' : RH} {s : PS} {o : Nat} {x : Int32} (h : GPw w s) (h71 : ∀ i, i < psF s.2.2.1 s.2.1 → w' 71 i = w 71 i) (h72 : ∀ i, i < cnF s.2.2.1 s.2.1 → w' 72 i = w 72 i) (e1 : w' 71 (psF s.2.2.1 s.2.1) = nI (mkF o)) (e2 : wdF o = 2 → w' 71 (psF s.2.2.1 s.2.1 + 1) = x) (e3 : nmB o = true → w' 72 (cnF s.2.2.1 s.2.1) = nI (psF s.2.2.1 s.2.1 + 1)) : GPw w' (stp s o x) := by
  refine ⟨fun i hi => ?_, fun i hi hb => ?_⟩
  · show w' 71 (psF (u1 s.2.2.1 s.2.1 o) i) = nI (mkF (u1 s.2.2.1 s.2.1 o i)) ∧ (wdF (u1 s.2.2.1 s.2.1 o i) = 2 → w' 71 (psF (u1 s.2.2.1 s.2.1 o) i + 1) = uI s.2.2.2.1 s.2.1 x i)
    have hi' : i < s.2.1 + 1 := hi
    rw [psF_c (σ := s.2.2.1) (fun k hk => u1_i (by omega))]
    by_cases e : i = s.2.1
    · subst e; rw [u1_s, uI_s]; exact ⟨e1, e2⟩
    · rw [u1_i e, uI_i e]
      have h9 := psF_nx (σ := s.2.2.1) (show i < s.2.1 by omega)
      have h8 : wdF (s.2.2.1 i) = 1 ∨ wdF (s.2.2.1 i) = 2 := by unfold wdF; split <;> simp
      obtain ⟨g1, g2⟩ := h.1 i (by omega)
      exact ⟨by rw [h71 _ (by omega)]; exact g1, fun z => by rw [h71 _ (by omega)]; exact g2 z⟩
  · show w' 72 (cnF (u1 s.2.2.1 s.2.1 o) i) = nI (psF (u1 s.2.2.1 s.2.1 o) i + 1)
    have hi' : i < s.2.1 + 1 := hi
    have hb' : nmB (u1 s.2.2.1 s.2.1 o i) = true := hb
    rw [psF_c (σ := s.2.2.1) (fun k hk => u1_i (by omega)), cnF_c (σ := s.2.2.1) (fun k hk => u1_i (by omega))]
    by_cases e : i = s.2.1
    · subst e; rw [u1_s] at hb'; exact e3 hb'
    · rw [u1_i e] at hb'
      rw [h72 _ (cnF_mono (by omega) hb')]
      exact h.2 i (by omega) hb'
def MPl (τ : TY) (M : ME) (m y z s1 s2 n8 : Nat) (B : Nat → Nat) (ω0 w0 : RH) (hr wr lt ez dp : Nat) (s : PS) : Prop :=
  ∃ ω w, MV τ M M m y z s1 s2 n8 s.1 dp B ω ∧ PV τ M M z 0 0 0 0 hr 0 wr (psF s.2.2.1 s.2.1) (cnF s.2.2.1 s.2.1) w ∧ (∀ f i, ¬ f = 83 → ω f i = ω0 f i) ∧ (∀ i, i ≤ lt → ω 83 i = s.2.2.2.2 i) ∧ (∀ f i, ¬ f = 71 → ¬ f = 72 → w f i = w0 f i) ∧ GPw w s ∧ s.2.1 + ez ≤ s.1 ∧ s.1 ≤ lt ∧ ∀ i, s.1 ≤ i → s.2.2.2.2 i = 0
theorem MPl.ezm {τ : TY} {M : ME} {m y z s1 s2 n8 : Nat} {B : Nat → Nat} {ω0 w0 : RH} {hr wr lt ez ez' dp : Nat} {s : PS} (h : MPl τ M m y z s1 s2 n8 B ω0 w0 hr wr lt ez dp s) (he : ez' ≤ ez) : MPl τ M m y z s1 s2 n8 B ω0 w0 hr wr lt ez' dp s := by
  obtain ⟨ω, w, h1, h2, h3, h4, h5, h6, h7, h8⟩ := h
  exact ⟨ω, w, h1, h2, h3, h4, h5, h6, by omega, h8⟩
