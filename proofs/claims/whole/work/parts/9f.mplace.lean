/-! a place of the grammar in the reference's cells -/
def kkF (o : Nat) : Nat := if o = 45 then 900 else if o = 46 then 901 else kdF o
def nmB (o : Nat) : Bool := [20, 21, 6, 3, 22].contains o
def cnF (σ : Nat → Nat) : Nat → Nat
  | 0 => 0
  | i + 1 => cnF σ i + (if nmB (σ i) = true then 1 else 0)
def nmI (B : Nat → Nat) (p : Nat) : Nat → Int32
  | 0 => 0
  | k + 1 => 10 * nmI B p k + nI (B (p + k)) - 48
theorem psF_c {σ σ' : Nat → Nat} : ∀ {n : Nat}, (∀ i, i < n → σ' i = σ i) → psF σ' n = psF σ n
  | 0, _ => rfl
  | n + 1, h => by rw [psF, psF, psF_c (fun i hi => h i (by omega)), h n (by omega)]
theorem cnF_c {σ σ' : Nat → Nat} : ∀ {n : Nat}, (∀ i, i < n → σ' i = σ i) → cnF σ' n = cnF σ n
  | 0, _ => rfl
  | n + 1, h => by rw [cnF, cnF, cnF_c (fun i hi => h i (by omega)), h n (by omega)]
theorem psF_u {σ : Nat → Nat} {n o : Nat} : psF (u1 σ n o) (n + 1) = psF σ n + wdF o := by rw [psF, psF_c (fun i hi => u1_i (by omega)), u1_s]
theorem cnF_u {σ : Nat → Nat} {n o : Nat} : cnF (u1 σ n o) (n + 1) = cnF σ n + (if nmB o = true then 1 else 0) := by rw [cnF, cnF_c (fun i hi => u1_i (by omega)), u1_s]
theorem cnF_le {σ : Nat → Nat} : ∀ n, cnF σ n ≤ n
  | 0 => Nat.le_refl _
  | n + 1 => by have := cnF_le (σ := σ) n; rw [cnF]; split <;> omega
theorem cnF_mono {σ : Nat → Nat} {i n : Nat} (h : i < n) (hi : nmB (σ i) = true) : cnF σ i < cnF σ n := by
  induction n with
  | zero => omega
  | succ n ih =>
    rw [cnF]
    by_cases e : i = n
    · subst e; rw [if_pos hi]; omega
    · have := ih (by omega); omega
def GPw (w : RH) (s : PS) : Prop := (∀ i, i < s.2.1 → w 71 (psF s.2.2.1 i) = nI (mkF (s.2.2.1 i)) ∧ (wdF (s.2.2.1 i) = 2 → w 71 (psF s.2.2.1 i + 1) = s.2.2.2.1 i)) ∧ ∀ i, i < s.2.1 → nmB (s.2.2.1 i) = true → w 72 (cnF s.2.2.1 i) = nI (psF s.2.2.1 i + 1)
theorem psF_nx {σ : Nat → Nat} {i n : Nat} (h : i < n) : psF σ i + wdF (σ i) ≤ psF σ n := by
  have h1 : psF σ (i + 1) = psF σ i + wdF (σ i) := rfl
  by_cases e : i + 1 = n
  · rw [← e, h1]; exact Nat.le_refl _
  · have := ps_mono (σ := σ) (show i + 1 < n by omega); omega
theorem GPw.st {w w' : RH} {s : PS} {o : Nat} {x : Int32} (h : GPw w s) (h71 : ∀ i, i < psF s.2.2.1 s.2.1 → w' 71 i = w 71 i) (h72 : ∀ i, i < cnF s.2.2.1 s.2.1 → w' 72 i = w 72 i) (e1 : w' 71 (psF s.2.2.1 s.2.1) = nI (mkF o)) (e2 : wdF o = 2 → w' 71 (psF s.2.2.1 s.2.1 + 1) = x) (e3 : nmB o = true → w' 72 (cnF s.2.2.1 s.2.1) = nI (psF s.2.2.1 s.2.1 + 1)) : GPw w' (stp s o x) := by
  refine ⟨fun i hi => ?_, fun i hi hb => ?_⟩
  · show w' 71 (psF (u1 s.2.2.1 s.2.1 o) i) = nI (mkF (u1 s.2.2.1 s.2.1 o i)) ∧ (wdF (u1 s.2.2.1 s.2.1 o i) = 2 → w' 71 (psF (u1 s.2.2.1 s.2.1 o) i + 1) = uI s.2.2.2.1 s.2.1 x i)
    have hi' : i < s.2.1 + 1 := hi
    rw [psF_c (σ := s.2.2.1) (fun k hk => u1_i (by omega))]
    by_cases e : i = s.2.1
    · subst e; rw [u1_s, uI_s]; exact ⟨e1, e2⟩
    · rw [u1_i e, uI_i e]
      have h9 := psF_nx (σ := s.2.2.1) (show i < s.2.1 by omega)
      have h8 : wdF (s.2.2.1 i) = 1 ∨ wdF (s.2.2.1 i) = 2 := by unfold wdF; split <;> simp
      obtain ⟨g1, g2⟩ := h.1 i (by omega)
      exact ⟨by rw [h71 _ (by omega)]; exact g1, fun z => by rw [h71 _ (by omega)]; exact g2 z⟩
  · show w' 72 (cnF (u1 s.2.2.1 s.2.1 o) i) = nI (psF (u1 s.2.2.1 s.2.1 o) i + 1)
    have hi' : i < s.2.1 + 1 := hi
    have hb' : nmB (u1 s.2.2.1 s.2.1 o i) = true := hb
    rw [psF_c (σ := s.2.2.1) (fun k hk => u1_i (by omega)), cnF_c (σ := s.2.2.1) (fun k hk => u1_i (by omega))]
    by_cases e : i = s.2.1
    · subst e; rw [u1_s] at hb'; exact e3 hb'
    · rw [u1_i e] at hb'
      rw [h72 _ (cnF_mono (by omega) hb')]
      exact h.2 i (by omega) hb'
/-- what both have made of the tape -/
def TKF (B : Nat → Nat) (lt : Nat) (K : Nat → Nat) (S : Nat → Int32) (V : Nat → Int64) (ω : RH) : Prop :=
  (lt ≤ 400 ∧ (K lt = 45 ∨ K lt = 46)) ∧ (∀ i, i ≤ lt → ω 80 i = nI (kkF (K i)) ∧ (K i < 48 ∧ ¬ K i = 47) ∧ ω 81 i = S i) ∧
  (∀ i, i < lt → (¬ K i = 45 ∧ ¬ K i = 46) ∧ ∃ p n2, ω 81 i = nI p ∧ ω 82 i = nI n2 ∧ p + n2 ≤ 2000 ∧ (K i = 44 → nmI B p n2 = (V i).toInt32)) ∧
  (∀ i j, i < lt → j < lt → K i = 43 → K j = 43 → ∃ p n2 p' n2', ω 81 i = nI p ∧ ω 82 i = nI n2 ∧ p + n2 ≤ 2000 ∧ ω 81 j = nI p' ∧ ω 82 j = nI n2' ∧ p' + n2' ≤ 2000 ∧ ((n2 = n2' ∧ ∀ k, k < n2 → B (p + k) = B (p' + k)) ↔ V i = V j))
def MPl (τ : TY) (M : ME) (m y z s1 s2 n8 : Nat) (B : Nat → Nat) (ω0 w0 : RH) (hr wr lt ez dp : Nat) (s : PS) : Prop :=
  ∃ ω w, MV τ M M m y z s1 s2 n8 s.1 dp B ω ∧ PV τ M M z 0 0 0 0 hr 0 wr (psF s.2.2.1 s.2.1) (cnF s.2.2.1 s.2.1) w ∧ (∀ f i, ¬ f = 83 → ω f i = ω0 f i) ∧ (∀ i, i ≤ lt → ω 83 i = s.2.2.2.2 i) ∧ (∀ f i, ¬ f = 71 → ¬ f = 72 → w f i = w0 f i) ∧ GPw w s ∧ s.2.1 + ez ≤ s.1 ∧ s.1 ≤ lt ∧ ∀ i, s.1 ≤ i → s.2.2.2.2 i = 0
def MB (τ : TY) (M : ME) (m y z s1 s2 n8 : Nat) (B : Nat → Nat) (ω0 : RH) (lt t : Nat) : Prop :=
  t ≤ lt ∧ ∃ ω dp sa sb sc hc hr wc wr cs os w, MV τ M M m y z s1 s2 n8 t dp B ω ∧ PV τ M M z sa sb sc hc hr wc wr cs os w ∧ ∀ f i, ¬ f = 83 → ω f i = ω0 f i
def MQQ (τ : TY) (M : ME) (m y z s1 s2 n8 : Nat) (B : Nat → Nat) (ω0 w0 : RH) (hr wr lt ez dp : Nat) (q : PQ) : Prop := (q.1 = true → MPl τ M m y z s1 s2 n8 B ω0 w0 hr wr lt ez dp q.2) ∧ (q.1 = false → MB τ M m y z s1 s2 n8 B ω0 lt q.2.1)
def FMZ (m z : Nat) (M M1 : ME) : Prop := ∀ q, ¬ (m ≤ q ∧ q < m + 7) → ¬ (z ≤ q ∧ q < z + 19) → M1 q = M q
theorem FMZ.rf (m z : Nat) (M : ME) : FMZ m z M M := fun _ _ _ => rfl
theorem FMZ.tr {m z : Nat} {M M1 M2 : ME} (h : FMZ m z M M1) (e : FMZ m z M1 M2) : FMZ m z M M2 := fun q a b => (e q a b).trans (h q a b)
theorem FMZ.up {m z a k : Nat} {v : Value} {M M1 M2 : ME} (h : FMZ m z M M1) (e : M2 = up M1 a k v) (ha : (m ≤ a ∧ a < m + 7) ∨ (z ≤ a ∧ a < z + 19)) : FMZ m z M M2 := fun q h1 h2 => by
  rw [e, up_a (by rintro rfl; exact ha.elim h1 h2)]; exact h q h1 h2
theorem FMZ.fm {m z : Nat} {M M1 M2 : ME} (h : FMZ m z M M1) (e : Fr m (m + 7) M1 M2) : FMZ m z M M2 := fun q h1 h2 => (e q (by omega)).trans (h q h1 h2)
theorem FMZ.fz {m z : Nat} {M M1 M2 : ME} (h : FMZ m z M M1) (e : Fr z (z + 19) M1 M2) : FMZ m z M M2 := fun q h1 h2 => (e q (by omega)).trans (h q h1 h2)
theorem MPl.ezm {τ : TY} {M : ME} {m y z s1 s2 n8 : Nat} {B : Nat → Nat} {ω0 w0 : RH} {hr wr lt ez ez' dp : Nat} {s : PS} (h : MPl τ M m y z s1 s2 n8 B ω0 w0 hr wr lt ez dp s) (he : ez' ≤ ez) : MPl τ M m y z s1 s2 n8 B ω0 w0 hr wr lt ez' dp s := by
  obtain ⟨ω, w, h1, h2, h3, h4, h5, h6, h7, h8⟩ := h
  exact ⟨ω, w, h1, h2, h3, h4, h5, h6, by omega, h8⟩
theorem MPl.mb {τ : TY} {M : ME} {m y z s1 s2 n8 : Nat} {B : Nat → Nat} {ω0 w0 : RH} {hr wr lt ez dp : Nat} {s : PS} (h : MPl τ M m y z s1 s2 n8 B ω0 w0 hr wr lt ez dp s) : MB τ M m y z s1 s2 n8 B ω0 lt s.1 := by
  obtain ⟨ω, w, h1, h2, h3, h4, h5, h6, h7, h8, h9⟩ := h
  exact ⟨h8, ω, dp, _, _, _, _, _, _, _, _, _, w, h1, h2, h3⟩
theorem kc_0 : ∀ o, o < 48 → ¬ o = 47 → (nI (kkF o) = 0 ↔ o = 0) := by decide +kernel
theorem kc_1 : ∀ o, o < 48 → ¬ o = 47 → (nI (kkF o) = 1 ↔ o = 1) := by decide +kernel
theorem kc_2 : ∀ o, o < 48 → ¬ o = 47 → (nI (kkF o) = 2 ↔ o = 2) := by decide +kernel
theorem kc_3 : ∀ o, o < 48 → ¬ o = 47 → (nI (kkF o) = 3 ↔ o = 3) := by decide +kernel
theorem kc_4 : ∀ o, o < 48 → ¬ o = 47 → (nI (kkF o) = 4 ↔ o = 4) := by decide +kernel
theorem kc_5 : ∀ o, o < 48 → ¬ o = 47 → (nI (kkF o) = 5 ↔ o = 5) := by decide +kernel
theorem kc_6 : ∀ o, o < 48 → ¬ o = 47 → (nI (kkF o) = 6 ↔ o = 6) := by decide +kernel
theorem kc_7 : ∀ o, o < 48 → ¬ o = 47 → (nI (kkF o) = 7 ↔ o = 7) := by decide +kernel
theorem kc_8 : ∀ o, o < 48 → ¬ o = 47 → (nI (kkF o) = 8 ↔ o = 8) := by decide +kernel
theorem kc_9 : ∀ o, o < 48 → ¬ o = 47 → (nI (kkF o) = 9 ↔ o = 9) := by decide +kernel
theorem kc_10 : ∀ o, o < 48 → ¬ o = 47 → (nI (kkF o) = 10 ↔ o = 10) := by decide +kernel
theorem kc_11 : ∀ o, o < 48 → ¬ o = 47 → (nI (kkF o) = 11 ↔ o = 11) := by decide +kernel
theorem kc_12 : ∀ o, o < 48 → ¬ o = 47 → (nI (kkF o) = 12 ↔ o = 12) := by decide +kernel
theorem kc_13 : ∀ o, o < 48 → ¬ o = 47 → (nI (kkF o) = 13 ↔ o = 13) := by decide +kernel
theorem kc_14 : ∀ o, o < 48 → ¬ o = 47 → (nI (kkF o) = 14 ↔ o = 14) := by decide +kernel
theorem kc_15 : ∀ o, o < 48 → ¬ o = 47 → (nI (kkF o) = 15 ↔ o = 15) := by decide +kernel
theorem kc_22 : ∀ o, o < 48 → ¬ o = 47 → (nI (kkF o) = 22 ↔ o = 22) := by decide +kernel
theorem kc_23 : ∀ o, o < 48 → ¬ o = 47 → (nI (kkF o) = 23 ↔ o = 23) := by decide +kernel
theorem kc_24 : ∀ o, o < 48 → ¬ o = 47 → (nI (kkF o) = 24 ↔ o = 24) := by decide +kernel
theorem kc_25 : ∀ o, o < 48 → ¬ o = 47 → (nI (kkF o) = 25 ↔ o = 25) := by decide +kernel
theorem kc_26 : ∀ o, o < 48 → ¬ o = 47 → (nI (kkF o) = 26 ↔ o = 26) := by decide +kernel
theorem kc_27 : ∀ o, o < 48 → ¬ o = 47 → (nI (kkF o) = 27 ↔ o = 27) := by decide +kernel
theorem kc_40 : ∀ o, o < 48 → ¬ o = 47 → (nI (kkF o) = 40 ↔ o = 43) := by decide +kernel
theorem kc_41 : ∀ o, o < 48 → ¬ o = 47 → (nI (kkF o) = 41 ↔ o = 44) := by decide +kernel
theorem kc_90 : ∀ o, o < 48 → ¬ o = 47 → (nI (kkF o) = 90 ↔ o = 28) := by decide +kernel
theorem kc_91 : ∀ o, o < 48 → ¬ o = 47 → (nI (kkF o) = 91 ↔ o = 29) := by decide +kernel
theorem kc_92 : ∀ o, o < 48 → ¬ o = 47 → (nI (kkF o) = 92 ↔ o = 36) := by decide +kernel
theorem kc_93 : ∀ o, o < 48 → ¬ o = 47 → (nI (kkF o) = 93 ↔ o = 34) := by decide +kernel
theorem kc_94 : ∀ o, o < 48 → ¬ o = 47 → (nI (kkF o) = 94 ↔ o = 33) := by decide +kernel
theorem kc_95 : ∀ o, o < 48 → ¬ o = 47 → (nI (kkF o) = 95 ↔ o = 35) := by decide +kernel
theorem kc_97 : ∀ o, o < 48 → ¬ o = 47 → (nI (kkF o) = 97 ↔ o = 37) := by decide +kernel
theorem kc_109 : ∀ o, o < 48 → ¬ o = 47 → (nI (kkF o) = 109 ↔ o = 32) := by decide +kernel
theorem kc_110 : ∀ o, o < 48 → ¬ o = 47 → (nI (kkF o) = 110 ↔ o = 38) := by decide +kernel
theorem kc_111 : ∀ o, o < 48 → ¬ o = 47 → (nI (kkF o) = 111 ↔ o = 40) := by decide +kernel
theorem kc_112 : ∀ o, o < 48 → ¬ o = 47 → (nI (kkF o) = 112 ↔ o = 39) := by decide +kernel
theorem kc_141 : ∀ o, o < 48 → ¬ o = 47 → (nI (kkF o) = 141 ↔ o = 30) := by decide +kernel
theorem kc_143 : ∀ o, o < 48 → ¬ o = 47 → (nI (kkF o) = 143 ↔ o = 31) := by decide +kernel
theorem kc_300 : ∀ o, o < 48 → ¬ o = 47 → (nI (kkF o) = 300 ↔ o = 41) := by decide +kernel
theorem kc_301 : ∀ o, o < 48 → ¬ o = 47 → (nI (kkF o) = 301 ↔ o = 42) := by decide +kernel
theorem kc_900 : ∀ o, o < 48 → ¬ o = 47 → (nI (kkF o) = 900 ↔ o = 45) := by decide +kernel
theorem kc_in : ∀ o, o < 48 → iiF (nI (kkF o)) 16 19 = if 16 ≤ o ∧ o ≤ 19 then 1 else 0 := by decide +kernel
theorem kc_of : ∀ o, o < 48 → ¬ o = 47 → ofF (nI (kkF o)) = if (o = 20 ∨ o = 21 ∨ o = 6) ∨ (o = 3 ∨ o = 22) then 1 else 0 := by decide +kernel
theorem kk_lo : ∀ o, o < 28 → kkF o = o := by decide +kernel
