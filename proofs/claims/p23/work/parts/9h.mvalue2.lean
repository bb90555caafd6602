/-! the reference reads by the rules: the rest *of* a value -/
theorem MPl.ad {τ : TY} {N1 N2 M : ME} {m y z s1 s2 n8 : Nat} {B : Nat → Nat} {ω ω0 w w0 : RH} {hr wr lt ez dp o : Nat} {s : PS} {c : Int32} (hwd : wdF o = 1) (hnm : nmB o = false) (hc : c = nI (mkF o)) (hM : MV τ N1 M m y z s1 s2 n8 s.1 dp B ω) (hV : PV τ N2 M z 0 0 0 0 hr 0 wr (psF s.2.2.1 s.2.1 + 1) (cnF s.2.2.1 s.2.1) (u2 w 71 (psF s.2.2.1 s.2.1) c)) (hω : ∀ f i, ¬ f = 83 → ω f i = ω0 f i) (hrl : ∀ i, i ≤ lt → ω 83 i = s.2.2.2.2 i) (hw : ∀ f i, ¬ f = 71 → ¬ f = 72 → w f i = w0 f i) (hG : GPw w s) (hn : s.2.1 + (ez + 1) ≤ s.1) (ht : s.1 ≤ lt) (hz : ∀ i, s.1 ≤ i → s.2.2.2.2 i = 0) : MPl τ M m y z s1 s2 n8 B ω0 w0 hr wr lt ez dp (stp s o 0) := by
  have e1 : psF (u1 s.2.2.1 s.2.1 o) (s.2.1 + 1) = psF s.2.2.1 s.2.1 + 1 := by rw [psF_u, hwd]
  have e2 : cnF (u1 s.2.2.1 s.2.1 o) (s.2.1 + 1) = cnF s.2.2.1 s.2.1 := by rw [cnF_u, hnm]; rfl
  refine ⟨ω, _, hM.rf, (by rw [← e1, ← e2] at hV; exact hV.rf), hω, hrl, fun f i h1 h2 => ?_, GPw.st hG (fun i hi => ?_) (fun i hi => ?_) ?_ (fun z => ?_) (fun z => ?_), ?_, ht, hz⟩
  · rw [u2_f h1]; exact hw f i h1 h2
  · rw [u2_i (by omega)]
  · rw [u2_f (by decide)]
  · rw [u2_s, hc]
  · rw [hwd] at z; exact absurd z (by decide)
  · rw [hnm] at z; cases z
  · show s.2.1 + 1 + ez ≤ s.1; omega
