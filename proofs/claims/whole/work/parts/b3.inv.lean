/-! what holds between two calls of the law -/
section INVS
variable {sg : Nat → Nat} {τ τ' : TY} {M M1 : ME} {x r p r2 p2 n8 a b c hc wc sc m y sz sz1 : Nat} {ρ ρ' π : RH} {ν : NU} {σ : Nat → Nat} {B : Nat → Nat} {fa th : Int32}
theorem CS.fr (h : CS sg τ M x r p r2 p2 n8 a b c hc wc sc ρ ν π σ B fa) (hf : ∀ q, x ≤ q → q < x + 144 → M1 q = M q) : CS sg τ M1 x r p r2 p2 n8 a b c hc wc sc ρ ν π σ B fa := by
  obtain ⟨hlay, ⟨ω, hV, hfa⟩, hR, ⟨κ, hP⟩, ⟨a2, b2, c2, ρ2, ν2, hA⟩, ⟨hc2, wc2, sc2, π2, σ2, κ2, hP2⟩, hB, ⟨r0, p0, nx, bk, ba, fl, fa9, hE⟩, tp0, ln0, lt0, K0, S0, V0, hT⟩ := h
  exact ⟨hlay, ⟨ω, hV.fr (fun q g1 g2 => hf q (by omega) (by omega)), hfa⟩, hR.fr (fun q g1 g2 => hf q (by omega) (by omega)), ⟨κ, hP.fr (fun q g1 g2 => hf q (by omega) (by omega))⟩, ⟨_, _, _, _, _, hA.fr (fun q g1 g2 => hf q (by omega) (by omega))⟩, ⟨_, _, _, _, _, _, hP2.fr (fun q g1 g2 => hf q (by omega) (by omega))⟩, hB.fr (fun q g1 g2 => hf q (by omega) (by omega)), ⟨_, _, _, _, _, _, _, hE.fr (fun q g1 g2 => hf q (by omega) (by omega))⟩, _, _, _, _, _, _, hT.fr (fun q g1 g2 => hf q (by omega) (by omega))⟩
theorem CS.tau (h : CS sg τ M x r p r2 p2 n8 a b c hc wc sc ρ ν π σ B fa) (hf : ∀ q, x ≤ q → q < x + 144 → τ' q = τ q) : CS sg τ' M x r p r2 p2 n8 a b c hc wc sc ρ ν π σ B fa := by
  obtain ⟨hlay, ⟨ω, hV, hfa⟩, hR, ⟨κ, hP⟩, ⟨a2, b2, c2, ρ2, ν2, hA⟩, ⟨hc2, wc2, sc2, π2, σ2, κ2, hP2⟩, hB, ⟨r0, p0, nx, bk, ba, fl, fa9, hE⟩, tp0, ln0, lt0, K0, S0, V0, hT⟩ := h
  exact ⟨hlay, ⟨ω, hV.tau (fun q g1 g2 => hf q (by omega) (by omega)), hfa⟩, hR.tau (fun q g1 g2 => hf q (by omega) (by omega)), ⟨κ, hP.tau (fun q g1 g2 => hf q (by omega) (by omega))⟩, ⟨_, _, _, _, _, hA.tau (fun q g1 g2 => hf q (by omega) (by omega))⟩, ⟨_, _, _, _, _, _, hP2.tau (fun q g1 g2 => hf q (by omega) (by omega))⟩, hB.tau (fun q g1 g2 => hf q (by omega) (by omega)), ⟨_, _, _, _, _, _, _, hE.tau (fun q g1 g2 => hf q (by omega) (by omega))⟩, _, _, _, _, _, _, hT.tau (fun q g1 g2 => hf q (by omega) (by omega))⟩
/-- the reference's object -/
def MD (τ : TY) (M : ME) (m y n8 a b c hc wc sc : Nat) (ρ π : RH) (σ : Nat → Nat) (B : Nat → Nat) (fa : Int32) : Prop :=
  ∃ z tk dp ω μ κ, MV τ M M m y z (m + 26) (m + 40) n8 tk dp B ω ∧ ω 91 0 = fa ∧ SL τ M M (m + 26) a b c ρ m μ κ ∧ (∃ ρ2 μ2 κ2, SV τ M M (m + 40) m ρ2 μ2 κ2) ∧ WN τ M m y (m + 26) a b c hc wc sc ρ π σ ∧ (y = m + 7 ∨ m + 55 ≤ y)
theorem WN.s2 (h : WN τ M m y (m + 26) a b c hc wc sc ρ π σ) (hL : y = m + 7 ∨ m + 55 ≤ y) : WN τ M m y (m + 40) a b c hc wc sc ρ π σ := ⟨h.1, h.2.1, h.2.2.1, by omega, by omega, h.2.2.2.2.2⟩
theorem MD.al (h : MD τ M m y n8 a b c hc wc sc ρ π σ B fa) (hf : ∀ q, (m ≤ q ∧ q < m + 54) ∨ (y ≤ q ∧ q < y + 19) → τ' q = τ q ∧ M1 q = M q) : MD τ' M1 m y n8 a b c hc wc sc ρ π σ B fa := by
  obtain ⟨z, tk, dp, ω, μ, κ, hM, hfa, hS, ⟨ρ2, μ2, κ2, hA⟩, hW, hL⟩ := h
  exact ⟨z, tk, dp, ω, μ, κ, (hM.fr (fun q g1 g2 => (hf q (by omega)).2)).tau (fun q g1 g2 => (hf q (by omega)).1), hfa, (hS.fr (fun q g1 g2 => (hf q (by omega)).2)).tau (fun q g1 g2 => (hf q (by omega)).1), ⟨ρ2, μ2, κ2, (hA.fr (fun q g1 g2 => (hf q (by omega)).2)).tau (fun q g1 g2 => (hf q (by omega)).1)⟩, hW.al (hf m (by omega)).2 (fun q g1 g2 => (hf q (by omega)).2) (hf m (by omega)).1 (fun q g1 g2 => (hf q (by omega)).1), hL⟩
theorem TH.td (h : TH τ M m sz sz1 τ' M1 th) : TD τ M m sz sz1 τ' M1 th := ⟨h.1, h.2.2⟩
/-- behind a question of the reference -/
theorem MD.td (h : MD τ M m y n8 a b c hc wc sc ρ π σ B fa) (ht : TD τ M m sz sz1 τ' M1 th) (hm : m + 54 ≤ sz) (hy : y + 19 ≤ sz) : MD τ' M1 m y n8 a b c hc wc sc ρ π σ B fa ∧ M1 m 0 = .int th := by
  refine ⟨?_, ht.2.2.2.2⟩
  have h1 : MD τ (up M m 0 (.int th)) m y n8 a b c hc wc sc ρ π σ B fa := by
    obtain ⟨z, tk, dp, ω, μ, κ, hM, hfa, hS, ⟨ρ2, μ2, κ2, hA⟩, hW, hL⟩ := h
    exact ⟨z, tk, dp, _, μ, κ, (hM.p_th (x := th)).rf, (by simpa [u2] using hfa), hS.frU rfl (by omega), ⟨ρ2, μ2, κ2, hA.frU rfl (by omega)⟩, hW.frV rfl (Or.inr ⟨fun _ => by decide, by omega⟩), hL⟩
  refine h1.al (fun q hq => ?_)
  have hq9 : q < sz := by omega
  refine ⟨ht.2.1 q hq9, ?_⟩
  by_cases e : q = m
  · subst e
    funext k
    by_cases ek : k = 0
    · subst ek; rw [up_s]; exact ht.2.2.2.2
    · rw [up_k ek]; exact ht.2.2.2.1 k ek
  · rw [up_a e]; exact ht.2.2.1 q hq9 e
/-- everything: class at x, reference at x + 144, the law's row of one long at x + 198 -/
def INV (sg : Nat → Nat) (x sz : Nat) (τ : TY) (M : ME) : Prop :=
  ∃ r p r2 p2 n8 a b c hc wc sc ρ ν π σ B fa y, CS sg τ M x r p r2 p2 n8 a b c hc wc sc ρ ν π σ B fa ∧ MD τ M (x + 144) y n8 a b c hc wc sc ρ π σ B fa ∧ (n8 ≤ 2000 ∧ ∀ i, B i < 256) ∧ RI a b c ρ ∧ PlOK a b hc wc σ π ∧ PmOK a b c hc wc sc σ π ∧ τ (x + 198) = (102, 1) ∧ x + 199 ≤ sz ∧ y + 19 ≤ sz
/-- behind one call of both: the reference answers w and says th; the class's answer, told long, stands in the row -/
def DN (sg : Nat → Nat) (x : Nat) (k : Int32) : QT := fun v sz τ M => ∃ w, v = some (.int w) ∧ INV sg x sz τ M ∧ M (x + 144) 0 = .int k ∧ (k = 0 → M (x + 198) 0 = .long w.toInt64)
end INVS
