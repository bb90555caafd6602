/-! one step of both -/
section STEPS
variable {sg : Nat → Nat} {τ τ' : TY} {N M M1 M3 : ME} {x r p r2 p2 n8 n a b c hc wc sc m y z tk dp sz sz1 : Nat} {ρ ρ' π : RH} {ν : NU} {σ : Nat → Nat} {B B' : Nat → Nat} {fa th : Int32} {ω ω' : RH}
theorem CS.setR (h : CS sg τ M x r p r2 p2 n8 a b c hc wc sc ρ ν π σ B fa) (hR' : LM τ M M1 r a b c ρ' ν) : CS sg τ M1 x r p r2 p2 n8 a b c hc wc sc ρ' ν π σ B fa := by
  obtain ⟨hlay, ⟨ω, hV, hfa⟩, hR, ⟨κ, hP⟩, ⟨a2, b2, c2, ρ2, ν2, hA⟩, ⟨hc2, wc2, sc2, π2, σ2, κ2, hP2⟩, hB, ⟨r0, p0, nx, bk, ba, fl, fa9, hE⟩, tp0, ln0, lt0, K0, S0, V0, hT⟩ := h
  have e := hR'.frame
  exact ⟨hlay, ⟨_, hV.fr (fun q g1 g2 => e q (by omega)), hfa⟩, hR'.rf, ⟨_, hP.fr (fun q g1 g2 => e q (by omega))⟩, ⟨_, _, _, _, _, hA.fr (fun q g1 g2 => e q (by omega))⟩, ⟨_, _, _, _, _, _, hP2.fr (fun q g1 g2 => e q (by omega))⟩, hB.fr (fun q g1 g2 => e q (by omega)), ⟨_, _, _, _, _, _, _, hE.fr (fun q g1 g2 => e q (by omega))⟩, _, _, _, _, _, _, hT.fr (fun q g1 g2 => e q (by omega))⟩
theorem CS.setRP (h : CS sg τ M x r p r2 p2 n8 a b c hc wc sc ρ ν π σ B fa) (hR' : LM τ M1 M1 r a b c ρ' ν) (hP' : ∃ κ', PM τ M1 M1 p sg hc wc sc π σ κ') (e : Fr2 p r M M1) : CS sg τ M1 x r p r2 p2 n8 a b c hc wc sc ρ' ν π σ B fa := by
  obtain ⟨hlay, ⟨ω, hV, hfa⟩, hR, ⟨κ, hP⟩, ⟨a2, b2, c2, ρ2, ν2, hA⟩, ⟨hc2, wc2, sc2, π2, σ2, κ2, hP2⟩, hB, ⟨r0, p0, nx, bk, ba, fl, fa9, hE⟩, tp0, ln0, lt0, K0, S0, V0, hT⟩ := h
  exact ⟨hlay, ⟨_, hV.fr (fun q g1 g2 => e q (by omega) (by omega)), hfa⟩, hR', hP', ⟨_, _, _, _, _, hA.fr (fun q g1 g2 => e q (by omega) (by omega))⟩, ⟨_, _, _, _, _, _, hP2.fr (fun q g1 g2 => e q (by omega) (by omega))⟩, hB.fr (fun q g1 g2 => e q (by omega) (by omega)), ⟨_, _, _, _, _, _, _, hE.fr (fun q g1 g2 => e q (by omega) (by omega))⟩, _, _, _, _, _, _, hT.fr (fun q g1 g2 => e q (by omega) (by omega))⟩
theorem CS.setSB (h : CS sg τ M x r p r2 p2 n8 a b c hc wc sc ρ ν π σ B fa) (hs : SB sg τ M p r2 hc wc sc π σ sz sz1 τ' M1) : sz1 = sz ∧ τ' = τ ∧ CS sg τ M1 x r p r2 p2 n8 a b c hc wc sc ρ ν π σ B fa ∧ ∀ q, q < x ∨ x + 144 ≤ q → M1 q = M q := by
  obtain ⟨rfl, rfl, hP', hA', e⟩ := hs
  obtain ⟨hlay, ⟨ω, hV, hfa⟩, hR, ⟨κ, hP⟩, ⟨a2, b2, c2, ρ2, ν2, hA⟩, ⟨hc2, wc2, sc2, π2, σ2, κ2, hP2⟩, hB, ⟨r0, p0, nx, bk, ba, fl, fa9, hE⟩, tp0, ln0, lt0, K0, S0, V0, hT⟩ := h
  refine ⟨rfl, rfl, ?_, fun q hq => e q (by omega) (by omega)⟩
  exact ⟨hlay, ⟨_, hV.fr (fun q g1 g2 => e q (by omega) (by omega)), hfa⟩, hR.fr (fun q g1 g2 => e q (by omega) (by omega)), hP', hA', ⟨_, _, _, _, _, _, hP2.fr (fun q g1 g2 => e q (by omega) (by omega))⟩, hB.fr (fun q g1 g2 => e q (by omega) (by omega)), ⟨_, _, _, _, _, _, _, hE.fr (fun q g1 g2 => e q (by omega) (by omega))⟩, _, _, _, _, _, _, hT.fr (fun q g1 g2 => e q (by omega) (by omega))⟩
theorem CS.setF (h : CS sg τ M x r p r2 p2 n8 a b c hc wc sc ρ ν π σ B fa) (hV' : FV τ M1 M1 x r p r2 p2 n ω') (hω : ω' 91 0 = fa) (e : ∀ q, q ≠ x → M1 q = M q) : CS sg τ M1 x r p r2 p2 n a b c hc wc sc ρ ν π σ B fa := by
  obtain ⟨hlay, ⟨ω, hV, hfa⟩, hR, ⟨κ, hP⟩, ⟨a2, b2, c2, ρ2, ν2, hA⟩, ⟨hc2, wc2, sc2, π2, σ2, κ2, hP2⟩, hB, ⟨r0, p0, nx, bk, ba, fl, fa9, hE⟩, tp0, ln0, lt0, K0, S0, V0, hT⟩ := h
  exact ⟨hlay, ⟨_, hV', hω⟩, hR.fr (fun q g1 g2 => e q (by omega)), ⟨_, hP.fr (fun q g1 g2 => e q (by omega))⟩, ⟨_, _, _, _, _, hA.fr (fun q g1 g2 => e q (by omega))⟩, ⟨_, _, _, _, _, _, hP2.fr (fun q g1 g2 => e q (by omega))⟩, hB.fr (fun q g1 g2 => e q (by omega)), ⟨_, _, _, _, _, _, _, hE.fr (fun q g1 g2 => e q (by omega))⟩, _, _, _, _, _, _, hT.fr (fun q g1 g2 => e q (by omega))⟩
theorem CS.setFB (h : CS sg τ M x r p r2 p2 n8 a b c hc wc sc ρ ν π σ B fa) (hV' : FV τ M1 M1 x r p r2 p2 n ω') (hω : ω' 91 0 = fa) (hB' : BM τ M1 M1 (x + 1) B') (e : ∀ q, q ≠ x → q ≠ x + 1 → M1 q = M q) : CS sg τ M1 x r p r2 p2 n a b c hc wc sc ρ ν π σ B' fa := by
  obtain ⟨hlay, ⟨ω, hV, hfa⟩, hR, ⟨κ, hP⟩, ⟨a2, b2, c2, ρ2, ν2, hA⟩, ⟨hc2, wc2, sc2, π2, σ2, κ2, hP2⟩, hB, ⟨r0, p0, nx, bk, ba, fl, fa9, hE⟩, tp0, ln0, lt0, K0, S0, V0, hT⟩ := h
  exact ⟨hlay, ⟨_, hV', hω⟩, hR.fr (fun q g1 g2 => e q (by omega) (by omega)), ⟨_, hP.fr (fun q g1 g2 => e q (by omega) (by omega))⟩, ⟨_, _, _, _, _, hA.fr (fun q g1 g2 => e q (by omega) (by omega))⟩, ⟨_, _, _, _, _, _, hP2.fr (fun q g1 g2 => e q (by omega) (by omega))⟩, hB', ⟨_, _, _, _, _, _, _, hE.fr (fun q g1 g2 => e q (by omega) (by omega))⟩, _, _, _, _, _, _, hT.fr (fun q g1 g2 => e q (by omega) (by omega))⟩
theorem LMfr (h : LM τ M M1 r a b c ρ' ν) (hlay : (r = x + 2 ∧ r2 = x + 70) ∨ (r = x + 70 ∧ r2 = x + 2)) : ∀ q, q < x ∨ x + 144 ≤ q → M1 q = M q := fun q hq => h.frame q (by omega)
/-- the reference behind a call that changes its state -/
theorem MD.sct {ρ2 : RH} {μ2 κ2 : Nat → Int32} (hW : WN τ M m y (m + 26) a b c hc wc sc ρ π σ) (hL : y = m + 7 ∨ m + 55 ≤ y) (hA : SV τ M M (m + 40) m ρ2 μ2 κ2) (hfa : ω 91 0 = fa) (k : KS ρ ρ') (h : SC τ M m sz sz1 τ' M3 y z n tk dp B ω a b c ρ') : sz1 = sz ∧ τ' = τ ∧ MD τ M3 m y n a b c hc wc sc ρ' π σ B fa ∧ M3 m 0 = .int 0 ∧ ∀ q, q < m ∨ m + 54 ≤ q → M3 q = M q := by
  obtain ⟨rfl, rfl, hF, hM, μ', κ', hS⟩ := h
  exact ⟨rfl, rfl, ⟨_, _, _, _, _, _, hM, (by simpa [u2] using hfa), hS, ⟨ρ2, μ2, κ2, hA.fr (fun q g1 g2 => hF q (by omega))⟩, hW.re hM.g_y (fun q g1 g2 => hF q (by omega)) k, hL⟩, (by rw [hM.g_th, u2_s]), fun q hq => hF q (by omega)⟩
theorem MD.sa (hW : WN τ M m y (m + 26) a b c hc wc sc ρ π σ) (hL : y = m + 7 ∨ m + 55 ≤ y) (hfa : ω 91 0 = fa) (h : SA τ M m sz sz1 τ' M3 y z n tk dp B ω a b c ρ) : sz1 = sz ∧ τ' = τ ∧ MD τ M3 m y n a b c hc wc sc ρ π σ B fa ∧ M3 m 0 = .int 0 ∧ ∀ q, q < m ∨ m + 54 ≤ q → M3 q = M q := by
  obtain ⟨rfl, rfl, hF, hM, ⟨μ', κ', hS⟩, ρ2, μ2, κ2, -, ρ3, hA, -⟩ := h
  exact ⟨rfl, rfl, ⟨_, _, _, _, _, _, hM, (by simpa [u2] using hfa), hS, ⟨ρ3, μ2, κ2, hA⟩, hW.re hM.g_y (fun q g1 g2 => hF q (by omega)) (KS.rf ρ), hL⟩, (by rw [hM.g_th, u2_s]), fun q hq => hF q (by omega)⟩
theorem INV.of (hC : CS sg τ M x r p r2 p2 n8 a b c hc wc sc ρ ν π σ B fa) (hD : MD τ M (x + 144) y n8 a b c hc wc sc ρ π σ B fa) (h8 : n8 ≤ 2000) (hB8 : ∀ i, B i < 256) (hRI : RI a b c ρ) (hPl : PlOK a b hc wc σ π) (hPm : PmOK a b c hc wc sc σ π) (hto : τ (x + 198) = (102, 1)) (hz1 : x + 199 ≤ sz) (hz2 : y + 19 ≤ sz) : INV sg x sz τ M := ⟨_, _, _, _, _, _, _, _, _, _, _, _, _, _, _, _, _, _, hC, hD, ⟨h8, hB8⟩, hRI, hPl, hPm, hto, hz1, hz2⟩
theorem INV.td (h : INV sg x sz τ M) (ht : TD τ M (x + 144) sz sz1 τ' M1 th) : INV sg x sz1 τ' M1 ∧ M1 (x + 144) 0 = .int th ∧ M1 (x + 198) = M (x + 198) := by
  obtain ⟨r, p, r2, p2, n8, a, b, c, hc, wc, sc, ρ, ν, π, σ, B, fa, y, hC, hD, ⟨h8, hB8⟩, hRI, hPl, hPm, hto, hz1, hz2⟩ := h
  obtain ⟨g1, g2⟩ := hD.td ht (by omega) hz2
  exact ⟨INV.of ((hC.fr (fun q q1 q2 => ht.2.2.1 q (by omega) (by omega))).tau (fun q q1 q2 => ht.2.1 q (by omega))) g1 h8 hB8 hRI hPl hPm (by rw [ht.2.1 _ (by omega)]; exact hto) (by have := ht.1; omega) (by have := ht.1; omega), g2, ht.2.2.1 _ (by omega) (by omega)⟩
theorem MD.hL (h : MD τ M m y n8 a b c hc wc sc ρ π σ B fa) : y = m + 7 ∨ m + 55 ≤ y := by
  obtain ⟨_, _, _, _, _, _, _, _, _, _, _, hL⟩ := h
  exact hL
theorem MD.t_m (h : MD τ M m y n8 a b c hc wc sc ρ π σ B fa) : τ m = (11, 0) := by
  obtain ⟨_, _, _, _, _, _, hM, _⟩ := h
  exact hM.t_m
theorem MD.o {k : Nat} {v : Value} (h : MD τ M m y n8 a b c hc wc sc ρ π σ B fa) (e : M1 = up M (m + 54) k v) : MD τ M1 m y n8 a b c hc wc sc ρ π σ B fa := h.al (fun q hq => ⟨rfl, by rw [e]; exact up_a (by have := h.hL; omega)⟩)
theorem MD.fr (h : MD τ M m y n8 a b c hc wc sc ρ π σ B fa) (hf : ∀ q, m ≤ q → M1 q = M q) : MD τ M1 m y n8 a b c hc wc sc ρ π σ B fa := h.al (fun q hq => ⟨rfl, hf q (by have := h.hL; omega)⟩)
theorem INV.o {v : Value} (h : INV sg x sz τ M) (e : M1 = up M (x + 198) 0 v) : INV sg x sz τ M1 := by
  obtain ⟨r, p, r2, p2, n8, a, b, c, hc, wc, sc, ρ, ν, π, σ, B, fa, y, hC, hD, ⟨h8, hB8⟩, hRI, hPl, hPm, hto, hz1, hz2⟩ := h
  exact INV.of (hC.fr (fun q q1 q2 => by rw [e]; exact up_a (by omega))) (hD.o e) h8 hB8 hRI hPl hPm hto hz1 hz2
theorem INV.szl (h : INV sg x sz τ M) (hz : sz ≤ sz1) : INV sg x sz1 τ M := by
  obtain ⟨r, p, r2, p2, n8, a, b, c, hc, wc, sc, ρ, ν, π, σ, B, fa, y, hC, hD, ⟨h8, hB8⟩, hRI, hPl, hPm, hto, hz1, hz2⟩ := h
  exact INV.of hC hD h8 hB8 hRI hPl hPm hto (by omega) (by omega)
theorem SV.sl {μ κ : Nat → Int32} {s : Nat} (h : SV τ N M s m ρ μ κ) (h0 : a ≤ 8 ∧ b ≤ 6 ∧ c ≤ 20) : SL τ N M s a b c ρ m μ κ := ⟨h0, ρ, h, fun _ _ _ => rfl⟩
theorem DN.td (h : INV sg x sz τ M) {w : Int32} (ht : TD τ M (x + 144) sz sz1 τ' M1 th) (ho : th = 0 → M (x + 198) 0 = .long w.toInt64) : DN sg x th (some (.int w)) sz1 τ' M1 := by
  obtain ⟨j1, j2, j3⟩ := h.td ht
  exact ⟨w, rfl, j1, j2, fun e => by rw [j3]; exact ho e⟩
end STEPS
