/-- the class's whole object -/
def CS (sg : Nat → Nat) (τ : TY) (M : ME) (x r p r2 p2 n8 a b c hc wc sc : Nat) (ρ : RH) (ν : NU) (π : RH) (σ : Nat → Nat) (B : Nat → Nat) (fa : Int32) : Prop :=
  (((r = x + 2 ∧ r2 = x + 70) ∨ (r = x + 70 ∧ r2 = x + 2)) ∧ ((p = x + 40 ∧ p2 = x + 108) ∨ (p = x + 108 ∧ p2 = x + 40))) ∧ (∃ ω, FV τ M M x r p r2 p2 n8 ω ∧ ω 91 0 = fa) ∧ LM τ M M r a b c ρ ν ∧ (∃ κ, PM τ M M p sg hc wc sc π σ κ) ∧
  (∃ a2 b2 c2 ρ2 ν2, LM τ M M r2 a2 b2 c2 ρ2 ν2) ∧ (∃ hc2 wc2 sc2 π2 σ2 κ2, PM τ M M p2 sg hc2 wc2 sc2 π2 σ2 κ2) ∧ BM τ M M (x + 1) B ∧ (∃ r0 p0 nx bk ba fl fa, RV τ M M (x + 138) r0 p0 nx bk ba fl fa) ∧ ∃ tp ln lt K S V, TM τ M M (x + 139) sg tp ln lt K S V
def erV (V : Nat → Int64) (S : Nat → Int32) (q : PQ) : Int32 := if q.1 = true then (flF V S q.2.2.2.2.2 q.2.1).1 else 1
def erA (V : Nat → Int64) (S : Nat → Int32) (q : PQ) : Int32 := if q.1 = true then (flF V S q.2.2.2.2.2 q.2.1).2 else S q.2.1
theorem LQ.fr {sg : Nat → Nat} {τ : TY} {M M1 : ME} {j r p tp ln lt : Nat} {K : Nat → Nat} {S : Nat → Int32} {V : Nat → Int64} {q : PQ} {β : RH} (h : LQ sg τ M j r p tp ln lt K S V q β) (e : ∀ q, (j ≤ q ∧ q < j + 5) ∨ (r ≤ q ∧ q < r + 38) ∨ (p ≤ q ∧ q < p + 30) → M1 q = M q) : LQ sg τ M1 j r p tp ln lt K S V q β := by
  obtain ⟨hT, ⟨nx, bk, ba, fl, fa, hE, hO⟩, a, b, c, ρ, ν, hn, wn, sn, σ, π, κ, hR, hP, hs, hLC⟩ := h
  exact ⟨hT.fr (fun b h1 h2 => e b (by omega)), ⟨nx, bk, ba, fl, fa, hE.fr (fun b h1 h2 => e b (by omega)), hO⟩, a, b, c, ρ, ν, hn, wn, sn, σ, π, κ, hR.fr (fun b h1 h2 => e b (by omega)), hP.fr (fun b h1 h2 => e b (by omega)), hs, hLC⟩
theorem LC.u67 {V : Nat → Int64} {s : PS} {β ρ π : RH} {a b c hn wn sn : Nat} {ν : NU} {σ : Nat → Nat} {y z : Int32} (h : LC V s β a b c ρ ν hn wn sn σ π) : LC V s β a b c (u2 (u2 ρ 6 0 y) 7 0 z) ν hn wn sn σ π := by
  obtain ⟨D, z1, n1, ⟨g1, g2, g3, g4, g5⟩, t1⟩ := h
  refine ⟨D, z1, n1, ⟨fun i hi => ?_, fun i hi => ?_, fun i hi => ?_, ?_, g5⟩, t1⟩
  · have := g1 i hi; simpa [u2] using this
  · have := g2 i hi; simpa [u2] using this
  · have := g3 i hi; simpa [u2] using this
  · simpa [u2] using g4
set_option maxHeartbeats 1000000 in
theorem c_X10_teach {l : Launch} {D : va_G} {cA : Nat → ClassId} {n0 : Nat} {sg adK adV : Nat → Nat} {sgA smA wdA bS LS : Nat} {xs : Nat → Int32} (hX : SF n0 (XW0 sg adK adV sgA smA wdA n0 bS LS xs)) {sz : Nat} {τ : TY} {M : ME} {x r p r2 p2 n8 a b c hc wc sc : Nat} {ρ π : RH} {ν : NU} {σ : Nat → Nat} {B : Nat → Nat} {fa : Int32} (hC : CS sg τ M x r p r2 p2 n8 a b c hc wc sc ρ ν π σ B fa) (hB8 : ∀ i, B i < 256) (h8 : n8 ≤ 2000) : CT l D cA n0 (XW0 sg adK adV sgA smA wdA n0 bS LS xs) mX10_teach 104 0 0 sz τ M [.ref x] (fun v' sz' τ' M' => sz' = sz ∧ τ' = τ ∧ (∀ q, q < x ∨ x + 143 ≤ q → M' q = M q) ∧ ∃ lt K S V q' β', Toks B n8 lt K S V ∧ LSr K (fun t => (V t).toInt32) pq0 be0 q' β' ∧ (q'.1 = true → K q'.2.1 = 45) ∧ v' = some (.int (erV V S q')) ∧ (erV V S q' = 0 → ∃ a' b' c' hc' wc' sc' ρ' ν' π' σ', CS sg τ M' x r2 p2 r p 0 a' b' c' hc' wc' sc' ρ' ν' π' σ' B (erA V S q') ∧ ρ' 6 0 = ρ 6 0 ∧ ρ' 7 0 = ρ 7 0 ∧ (hc' ≤ 12 ∧ wc' ≤ 12 ∧ sc' ≤ 400) ∧ LC V q'.2 β' a' b' c' ρ' ν' hc' wc' sc' σ' π') ∧ (¬ erV V S q' = 0 → CS sg τ M' x r p r2 p2 0 a b c hc wc sc ρ ν π σ B (erA V S q'))) := by
  refine CT.of (ls := [.ref x, UU]) (by decide) (Nat.le_of_ble_eq_true rfl) rfl ?_
  obtain ⟨hlay, ⟨ω, hV, hfa⟩, hR, ⟨κ, hP⟩, ⟨a2, b2, c2, ρ2, ν2, hA⟩, ⟨hc2, wc2, sc2, π2, σ2, κ2, hP2⟩, hB, ⟨r0, p0, nx, bk, ba, fl, fa9, hE⟩, tp0, ln0, lt0, K0, S0, V0, hT⟩ := hC
  have hZ : ∀ q, q < x ∨ x + 143 ≤ q → M q = M q := fun _ _ => rfl
  refine T_aload0 dX10_teach_0 rfl ?_
  refine g10_45 _ rfl (hV.t_x) (hV.g_rd) dX10_teach_1 rfl ?_
  refine T_aload0 dX10_teach_4 rfl ?_
  refine g10_9 _ rfl (hV.t_x) (hV.g_tp) dX10_teach_5 rfl ?_
  refine T_aload0 dX10_teach_8 rfl ?_
  refine g10_13 _ rfl (hV.t_x) (hV.g_n) dX10_teach_9 rfl ?_
  refine T_aload0 dX10_teach_12 rfl ?_
  refine g10_34 _ rfl (hV.t_x) (hV.g_r2) dX10_teach_13 rfl ?_
  refine T_aload0 dX10_teach_16 rfl ?_
  refine g10_37 _ rfl (hV.t_x) (hV.g_p2) dX10_teach_17 rfl ?_
  refine T_cV4 (c_X5_read hX hE hT hA hP2 hB hB8 h8 (by omega) (by omega)) hX k10_64 (Or.inl ⟨_, _, _, _, hE.t_j, by decide, rfl⟩) (by decide) (Nat.le_of_ble_eq_true rfl) dX10_teach_20 rfl ?_
  rintro _ _ _ M9 ⟨rfl, rfl, ⟨lt, K, S, V, q9, β9, hTk, hl9, rfl, he9, hL⟩, hF9⟩
  have hV := hV.fr (fun b h1 h2 => hF9 b (by omega) (by omega) (by omega))
  have hR := hR.fr (fun b h1 h2 => hF9 b (by omega) (by omega) (by omega))
  have hP := hP.fr (fun b h1 h2 => hF9 b (by omega) (by omega) (by omega))
  have hB := hB.fr (fun b h1 h2 => hF9 b (by omega) (by omega) (by omega))
  have hZ : ∀ q, q < x ∨ x + 143 ≤ q → M9 q = M q := fun q g => (hF9 q (by omega) (by omega) (by omega)).trans (hZ q g)
  have hj : _ = (4, 0) := hL.2.1.tj
  refine T_istore1 rfl (by decide) dX10_teach_23 rfl ?_
  refine T_aload0 dX10_teach_24 rfl ?_
  refine T_iconst (0) dX10_teach_25 rfl rfl ?_
  refine p10_13 rfl (hV.t_x) dX10_teach_26 rfl ?_
  refine T_nm (fun M1 e1 => ?_)
  have hV := FV.mv (hV.p_n (n := 0) rfl) e1
  have hR := hR.frU e1 (by omega)
  have hP := hP.frU e1 (by (try simp only [stA, hsA, lgA]); omega)
  have hB := hB.frU e1 (by omega)
  have hL := hL.fr (M1 := M1) (fun q g1 => by rw [e1]; exact up_a (by omega))
  have hZ : ∀ q, q < x ∨ x + 143 ≤ q → M1 q = M q := fun q g1 => (by rw [e1]; exact (up_a (by omega)).trans (hZ q g1))
  refine T_aload0 dX10_teach_29 rfl ?_
  refine T_aload0 dX10_teach_30 rfl ?_
  refine g10_45 _ rfl (hV.t_x) (hV.g_rd) dX10_teach_31 rfl ?_
  refine T_cV0 (rq_errorPlace hX hL.1 hL.2.1) hX k10_68 (Or.inl ⟨_, _, _, _, hj, by decide, rfl⟩) (by decide) (Nat.le_of_ble_eq_true rfl) dX10_teach_34 rfl ?_
  rintro _ _ _ _ ⟨rfl, rfl, rfl, rfl⟩
  refine p10_17 rfl (hV.t_x) dX10_teach_37 rfl ?_
  refine T_nm (fun M2 e2 => ?_)
  have hV := FV.mv hV.p_fa e2
  have hR := hR.frU e2 (by omega)
  have hP := hP.frU e2 (by (try simp only [stA, hsA, lgA]); omega)
  have hB := hB.frU e2 (by omega)
  have hL := hL.fr (M1 := M2) (fun q g1 => by rw [e2]; exact up_a (by omega))
  have hZ : ∀ q, q < x ∨ x + 143 ≤ q → M2 q = M q := fun q g1 => (by rw [e2]; exact (up_a (by omega)).trans (hZ q g1))
  obtain ⟨hT9, ⟨nx9, bk9, ba9, fl9, fa8, hE9, hO9⟩, a9, b9, c9, ρ9, ν9, hn9, wn9, sn9, σ9, π9, κ9, hA9, hP9, hs9, hLC9⟩ := hL
  refine T_iload1 dX10_teach_40 rfl ?_
  refine T_if_ne 48 44 dX10_teach_41 (by decide) rfl (fun c41 => ?_) (fun c41 => ?_)
  ·
    refine T_iload1 dX10_teach_48 rfl ?_
    refine T_iret rfl rfl dX10_teach_49 ?_
    first
      | (refine ⟨rfl, rfl, hZ, lt, K, S, V, q9, β9, hTk, hl9, he9, rfl, fun z => absurd z c41, fun _ => ⟨hlay, ⟨_, hV.rf, u2_s _ _ _ _⟩, hR.rf, ⟨_, hP.rf⟩, ⟨_, _, _, _, _, hA9.rf⟩, ⟨_, _, _, _, _, _, hP9.rf⟩, hB.rf, ⟨_, _, _, _, _, _, _, hE9.rf⟩, _, _, _, _, _, _, hT9.rf⟩⟩; done)
      | (have hq : q9.1 = true := Decidable.byContradiction (fun z => by rw [if_neg z] at c41; exact absurd c41 (by decide))
         have hf : (flF V S q9.2.2.2.2.2 q9.2.1).1 = 0 := by rw [if_pos hq] at c41; exact c41
         have hZ8 : ∀ q, q < x ∨ x + 143 ≤ q → M8 q = M q := fun q g => (hF8 q (by omega) (by omega)).trans (hZ q g)
         have hG8 : ∀ q, q ≠ x → ¬ (r2 ≤ q ∧ q < r2 + 38) → M8 q = _ := hF8
         exact ⟨rfl, rfl, hZ8, lt, K, S, V, q9, β9, hTk, hl9, he9, rfl, fun _ => ⟨a9, b9, c9, hn9, wn9, sn9, _, ν9, π9, σ9, ⟨by omega, ⟨_, hV8, u2_s _ _ _ _⟩, hA8, ⟨_, hP9.fr (fun b h1 h2 => hG8 b (by omega) (by omega))⟩, ⟨_, _, _, _, _, hR.fr (fun b h1 h2 => hG8 b (by omega) (by omega))⟩, ⟨_, _, _, _, _, _, hP.fr (fun b h1 h2 => hG8 b (by omega) (by omega))⟩, hB.fr (fun b h1 h2 => hG8 b (by omega) (by omega)), ⟨_, _, _, _, _, _, _, hE9.fr (fun b h1 h2 => hG8 b (by omega) (by omega))⟩, _, _, _, _, _, _, hT9.fr (fun b h1 h2 => hG8 b (by omega) (by omega))⟩, by simp [u2], by simp [u2], hs9, ((hLC9 hq).2 hf).u67⟩, fun z => absurd c41 z⟩)
  ·
    refine T_aload0 dX10_teach_44 rfl ?_
    refine T_cV0 (c_X10_adoptSpare hX hV hR hA9 (by omega) (by omega) (by omega)) hX k10_72 (Or.inl ⟨_, _, _, _, (hV.t_x), by decide, rfl⟩) (by decide) (Nat.le_of_ble_eq_true rfl) dX10_teach_45 rfl ?_
    rintro _ _ _ M8 ⟨rfl, rfl, rfl, hV8, hA8, hF8⟩
    refine T_iload1 dX10_teach_48 rfl ?_
    refine T_iret rfl rfl dX10_teach_49 ?_
    first
      | (refine ⟨rfl, rfl, hZ, lt, K, S, V, q9, β9, hTk, hl9, he9, rfl, fun z => absurd z c41, fun _ => ⟨hlay, ⟨_, hV.rf, u2_s _ _ _ _⟩, hR.rf, ⟨_, hP.rf⟩, ⟨_, _, _, _, _, hA9.rf⟩, ⟨_, _, _, _, _, _, hP9.rf⟩, hB.rf, ⟨_, _, _, _, _, _, _, hE9.rf⟩, _, _, _, _, _, _, hT9.rf⟩⟩; done)
      | (have hq : q9.1 = true := Decidable.byContradiction (fun z => by rw [if_neg z] at c41; exact absurd c41 (by decide))
         have hf : (flF V S q9.2.2.2.2.2 q9.2.1).1 = 0 := by rw [if_pos hq] at c41; exact c41
         have hZ8 : ∀ q, q < x ∨ x + 143 ≤ q → M8 q = M q := fun q g => (hF8 q (by omega) (by omega)).trans (hZ q g)
         have hG8 : ∀ q, q ≠ x → ¬ (r2 ≤ q ∧ q < r2 + 38) → M8 q = _ := hF8
         exact ⟨rfl, rfl, hZ8, lt, K, S, V, q9, β9, hTk, hl9, he9, rfl, fun _ => ⟨a9, b9, c9, hn9, wn9, sn9, _, ν9, π9, σ9, ⟨by omega, ⟨_, hV8, u2_s _ _ _ _⟩, hA8, ⟨_, hP9.fr (fun b h1 h2 => hG8 b (by omega) (by omega))⟩, ⟨_, _, _, _, _, hR.fr (fun b h1 h2 => hG8 b (by omega) (by omega))⟩, ⟨_, _, _, _, _, _, hP.fr (fun b h1 h2 => hG8 b (by omega) (by omega))⟩, hB.fr (fun b h1 h2 => hG8 b (by omega) (by omega)), ⟨_, _, _, _, _, _, _, hE9.fr (fun b h1 h2 => hG8 b (by omega) (by omega))⟩, _, _, _, _, _, _, hT9.fr (fun b h1 h2 => hG8 b (by omega) (by omega))⟩, by simp [u2], by simp [u2], hs9, ((hLC9 hq).2 hf).u67⟩, fun z => absurd c41 z⟩)

