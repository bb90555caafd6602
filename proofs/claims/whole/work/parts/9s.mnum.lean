/-! the reference's errors of numbers -/
def dfB (f : Nat) : Bool := [41, 42, 63, 11, 60, 61, 14, 31, 50, 55, 56].contains f
def DW (w D w0 : RH) : Prop := ∀ f i, (dfB f = true → w f i = D f i) ∧ (dfB f = false → w f i = w0 f i)
def MTn (ω : RH) (V : Nat → Int64) (rl : Nat → Int32) (t : Nat) : Prop := ∀ i, i < t → (rl i = 14 ∨ rl i = 15 ∨ rl i = 17 → ω 84 i = tdR V rl 2 (V i) i) ∧ (rl i = 16 ∨ rl i = 18 → ω 84 i = tdR V rl 1 (V i) i)
def EI (τ : TY) (M : ME) (m y z s1 s2 n8 dp hr wr cs os : Nat) (B : Nat → Nat) (V : Nat → Int64) (rl : Nat → Int32) (ω0 w0 : RH) (tk t : Nat) : Prop :=
  ∃ ω w, MV τ M M m y z s1 s2 n8 tk dp B ω ∧ PV τ M M z (cntR rl 1 t) (cntR rl 2 t) (cntR rl 3 t) (cntR rl 4 t) hr (cntR rl 5 t) wr cs os w ∧ (∀ f i, ¬ f = 84 → ω f i = ω0 f i) ∧ MTn ω V rl t ∧ DW w (dtF V rl t) w0
def EE (τ : TY) (M : ME) (m y z s1 s2 n8 dp : Nat) (B : Nat → Nat) (ω0 : RH) (tk : Nat) : Prop := ∃ ω, MV τ M M m y z s1 s2 n8 tk dp B ω ∧ ∀ f i, ¬ f = 84 → ω f i = ω0 f i
def RGi (K : Nat → Nat) (rl : Nat → Int32) (i : Nat) : Prop := (∃ n, n < 20 ∧ rl i = nI n) ∧ (rl i = 1 ∨ rl i = 2 ∨ rl i = 3 ∨ rl i = 14 ∨ rl i = 15 ∨ rl i = 16 ∨ rl i = 17 ∨ rl i = 18 → K i = 43) ∧ (rl i = 6 ∨ rl i = 7 ∨ rl i = 8 ∨ rl i = 9 ∨ rl i = 10 ∨ rl i = 11 ∨ rl i = 13 → K i = 44) ∧ (rl i = 6 ∨ rl i = 7 ∨ rl i = 8 → ∃ j, j < i ∧ rl j = 1) ∧ (rl i = 9 ∨ rl i = 10 ∨ rl i = 11 ∨ rl i = 12 → ∃ j, j < i ∧ rl j = 2) ∧ (rl i = 13 → ∃ j, j < i ∧ rl j = 3) ∧ (rl i = 14 → ∃ j, j < i ∧ rl j = 4) ∧ (rl i = 15 ∨ rl i = 16 → ∃ j, j < i ∧ rl j = 5)
section ERR
variable {τ : TY} {N1 N2 M : ME} {m y z s1 s2 n8 dp hr wr cs os tk t a b c h v : Nat} {B : Nat → Nat} {K : Nat → Nat} {V : Nat → Int64} {rl : Nat → Int32} {ω ω0 w w0 D : RH} {x : Int32}
theorem EI.st (hM : MV τ N1 M m y z s1 s2 n8 tk dp B ω) (hV : PV τ N2 M z a b c h hr v wr cs os w) (hω : ∀ f i, ¬ f = 84 → ω f i = ω0 f i) (hmt : MTn ω V rl t) (hD : DW w D w0) (ea : cntR rl 1 t = a) (eb : cntR rl 2 t = b) (ec : cntR rl 3 t = c) (eh : cntR rl 4 t = h) (ev : cntR rl 5 t = v) (eD : dtF V rl t = D) : EI τ M m y z s1 s2 n8 dp hr wr cs os B V rl ω0 w0 tk t := ⟨ω, w, hM.rf, by rw [ea, eb, ec, eh, ev]; exact hV.rf, hω, hmt, by rw [eD]; exact hD⟩
theorem EI.ee (e : EI τ M m y z s1 s2 n8 dp hr wr cs os B V rl ω0 w0 tk t) : EE τ M m y z s1 s2 n8 dp B ω0 tk := let ⟨ω, _, h1, _, h2, _⟩ := e; ⟨ω, h1, h2⟩
theorem DW.up {f i : Nat} (e : DW w D w0) (hf : dfB f = true) : DW (u2 w f i x) (u2 D f i x) w0 := fun g k => by
  obtain ⟨e1, e2⟩ := e g k
  by_cases q : g = f ∧ k = i
  · obtain ⟨rfl, rfl⟩ := q
    exact ⟨fun _ => by rw [u2_s, u2_s], fun z => by rw [hf] at z; cases z⟩
  · have q2 : ∀ u : RH, u2 u f i x g k = u g k := fun u => by
      by_cases q3 : g = f
      · subst q3; exact u2_i (fun e => q ⟨rfl, e⟩)
      · exact u2_f q3
    rw [q2, q2]; exact ⟨e1, e2⟩
theorem MTn.nn (g : MTn ω V rl t) (n1 : ¬ (rl t = 14 ∨ rl t = 15 ∨ rl t = 17)) (n2 : ¬ (rl t = 16 ∨ rl t = 18)) : MTn ω V rl (t + 1) := fun i hi => by
  by_cases e : i = t
  · subst e; exact ⟨fun q => absurd q n1, fun q => absurd q n2⟩
  · exact g i (by omega)
theorem MTn.y2 (g : MTn ω V rl t) (n2 : ¬ (rl t = 16 ∨ rl t = 18)) : MTn (u2 ω 84 t (tdR V rl 2 (V t) t)) V rl (t + 1) := fun i hi => by
  by_cases e : i = t
  · subst e; exact ⟨fun _ => u2_s _ _ _ _, fun q => absurd q n2⟩
  · rw [u2_i e]; exact g i (by omega)
theorem MTn.y1 (g : MTn ω V rl t) (n1 : ¬ (rl t = 14 ∨ rl t = 15 ∨ rl t = 17)) : MTn (u2 ω 84 t (tdR V rl 1 (V t) t)) V rl (t + 1) := fun i hi => by
  by_cases e : i = t
  · subst e; exact ⟨fun q => absurd q n1, fun _ => u2_s _ _ _ _⟩
  · rw [u2_i e]; exact g i (by omega)
theorem cnt_p (e : ∃ j, j < t ∧ rl j = x) : 1 ≤ cntR rl x t := by
  obtain ⟨j, h1, h2⟩ := e
  induction t with
  | zero => omega
  | succ t ih =>
    rw [cntR]
    by_cases e : j = t
    · subst e; rw [if_pos h2]; omega
    · have := ih (by omega); omega
theorem nI_m (h1 : 1 ≤ a) (h2 : a < 2 ^ 31) : nI a - 1 = nI (a - 1) := nI_sub (n := 1) h1 h2
end ERR
theorem TKF.of {B : Nat → Nat} {lt : Nat} {K : Nat → Nat} {S : Nat → Int32} {V : Nat → Int64} {ω ω0 : RH} (h : TKF B lt K S V ω0) (e : ∀ f i, ¬ f = 84 → ω f i = ω0 f i) : TKF B lt K S V ω := by
  obtain ⟨h1, h2, h3, h4⟩ := h
  refine ⟨h1, fun i hi => ?_, fun i hi => ?_, fun i j hi hj a b => ?_⟩
  · rw [e 80 _ (by decide), e 81 _ (by decide)]; exact h2 i hi
  · rw [e 81 _ (by decide), e 82 _ (by decide)]; exact h3 i hi
  · rw [e 81 _ (by decide), e 82 _ (by decide), e 81 _ (by decide), e 82 _ (by decide)]; exact h4 i j hi hj a b
set_option maxHeartbeats 1000000 in
theorem en_6 {l : Launch} {D : va_G} {cA : Nat → ClassId} {n0 : Nat} {sg adK adV : Nat → Nat} {sgA smA wdA bS LS : Nat} {xs : Nat → Int32} (hX : SF n0 (XW0 sg adK adV sgA smA wdA n0 bS LS xs)) {m y z s1 s2 n8 dp hr wr cs os lt t : Nat} {B : Nat → Nat} {K : Nat → Nat} {S : Nat → Int32} {V : Nat → Int64} {rl : Nat → Int32} {ω0 w0 : RH} (hmz : m + 7 ≤ z ∨ z + 19 ≤ m) (h8 : ∀ i, B i < 256) (hTK : TKF B lt K S V ω0) (hrl0 : ∀ i, i ≤ lt → ω0 83 i = rl i) (hNm : ∀ i, i < lt → K i = 44 → ∃ c, c < 1000000 ∧ V i = Int64.ofNat c) (ht : t < lt) (hRG : ∀ i, RGi K rl i) (hcn : cntR rl 1 t ≤ 8 ∧ cntR rl 2 t ≤ 6 ∧ cntR rl 3 t ≤ 20 ∧ cntR rl 4 t ≤ 12 ∧ cntR rl 5 t ≤ 12) (hr9 : rl t = 6) {sz : Nat} {τ : TY} {M : ME} (hQ : EI τ M m y z s1 s2 n8 dp hr wr cs os B V rl ω0 w0 (t) (t)) : CT l D cA n0 (XW0 sg adK adV sgA smA wdA n0 bS LS xs) mX13_numberOf 4 0 0 sz τ M [.ref m, .int (nI t)] (fun v' sz' τ' M' => v' = some (.int (erF V rl t)) ∧ sz' = sz ∧ τ' = τ ∧ ((erF V rl t = 0 → EI τ M' m y z s1 s2 n8 dp hr wr cs os B V rl ω0 w0 (t) (t + 1)) ∧ EE τ M' m y z s1 s2 n8 dp B ω0 t) ∧ FMZ m z M M') := by
  refine CT.of (ls := [.ref m, .int (nI t), UU]) (by decide) (Nat.le_of_ble_eq_true rfl) rfl ?_
  obtain ⟨ω, w, hM, hV, hω, hmt, hD⟩ := hQ
  have hl := hTK.1.1
  have hTKn := hTK
  replace hTK := hTK.of hω
  have hrl : ∀ i, i ≤ lt → ω 83 i = rl i := fun i hi => by rw [hω 83 _ (by decide)]; exact hrl0 i hi
  obtain ⟨rg0, rg1, rg2, rg3, rg4, rg5, rg6, rg7⟩ := hRG t
  have hF : FMZ m z M M := FMZ.rf _ _ _
  have c1 := cnt_p (rg3 (Or.inl hr9))
  have k44 := rg2 (Or.inl hr9)
  obtain ⟨c9, hc9, hv9⟩ := hNm t ht k44
  obtain ⟨p1, n1, g1, g2, g3, g4⟩ := (hTK.2.2.1 t ht).2
  replace g4 := g4 k44
  obtain ⟨cn1, cn2, cn3, cn4, cn5⟩ := hcn
  refine T_aload0 dX13_numberOf_0 rfl ?_
  refine g13_39 _ rfl (hM.t_m) (hM.g_z) dX13_numberOf_1 rfl ?_
  refine T_astore2 rfl (by decide) dX13_numberOf_4 rfl ?_
  refine T_aload0 dX13_numberOf_5 rfl ?_
  refine g13_26 _ rfl (hM.t_m) (hM.g_ro) dX13_numberOf_6 rfl ?_
  refine T_iload1 dX13_numberOf_9 rfl ?_
  refine T_iald _ (hM.t_ro) rfl (by omega) (by decide) dX13_numberOf_10 rfl (hM.g_vro (by omega)) ?_
  rw [hrl t (by omega), hr9]
  refine T_tin (off := 45) 56 dX13_numberOf_11 (by decide +kernel) (by decide +kernel) (by decide +kernel) (by decide) ?_
  refine T_aload2 dX13_numberOf_56 rfl ?_
  refine g13_256 _ rfl (hV.t_q) (hV.g_length) dX13_numberOf_57 rfl ?_
  refine T_aload2 dX13_numberOf_60 rfl ?_
  refine g13_60 _ rfl (hV.t_q) (hV.g_stretches) dX13_numberOf_61 rfl ?_
  refine T_iconst (1) dX13_numberOf_64 rfl rfl ?_
  refine T_isub dX13_numberOf_65 rfl ?_
  refine T_aload0 dX13_numberOf_66 rfl ?_
  refine T_iload1 dX13_numberOf_67 rfl ?_
  refine T_cV1 (c_X13_numberAt hX hM (by omega) g1 g2 g3) hX k13_219 (Or.inl ⟨_, _, _, _, (hM.t_m), by decide, rfl⟩) (by decide) (Nat.le_of_ble_eq_true rfl) dX13_numberOf_68 rfl ?_
  rintro _ _ _ _ ⟨rfl, rfl, rfl, rfl⟩
  rw [g4]
  refine T_iast _ (hV.t_length) (nI_m c1 (by omega)) (by omega) (by decide) dX13_numberOf_71 rfl ?_
  refine T_nm (fun M1 e1 => ?_)
  have hM := hM.frU e1 (by omega)
  have hV := PV.mv (hV.p_vlength (by omega)) e1
  have hF := hF.up e1 (by omega)
  refine T_aload0 dX13_numberOf_72 rfl ?_
  refine T_iload1 dX13_numberOf_73 rfl ?_
  refine T_iconst (1) dX13_numberOf_74 rfl rfl ?_
  refine T_bipush (9) dX13_numberOf_75 rfl rfl ?_
  refine T_cV3 (c_X13_inRange hX hM h8 hTK ht k44 hc9 hv9 (a := 1) (b := 9) (by decide) (by decide) rfl rfl) hX k13_258 (Or.inl ⟨_, _, _, _, (hM.t_m), by decide, rfl⟩) (by decide) (Nat.le_of_ble_eq_true rfl) dX13_numberOf_77 rfl ?_
  rintro _ _ _ _ ⟨rfl, rfl, rfl, rfl⟩
  refine T_iret rfl rfl dX13_numberOf_80 ?_
  have e9 : erF V rl t = rgE (V t) 1 9 := erF_r6 _ _ hr9
  have hI : EI _ _ m y z s1 s2 n8 dp hr wr cs os B V rl ω0 w0 (t) (t + 1) := EI.st hM hV hω (hmt.nn (by rw [hr9]; decide) (by rw [hr9]; decide)) (hD.up rfl) (cntR_n (by rw [hr9]; decide)) (cntR_n (by rw [hr9]; decide)) (cntR_n (by rw [hr9]; decide)) (cntR_n (by rw [hr9]; decide)) (cntR_n (by rw [hr9]; decide)) (by rw [dtF, if_pos hr9])
  exact ⟨by rw [e9]; rfl, rfl, rfl, ⟨fun _ => hI, hI.ee⟩, hF⟩
set_option maxHeartbeats 1000000 in
theorem en_7 {l : Launch} {D : va_G} {cA : Nat → ClassId} {n0 : Nat} {sg adK adV : Nat → Nat} {sgA smA wdA bS LS : Nat} {xs : Nat → Int32} (hX : SF n0 (XW0 sg adK adV sgA smA wdA n0 bS LS xs)) {m y z s1 s2 n8 dp hr wr cs os lt t : Nat} {B : Nat → Nat} {K : Nat → Nat} {S : Nat → Int32} {V : Nat → Int64} {rl : Nat → Int32} {ω0 w0 : RH} (hmz : m + 7 ≤ z ∨ z + 19 ≤ m) (h8 : ∀ i, B i < 256) (hTK : TKF B lt K S V ω0) (hrl0 : ∀ i, i ≤ lt → ω0 83 i = rl i) (hNm : ∀ i, i < lt → K i = 44 → ∃ c, c < 1000000 ∧ V i = Int64.ofNat c) (ht : t < lt) (hRG : ∀ i, RGi K rl i) (hcn : cntR rl 1 t ≤ 8 ∧ cntR rl 2 t ≤ 6 ∧ cntR rl 3 t ≤ 20 ∧ cntR rl 4 t ≤ 12 ∧ cntR rl 5 t ≤ 12) (hr9 : rl t = 7) {sz : Nat} {τ : TY} {M : ME} (hQ : EI τ M m y z s1 s2 n8 dp hr wr cs os B V rl ω0 w0 (t) (t)) : CT l D cA n0 (XW0 sg adK adV sgA smA wdA n0 bS LS xs) mX13_numberOf 4 0 0 sz τ M [.ref m, .int (nI t)] (fun v' sz' τ' M' => v' = some (.int (erF V rl t)) ∧ sz' = sz ∧ τ' = τ ∧ ((erF V rl t = 0 → EI τ M' m y z s1 s2 n8 dp hr wr cs os B V rl ω0 w0 (t) (t + 1)) ∧ EE τ M' m y z s1 s2 n8 dp B ω0 t) ∧ FMZ m z M M') := by
  refine CT.of (ls := [.ref m, .int (nI t), UU]) (by decide) (Nat.le_of_ble_eq_true rfl) rfl ?_
  obtain ⟨ω, w, hM, hV, hω, hmt, hD⟩ := hQ
  have hl := hTK.1.1
  have hTKn := hTK
  replace hTK := hTK.of hω
  have hrl : ∀ i, i ≤ lt → ω 83 i = rl i := fun i hi => by rw [hω 83 _ (by decide)]; exact hrl0 i hi
  obtain ⟨rg0, rg1, rg2, rg3, rg4, rg5, rg6, rg7⟩ := hRG t
  have hF : FMZ m z M M := FMZ.rf _ _ _
  have c1 := cnt_p (rg3 (Or.inr (Or.inl hr9)))
  have k44 := rg2 (Or.inr (Or.inl hr9))
  obtain ⟨c9, hc9, hv9⟩ := hNm t ht k44
  obtain ⟨p1, n1, g1, g2, g3, g4⟩ := (hTK.2.2.1 t ht).2
  replace g4 := g4 k44
  obtain ⟨cn1, cn2, cn3, cn4, cn5⟩ := hcn
  have t1 : 1 ≤ t := by have := cntR_le (rl := rl) (x := 1) t; omega
  refine T_aload0 dX13_numberOf_0 rfl ?_
  refine g13_39 _ rfl (hM.t_m) (hM.g_z) dX13_numberOf_1 rfl ?_
  refine T_astore2 rfl (by decide) dX13_numberOf_4 rfl ?_
  refine T_aload0 dX13_numberOf_5 rfl ?_
  refine g13_26 _ rfl (hM.t_m) (hM.g_ro) dX13_numberOf_6 rfl ?_
  refine T_iload1 dX13_numberOf_9 rfl ?_
  refine T_iald _ (hM.t_ro) rfl (by omega) (by decide) dX13_numberOf_10 rfl (hM.g_vro (by omega)) ?_
  rw [hrl t (by omega), hr9]
  refine T_tin (off := 70) 81 dX13_numberOf_11 (by decide +kernel) (by decide +kernel) (by decide +kernel) (by decide) ?_
  refine T_aload2 dX13_numberOf_81 rfl ?_
  refine g13_261 _ rfl (hV.t_q) (hV.g_slope) dX13_numberOf_82 rfl ?_
  refine T_aload2 dX13_numberOf_85 rfl ?_
  refine g13_60 _ rfl (hV.t_q) (hV.g_stretches) dX13_numberOf_86 rfl ?_
  refine T_iconst (1) dX13_numberOf_89 rfl rfl ?_
  refine T_isub dX13_numberOf_90 rfl ?_
  refine T_aload0 dX13_numberOf_91 rfl ?_
  refine g13_26 _ rfl (hM.t_m) (hM.g_ro) dX13_numberOf_92 rfl ?_
  refine T_iload1 dX13_numberOf_95 rfl ?_
  refine T_iconst (1) dX13_numberOf_96 rfl rfl ?_
  refine T_isub dX13_numberOf_97 rfl ?_
  refine T_iald _ (hM.t_ro) (nI_m (a := t) (by omega) (by omega)) (by omega) (by decide) dX13_numberOf_98 rfl (hM.g_vro (by omega)) ?_
  rw [hrl (t - 1) (by omega)]
  refine T_bipush (19) dX13_numberOf_99 rfl rfl ?_
  refine T_icmp_ne 113 104 dX13_numberOf_101 (by decide) rfl (fun c101 => ?_) (fun c101 => ?_)
  ·
    refine T_aload0 dX13_numberOf_113 rfl ?_
    refine T_iload1 dX13_numberOf_114 rfl ?_
    refine T_cV1 (c_X13_numberAt hX hM (by omega) g1 g2 g3) hX k13_219 (Or.inl ⟨_, _, _, _, (hM.t_m), by decide, rfl⟩) (by decide) (Nat.le_of_ble_eq_true rfl) dX13_numberOf_115 rfl ?_
    rintro _ _ _ _ ⟨rfl, rfl, rfl, rfl⟩
    rw [g4]
    refine T_iast _ (hV.t_slope) (nI_m c1 (by omega)) (by omega) (by decide) dX13_numberOf_118 rfl ?_
    refine T_nm (fun M1 e1 => ?_)
    have hM := hM.frU e1 (by omega)
    have hV := PV.mv (hV.p_vslope (by omega)) e1
    have hF := hF.up e1 (by omega)
    refine T_aload0 dX13_numberOf_119 rfl ?_
    refine T_iload1 dX13_numberOf_120 rfl ?_
    refine T_iconst (0) dX13_numberOf_121 rfl rfl ?_
    refine T_bipush (9) dX13_numberOf_122 rfl rfl ?_
    refine T_cV3 (c_X13_inRange hX hM h8 hTK ht k44 hc9 hv9 (a := 0) (b := 9) (by decide) (by decide) rfl rfl) hX k13_258 (Or.inl ⟨_, _, _, _, (hM.t_m), by decide, rfl⟩) (by decide) (Nat.le_of_ble_eq_true rfl) dX13_numberOf_124 rfl ?_
    rintro _ _ _ _ ⟨rfl, rfl, rfl, rfl⟩
    refine T_iret rfl rfl dX13_numberOf_127 ?_
    have e9 : erF V rl t = rgE (V t) 0 9 := erF_r7 _ _ hr9
    first
      | have hI : EI _ _ m y z s1 s2 n8 dp hr wr cs os B V rl ω0 w0 (t) (t + 1) := EI.st hM hV hω (hmt.nn (by rw [hr9]; decide) (by rw [hr9]; decide)) (hD.up rfl) (cntR_n (by rw [hr9]; decide)) (cntR_n (by rw [hr9]; decide)) (cntR_n (by rw [hr9]; decide)) (cntR_n (by rw [hr9]; decide)) (cntR_n (by rw [hr9]; decide)) (by rw [dtF, if_neg (by rw [hr9]; decide), if_pos hr9, if_pos c101])
      | have hI : EI _ _ m y z s1 s2 n8 dp hr wr cs os B V rl ω0 w0 (t) (t + 1) := EI.st hM hV hω (hmt.nn (by rw [hr9]; decide) (by rw [hr9]; decide)) (hD.up rfl) (cntR_n (by rw [hr9]; decide)) (cntR_n (by rw [hr9]; decide)) (cntR_n (by rw [hr9]; decide)) (cntR_n (by rw [hr9]; decide)) (cntR_n (by rw [hr9]; decide)) (by rw [dtF, if_neg (by rw [hr9]; decide), if_pos hr9, if_neg c101])
    exact ⟨by rw [e9]; rfl, rfl, rfl, ⟨fun _ => hI, hI.ee⟩, hF⟩
  ·
    refine T_aload0 dX13_numberOf_104 rfl ?_
    refine T_iload1 dX13_numberOf_105 rfl ?_
    refine T_cV1 (c_X13_numberAt hX hM (by omega) g1 g2 g3) hX k13_219 (Or.inl ⟨_, _, _, _, (hM.t_m), by decide, rfl⟩) (by decide) (Nat.le_of_ble_eq_true rfl) dX13_numberOf_106 rfl ?_
    rintro _ _ _ _ ⟨rfl, rfl, rfl, rfl⟩
    rw [g4]
    refine T_ineg dX13_numberOf_109 rfl ?_
    refine T_goto 118 dX13_numberOf_110 (by decide) ?_
    refine T_iast _ (hV.t_slope) (nI_m c1 (by omega)) (by omega) (by decide) dX13_numberOf_118 rfl ?_
    refine T_nm (fun M2 e2 => ?_)
    have hM := hM.frU e2 (by omega)
    have hV := PV.mv (hV.p_vslope (by omega)) e2
    have hF := hF.up e2 (by omega)
    refine T_aload0 dX13_numberOf_119 rfl ?_
    refine T_iload1 dX13_numberOf_120 rfl ?_
    refine T_iconst (0) dX13_numberOf_121 rfl rfl ?_
    refine T_bipush (9) dX13_numberOf_122 rfl rfl ?_
    refine T_cV3 (c_X13_inRange hX hM h8 hTK ht k44 hc9 hv9 (a := 0) (b := 9) (by decide) (by decide) rfl rfl) hX k13_258 (Or.inl ⟨_, _, _, _, (hM.t_m), by decide, rfl⟩) (by decide) (Nat.le_of_ble_eq_true rfl) dX13_numberOf_124 rfl ?_
    rintro _ _ _ _ ⟨rfl, rfl, rfl, rfl⟩
    refine T_iret rfl rfl dX13_numberOf_127 ?_
    have e9 : erF V rl t = rgE (V t) 0 9 := erF_r7 _ _ hr9
    first
      | have hI : EI _ _ m y z s1 s2 n8 dp hr wr cs os B V rl ω0 w0 (t) (t + 1) := EI.st hM hV hω (hmt.nn (by rw [hr9]; decide) (by rw [hr9]; decide)) (hD.up rfl) (cntR_n (by rw [hr9]; decide)) (cntR_n (by rw [hr9]; decide)) (cntR_n (by rw [hr9]; decide)) (cntR_n (by rw [hr9]; decide)) (cntR_n (by rw [hr9]; decide)) (by rw [dtF, if_neg (by rw [hr9]; decide), if_pos hr9, if_pos c101])
      | have hI : EI _ _ m y z s1 s2 n8 dp hr wr cs os B V rl ω0 w0 (t) (t + 1) := EI.st hM hV hω (hmt.nn (by rw [hr9]; decide) (by rw [hr9]; decide)) (hD.up rfl) (cntR_n (by rw [hr9]; decide)) (cntR_n (by rw [hr9]; decide)) (cntR_n (by rw [hr9]; decide)) (cntR_n (by rw [hr9]; decide)) (cntR_n (by rw [hr9]; decide)) (by rw [dtF, if_neg (by rw [hr9]; decide), if_pos hr9, if_neg c101])
    exact ⟨by rw [e9]; rfl, rfl, rfl, ⟨fun _ => hI, hI.ee⟩, hF⟩
set_option maxHeartbeats 1000000 in
theorem en_8 {l : Launch} {D : va_G} {cA : Nat → ClassId} {n0 : Nat} {sg adK adV : Nat → Nat} {sgA smA wdA bS LS : Nat} {xs : Nat → Int32} (hX : SF n0 (XW0 sg adK adV sgA smA wdA n0 bS LS xs)) {m y z s1 s2 n8 dp hr wr cs os lt t : Nat} {B : Nat → Nat} {K : Nat → Nat} {S : Nat → Int32} {V : Nat → Int64} {rl : Nat → Int32} {ω0 w0 : RH} (hmz : m + 7 ≤ z ∨ z + 19 ≤ m) (h8 : ∀ i, B i < 256) (hTK : TKF B lt K S V ω0) (hrl0 : ∀ i, i ≤ lt → ω0 83 i = rl i) (hNm : ∀ i, i < lt → K i = 44 → ∃ c, c < 1000000 ∧ V i = Int64.ofNat c) (ht : t < lt) (hRG : ∀ i, RGi K rl i) (hcn : cntR rl 1 t ≤ 8 ∧ cntR rl 2 t ≤ 6 ∧ cntR rl 3 t ≤ 20 ∧ cntR rl 4 t ≤ 12 ∧ cntR rl 5 t ≤ 12) (hr9 : rl t = 8) {sz : Nat} {τ : TY} {M : ME} (hQ : EI τ M m y z s1 s2 n8 dp hr wr cs os B V rl ω0 w0 (t) (t)) : CT l D cA n0 (XW0 sg adK adV sgA smA wdA n0 bS LS xs) mX13_numberOf 4 0 0 sz τ M [.ref m, .int (nI t)] (fun v' sz' τ' M' => v' = some (.int (erF V rl t)) ∧ sz' = sz ∧ τ' = τ ∧ ((erF V rl t = 0 → EI τ M' m y z s1 s2 n8 dp hr wr cs os B V rl ω0 w0 (t) (t + 1)) ∧ EE τ M' m y z s1 s2 n8 dp B ω0 t) ∧ FMZ m z M M') := by
  refine CT.of (ls := [.ref m, .int (nI t), UU]) (by decide) (Nat.le_of_ble_eq_true rfl) rfl ?_
  obtain ⟨ω, w, hM, hV, hω, hmt, hD⟩ := hQ
  have hl := hTK.1.1
  have hTKn := hTK
  replace hTK := hTK.of hω
  have hrl : ∀ i, i ≤ lt → ω 83 i = rl i := fun i hi => by rw [hω 83 _ (by decide)]; exact hrl0 i hi
  obtain ⟨rg0, rg1, rg2, rg3, rg4, rg5, rg6, rg7⟩ := hRG t
  have hF : FMZ m z M M := FMZ.rf _ _ _
  have c1 := cnt_p (rg3 (Or.inr (Or.inr hr9)))
  have k44 := rg2 (Or.inr (Or.inr (Or.inl hr9)))
  obtain ⟨c9, hc9, hv9⟩ := hNm t ht k44
  obtain ⟨p1, n1, g1, g2, g3, g4⟩ := (hTK.2.2.1 t ht).2
  replace g4 := g4 k44
  obtain ⟨cn1, cn2, cn3, cn4, cn5⟩ := hcn
  refine T_aload0 dX13_numberOf_0 rfl ?_
  refine g13_39 _ rfl (hM.t_m) (hM.g_z) dX13_numberOf_1 rfl ?_
  refine T_astore2 rfl (by decide) dX13_numberOf_4 rfl ?_
  refine T_aload0 dX13_numberOf_5 rfl ?_
  refine g13_26 _ rfl (hM.t_m) (hM.g_ro) dX13_numberOf_6 rfl ?_
  refine T_iload1 dX13_numberOf_9 rfl ?_
  refine T_iald _ (hM.t_ro) rfl (by omega) (by decide) dX13_numberOf_10 rfl (hM.g_vro (by omega)) ?_
  rw [hrl t (by omega), hr9]
  refine T_tin (off := 117) 128 dX13_numberOf_11 (by decide +kernel) (by decide +kernel) (by decide +kernel) (by decide) ?_
  refine T_aload2 dX13_numberOf_128 rfl ?_
  refine g13_264 _ rfl (hV.t_q) (hV.g_frost) dX13_numberOf_129 rfl ?_
  refine T_aload2 dX13_numberOf_132 rfl ?_
  refine g13_60 _ rfl (hV.t_q) (hV.g_stretches) dX13_numberOf_133 rfl ?_
  refine T_iconst (1) dX13_numberOf_136 rfl rfl ?_
  refine T_isub dX13_numberOf_137 rfl ?_
  refine T_aload0 dX13_numberOf_138 rfl ?_
  refine T_iload1 dX13_numberOf_139 rfl ?_
  refine T_cV1 (c_X13_numberAt hX hM (by omega) g1 g2 g3) hX k13_219 (Or.inl ⟨_, _, _, _, (hM.t_m), by decide, rfl⟩) (by decide) (Nat.le_of_ble_eq_true rfl) dX13_numberOf_140 rfl ?_
  rintro _ _ _ _ ⟨rfl, rfl, rfl, rfl⟩
  rw [g4]
  refine T_iast _ (hV.t_frost) (nI_m c1 (by omega)) (by omega) (by decide) dX13_numberOf_143 rfl ?_
  refine T_nm (fun M1 e1 => ?_)
  have hM := hM.frU e1 (by omega)
  have hV := PV.mv (hV.p_vfrost (by omega)) e1
  have hF := hF.up e1 (by omega)
  refine T_aload0 dX13_numberOf_144 rfl ?_
  refine T_iload1 dX13_numberOf_145 rfl ?_
  refine T_iconst (0) dX13_numberOf_146 rfl rfl ?_
  refine T_bipush (9) dX13_numberOf_147 rfl rfl ?_
  refine T_cV3 (c_X13_inRange hX hM h8 hTK ht k44 hc9 hv9 (a := 0) (b := 9) (by decide) (by decide) rfl rfl) hX k13_258 (Or.inl ⟨_, _, _, _, (hM.t_m), by decide, rfl⟩) (by decide) (Nat.le_of_ble_eq_true rfl) dX13_numberOf_149 rfl ?_
  rintro _ _ _ _ ⟨rfl, rfl, rfl, rfl⟩
  refine T_iret rfl rfl dX13_numberOf_152 ?_
  have e9 : erF V rl t = rgE (V t) 0 9 := erF_r8 _ _ hr9
  have hI : EI _ _ m y z s1 s2 n8 dp hr wr cs os B V rl ω0 w0 (t) (t + 1) := EI.st hM hV hω (hmt.nn (by rw [hr9]; decide) (by rw [hr9]; decide)) (hD.up rfl) (cntR_n (by rw [hr9]; decide)) (cntR_n (by rw [hr9]; decide)) (cntR_n (by rw [hr9]; decide)) (cntR_n (by rw [hr9]; decide)) (cntR_n (by rw [hr9]; decide)) (by rw [dtF, if_neg (by rw [hr9]; decide), if_neg (by rw [hr9]; decide), if_pos hr9])
  exact ⟨by rw [e9]; rfl, rfl, rfl, ⟨fun _ => hI, hI.ee⟩, hF⟩
set_option maxHeartbeats 1000000 in
theorem en_9 {l : Launch} {D : va_G} {cA : Nat → ClassId} {n0 : Nat} {sg adK adV : Nat → Nat} {sgA smA wdA bS LS : Nat} {xs : Nat → Int32} (hX : SF n0 (XW0 sg adK adV sgA smA wdA n0 bS LS xs)) {m y z s1 s2 n8 dp hr wr cs os lt t : Nat} {B : Nat → Nat} {K : Nat → Nat} {S : Nat → Int32} {V : Nat → Int64} {rl : Nat → Int32} {ω0 w0 : RH} (hmz : m + 7 ≤ z ∨ z + 19 ≤ m) (h8 : ∀ i, B i < 256) (hTK : TKF B lt K S V ω0) (hrl0 : ∀ i, i ≤ lt → ω0 83 i = rl i) (hNm : ∀ i, i < lt → K i = 44 → ∃ c, c < 1000000 ∧ V i = Int64.ofNat c) (ht : t < lt) (hRG : ∀ i, RGi K rl i) (hcn : cntR rl 1 t ≤ 8 ∧ cntR rl 2 t ≤ 6 ∧ cntR rl 3 t ≤ 20 ∧ cntR rl 4 t ≤ 12 ∧ cntR rl 5 t ≤ 12) (hr9 : rl t = 9) {sz : Nat} {τ : TY} {M : ME} (hQ : EI τ M m y z s1 s2 n8 dp hr wr cs os B V rl ω0 w0 (t) (t)) : CT l D cA n0 (XW0 sg adK adV sgA smA wdA n0 bS LS xs) mX13_numberOf 4 0 0 sz τ M [.ref m, .int (nI t)] (fun v' sz' τ' M' => v' = some (.int (erF V rl t)) ∧ sz' = sz ∧ τ' = τ ∧ ((erF V rl t = 0 → EI τ M' m y z s1 s2 n8 dp hr wr cs os B V rl ω0 w0 (t) (t + 1)) ∧ EE τ M' m y z s1 s2 n8 dp B ω0 t) ∧ FMZ m z M M') := by
  refine CT.of (ls := [.ref m, .int (nI t), UU]) (by decide) (Nat.le_of_ble_eq_true rfl) rfl ?_
  obtain ⟨ω, w, hM, hV, hω, hmt, hD⟩ := hQ
  have hl := hTK.1.1
  have hTKn := hTK
  replace hTK := hTK.of hω
  have hrl : ∀ i, i ≤ lt → ω 83 i = rl i := fun i hi => by rw [hω 83 _ (by decide)]; exact hrl0 i hi
  obtain ⟨rg0, rg1, rg2, rg3, rg4, rg5, rg6, rg7⟩ := hRG t
  have hF : FMZ m z M M := FMZ.rf _ _ _
  have c1 := cnt_p (rg4 (Or.inl hr9))
  have k44 := rg2 (Or.inr (Or.inr (Or.inr (Or.inl hr9))))
  obtain ⟨c9, hc9, hv9⟩ := hNm t ht k44
  obtain ⟨p1, n1, g1, g2, g3, g4⟩ := (hTK.2.2.1 t ht).2
  replace g4 := g4 k44
  obtain ⟨cn1, cn2, cn3, cn4, cn5⟩ := hcn
  refine T_aload0 dX13_numberOf_0 rfl ?_
  refine g13_39 _ rfl (hM.t_m) (hM.g_z) dX13_numberOf_1 rfl ?_
  refine T_astore2 rfl (by decide) dX13_numberOf_4 rfl ?_
  refine T_aload0 dX13_numberOf_5 rfl ?_
  refine g13_26 _ rfl (hM.t_m) (hM.g_ro) dX13_numberOf_6 rfl ?_
  refine T_iload1 dX13_numberOf_9 rfl ?_
  refine T_iald _ (hM.t_ro) rfl (by omega) (by decide) dX13_numberOf_10 rfl (hM.g_vro (by omega)) ?_
  rw [hrl t (by omega), hr9]
  refine T_tin (off := 142) 153 dX13_numberOf_11 (by decide +kernel) (by decide +kernel) (by decide +kernel) (by decide) ?_
  refine T_aload2 dX13_numberOf_153 rfl ?_
  refine g13_267 _ rfl (hV.t_q) (hV.g_pull) dX13_numberOf_154 rfl ?_
  refine T_aload2 dX13_numberOf_157 rfl ?_
  refine g13_67 _ rfl (hV.t_q) (hV.g_horses) dX13_numberOf_158 rfl ?_
  refine T_iconst (1) dX13_numberOf_161 rfl rfl ?_
  refine T_isub dX13_numberOf_162 rfl ?_
  refine T_aload0 dX13_numberOf_163 rfl ?_
  refine T_iload1 dX13_numberOf_164 rfl ?_
  refine T_cV1 (c_X13_numberAt hX hM (by omega) g1 g2 g3) hX k13_219 (Or.inl ⟨_, _, _, _, (hM.t_m), by decide, rfl⟩) (by decide) (Nat.le_of_ble_eq_true rfl) dX13_numberOf_165 rfl ?_
  rintro _ _ _ _ ⟨rfl, rfl, rfl, rfl⟩
  rw [g4]
  refine T_iast _ (hV.t_pull) (nI_m c1 (by omega)) (by omega) (by decide) dX13_numberOf_168 rfl ?_
  refine T_nm (fun M1 e1 => ?_)
  have hM := hM.frU e1 (by omega)
  have hV := PV.mv (hV.p_vpull (by omega)) e1
  have hF := hF.up e1 (by omega)
  refine T_aload0 dX13_numberOf_169 rfl ?_
  refine T_iload1 dX13_numberOf_170 rfl ?_
  refine T_iconst (1) dX13_numberOf_171 rfl rfl ?_
  refine T_bipush (99) dX13_numberOf_172 rfl rfl ?_
  refine T_cV3 (c_X13_inRange hX hM h8 hTK ht k44 hc9 hv9 (a := 1) (b := 99) (by decide) (by decide) rfl rfl) hX k13_258 (Or.inl ⟨_, _, _, _, (hM.t_m), by decide, rfl⟩) (by decide) (Nat.le_of_ble_eq_true rfl) dX13_numberOf_174 rfl ?_
  rintro _ _ _ _ ⟨rfl, rfl, rfl, rfl⟩
  refine T_iret rfl rfl dX13_numberOf_177 ?_
  have e9 : erF V rl t = rgE (V t) 1 99 := erF_r9 _ _ hr9
  have hI : EI _ _ m y z s1 s2 n8 dp hr wr cs os B V rl ω0 w0 (t) (t + 1) := EI.st hM hV hω (hmt.nn (by rw [hr9]; decide) (by rw [hr9]; decide)) (hD.up rfl) (cntR_n (by rw [hr9]; decide)) (cntR_n (by rw [hr9]; decide)) (cntR_n (by rw [hr9]; decide)) (cntR_n (by rw [hr9]; decide)) (cntR_n (by rw [hr9]; decide)) (by rw [dtF, if_neg (by rw [hr9]; decide), if_neg (by rw [hr9]; decide), if_neg (by rw [hr9]; decide), if_pos hr9])
  exact ⟨by rw [e9]; rfl, rfl, rfl, ⟨fun _ => hI, hI.ee⟩, hF⟩
set_option maxHeartbeats 1000000 in
theorem en_10 {l : Launch} {D : va_G} {cA : Nat → ClassId} {n0 : Nat} {sg adK adV : Nat → Nat} {sgA smA wdA bS LS : Nat} {xs : Nat → Int32} (hX : SF n0 (XW0 sg adK adV sgA smA wdA n0 bS LS xs)) {m y z s1 s2 n8 dp hr wr cs os lt t : Nat} {B : Nat → Nat} {K : Nat → Nat} {S : Nat → Int32} {V : Nat → Int64} {rl : Nat → Int32} {ω0 w0 : RH} (hmz : m + 7 ≤ z ∨ z + 19 ≤ m) (h8 : ∀ i, B i < 256) (hTK : TKF B lt K S V ω0) (hrl0 : ∀ i, i ≤ lt → ω0 83 i = rl i) (hNm : ∀ i, i < lt → K i = 44 → ∃ c, c < 1000000 ∧ V i = Int64.ofNat c) (ht : t < lt) (hRG : ∀ i, RGi K rl i) (hcn : cntR rl 1 t ≤ 8 ∧ cntR rl 2 t ≤ 6 ∧ cntR rl 3 t ≤ 20 ∧ cntR rl 4 t ≤ 12 ∧ cntR rl 5 t ≤ 12) (hr9 : rl t = 10) {sz : Nat} {τ : TY} {M : ME} (hQ : EI τ M m y z s1 s2 n8 dp hr wr cs os B V rl ω0 w0 (t) (t)) : CT l D cA n0 (XW0 sg adK adV sgA smA wdA n0 bS LS xs) mX13_numberOf 4 0 0 sz τ M [.ref m, .int (nI t)] (fun v' sz' τ' M' => v' = some (.int (erF V rl t)) ∧ sz' = sz ∧ τ' = τ ∧ ((erF V rl t = 0 → EI τ M' m y z s1 s2 n8 dp hr wr cs os B V rl ω0 w0 (t) (t + 1)) ∧ EE τ M' m y z s1 s2 n8 dp B ω0 t) ∧ FMZ m z M M') := by
  refine CT.of (ls := [.ref m, .int (nI t), UU]) (by decide) (Nat.le_of_ble_eq_true rfl) rfl ?_
  obtain ⟨ω, w, hM, hV, hω, hmt, hD⟩ := hQ
  have hl := hTK.1.1
  have hTKn := hTK
  replace hTK := hTK.of hω
  have hrl : ∀ i, i ≤ lt → ω 83 i = rl i := fun i hi => by rw [hω 83 _ (by decide)]; exact hrl0 i hi
  obtain ⟨rg0, rg1, rg2, rg3, rg4, rg5, rg6, rg7⟩ := hRG t
  have hF : FMZ m z M M := FMZ.rf _ _ _
  have c1 := cnt_p (rg4 (Or.inr (Or.inl hr9)))
  have k44 := rg2 (Or.inr (Or.inr (Or.inr (Or.inr (Or.inl hr9)))))
  obtain ⟨c9, hc9, hv9⟩ := hNm t ht k44
  obtain ⟨p1, n1, g1, g2, g3, g4⟩ := (hTK.2.2.1 t ht).2
  replace g4 := g4 k44
  obtain ⟨cn1, cn2, cn3, cn4, cn5⟩ := hcn
  refine T_aload0 dX13_numberOf_0 rfl ?_
  refine g13_39 _ rfl (hM.t_m) (hM.g_z) dX13_numberOf_1 rfl ?_
  refine T_astore2 rfl (by decide) dX13_numberOf_4 rfl ?_
  refine T_aload0 dX13_numberOf_5 rfl ?_
  refine g13_26 _ rfl (hM.t_m) (hM.g_ro) dX13_numberOf_6 rfl ?_
  refine T_iload1 dX13_numberOf_9 rfl ?_
  refine T_iald _ (hM.t_ro) rfl (by omega) (by decide) dX13_numberOf_10 rfl (hM.g_vro (by omega)) ?_
  rw [hrl t (by omega), hr9]
  refine T_tin (off := 167) 178 dX13_numberOf_11 (by decide +kernel) (by decide +kernel) (by decide +kernel) (by decide) ?_
  refine T_aload2 dX13_numberOf_178 rfl ?_
  refine g13_270 _ rfl (hV.t_q) (hV.g_links) dX13_numberOf_179 rfl ?_
  refine T_aload2 dX13_numberOf_182 rfl ?_
  refine g13_67 _ rfl (hV.t_q) (hV.g_horses) dX13_numberOf_183 rfl ?_
  refine T_iconst (1) dX13_numberOf_186 rfl rfl ?_
  refine T_isub dX13_numberOf_187 rfl ?_
  refine T_aload0 dX13_numberOf_188 rfl ?_
  refine T_iload1 dX13_numberOf_189 rfl ?_
  refine T_cV1 (c_X13_numberAt hX hM (by omega) g1 g2 g3) hX k13_219 (Or.inl ⟨_, _, _, _, (hM.t_m), by decide, rfl⟩) (by decide) (Nat.le_of_ble_eq_true rfl) dX13_numberOf_190 rfl ?_
  rintro _ _ _ _ ⟨rfl, rfl, rfl, rfl⟩
  rw [g4]
  refine T_iast _ (hV.t_links) (nI_m c1 (by omega)) (by omega) (by decide) dX13_numberOf_193 rfl ?_
  refine T_nm (fun M1 e1 => ?_)
  have hM := hM.frU e1 (by omega)
  have hV := PV.mv (hV.p_vlinks (by omega)) e1
  have hF := hF.up e1 (by omega)
  refine T_aload0 dX13_numberOf_194 rfl ?_
  refine T_iload1 dX13_numberOf_195 rfl ?_
  refine T_iconst (1) dX13_numberOf_196 rfl rfl ?_
  refine T_bipush (9) dX13_numberOf_197 rfl rfl ?_
  refine T_cV3 (c_X13_inRange hX hM h8 hTK ht k44 hc9 hv9 (a := 1) (b := 9) (by decide) (by decide) rfl rfl) hX k13_258 (Or.inl ⟨_, _, _, _, (hM.t_m), by decide, rfl⟩) (by decide) (Nat.le_of_ble_eq_true rfl) dX13_numberOf_199 rfl ?_
  rintro _ _ _ _ ⟨rfl, rfl, rfl, rfl⟩
  refine T_iret rfl rfl dX13_numberOf_202 ?_
  have e9 : erF V rl t = rgE (V t) 1 9 := erF_r10 _ _ hr9
  have hI : EI _ _ m y z s1 s2 n8 dp hr wr cs os B V rl ω0 w0 (t) (t + 1) := EI.st hM hV hω (hmt.nn (by rw [hr9]; decide) (by rw [hr9]; decide)) (hD.up rfl) (cntR_n (by rw [hr9]; decide)) (cntR_n (by rw [hr9]; decide)) (cntR_n (by rw [hr9]; decide)) (cntR_n (by rw [hr9]; decide)) (cntR_n (by rw [hr9]; decide)) (by rw [dtF, if_neg (by rw [hr9]; decide), if_neg (by rw [hr9]; decide), if_neg (by rw [hr9]; decide), if_neg (by rw [hr9]; decide), if_pos hr9])
  exact ⟨by rw [e9]; rfl, rfl, rfl, ⟨fun _ => hI, hI.ee⟩, hF⟩
set_option maxHeartbeats 1000000 in
theorem en_11 {l : Launch} {D : va_G} {cA : Nat → ClassId} {n0 : Nat} {sg adK adV : Nat → Nat} {sgA smA wdA bS LS : Nat} {xs : Nat → Int32} (hX : SF n0 (XW0 sg adK adV sgA smA wdA n0 bS LS xs)) {m y z s1 s2 n8 dp hr wr cs os lt t : Nat} {B : Nat → Nat} {K : Nat → Nat} {S : Nat → Int32} {V : Nat → Int64} {rl : Nat → Int32} {ω0 w0 : RH} (hmz : m + 7 ≤ z ∨ z + 19 ≤ m) (h8 : ∀ i, B i < 256) (hTK : TKF B lt K S V ω0) (hrl0 : ∀ i, i ≤ lt → ω0 83 i = rl i) (hNm : ∀ i, i < lt → K i = 44 → ∃ c, c < 1000000 ∧ V i = Int64.ofNat c) (ht : t < lt) (hRG : ∀ i, RGi K rl i) (hcn : cntR rl 1 t ≤ 8 ∧ cntR rl 2 t ≤ 6 ∧ cntR rl 3 t ≤ 20 ∧ cntR rl 4 t ≤ 12 ∧ cntR rl 5 t ≤ 12) (hr9 : rl t = 11) {sz : Nat} {τ : TY} {M : ME} (hQ : EI τ M m y z s1 s2 n8 dp hr wr cs os B V rl ω0 w0 (t) (t)) : CT l D cA n0 (XW0 sg adK adV sgA smA wdA n0 bS LS xs) mX13_numberOf 4 0 0 sz τ M [.ref m, .int (nI t)] (fun v' sz' τ' M' => v' = some (.int (erF V rl t)) ∧ sz' = sz ∧ τ' = τ ∧ ((erF V rl t = 0 → EI τ M' m y z s1 s2 n8 dp hr wr cs os B V rl ω0 w0 (t) (t + 1)) ∧ EE τ M' m y z s1 s2 n8 dp B ω0 t) ∧ FMZ m z M M') := by
  refine CT.of (ls := [.ref m, .int (nI t), UU]) (by decide) (Nat.le_of_ble_eq_true rfl) rfl ?_
  obtain ⟨ω, w, hM, hV, hω, hmt, hD⟩ := hQ
  have hl := hTK.1.1
  have hTKn := hTK
  replace hTK := hTK.of hω
  have hrl : ∀ i, i ≤ lt → ω 83 i = rl i := fun i hi => by rw [hω 83 _ (by decide)]; exact hrl0 i hi
  obtain ⟨rg0, rg1, rg2, rg3, rg4, rg5, rg6, rg7⟩ := hRG t
  have hF : FMZ m z M M := FMZ.rf _ _ _
  have c1 := cnt_p (rg4 (Or.inr (Or.inr (Or.inl hr9))))
  have k44 := rg2 (Or.inr (Or.inr (Or.inr (Or.inr (Or.inr (Or.inl hr9))))))
  obtain ⟨c9, hc9, hv9⟩ := hNm t ht k44
  obtain ⟨p1, n1, g1, g2, g3, g4⟩ := (hTK.2.2.1 t ht).2
  replace g4 := g4 k44
  obtain ⟨cn1, cn2, cn3, cn4, cn5⟩ := hcn
  refine T_aload0 dX13_numberOf_0 rfl ?_
  refine g13_39 _ rfl (hM.t_m) (hM.g_z) dX13_numberOf_1 rfl ?_
  refine T_astore2 rfl (by decide) dX13_numberOf_4 rfl ?_
  refine T_aload0 dX13_numberOf_5 rfl ?_
  refine g13_26 _ rfl (hM.t_m) (hM.g_ro) dX13_numberOf_6 rfl ?_
  refine T_iload1 dX13_numberOf_9 rfl ?_
  refine T_iald _ (hM.t_ro) rfl (by omega) (by decide) dX13_numberOf_10 rfl (hM.g_vro (by omega)) ?_
  rw [hrl t (by omega), hr9]
  refine T_tin (off := 192) 203 dX13_numberOf_11 (by decide +kernel) (by decide +kernel) (by decide +kernel) (by decide) ?_
  refine T_aload2 dX13_numberOf_203 rfl ?_
  refine g13_273 _ rfl (hV.t_q) (hV.g_iron) dX13_numberOf_204 rfl ?_
  refine T_aload2 dX13_numberOf_207 rfl ?_
  refine g13_67 _ rfl (hV.t_q) (hV.g_horses) dX13_numberOf_208 rfl ?_
  refine T_iconst (1) dX13_numberOf_211 rfl rfl ?_
  refine T_isub dX13_numberOf_212 rfl ?_
  refine T_aload0 dX13_numberOf_213 rfl ?_
  refine T_iload1 dX13_numberOf_214 rfl ?_
  refine T_cV1 (c_X13_numberAt hX hM (by omega) g1 g2 g3) hX k13_219 (Or.inl ⟨_, _, _, _, (hM.t_m), by decide, rfl⟩) (by decide) (Nat.le_of_ble_eq_true rfl) dX13_numberOf_215 rfl ?_
  rintro _ _ _ _ ⟨rfl, rfl, rfl, rfl⟩
  rw [g4]
  refine T_iast _ (hV.t_iron) (nI_m c1 (by omega)) (by omega) (by decide) dX13_numberOf_218 rfl ?_
  refine T_nm (fun M1 e1 => ?_)
  have hM := hM.frU e1 (by omega)
  have hV := PV.mv (hV.p_viron (by omega)) e1
  have hF := hF.up e1 (by omega)
  refine T_aload0 dX13_numberOf_219 rfl ?_
  refine T_iload1 dX13_numberOf_220 rfl ?_
  refine T_iconst (1) dX13_numberOf_221 rfl rfl ?_
  refine T_bipush (99) dX13_numberOf_222 rfl rfl ?_
  refine T_cV3 (c_X13_inRange hX hM h8 hTK ht k44 hc9 hv9 (a := 1) (b := 99) (by decide) (by decide) rfl rfl) hX k13_258 (Or.inl ⟨_, _, _, _, (hM.t_m), by decide, rfl⟩) (by decide) (Nat.le_of_ble_eq_true rfl) dX13_numberOf_224 rfl ?_
  rintro _ _ _ _ ⟨rfl, rfl, rfl, rfl⟩
  refine T_iret rfl rfl dX13_numberOf_227 ?_
  have e9 : erF V rl t = rgE (V t) 1 99 := erF_r11 _ _ hr9
  have hI : EI _ _ m y z s1 s2 n8 dp hr wr cs os B V rl ω0 w0 (t) (t + 1) := EI.st hM hV hω (hmt.nn (by rw [hr9]; decide) (by rw [hr9]; decide)) (hD.up rfl) (cntR_n (by rw [hr9]; decide)) (cntR_n (by rw [hr9]; decide)) (cntR_n (by rw [hr9]; decide)) (cntR_n (by rw [hr9]; decide)) (cntR_n (by rw [hr9]; decide)) (by rw [dtF, if_neg (by rw [hr9]; decide), if_neg (by rw [hr9]; decide), if_neg (by rw [hr9]; decide), if_neg (by rw [hr9]; decide), if_neg (by rw [hr9]; decide), if_pos hr9])
  exact ⟨by rw [e9]; rfl, rfl, rfl, ⟨fun _ => hI, hI.ee⟩, hF⟩
set_option maxHeartbeats 1000000 in
theorem en_12 {l : Launch} {D : va_G} {cA : Nat → ClassId} {n0 : Nat} {sg adK adV : Nat → Nat} {sgA smA wdA bS LS : Nat} {xs : Nat → Int32} (hX : SF n0 (XW0 sg adK adV sgA smA wdA n0 bS LS xs)) {m y z s1 s2 n8 dp hr wr cs os lt t : Nat} {B : Nat → Nat} {K : Nat → Nat} {S : Nat → Int32} {V : Nat → Int64} {rl : Nat → Int32} {ω0 w0 : RH} (hmz : m + 7 ≤ z ∨ z + 19 ≤ m) (h8 : ∀ i, B i < 256) (hTK : TKF B lt K S V ω0) (hrl0 : ∀ i, i ≤ lt → ω0 83 i = rl i) (hNm : ∀ i, i < lt → K i = 44 → ∃ c, c < 1000000 ∧ V i = Int64.ofNat c) (ht : t < lt) (hRG : ∀ i, RGi K rl i) (hcn : cntR rl 1 t ≤ 8 ∧ cntR rl 2 t ≤ 6 ∧ cntR rl 3 t ≤ 20 ∧ cntR rl 4 t ≤ 12 ∧ cntR rl 5 t ≤ 12) (hr9 : rl t = 12) {sz : Nat} {τ : TY} {M : ME} (hQ : EI τ M m y z s1 s2 n8 dp hr wr cs os B V rl ω0 w0 (t) (t)) : CT l D cA n0 (XW0 sg adK adV sgA smA wdA n0 bS LS xs) mX13_numberOf 4 0 0 sz τ M [.ref m, .int (nI t)] (fun v' sz' τ' M' => v' = some (.int (erF V rl t)) ∧ sz' = sz ∧ τ' = τ ∧ ((erF V rl t = 0 → EI τ M' m y z s1 s2 n8 dp hr wr cs os B V rl ω0 w0 (t) (t + 1)) ∧ EE τ M' m y z s1 s2 n8 dp B ω0 t) ∧ FMZ m z M M') := by
  refine CT.of (ls := [.ref m, .int (nI t), UU]) (by decide) (Nat.le_of_ble_eq_true rfl) rfl ?_
  obtain ⟨ω, w, hM, hV, hω, hmt, hD⟩ := hQ
  have hl := hTK.1.1
  have hTKn := hTK
  replace hTK := hTK.of hω
  have hrl : ∀ i, i ≤ lt → ω 83 i = rl i := fun i hi => by rw [hω 83 _ (by decide)]; exact hrl0 i hi
  obtain ⟨rg0, rg1, rg2, rg3, rg4, rg5, rg6, rg7⟩ := hRG t
  have hF : FMZ m z M M := FMZ.rf _ _ _
  have c1 := cnt_p (rg4 (Or.inr (Or.inr (Or.inr hr9))))
  obtain ⟨cn1, cn2, cn3, cn4, cn5⟩ := hcn
  refine T_aload0 dX13_numberOf_0 rfl ?_
  refine g13_39 _ rfl (hM.t_m) (hM.g_z) dX13_numberOf_1 rfl ?_
  refine T_astore2 rfl (by decide) dX13_numberOf_4 rfl ?_
  refine T_aload0 dX13_numberOf_5 rfl ?_
  refine g13_26 _ rfl (hM.t_m) (hM.g_ro) dX13_numberOf_6 rfl ?_
  refine T_iload1 dX13_numberOf_9 rfl ?_
  refine T_iald _ (hM.t_ro) rfl (by omega) (by decide) dX13_numberOf_10 rfl (hM.g_vro (by omega)) ?_
  rw [hrl t (by omega), hr9]
  refine T_tin (off := 217) 228 dX13_numberOf_11 (by decide +kernel) (by decide +kernel) (by decide +kernel) (by decide) ?_
  refine T_aload2 dX13_numberOf_228 rfl ?_
  refine g13_276 _ rfl (hV.t_q) (hV.g_bell) dX13_numberOf_229 rfl ?_
  refine T_aload2 dX13_numberOf_232 rfl ?_
  refine g13_67 _ rfl (hV.t_q) (hV.g_horses) dX13_numberOf_233 rfl ?_
  refine T_iconst (1) dX13_numberOf_236 rfl rfl ?_
  refine T_isub dX13_numberOf_237 rfl ?_
  refine T_iconst (1) dX13_numberOf_238 rfl rfl ?_
  refine T_iast _ (hV.t_bell) (nI_m c1 (by omega)) (by omega) (by decide) dX13_numberOf_239 rfl ?_
  refine T_nm (fun M1 e1 => ?_)
  have hM := hM.frU e1 (by omega)
  have hV := PV.mv (hV.p_vbell (by omega)) e1
  have hF := hF.up e1 (by omega)
  refine T_iconst (0) dX13_numberOf_240 rfl rfl ?_
  refine T_iret rfl rfl dX13_numberOf_241 ?_
  have e9 : erF V rl t = 0 := erF_r12 _ _ hr9
  have hI : EI _ _ m y z s1 s2 n8 dp hr wr cs os B V rl ω0 w0 (t) (t + 1) := EI.st hM hV hω (hmt.nn (by rw [hr9]; decide) (by rw [hr9]; decide)) (hD.up rfl) (cntR_n (by rw [hr9]; decide)) (cntR_n (by rw [hr9]; decide)) (cntR_n (by rw [hr9]; decide)) (cntR_n (by rw [hr9]; decide)) (cntR_n (by rw [hr9]; decide)) (by rw [dtF, if_neg (by rw [hr9]; decide), if_neg (by rw [hr9]; decide), if_neg (by rw [hr9]; decide), if_neg (by rw [hr9]; decide), if_neg (by rw [hr9]; decide), if_neg (by rw [hr9]; decide), if_pos hr9])
  exact ⟨by rw [e9], rfl, rfl, ⟨fun _ => hI, hI.ee⟩, hF⟩
set_option maxHeartbeats 1000000 in
theorem en_13 {l : Launch} {D : va_G} {cA : Nat → ClassId} {n0 : Nat} {sg adK adV : Nat → Nat} {sgA smA wdA bS LS : Nat} {xs : Nat → Int32} (hX : SF n0 (XW0 sg adK adV sgA smA wdA n0 bS LS xs)) {m y z s1 s2 n8 dp hr wr cs os lt t : Nat} {B : Nat → Nat} {K : Nat → Nat} {S : Nat → Int32} {V : Nat → Int64} {rl : Nat → Int32} {ω0 w0 : RH} (hmz : m + 7 ≤ z ∨ z + 19 ≤ m) (h8 : ∀ i, B i < 256) (hTK : TKF B lt K S V ω0) (hrl0 : ∀ i, i ≤ lt → ω0 83 i = rl i) (hNm : ∀ i, i < lt → K i = 44 → ∃ c, c < 1000000 ∧ V i = Int64.ofNat c) (ht : t < lt) (hRG : ∀ i, RGi K rl i) (hcn : cntR rl 1 t ≤ 8 ∧ cntR rl 2 t ≤ 6 ∧ cntR rl 3 t ≤ 20 ∧ cntR rl 4 t ≤ 12 ∧ cntR rl 5 t ≤ 12) (hr9 : rl t = 13) {sz : Nat} {τ : TY} {M : ME} (hQ : EI τ M m y z s1 s2 n8 dp hr wr cs os B V rl ω0 w0 (t) (t)) : CT l D cA n0 (XW0 sg adK adV sgA smA wdA n0 bS LS xs) mX13_numberOf 4 0 0 sz τ M [.ref m, .int (nI t)] (fun v' sz' τ' M' => v' = some (.int (erF V rl t)) ∧ sz' = sz ∧ τ' = τ ∧ ((erF V rl t = 0 → EI τ M' m y z s1 s2 n8 dp hr wr cs os B V rl ω0 w0 (t) (t + 1)) ∧ EE τ M' m y z s1 s2 n8 dp B ω0 t) ∧ FMZ m z M M') := by
  refine CT.of (ls := [.ref m, .int (nI t), UU]) (by decide) (Nat.le_of_ble_eq_true rfl) rfl ?_
  obtain ⟨ω, w, hM, hV, hω, hmt, hD⟩ := hQ
  have hl := hTK.1.1
  have hTKn := hTK
  replace hTK := hTK.of hω
  have hrl : ∀ i, i ≤ lt → ω 83 i = rl i := fun i hi => by rw [hω 83 _ (by decide)]; exact hrl0 i hi
  obtain ⟨rg0, rg1, rg2, rg3, rg4, rg5, rg6, rg7⟩ := hRG t
  have hF : FMZ m z M M := FMZ.rf _ _ _
  have c1 := cnt_p (rg5 hr9)
  have k44 := rg2 (Or.inr (Or.inr (Or.inr (Or.inr (Or.inr (Or.inr hr9))))))
  obtain ⟨c9, hc9, hv9⟩ := hNm t ht k44
  obtain ⟨p1, n1, g1, g2, g3, g4⟩ := (hTK.2.2.1 t ht).2
  replace g4 := g4 k44
  obtain ⟨cn1, cn2, cn3, cn4, cn5⟩ := hcn
  refine T_aload0 dX13_numberOf_0 rfl ?_
  refine g13_39 _ rfl (hM.t_m) (hM.g_z) dX13_numberOf_1 rfl ?_
  refine T_astore2 rfl (by decide) dX13_numberOf_4 rfl ?_
  refine T_aload0 dX13_numberOf_5 rfl ?_
  refine g13_26 _ rfl (hM.t_m) (hM.g_ro) dX13_numberOf_6 rfl ?_
  refine T_iload1 dX13_numberOf_9 rfl ?_
  refine T_iald _ (hM.t_ro) rfl (by omega) (by decide) dX13_numberOf_10 rfl (hM.g_vro (by omega)) ?_
  rw [hrl t (by omega), hr9]
  refine T_tin (off := 231) 242 dX13_numberOf_11 (by decide +kernel) (by decide +kernel) (by decide +kernel) (by decide) ?_
  refine T_aload2 dX13_numberOf_242 rfl ?_
  refine g13_279 _ rfl (hV.t_q) (hV.g_weight) dX13_numberOf_243 rfl ?_
  refine T_aload2 dX13_numberOf_246 rfl ?_
  refine g13_70 _ rfl (hV.t_q) (hV.g_logs) dX13_numberOf_247 rfl ?_
  refine T_iconst (1) dX13_numberOf_250 rfl rfl ?_
  refine T_isub dX13_numberOf_251 rfl ?_
  refine T_aload0 dX13_numberOf_252 rfl ?_
  refine T_iload1 dX13_numberOf_253 rfl ?_
  refine T_cV1 (c_X13_numberAt hX hM (by omega) g1 g2 g3) hX k13_219 (Or.inl ⟨_, _, _, _, (hM.t_m), by decide, rfl⟩) (by decide) (Nat.le_of_ble_eq_true rfl) dX13_numberOf_254 rfl ?_
  rintro _ _ _ _ ⟨rfl, rfl, rfl, rfl⟩
  rw [g4]
  refine T_iast _ (hV.t_weight) (nI_m c1 (by omega)) (by omega) (by decide) dX13_numberOf_257 rfl ?_
  refine T_nm (fun M1 e1 => ?_)
  have hM := hM.frU e1 (by omega)
  have hV := PV.mv (hV.p_vweight (by omega)) e1
  have hF := hF.up e1 (by omega)
  refine T_aload0 dX13_numberOf_258 rfl ?_
  refine T_iload1 dX13_numberOf_259 rfl ?_
  refine T_iconst (1) dX13_numberOf_260 rfl rfl ?_
  refine T_bipush (60) dX13_numberOf_261 rfl rfl ?_
  refine T_cV3 (c_X13_inRange hX hM h8 hTK ht k44 hc9 hv9 (a := 1) (b := 60) (by decide) (by decide) rfl rfl) hX k13_258 (Or.inl ⟨_, _, _, _, (hM.t_m), by decide, rfl⟩) (by decide) (Nat.le_of_ble_eq_true rfl) dX13_numberOf_263 rfl ?_
  rintro _ _ _ _ ⟨rfl, rfl, rfl, rfl⟩
  refine T_iret rfl rfl dX13_numberOf_266 ?_
  have e9 : erF V rl t = rgE (V t) 1 60 := erF_r13 _ _ hr9
  have hI : EI _ _ m y z s1 s2 n8 dp hr wr cs os B V rl ω0 w0 (t) (t + 1) := EI.st hM hV hω (hmt.nn (by rw [hr9]; decide) (by rw [hr9]; decide)) (hD.up rfl) (cntR_n (by rw [hr9]; decide)) (cntR_n (by rw [hr9]; decide)) (cntR_n (by rw [hr9]; decide)) (cntR_n (by rw [hr9]; decide)) (cntR_n (by rw [hr9]; decide)) (by rw [dtF, if_neg (by rw [hr9]; decide), if_neg (by rw [hr9]; decide), if_neg (by rw [hr9]; decide), if_neg (by rw [hr9]; decide), if_neg (by rw [hr9]; decide), if_neg (by rw [hr9]; decide), if_neg (by rw [hr9]; decide), if_pos hr9])
  exact ⟨by rw [e9]; rfl, rfl, rfl, ⟨fun _ => hI, hI.ee⟩, hF⟩
set_option maxHeartbeats 1000000 in
theorem en_0 {l : Launch} {D : va_G} {cA : Nat → ClassId} {n0 : Nat} {sg adK adV : Nat → Nat} {sgA smA wdA bS LS : Nat} {xs : Nat → Int32} (hX : SF n0 (XW0 sg adK adV sgA smA wdA n0 bS LS xs)) {m y z s1 s2 n8 dp hr wr cs os lt t : Nat} {B : Nat → Nat} {K : Nat → Nat} {S : Nat → Int32} {V : Nat → Int64} {rl : Nat → Int32} {ω0 w0 : RH} (hmz : m + 7 ≤ z ∨ z + 19 ≤ m) (h8 : ∀ i, B i < 256) (hTK : TKF B lt K S V ω0) (hrl0 : ∀ i, i ≤ lt → ω0 83 i = rl i) (hNm : ∀ i, i < lt → K i = 44 → ∃ c, c < 1000000 ∧ V i = Int64.ofNat c) (ht : t < lt) (hRG : ∀ i, RGi K rl i) (hcn : cntR rl 1 t ≤ 8 ∧ cntR rl 2 t ≤ 6 ∧ cntR rl 3 t ≤ 20 ∧ cntR rl 4 t ≤ 12 ∧ cntR rl 5 t ≤ 12) (hr9 : rl t = 0) {sz : Nat} {τ : TY} {M : ME} (hQ : EI τ M m y z s1 s2 n8 dp hr wr cs os B V rl ω0 w0 (t) (t)) : CT l D cA n0 (XW0 sg adK adV sgA smA wdA n0 bS LS xs) mX13_numberOf 4 0 0 sz τ M [.ref m, .int (nI t)] (fun v' sz' τ' M' => v' = some (.int (erF V rl t)) ∧ sz' = sz ∧ τ' = τ ∧ ((erF V rl t = 0 → EI τ M' m y z s1 s2 n8 dp hr wr cs os B V rl ω0 w0 (t) (t + 1)) ∧ EE τ M' m y z s1 s2 n8 dp B ω0 t) ∧ FMZ m z M M') := by
  refine CT.of (ls := [.ref m, .int (nI t), UU]) (by decide) (Nat.le_of_ble_eq_true rfl) rfl ?_
  obtain ⟨ω, w, hM, hV, hω, hmt, hD⟩ := hQ
  have hl := hTK.1.1
  have hTKn := hTK
  replace hTK := hTK.of hω
  have hrl : ∀ i, i ≤ lt → ω 83 i = rl i := fun i hi => by rw [hω 83 _ (by decide)]; exact hrl0 i hi
  obtain ⟨rg0, rg1, rg2, rg3, rg4, rg5, rg6, rg7⟩ := hRG t
  have hF : FMZ m z M M := FMZ.rf _ _ _
  refine T_aload0 dX13_numberOf_0 rfl ?_
  refine g13_39 _ rfl (hM.t_m) (hM.g_z) dX13_numberOf_1 rfl ?_
  refine T_astore2 rfl (by decide) dX13_numberOf_4 rfl ?_
  refine T_aload0 dX13_numberOf_5 rfl ?_
  refine g13_26 _ rfl (hM.t_m) (hM.g_ro) dX13_numberOf_6 rfl ?_
  refine T_iload1 dX13_numberOf_9 rfl ?_
  refine T_iald _ (hM.t_ro) rfl (by omega) (by decide) dX13_numberOf_10 rfl (hM.g_vro (by omega)) ?_
  rw [hrl t (by omega), hr9]
  refine T_tout 267 dX13_numberOf_11 (by decide +kernel) (by decide) ?_
  refine T_iconst (0) dX13_numberOf_267 rfl rfl ?_
  refine T_iret rfl rfl dX13_numberOf_268 ?_
  have e9 : erF V rl t = 0 := erF_0 hr9
  have hI : EI _ _ m y z s1 s2 n8 dp hr wr cs os B V rl ω0 w0 (t) (t + 1) := EI.st hM hV hω (hmt.nn (by rw [hr9]; decide) (by rw [hr9]; decide)) hD (cntR_n (by rw [hr9]; decide)) (cntR_n (by rw [hr9]; decide)) (cntR_n (by rw [hr9]; decide)) (cntR_n (by rw [hr9]; decide)) (cntR_n (by rw [hr9]; decide)) (dtF_n (by rw [hr9]; decide))
  exact ⟨by rw [e9], rfl, rfl, ⟨fun _ => hI, hI.ee⟩, hF⟩
set_option maxHeartbeats 1000000 in
theorem en_19 {l : Launch} {D : va_G} {cA : Nat → ClassId} {n0 : Nat} {sg adK adV : Nat → Nat} {sgA smA wdA bS LS : Nat} {xs : Nat → Int32} (hX : SF n0 (XW0 sg adK adV sgA smA wdA n0 bS LS xs)) {m y z s1 s2 n8 dp hr wr cs os lt t : Nat} {B : Nat → Nat} {K : Nat → Nat} {S : Nat → Int32} {V : Nat → Int64} {rl : Nat → Int32} {ω0 w0 : RH} (hmz : m + 7 ≤ z ∨ z + 19 ≤ m) (h8 : ∀ i, B i < 256) (hTK : TKF B lt K S V ω0) (hrl0 : ∀ i, i ≤ lt → ω0 83 i = rl i) (hNm : ∀ i, i < lt → K i = 44 → ∃ c, c < 1000000 ∧ V i = Int64.ofNat c) (ht : t < lt) (hRG : ∀ i, RGi K rl i) (hcn : cntR rl 1 t ≤ 8 ∧ cntR rl 2 t ≤ 6 ∧ cntR rl 3 t ≤ 20 ∧ cntR rl 4 t ≤ 12 ∧ cntR rl 5 t ≤ 12) (hr9 : rl t = 19) {sz : Nat} {τ : TY} {M : ME} (hQ : EI τ M m y z s1 s2 n8 dp hr wr cs os B V rl ω0 w0 (t) (t)) : CT l D cA n0 (XW0 sg adK adV sgA smA wdA n0 bS LS xs) mX13_numberOf 4 0 0 sz τ M [.ref m, .int (nI t)] (fun v' sz' τ' M' => v' = some (.int (erF V rl t)) ∧ sz' = sz ∧ τ' = τ ∧ ((erF V rl t = 0 → EI τ M' m y z s1 s2 n8 dp hr wr cs os B V rl ω0 w0 (t) (t + 1)) ∧ EE τ M' m y z s1 s2 n8 dp B ω0 t) ∧ FMZ m z M M') := by
  refine CT.of (ls := [.ref m, .int (nI t), UU]) (by decide) (Nat.le_of_ble_eq_true rfl) rfl ?_
  obtain ⟨ω, w, hM, hV, hω, hmt, hD⟩ := hQ
  have hl := hTK.1.1
  have hTKn := hTK
  replace hTK := hTK.of hω
  have hrl : ∀ i, i ≤ lt → ω 83 i = rl i := fun i hi => by rw [hω 83 _ (by decide)]; exact hrl0 i hi
  obtain ⟨rg0, rg1, rg2, rg3, rg4, rg5, rg6, rg7⟩ := hRG t
  have hF : FMZ m z M M := FMZ.rf _ _ _
  refine T_aload0 dX13_numberOf_0 rfl ?_
  refine g13_39 _ rfl (hM.t_m) (hM.g_z) dX13_numberOf_1 rfl ?_
  refine T_astore2 rfl (by decide) dX13_numberOf_4 rfl ?_
  refine T_aload0 dX13_numberOf_5 rfl ?_
  refine g13_26 _ rfl (hM.t_m) (hM.g_ro) dX13_numberOf_6 rfl ?_
  refine T_iload1 dX13_numberOf_9 rfl ?_
  refine T_iald _ (hM.t_ro) rfl (by omega) (by decide) dX13_numberOf_10 rfl (hM.g_vro (by omega)) ?_
  rw [hrl t (by omega), hr9]
  refine T_tout 267 dX13_numberOf_11 (by decide +kernel) (by decide) ?_
  refine T_iconst (0) dX13_numberOf_267 rfl rfl ?_
  refine T_iret rfl rfl dX13_numberOf_268 ?_
  have e9 : erF V rl t = 0 := erF_r19 _ _ hr9
  have hI : EI _ _ m y z s1 s2 n8 dp hr wr cs os B V rl ω0 w0 (t) (t + 1) := EI.st hM hV hω (hmt.nn (by rw [hr9]; decide) (by rw [hr9]; decide)) hD (cntR_n (by rw [hr9]; decide)) (cntR_n (by rw [hr9]; decide)) (cntR_n (by rw [hr9]; decide)) (cntR_n (by rw [hr9]; decide)) (cntR_n (by rw [hr9]; decide)) (dtF_n (by rw [hr9]; decide))
  exact ⟨by rw [e9], rfl, rfl, ⟨fun _ => hI, hI.ee⟩, hF⟩
