/-! the reference reads -/
theorem TKF.of83 {B : Nat → Nat} {lt : Nat} {K : Nat → Nat} {S : Nat → Int32} {V : Nat → Int64} {ω ω0 : RH} (h : TKF B lt K S V ω0) (e : ∀ f i, ¬ f = 83 → ω f i = ω0 f i) : TKF B lt K S V ω := by
  obtain ⟨h1, h2, h3, h4⟩ := h
  refine ⟨h1, fun i hi => ?_, fun i hi => ?_, fun i j hi hj a b => ?_⟩
  · rw [e 80 _ (by decide), e 81 _ (by decide)]; exact h2 i hi
  · rw [e 81 _ (by decide), e 82 _ (by decide)]; exact h3 i hi
  · rw [e 81 _ (by decide), e 82 _ (by decide), e 81 _ (by decide), e 82 _ (by decide)]; exact h4 i j hi hj a b
theorem MW.dw {V : Nat → Int64} {rl : Nat → Int32} {w w1 β : RH} {s : PS} {h v : Nat} (a : MW w1 (fun _ _ => 0) s β h v) (hw : ∀ f i, ¬ f = 71 → ¬ f = 72 → w f i = w1 f i) : DW w (dtF V rl 0) w := fun f i => ⟨fun e => by
  have hf : ¬ f = 71 ∧ ¬ f = 72 ∧ ¬ f = 52 ∧ ¬ f = 53 ∧ ¬ f = 54 ∧ ¬ f = 57 ∧ ¬ f = 59 := by
    refine ⟨?_, ?_, ?_, ?_, ?_, ?_, ?_⟩ <;> (rintro rfl; exact absurd e (by decide))
  obtain ⟨f1, f2, f3, f4, f5, f6, f7⟩ := hf
  rw [hw f i f1 f2, a.2.2 f i f1 f2 f3 f4 f5 f6 f7]; rfl, fun _ => rfl⟩
theorem LSr.le {K : Nat → Nat} {vv : Nat → Int32} {q q' : PQ} {β β' : RH} (h : LSr K vv q β q' β') {τ : TY} {M : ME} {m y z s1 s2 n8 lt : Nat} {B : Nat → Nat} {ω0 w0 : RH} (hP : MLn τ M m y z s1 s2 n8 B ω0 w0 lt q'.2 β') : q'.2.1 ≤ lt ∧ q'.2.2.1 ≤ q'.2.1 := by
  obtain ⟨_, ⟨_, _, _, _, _, _, _, _, hn, ht, _⟩, _⟩ := hP
  exact ⟨ht, by omega⟩
set_option maxHeartbeats 1000000 in
theorem c_X13_read {l : Launch} {D : va_G} {cA : Nat → ClassId} {n0 : Nat} {sg adK adV : Nat → Nat} {sgA smA wdA bS LS : Nat} {xs : Nat → Int32} (hX : SF n0 (XW0 sg adK adV sgA smA wdA n0 bS LS xs)) {sz : Nat} {τ : TY} {N1 M : ME} {m y z0 s1 s2 n8 tk dp lt : Nat} {B : Nat → Nat} {K : Nat → Nat} {S : Nat → Int32} {V : Nat → Int64} {ω β' : RH} {q' : PQ} (hM : MV τ N1 M m y z0 s1 s2 n8 tk dp B ω) (hn2 : n8 ≤ 2000) (h8 : ∀ i, B i < 256) (hT : Toks B n8 lt K S V) (hL : LSr K (fun t => (V t).toInt32) pq0 be0 q' β') : CT l D cA n0 (XW0 sg adK adV sgA smA wdA n0 bS LS xs) mX13_read 102 19 1396 sz τ M [.ref m] (fun v' sz' τ' M' => v' = some (.int (erV V S q')) ∧ sz' = sz + 19 ∧ (∀ b, b < sz → τ' b = τ b) ∧ (∀ b, b < sz → ¬ (m ≤ b ∧ b < m + 7) → M' b = M b) ∧ ∃ ω1 : RH, (ω1 90 0 = ω 90 0 ∧ ω1 91 0 = ω 91 0) ∧ (erV V S q' = 0 → q'.1 = true ∧ ∃ w1 : RH, RDK τ' M' m y sz s1 s2 n8 B V ω1 w1 q'.2 (cntR q'.2.2.2.2.2 4 q'.2.1) (cntR q'.2.2.2.2.2 5 q'.2.1) ∧ MW w1 (fun _ _ => 0) q'.2 β' (cntR q'.2.2.2.2.2 4 q'.2.1) (cntR q'.2.2.2.2.2 5 q'.2.1) ∧ RGS K q'.2 ∧ NS q'.2 ∧ q'.2.1 ≤ lt ∧ q'.2.2.1 ≤ q'.2.1) ∧ (¬ erV V S q' = 0 → RDE τ' M' m y sz s1 s2 n8 B ω1 (erA V S q'))) := by
  refine CT.of (ls := [.ref m, UU, UU]) (by decide) (Nat.le_of_ble_eq_true rfl) rfl ?_
  refine T_szb (fun hz => ?_)
  have z1 := hM.hi hz
  have hM := hM.rf
  have hB : ∀ b, b < sz → ¬ (m ≤ b ∧ b < m + 7) → M b = M b := fun _ _ _ => rfl
  refine T_aload0 dX13_read_0 rfl ?_
  refine n13_32 rfl dX13_read_1 rfl ?_
  refine T_nt (fun τ1 eτ => ?_)
  refine T_nm (fun Mn en => ?_)
  have hM := (hM.tau (τ' := τ1) (fun q g1 g2 => by rw [eτ]; exact tyN_n (by omega))).fr (M1 := Mn) (fun q g1 g2 => by rw [en]; exact meN_n (by omega))
  have hTy : ∀ b, b < sz → τ1 b = τ b := fun b g => by rw [eτ]; exact tyN_n (by omega)
  have hB : ∀ b, b < sz → ¬ (m ≤ b ∧ b < m + 7) → Mn b = M b := fun b g1 g2 => (show Mn b = M b from by rw [en]; exact meN_n (by omega)).trans (hB b g1 g2)
  refine T_dup dX13_read_4 rfl rfl ?_
  refine T_cIN0 (c_X11_init hX (z := sz) (by rw [eτ]; exact tyN_s _ _ _) (by rw [en]; exact meN_s _ _ _)) hX k13_34 (by decide) (Nat.le_of_ble_eq_true rfl) dX13_read_5 rfl ?_
  rintro _ _ τ2 M9 ⟨rfl, rfl, hV, hfr⟩
  have hM := (hM.tau (τ' := τ2) (fun q g1 g2 => (hfr q (by omega)).1)).fr (M1 := M9) (fun q g1 g2 => (hfr q (by omega)).2)
  have hTy : ∀ b, b < sz → τ2 b = τ b := fun b g => (hfr b g).1.trans (hTy b g)
  have hB : ∀ b, b < sz → ¬ (m ≤ b ∧ b < m + 7) → M9 b = M b := fun b g1 g2 => ((hfr b g1).2).trans (hB b g1 g2)
  refine p13_39 rfl (hM.t_m) dX13_read_8 rfl ?_
  refine T_nm (fun M1 e1 => ?_)
  have hM := MV.mv hM.p_z e1
  have hV := hV.frU e1 (by omega)
  have hB : ∀ b, b < sz → ¬ (m ≤ b ∧ b < m + 7) → M1 b = M b := fun b g1 g2 => (by rw [e1]; exact (up_a (by omega)).trans (hB b g1 g2))
  refine T_aload0 dX13_read_11 rfl ?_
  refine T_cV0 (c_X13_cut hX hM.rf hn2 h8) hX k13_282 (Or.inl ⟨_, _, _, _, (hM.t_m), by decide, rfl⟩) (by decide) (Nat.le_of_ble_eq_true rfl) dX13_read_12 rfl ?_
  rintro _ _ _ M8 ⟨rfl, rfl, rfl, lt2, ω1, hM8, hMT, hω9⟩
  obtain ⟨rfl, hTK, hr0⟩ := TKF.mk9 h8 hn2 hT hMT
  have hV := (hV.nx hM8.frame (by omega)).rf
  have hB : ∀ b, b < sz → ¬ (m ≤ b ∧ b < m + 7) → M8 b = M b := fun b g1 g2 => (hM8.frame b (by omega)).trans (hB b g1 g2)
  have hM := hM8.rf
  refine T_aload0 dX13_read_15 rfl ?_
  refine T_iconst (0) dX13_read_16 rfl rfl ?_
  refine p13_124 rfl (hM.t_m) dX13_read_17 rfl ?_
  refine T_nm (fun M2 e2 => ?_)
  have hM := MV.mv (hM.p_tk (n := 0) rfl) e2
  have hV := hV.frU e2 (by omega)
  have hB : ∀ b, b < sz → ¬ (m ≤ b ∧ b < m + 7) → M2 b = M b := fun b g1 g2 => (by rw [e2]; exact (up_a (by omega)).trans (hB b g1 g2))
  refine T_aload0 dX13_read_20 rfl ?_
  refine T_iconst (0) dX13_read_21 rfl rfl ?_
  refine p13_198 rfl (hM.t_m) dX13_read_22 rfl ?_
  refine T_nm (fun M3 e3 => ?_)
  have hM := MV.mv (hM.p_dp (n := 0) rfl) e3
  have hV := hV.frU e3 (by omega)
  have hB : ∀ b, b < sz → ¬ (m ≤ b ∧ b < m + 7) → M3 b = M b := fun b g1 g2 => (by rw [e3]; exact (up_a (by omega)).trans (hB b g1 g2))
  refine T_aload0 dX13_read_25 rfl ?_
  have hL0 : MLn _ _ m y sz s1 s2 n8 B ω1 (fun _ _ => 0) _ pq0.2 be0 := ⟨fun _ _ => 0, ⟨ω1, fun _ _ => 0, hM.rf, hV.rf, fun _ _ _ => rfl, hr0, fun _ _ _ _ => rfl, ⟨fun i hi => absurd hi (Nat.not_lt_zero _), fun i hi => absurd hi (Nat.not_lt_zero _)⟩, Nat.le_refl _, Nat.zero_le _, fun _ _ => rfl⟩, ⟨fun i hi => absurd hi (Nat.not_lt_zero _), fun i hi => absurd hi (Nat.not_lt_zero _), fun _ _ _ _ _ _ _ _ _ => rfl⟩⟩
  refine T_cV0 (c_X13_isPlan hX hTK (m := m) (z := sz) (by omega) hL hL0) hX k13_285 (Or.inl ⟨_, _, _, _, (hM.t_m), by decide, rfl⟩) (by decide) (Nat.le_of_ble_eq_true rfl) dX13_read_26 rfl ?_
  rintro _ _ _ M7 ⟨⟨rfl, hQ9⟩, rfl, rfl, hF9⟩
  have hB : ∀ b, b < sz → ¬ (m ≤ b ∧ b < m + 7) → M7 b = M b := fun b g1 g2 => (hF9 b g2 (by omega)).trans (hB b g1 g2)
  refine T_if_ne 47 32 dX13_read_29 (by decide) rfl (fun c29 => ?_) (fun c29 => ?_)
  ·
    have z9 := ifz1 c29
    have hMLn := hQ9.1 z9
    obtain ⟨w1, ⟨ω2, w, hM, hV, hω, hrl, hw, hG, hn9, ht, hz9⟩, hMW⟩ := hQ9.1 z9
    refine T_aload0 dX13_read_47 rfl ?_
    refine g13_124 _ rfl (hM.t_m) (hM.g_tk) dX13_read_48 rfl ?_
    refine T_istore1 rfl (by decide) dX13_read_51 rfl ?_
    refine T_aload0 dX13_read_52 rfl ?_
    refine T_iconst (0) dX13_read_53 rfl rfl ?_
    refine p13_124 rfl (hM.t_m) dX13_read_54 rfl ?_
    refine T_nm (fun M4 e4 => ?_)
    have hM := MV.mv (hM.p_tk (n := 0) rfl) e4
    have hV := hV.frU e4 (by omega)
    have hB : ∀ b, b < sz → ¬ (m ≤ b ∧ b < m + 7) → M4 b = M b := fun b g1 g2 => (by rw [e4]; exact (up_a (by omega)).trans (hB b g1 g2))
    have hrg := (hL.rg z9).2 RGS.pq0
    have hns := (hL.ns z9).2 NS.pq0
    obtain ⟨hs4, hsn⟩ := hL.le hMLn
    have ev : erV V S q' = (flF V S q'.2.2.2.2.2 q'.2.1).1 := if_pos z9
    have ea : erA V S q' = (flF V S q'.2.2.2.2.2 q'.2.1).2 := if_pos z9
    refine T_cons ?_ (L1_X13_read hX (z := sz) (ω0 := ω2) (w0 := w) (s := q'.2) (hr := cntR q'.2.2.2.2.2 4 q'.2.1) (wr := cntR q'.2.2.2.2.2 5 q'.2.1) (by omega) h8 (hTK.of83 hω) hrl (hT.num h8) hrg.1 hns hs4 hsn hG _ 0 _ _ ⟨ω2, w, hM.rf, hV.rf, fun _ _ _ => rfl, fun i hi => absurd hi (Nat.not_lt_zero _), hMW.dw hw⟩ rfl (FMZ.rf _ _ _) (Nat.zero_le _) (Nat.lt_succ_self _))
    rintro v8 sz8 τ8 M6 ⟨rfl, rfl, e3, hK, hE, hF8⟩
    refine ⟨by rw [ev]; exact e3, rfl, hTy, fun b g1 g2 => (hF8 b g2 (by omega)).trans (hB b g1 g2), ω2, ⟨(hω 90 0 (by decide)).trans (hω9 90 0 (by decide)), (hω 91 0 (by decide)).trans (hω9 91 0 (by decide))⟩, fun q => ⟨z9, w, hK (ev.symm.trans q), hMW.ext hw (EXT.rf _), hrg, hns, hs4, hsn⟩, fun q => ?_⟩
    rw [ea]
    exact hE (fun z => q (ev.trans z))
  ·
    have z9 := ifz0 (by first | exact c29 | exact Decidable.not_not.mp c29)
    obtain ⟨ht, ω2, dp2, sa, sb, sc, hc, hr, wc, wr, cs, os, w, hM, hV, hω⟩ := hQ9.2 (fls z9)
    have hl := hTK.1.1
    have h81 : ω2 81 q'.2.1 = S q'.2.1 := by rw [hω 81 _ (by decide)]; exact (hTK.2.1 _ ht).2.2
    refine T_aload0 dX13_read_32 rfl ?_
    refine T_aload0 dX13_read_33 rfl ?_
    refine g13_20 _ rfl (hM.t_m) (hM.g_fr) dX13_read_34 rfl ?_
    refine T_aload0 dX13_read_37 rfl ?_
    refine g13_124 _ rfl (hM.t_m) (hM.g_tk) dX13_read_38 rfl ?_
    refine T_iald _ (hM.t_fr) rfl (by omega) (by decide) dX13_read_41 rfl (hM.g_vfr (by omega)) ?_
    rw [h81]
    refine p13_13 rfl (hM.t_m) dX13_read_42 rfl ?_
    refine T_nm (fun M5 e5 => ?_)
    have hM := MV.mv hM.p_ea e5
    have hV := hV.frU e5 (by omega)
    have hB : ∀ b, b < sz → ¬ (m ≤ b ∧ b < m + 7) → M5 b = M b := fun b g1 g2 => (by rw [e5]; exact (up_a (by omega)).trans (hB b g1 g2))
    refine T_iconst (1) dX13_read_45 rfl rfl ?_
    refine T_iret rfl rfl dX13_read_46 ?_
    have ev : erV V S q' = 1 := if_neg z9
    have ea : erA V S q' = S q'.2.1 := if_neg z9
    exact ⟨by rw [ev], rfl, hTy, hB, ω1, ⟨hω9 90 0 (by decide), hω9 91 0 (by decide)⟩, fun q => absurd q (by rw [ev]; decide), fun _ => ⟨_, _, _, hM.rf, by rw [u2_f (by decide), hω 90 _ (by decide)], by rw [ea]; exact u2_s _ _ _ _⟩⟩
