theorem hasI_ii {n : Nat} (hn : n ≤ 999) (x : Int32) : hasI x (nI (n + 1)) = iiF x 0 (nI n) := by rw [← nI_m1a (n + 1) (by omega) x, nI_pred]
theorem RI.B {a b c : Nat} {ρ : RH} (h : RI a b c ρ) : RoadB b ρ := fun i hi => ⟨(h.1 i hi).2.2.1, (h.1 i hi).2.1, (h.1 i hi).2.2.2.1⟩
theorem FV.nx2 {τ : TY} {M0 M M1 : ME} {x r p r2 p2 n8 q s : Nat} {ω : RH} (h : FV τ M0 M x r p r2 p2 n8 ω) (e : Fr2 q s M M1) (hd : q + 30 ≤ x ∨ x + 1 ≤ q) (hd2 : s + 38 ≤ x ∨ x + 1 ≤ s) : FV τ M1 M1 x r p r2 p2 n8 ω := h.fr (fun b h1 h2 => e b (by omega) (by omega))
theorem LM.rf' {τ : TY} {M0 M : ME} {r a b c : Nat} {ρ : RH} {ν : NU} (h : LM τ M0 M r a b c ρ ν) : LM τ M M r a b c ρ ν := h.rf
set_option maxHeartbeats 1000000 in
theorem c_X10_count {l : Launch} {D : va_G} {cA : Nat → ClassId} {n0 : Nat} {sg adK adV : Nat → Nat} {sgA smA wdA bS LS : Nat} {xs : Nat → Int32} (hX : SF n0 (XW0 sg adK adV sgA smA wdA n0 bS LS xs)) (hl : l.stackTraces = false) {sz : Nat} {τ : TY} {N1 N2 M : ME} {x r p r2 p2 n8 a b c : Nat} {ω ρ : RH} {ν : NU} (hV : FV τ N1 M x r p r2 p2 n8 ω) (hR : LM τ N2 M r a b c ρ ν) (w : Int32) : CX l D cA n0 (XW0 sg adK adV sgA smA wdA n0 bS LS xs) mX10_count 7 1 6 sz τ M [.ref x, .int w] (fun v' sz' τ' M' => (v' = some (.int (cntF a b c n8 ρ w.toNatClampNeg)) ∧ ¬ iiF w 0 12 = 0) ∧ sz' = sz ∧ τ' = τ ∧ M' = M) (fun E sz' τ' M' => ((E = "java/lang/IndexOutOfBoundsException" ∧ iiF w 0 12 = 0)) ∧ sz ≤ sz' ∧ τ' = τ ∧ M' = M) := by
  refine CX.of (ls := [.ref x, .int w]) hl rfl ?_ (by decide) (Nat.le_of_ble_eq_true rfl) rfl ?_
  · intro q hq; exact absurd hq (List.not_mem_nil)
  obtain ⟨la, lb, lc⟩ := hR.ok
  refine T_iload1 dX10_count_0 rfl ?_
  refine T_bipush (13) dX10_count_1 rfl rfl ?_
  refine T_cXS2 (c_X10_checkIndex hX hl _ _) hX k10_81 (by decide) (Nat.le_of_ble_eq_true rfl) dX10_count_3 rfl ?_ (by
    rintro _ _ z2 _ _ ⟨rfl, rfl, rfl, rfl, h5⟩ hz
    exact ⟨⟨rfl, (hasI_ii (n := 12) (by omega) _).symm.trans h5⟩, hz, rfl, rfl⟩)
  rintro _ _ _ _ ⟨rfl, rfl, rfl, rfl, h1⟩
  rw [show (13 : Int32) = nI (12 + 1) from rfl, hasI_ii (by omega)] at h1
  have h0 := h1
  obtain ⟨j, hj, rfl⟩ := ii_nI (n := 12) (by omega) h1
  rw [nI_cl (by omega)]
  refine T_iload1 dX10_count_6 rfl ?_
  refine T_bipush (12) dX10_count_7 rfl rfl ?_
  refine T_icmp_ne 19 12 dX10_count_9 (by decide) rfl (fun c9 => ?_) (fun c9 => ?_)
  ·
    have c9 : j ≠ 12 := fun e => c9 (by rw [e]; rfl)
    refine T_aload0 dX10_count_19 rfl ?_
    refine g10_23 _ rfl (hV.t_x) (hV.g_r) dX10_count_20 rfl ?_
    refine T_iload1 dX10_count_23 rfl ?_
    refine T_cV1 (c_X6_total hX hR (by omega)) hX k10_85 (Or.inl ⟨_, _, _, _, hR.t, by decide, rfl⟩) (by decide) (Nat.le_of_ble_eq_true rfl) dX10_count_24 rfl ?_
    rintro _ _ _ _ ⟨rfl, rfl, rfl, rfl⟩
    refine T_iret rfl rfl dX10_count_27 ?_
    refine ⟨⟨congrArg (fun z => some (Value.int z)) ?_, h0⟩, rfl, rfl, rfl⟩
    unfold cntF
    first | (rw [if_neg c9]; done) | (rw [if_pos ((nI_eq (a := j) (b := 12) (by omega) (by omega)).mp c9)]; done)
  ·
    refine T_aload0 dX10_count_12 rfl ?_
    refine g10_13 _ rfl (hV.t_x) (hV.g_n) dX10_count_13 rfl ?_
    refine T_goto 27 dX10_count_16 (by decide) ?_
    refine T_iret rfl rfl dX10_count_27 ?_
    refine ⟨⟨congrArg (fun z => some (Value.int z)) ?_, h0⟩, rfl, rfl, rfl⟩
    unfold cntF
    first | (rw [if_neg c9]; done) | (rw [if_pos ((nI_eq (a := j) (b := 12) (by omega) (by omega)).mp c9)]; done)
set_option maxHeartbeats 1000000 in
theorem c_X10_stretch {l : Launch} {D : va_G} {cA : Nat → ClassId} {n0 : Nat} {sg adK adV : Nat → Nat} {sgA smA wdA bS LS : Nat} {xs : Nat → Int32} (hX : SF n0 (XW0 sg adK adV sgA smA wdA n0 bS LS xs)) (hl : l.stackTraces = false) {sz : Nat} {τ : TY} {N1 N2 M : ME} {x r p r2 p2 n8 a b c : Nat} {ω ρ : RH} {ν : NU} (hV : FV τ N1 M x r p r2 p2 n8 ω) (hR : LM τ N2 M r a b c ρ ν) (v w : Int32) : CX l D cA n0 (XW0 sg adK adV sgA smA wdA n0 bS LS xs) mX10_stretch 7 2 12 sz τ M [.ref x, .int v, .int w] (fun v' sz' τ' M' => (v' = some (.int (stF b c ρ v.toNatClampNeg w.toNatClampNeg)) ∧ ¬ hasI v (nI a) = 0 ∧ ¬ iiF w 0 4 = 0) ∧ sz' = sz ∧ τ' = τ ∧ M' = M) (fun E sz' τ' M' => ((E = "java/lang/IndexOutOfBoundsException" ∧ (hasI v (nI a) = 0 ∨ iiF w 0 4 = 0))) ∧ sz ≤ sz' ∧ τ' = τ ∧ M' = M) := by
  refine CX.of (ls := [.ref x, .int v, .int w]) hl rfl ?_ (by decide) (Nat.le_of_ble_eq_true rfl) rfl ?_
  · intro q hq; exact absurd hq (List.not_mem_nil)
  obtain ⟨la, lb, lc⟩ := hR.ok
  refine T_iload1 dX10_stretch_0 rfl ?_
  refine T_aload0 dX10_stretch_1 rfl ?_
  refine g10_23 _ rfl (hV.t_x) (hV.g_r) dX10_stretch_2 rfl ?_
  refine g10_89 _ rfl hR.t hR.r3 dX10_stretch_5 rfl ?_
  refine T_cXS2 (c_X10_checkIndex hX hl _ _) hX k10_81 (by decide) (Nat.le_of_ble_eq_true rfl) dX10_stretch_8 rfl ?_ (by
    rintro _ _ z2 _ _ ⟨rfl, rfl, rfl, rfl, h5⟩ hz
    exact ⟨⟨rfl, Or.inl h5⟩, hz, rfl, rfl⟩)
  rintro _ _ _ _ ⟨rfl, rfl, rfl, rfl, h1⟩
  have h0 := h1
  obtain ⟨i, hi, rfl⟩ := has_nI (by omega) h1
  rw [nI_cl (by omega)]
  refine T_iload2 dX10_stretch_11 rfl ?_
  refine T_iconst (5) dX10_stretch_12 rfl rfl ?_
  refine T_cXS2 (c_X10_checkIndex hX hl _ _) hX k10_81 (by decide) (Nat.le_of_ble_eq_true rfl) dX10_stretch_13 rfl ?_ (by
    rintro _ _ z2 _ _ ⟨rfl, rfl, rfl, rfl, h5⟩ hz
    exact ⟨⟨rfl, Or.inr ((hasI_ii (n := 4) (by omega) _).symm.trans h5)⟩, hz, rfl, rfl⟩)
  rintro _ _ _ _ ⟨rfl, rfl, rfl, rfl, h1⟩
  rw [show (5 : Int32) = nI (4 + 1) from rfl, hasI_ii (by omega)] at h1
  have h2 := h1
  obtain ⟨j, hj, rfl⟩ := ii_nI (n := 4) (by omega) h1
  rw [nI_cl (by omega)]
  refine T_aload0 dX10_stretch_16 rfl ?_
  refine g10_23 _ rfl (hV.t_x) (hV.g_r) dX10_stretch_17 rfl ?_
  refine T_iload1 dX10_stretch_20 rfl ?_
  refine T_iload2 dX10_stretch_21 rfl ?_
  refine T_cV2 (c_X6_stretchFact hX hR (by omega) (by omega)) hX k10_92 (Or.inl ⟨_, _, _, _, hR.t, by decide, rfl⟩) (by decide) (Nat.le_of_ble_eq_true rfl) dX10_stretch_22 rfl ?_
  rintro _ _ _ _ ⟨rfl, rfl, rfl, rfl⟩
  refine T_iret rfl rfl dX10_stretch_25 ?_
  exact ⟨⟨rfl, h0, h2⟩, rfl, rfl, rfl⟩
set_option maxHeartbeats 1000000 in
theorem c_X10_horse {l : Launch} {D : va_G} {cA : Nat → ClassId} {n0 : Nat} {sg adK adV : Nat → Nat} {sgA smA wdA bS LS : Nat} {xs : Nat → Int32} (hX : SF n0 (XW0 sg adK adV sgA smA wdA n0 bS LS xs)) (hl : l.stackTraces = false) {sz : Nat} {τ : TY} {N1 N2 M : ME} {x r p r2 p2 n8 a b c : Nat} {ω ρ : RH} {ν : NU} (hV : FV τ N1 M x r p r2 p2 n8 ω) (hR : LM τ N2 M r a b c ρ ν) (hi0 : RI a b c ρ) (v w : Int32) : CX l D cA n0 (XW0 sg adK adV sgA smA wdA n0 bS LS xs) mX10_horse 7 2 12 sz τ M [.ref x, .int v, .int w] (fun v' sz' τ' M' => (v' = some (.int (hsF c ρ v.toNatClampNeg w.toNatClampNeg)) ∧ ¬ hasI v (nI b) = 0 ∧ ¬ iiF w 0 9 = 0) ∧ sz' = sz ∧ τ' = τ ∧ M' = M) (fun E sz' τ' M' => ((E = "java/lang/IndexOutOfBoundsException" ∧ (hasI v (nI b) = 0 ∨ iiF w 0 9 = 0))) ∧ sz ≤ sz' ∧ τ' = τ ∧ M' = M) := by
  refine CX.of (ls := [.ref x, .int v, .int w]) hl rfl ?_ (by decide) (Nat.le_of_ble_eq_true rfl) rfl ?_
  · intro q hq; exact absurd hq (List.not_mem_nil)
  obtain ⟨la, lb, lc⟩ := hR.ok
  refine T_iload1 dX10_horse_0 rfl ?_
  refine T_aload0 dX10_horse_1 rfl ?_
  refine g10_23 _ rfl (hV.t_x) (hV.g_r) dX10_horse_2 rfl ?_
  refine g10_96 _ rfl hR.t hR.r4 dX10_horse_5 rfl ?_
  refine T_cXS2 (c_X10_checkIndex hX hl _ _) hX k10_81 (by decide) (Nat.le_of_ble_eq_true rfl) dX10_horse_8 rfl ?_ (by
    rintro _ _ z2 _ _ ⟨rfl, rfl, rfl, rfl, h5⟩ hz
    exact ⟨⟨rfl, Or.inl h5⟩, hz, rfl, rfl⟩)
  rintro _ _ _ _ ⟨rfl, rfl, rfl, rfl, h1⟩
  have h0 := h1
  obtain ⟨i, hi, rfl⟩ := has_nI (by omega) h1
  rw [nI_cl (by omega)]
  refine T_iload2 dX10_horse_11 rfl ?_
  refine T_bipush (10) dX10_horse_12 rfl rfl ?_
  refine T_cXS2 (c_X10_checkIndex hX hl _ _) hX k10_81 (by decide) (Nat.le_of_ble_eq_true rfl) dX10_horse_14 rfl ?_ (by
    rintro _ _ z2 _ _ ⟨rfl, rfl, rfl, rfl, h5⟩ hz
    exact ⟨⟨rfl, Or.inr ((hasI_ii (n := 9) (by omega) _).symm.trans h5)⟩, hz, rfl, rfl⟩)
  rintro _ _ _ _ ⟨rfl, rfl, rfl, rfl, h1⟩
  rw [show (10 : Int32) = nI (9 + 1) from rfl, hasI_ii (by omega)] at h1
  have h2 := h1
  obtain ⟨j, hj, rfl⟩ := ii_nI (n := 9) (by omega) h1
  rw [nI_cl (by omega)]
  refine T_aload0 dX10_horse_17 rfl ?_
  refine g10_23 _ rfl (hV.t_x) (hV.g_r) dX10_horse_18 rfl ?_
  refine T_iload1 dX10_horse_21 rfl ?_
  refine T_iload2 dX10_horse_22 rfl ?_
  refine T_cV2 (c_X6_horseFact hX hR hi0.B (by omega) (by omega)) hX k10_99 (Or.inl ⟨_, _, _, _, hR.t, by decide, rfl⟩) (by decide) (Nat.le_of_ble_eq_true rfl) dX10_horse_23 rfl ?_
  rintro _ _ _ _ ⟨rfl, rfl, rfl, rfl⟩
  refine T_iret rfl rfl dX10_horse_26 ?_
  exact ⟨⟨rfl, h0, h2⟩, rfl, rfl, rfl⟩
set_option maxHeartbeats 1000000 in
theorem c_X10_log {l : Launch} {D : va_G} {cA : Nat → ClassId} {n0 : Nat} {sg adK adV : Nat → Nat} {sgA smA wdA bS LS : Nat} {xs : Nat → Int32} (hX : SF n0 (XW0 sg adK adV sgA smA wdA n0 bS LS xs)) (hl : l.stackTraces = false) {sz : Nat} {τ : TY} {N1 N2 M : ME} {x r p r2 p2 n8 a b c : Nat} {ω ρ : RH} {ν : NU} (hV : FV τ N1 M x r p r2 p2 n8 ω) (hR : LM τ N2 M r a b c ρ ν) (v w : Int32) : CX l D cA n0 (XW0 sg adK adV sgA smA wdA n0 bS LS xs) mX10_log 7 2 12 sz τ M [.ref x, .int v, .int w] (fun v' sz' τ' M' => (v' = some (.int (lgF ρ v.toNatClampNeg w.toNatClampNeg)) ∧ ¬ hasI v (nI c) = 0 ∧ ¬ iiF w 0 3 = 0) ∧ sz' = sz ∧ τ' = τ ∧ M' = M) (fun E sz' τ' M' => ((E = "java/lang/IndexOutOfBoundsException" ∧ (hasI v (nI c) = 0 ∨ iiF w 0 3 = 0))) ∧ sz ≤ sz' ∧ τ' = τ ∧ M' = M) := by
  refine CX.of (ls := [.ref x, .int v, .int w]) hl rfl ?_ (by decide) (Nat.le_of_ble_eq_true rfl) rfl ?_
  · intro q hq; exact absurd hq (List.not_mem_nil)
  obtain ⟨la, lb, lc⟩ := hR.ok
  refine T_iload1 dX10_log_0 rfl ?_
  refine T_aload0 dX10_log_1 rfl ?_
  refine g10_23 _ rfl (hV.t_x) (hV.g_r) dX10_log_2 rfl ?_
  refine g10_102 _ rfl hR.t hR.r5 dX10_log_5 rfl ?_
  refine T_cXS2 (c_X10_checkIndex hX hl _ _) hX k10_81 (by decide) (Nat.le_of_ble_eq_true rfl) dX10_log_8 rfl ?_ (by
    rintro _ _ z2 _ _ ⟨rfl, rfl, rfl, rfl, h5⟩ hz
    exact ⟨⟨rfl, Or.inl h5⟩, hz, rfl, rfl⟩)
  rintro _ _ _ _ ⟨rfl, rfl, rfl, rfl, h1⟩
  have h0 := h1
  obtain ⟨i, hi, rfl⟩ := has_nI (by omega) h1
  rw [nI_cl (by omega)]
  refine T_iload2 dX10_log_11 rfl ?_
  refine T_iconst (4) dX10_log_12 rfl rfl ?_
  refine T_cXS2 (c_X10_checkIndex hX hl _ _) hX k10_81 (by decide) (Nat.le_of_ble_eq_true rfl) dX10_log_13 rfl ?_ (by
    rintro _ _ z2 _ _ ⟨rfl, rfl, rfl, rfl, h5⟩ hz
    exact ⟨⟨rfl, Or.inr ((hasI_ii (n := 3) (by omega) _).symm.trans h5)⟩, hz, rfl, rfl⟩)
  rintro _ _ _ _ ⟨rfl, rfl, rfl, rfl, h1⟩
  rw [show (4 : Int32) = nI (3 + 1) from rfl, hasI_ii (by omega)] at h1
  have h2 := h1
  obtain ⟨j, hj, rfl⟩ := ii_nI (n := 3) (by omega) h1
  rw [nI_cl (by omega)]
  refine T_aload0 dX10_log_16 rfl ?_
  refine g10_23 _ rfl (hV.t_x) (hV.g_r) dX10_log_17 rfl ?_
  refine T_iload1 dX10_log_20 rfl ?_
  refine T_iload2 dX10_log_21 rfl ?_
  refine T_cV2 (c_X6_logFact hX hR (by omega) (by omega)) hX k10_105 (Or.inl ⟨_, _, _, _, hR.t, by decide, rfl⟩) (by decide) (Nat.le_of_ble_eq_true rfl) dX10_log_22 rfl ?_
  rintro _ _ _ _ ⟨rfl, rfl, rfl, rfl⟩
  refine T_iret rfl rfl dX10_log_25 ?_
  exact ⟨⟨rfl, h0, h2⟩, rfl, rfl, rfl⟩
set_option maxHeartbeats 1000000 in
theorem c_X10_needs {l : Launch} {D : va_G} {cA : Nat → ClassId} {n0 : Nat} {sg adK adV : Nat → Nat} {sgA smA wdA bS LS : Nat} {xs : Nat → Int32} (hX : SF n0 (XW0 sg adK adV sgA smA wdA n0 bS LS xs)) (hl : l.stackTraces = false) {sz : Nat} {τ : TY} {N1 N2 M : ME} {x r p r2 p2 n8 a b c : Nat} {ω ρ : RH} {ν : NU} (hV : FV τ N1 M x r p r2 p2 n8 ω) (hR : LM τ N2 M r a b c ρ ν) (v w : Int32) : CX l D cA n0 (XW0 sg adK adV sgA smA wdA n0 bS LS xs) mX10_needs 7 2 12 sz τ M [.ref x, .int v, .int w] (fun v' sz' τ' M' => (v' = some (.int (needF c ρ v w.toNatClampNeg)) ∧ ¬ hasI v (nI b) = 0 ∧ ¬ hasI w (nI a) = 0) ∧ sz' = sz ∧ τ' = τ ∧ M' = M) (fun E sz' τ' M' => ((E = "java/lang/IndexOutOfBoundsException" ∧ (hasI v (nI b) = 0 ∨ hasI w (nI a) = 0))) ∧ sz ≤ sz' ∧ τ' = τ ∧ M' = M) := by
  refine CX.of (ls := [.ref x, .int v, .int w]) hl rfl ?_ (by decide) (Nat.le_of_ble_eq_true rfl) rfl ?_
  · intro q hq; exact absurd hq (List.not_mem_nil)
  obtain ⟨la, lb, lc⟩ := hR.ok
  refine T_iload1 dX10_needs_0 rfl ?_
  refine T_aload0 dX10_needs_1 rfl ?_
  refine g10_23 _ rfl (hV.t_x) (hV.g_r) dX10_needs_2 rfl ?_
  refine g10_96 _ rfl hR.t hR.r4 dX10_needs_5 rfl ?_
  refine T_cXS2 (c_X10_checkIndex hX hl _ _) hX k10_81 (by decide) (Nat.le_of_ble_eq_true rfl) dX10_needs_8 rfl ?_ (by
    rintro _ _ z2 _ _ ⟨rfl, rfl, rfl, rfl, h5⟩ hz
    exact ⟨⟨rfl, Or.inl h5⟩, hz, rfl, rfl⟩)
  rintro _ _ _ _ ⟨rfl, rfl, rfl, rfl, h1⟩
  have h0 := h1
  refine T_iload2 dX10_needs_11 rfl ?_
  refine T_aload0 dX10_needs_12 rfl ?_
  refine g10_23 _ rfl (hV.t_x) (hV.g_r) dX10_needs_13 rfl ?_
  refine g10_89 _ rfl hR.t hR.r3 dX10_needs_16 rfl ?_
  refine T_cXS2 (c_X10_checkIndex hX hl _ _) hX k10_81 (by decide) (Nat.le_of_ble_eq_true rfl) dX10_needs_19 rfl ?_ (by
    rintro _ _ z2 _ _ ⟨rfl, rfl, rfl, rfl, h5⟩ hz
    exact ⟨⟨rfl, Or.inr h5⟩, hz, rfl, rfl⟩)
  rintro _ _ _ _ ⟨rfl, rfl, rfl, rfl, h1⟩
  have h2 := h1
  obtain ⟨j, hj, rfl⟩ := has_nI (by omega) h1
  rw [nI_cl (by omega)]
  refine T_aload0 dX10_needs_22 rfl ?_
  refine g10_23 _ rfl (hV.t_x) (hV.g_r) dX10_needs_23 rfl ?_
  refine T_iload1 dX10_needs_26 rfl ?_
  refine T_iload2 dX10_needs_27 rfl ?_
  refine T_cV2 (c_X6_need hX hR _ (by omega)) hX k10_108 (Or.inl ⟨_, _, _, _, hR.t, by decide, rfl⟩) (by decide) (Nat.le_of_ble_eq_true rfl) dX10_needs_28 rfl ?_
  rintro _ _ _ _ ⟨rfl, rfl, rfl, rfl⟩
  refine T_iret rfl rfl dX10_needs_31 ?_
  exact ⟨⟨rfl, h0, h2⟩, rfl, rfl, rfl⟩
set_option maxHeartbeats 1000000 in
theorem c_X10_mean {l : Launch} {D : va_G} {cA : Nat → ClassId} {n0 : Nat} {sg adK adV : Nat → Nat} {sgA smA wdA bS LS : Nat} {xs : Nat → Int32} (hX : SF n0 (XW0 sg adK adV sgA smA wdA n0 bS LS xs)) {sz : Nat} {τ : TY} {N1 N2 M : ME} {x r p r2 p2 n8 a b c : Nat} {ω ρ : RH} {ν : NU} (hV : FV τ N1 M x r p r2 p2 n8 ω) (hR : LM τ N2 M r a b c ρ ν) (hi0 : RI a b c ρ) : CT l D cA n0 (XW0 sg adK adV sgA smA wdA n0 bS LS xs) mX10_mean 2 0 0 sz τ M [.ref x] (fun v' sz' τ' M' => v' = some (.double (meF c ρ)) ∧ sz' = sz ∧ τ' = τ ∧ M' = M) := by
  refine CT.of (ls := [.ref x, UU]) (by decide) (Nat.le_of_ble_eq_true rfl) rfl ?_
  obtain ⟨la, lb, lc⟩ := hR.ok
  obtain ⟨n, w9, n1, n2, n3, n4⟩ := wn_60 hi0.2
  refine T_aload0 dX10_mean_0 rfl ?_
  refine g10_23 _ rfl (hV.t_x) (hV.g_r) dX10_mean_1 rfl ?_
  refine T_iconst (3) dX10_mean_4 rfl rfl ?_
  refine T_cV1 (c_X6_logsIn hX hR _) hX k10_137 (Or.inl ⟨_, _, _, _, hR.t, by decide, rfl⟩) (by decide) (Nat.le_of_ble_eq_true rfl) dX10_mean_5 rfl ?_
  rintro _ _ _ _ ⟨rfl, rfl, rfl, rfl⟩
  refine T_istore1 rfl (by decide) dX10_mean_8 rfl ?_
  refine T_iload1 dX10_mean_9 rfl ?_
  have n5 : ∀ q : nOf c ρ 3 ≤ 0, nOf c ρ 3 = 0 := fun q => by rw [n3] at q ⊢; have := (nI_leI (a := n) (b := 0) (by omega) (by omega)).mp q; rw [Nat.le_zero.mp this]; rfl
  refine T_if_le 28 13 dX10_mean_10 (by decide) rfl (fun c10 => ?_) (fun c10 => ?_)
  ·
    refine T_dconst0 dX10_mean_28 rfl ?_
    refine T_dret rfl dX10_mean_29 ?_
    refine ⟨congrArg (fun z => some (Value.double z)) ?_, rfl, rfl, rfl⟩
    unfold meF
    first | (rw [if_neg c10]; done) | (rw [if_pos (n5 c10)]; done)
  ·
    have c10 : ¬ nOf c ρ 3 = 0 := fun q => c10 (by rw [q]; decide)
    refine T_aload0 dX10_mean_13 rfl ?_
    refine g10_23 _ rfl (hV.t_x) (hV.g_r) dX10_mean_14 rfl ?_
    refine T_iconst (3) dX10_mean_17 rfl rfl ?_
    refine T_cV1 (c_X6_weightOf hX hR _) hX k10_119 (Or.inl ⟨_, _, _, _, hR.t, by decide, rfl⟩) (by decide) (Nat.le_of_ble_eq_true rfl) dX10_mean_18 rfl ?_
    rintro _ _ _ _ ⟨rfl, rfl, rfl, rfl⟩
    refine T_i2d dX10_mean_21 rfl ?_
    refine T_iload1 dX10_mean_22 rfl ?_
    refine T_i2d dX10_mean_23 rfl ?_
    refine T_ddiv dX10_mean_24 rfl (me_ok lc hi0.2 c10) ?_
    refine T_goto 29 dX10_mean_25 (by decide) ?_
    refine T_dret rfl dX10_mean_29 ?_
    refine ⟨congrArg (fun z => some (Value.double z)) ?_, rfl, rfl, rfl⟩
    unfold meF
    first | (rw [if_neg c10]; done) | (rw [if_pos (n5 c10)]; done)

