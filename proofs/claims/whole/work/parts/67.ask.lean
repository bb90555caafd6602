set_option maxHeartbeats 1000000 in
theorem c_X13_count {l : Launch} {D : va_G} {cA : Nat → ClassId} {n0 : Nat} {sg adK adV : Nat → Nat} {sgA smA wdA bS LS : Nat} {xs : Nat → Int32} (hX : SF n0 (XW0 sg adK adV sgA smA wdA n0 bS LS xs)) {sz : Nat} {τ : TY} {N1 N2 M : ME} {m y z n8 tk dp a b c hc wc sn : Nat} {B : Nat → Nat} {ω ρ π : RH} {σ : Nat → Nat} {μ κ : Nat → Int32} (hM : MV τ N1 M m y z (m + 26) (m + 40) n8 tk dp B ω) (hS : SL τ N2 M (m + 26) a b c ρ m μ κ) (hW : WN τ M m y (m + 26) a b c hc wc sn ρ π σ) (hL : y = m + 7 ∨ m + 54 ≤ y) (x : Int32) : CT l D cA n0 (XW0 sg adK adV sgA smA wdA n0 bS LS xs) mX13_count 4 1 13 sz τ M [.ref m, .int x] (fun v' sz' τ' M' => (iiF x 0 12 = 0 → v' = some (.int (0)) ∧ TH τ M m sz sz' τ' M' (1)) ∧ (¬ iiF x 0 12 = 0 → v' = some (.int (cntF a b c n8 ρ x.toNatClampNeg)) ∧ TH τ M m sz sz' τ' M' (0))) := by
  refine CT.of (ls := [.ref m, .int x]) (by decide) (Nat.le_of_ble_eq_true rfl) rfl ?_
  refine T_szb (fun hz => ?_)
  have z1 := hM.hi hz
  have hm : m < sz := by omega
  obtain ⟨l3, l4, l5, l6, l7, l8⟩ := hW.ok
  refine T_aload0 dX13_count_0 rfl ?_
  refine T_iconst (0) dX13_count_1 rfl rfl ?_
  refine p13_57 rfl (hM.t_m) dX13_count_2 rfl ?_
  refine T_nm (fun M1 e1 => ?_)
  have hM := MV.mv hM.p_th e1
  have hS := hS.frU e1 (by omega)
  have hW := hW.frV e1 (by omega)
  refine T_iload1 dX13_count_5 rfl ?_
  refine T_iconst (0) dX13_count_6 rfl rfl ?_
  refine T_bipush (12) dX13_count_7 rfl rfl ?_
  refine T_cS3 (c_X13_isIn hX _ _ _) hX k13_63 (by decide) (Nat.le_of_ble_eq_true rfl) dX13_count_9 rfl ?_
  rintro _ _ _ _ ⟨rfl, rfl, rfl, rfl⟩
  refine T_if_eq 23 15 dX13_count_12 (by decide) rfl (fun c12 => ?_) (fun c12 => ?_)
  ·
    refine T_aload0 dX13_count_23 rfl ?_
    refine T_iconst (1) dX13_count_24 rfl rfl ?_
    refine T_cV1 (c_X13_no hX hM.t_m _) hX k13_291 (Or.inl ⟨_, _, _, _, (hM.t_m), by decide, rfl⟩) (by decide) (Nat.le_of_ble_eq_true rfl) dX13_count_25 rfl ?_
    rintro _ _ _ M9 ⟨rfl, rfl, rfl, e9⟩
    refine T_iret rfl rfl dX13_count_28 ?_
    first
      | exact ⟨fun _ => ⟨rfl, TH.c e1 e9⟩, fun q => absurd c12 q⟩
      | exact ⟨fun q => absurd q c12, fun _ => ⟨by rw [nI_cl (by omega)], TH.a e1 hm hT hK⟩⟩
  ·
    obtain ⟨j, hj, rfl⟩ := ii_nI (n := 12) (by omega) c12
    refine T_aload0 dX13_count_15 rfl ?_
    refine T_iload1 dX13_count_16 rfl ?_
    refine T_cV1 (c_X13_counted hX hM hS hW hL (by omega)) hX k13_315 (Or.inl ⟨_, _, _, _, (hM.t_m), by decide, rfl⟩) (by decide) (Nat.le_of_ble_eq_true rfl) dX13_count_17 rfl ?_
    rintro _ _ _ M9 ⟨rfl, rfl, hT, hK⟩
    refine T_goto 28 dX13_count_20 (by decide) ?_
    refine T_iret rfl rfl dX13_count_28 ?_
    first
      | exact ⟨fun _ => ⟨rfl, TH.c e1 e9⟩, fun q => absurd c12 q⟩
      | exact ⟨fun q => absurd q c12, fun _ => ⟨by rw [nI_cl (by omega)], TH.a e1 hm hT hK⟩⟩
set_option maxHeartbeats 1000000 in
theorem c_X13_stretch {l : Launch} {D : va_G} {cA : Nat → ClassId} {n0 : Nat} {sg adK adV : Nat → Nat} {sgA smA wdA bS LS : Nat} {xs : Nat → Int32} (hX : SF n0 (XW0 sg adK adV sgA smA wdA n0 bS LS xs)) {sz : Nat} {τ : TY} {N1 N2 M : ME} {m y z n8 tk dp a b c hc wc sn : Nat} {B : Nat → Nat} {ω ρ π : RH} {σ : Nat → Nat} {μ κ : Nat → Int32} (hM : MV τ N1 M m y z (m + 26) (m + 40) n8 tk dp B ω) (hS : SL τ N2 M (m + 26) a b c ρ m μ κ) (hW : WN τ M m y (m + 26) a b c hc wc sn ρ π σ) (hL : y = m + 7 ∨ m + 54 ≤ y) (x w : Int32) : CT l D cA n0 (XW0 sg adK adV sgA smA wdA n0 bS LS xs) mX13_stretch 4 1 5 sz τ M [.ref m, .int x, .int w] (fun v' sz' τ' M' => (hasI x (nI a) = 0 ∨ iiF w 0 4 = 0 → v' = some (.int (0)) ∧ TH τ M m sz sz' τ' M' (1)) ∧ (¬ hasI x (nI a) = 0 ∧ ¬ iiF w 0 4 = 0 → v' = some (.int (stF b c ρ x.toNatClampNeg w.toNatClampNeg)) ∧ TH τ M m sz sz' τ' M' (0))) := by
  refine CT.of (ls := [.ref m, .int x, .int w]) (by decide) (Nat.le_of_ble_eq_true rfl) rfl ?_
  refine T_szb (fun hz => ?_)
  have z1 := hM.hi hz
  have hm : m < sz := by omega
  obtain ⟨l3, l4, l5, l6, l7, l8⟩ := hW.ok
  refine T_aload0 dX13_stretch_0 rfl ?_
  refine T_iconst (0) dX13_stretch_1 rfl rfl ?_
  refine p13_57 rfl (hM.t_m) dX13_stretch_2 rfl ?_
  refine T_nm (fun M1 e1 => ?_)
  have hM := MV.mv hM.p_th e1
  have hS := hS.frU e1 (by omega)
  have hW := hW.frV e1 (by omega)
  refine T_aload0 dX13_stretch_5 rfl ?_
  refine T_iload1 dX13_stretch_6 rfl ?_
  refine T_cV1 (c_X13_isStretch hX hM hS hW hL _) hX k13_319 (Or.inl ⟨_, _, _, _, (hM.t_m), by decide, rfl⟩) (by decide) (Nat.le_of_ble_eq_true rfl) dX13_stretch_7 rfl ?_
  rintro _ _ _ _ ⟨rfl, rfl, rfl, rfl⟩
  refine T_if_eq 31 13 dX13_stretch_10 (by decide) rfl (fun c10 => ?_) (fun c10 => ?_)
  ·
    refine T_aload0 dX13_stretch_31 rfl ?_
    refine T_iconst (1) dX13_stretch_32 rfl rfl ?_
    refine T_cV1 (c_X13_no hX hM.t_m _) hX k13_291 (Or.inl ⟨_, _, _, _, (hM.t_m), by decide, rfl⟩) (by decide) (Nat.le_of_ble_eq_true rfl) dX13_stretch_33 rfl ?_
    rintro _ _ _ M9 ⟨rfl, rfl, rfl, e9⟩
    refine T_iret rfl rfl dX13_stretch_36 ?_
    first
      | exact ⟨fun _ => ⟨rfl, TH.c e1 e9⟩, fun q => absurd c10 q.1⟩
      | exact ⟨fun _ => ⟨rfl, TH.c e1 e9⟩, fun q => absurd c19 q.2⟩
      | exact ⟨fun q => q.elim (fun z => absurd z c10) (fun z => absurd z c19), fun _ => ⟨by rw [nI_cl (by omega), nI_cl (by omega)], TH.a e1 hm hT hK⟩⟩
  ·
    obtain ⟨i, hi, rfl⟩ := has_nI (by omega) c10
    refine T_iload2 dX13_stretch_13 rfl ?_
    refine T_iconst (0) dX13_stretch_14 rfl rfl ?_
    refine T_iconst (4) dX13_stretch_15 rfl rfl ?_
    refine T_cS3 (c_X13_isIn hX _ _ _) hX k13_63 (by decide) (Nat.le_of_ble_eq_true rfl) dX13_stretch_16 rfl ?_
    rintro _ _ _ _ ⟨rfl, rfl, rfl, rfl⟩
    refine T_if_eq 31 22 dX13_stretch_19 (by decide) rfl (fun c19 => ?_) (fun c19 => ?_)
    ·
      refine T_aload0 dX13_stretch_31 rfl ?_
      refine T_iconst (1) dX13_stretch_32 rfl rfl ?_
      refine T_cV1 (c_X13_no hX hM.t_m _) hX k13_291 (Or.inl ⟨_, _, _, _, (hM.t_m), by decide, rfl⟩) (by decide) (Nat.le_of_ble_eq_true rfl) dX13_stretch_33 rfl ?_
      rintro _ _ _ M9 ⟨rfl, rfl, rfl, e9⟩
      refine T_iret rfl rfl dX13_stretch_36 ?_
      first
        | exact ⟨fun _ => ⟨rfl, TH.c e1 e9⟩, fun q => absurd c10 q.1⟩
        | exact ⟨fun _ => ⟨rfl, TH.c e1 e9⟩, fun q => absurd c19 q.2⟩
        | exact ⟨fun q => q.elim (fun z => absurd z c10) (fun z => absurd z c19), fun _ => ⟨by rw [nI_cl (by omega), nI_cl (by omega)], TH.a e1 hm hT hK⟩⟩
    ·
      obtain ⟨j, hj, rfl⟩ := ii_nI (n := 4) (by omega) c19
      refine T_aload0 dX13_stretch_22 rfl ?_
      refine T_iload1 dX13_stretch_23 rfl ?_
      refine T_iload2 dX13_stretch_24 rfl ?_
      refine T_cV2 (c_X13_stretchTold hX hM hS hW hL hi (by omega)) hX k13_322 (Or.inl ⟨_, _, _, _, (hM.t_m), by decide, rfl⟩) (by decide) (Nat.le_of_ble_eq_true rfl) dX13_stretch_25 rfl ?_
      rintro _ _ _ M9 ⟨rfl, rfl, hT, hK⟩
      refine T_goto 36 dX13_stretch_28 (by decide) ?_
      refine T_iret rfl rfl dX13_stretch_36 ?_
      first
        | exact ⟨fun _ => ⟨rfl, TH.c e1 e9⟩, fun q => absurd c10 q.1⟩
        | exact ⟨fun _ => ⟨rfl, TH.c e1 e9⟩, fun q => absurd c19 q.2⟩
        | exact ⟨fun q => q.elim (fun z => absurd z c10) (fun z => absurd z c19), fun _ => ⟨by rw [nI_cl (by omega), nI_cl (by omega)], TH.a e1 hm hT hK⟩⟩
set_option maxHeartbeats 1000000 in
theorem c_X13_horse {l : Launch} {D : va_G} {cA : Nat → ClassId} {n0 : Nat} {sg adK adV : Nat → Nat} {sgA smA wdA bS LS : Nat} {xs : Nat → Int32} (hX : SF n0 (XW0 sg adK adV sgA smA wdA n0 bS LS xs)) {sz : Nat} {τ : TY} {N1 N2 M : ME} {m y z n8 tk dp a b c hc wc sn : Nat} {B : Nat → Nat} {ω ρ π : RH} {σ : Nat → Nat} {μ κ : Nat → Int32} (hM : MV τ N1 M m y z (m + 26) (m + 40) n8 tk dp B ω) (hS : SL τ N2 M (m + 26) a b c ρ m μ κ) (hW : WN τ M m y (m + 26) a b c hc wc sn ρ π σ) (hL : y = m + 7 ∨ m + 54 ≤ y) (x w : Int32) : CT l D cA n0 (XW0 sg adK adV sgA smA wdA n0 bS LS xs) mX13_horse 4 1 10 sz τ M [.ref m, .int x, .int w] (fun v' sz' τ' M' => (hasI x (nI b) = 0 ∨ iiF w 0 9 = 0 → v' = some (.int (0)) ∧ TH τ M m sz sz' τ' M' (1)) ∧ (¬ hasI x (nI b) = 0 ∧ ¬ iiF w 0 9 = 0 → v' = some (.int (hsF c ρ x.toNatClampNeg w.toNatClampNeg)) ∧ TH τ M m sz sz' τ' M' (0))) := by
  refine CT.of (ls := [.ref m, .int x, .int w]) (by decide) (Nat.le_of_ble_eq_true rfl) rfl ?_
  refine T_szb (fun hz => ?_)
  have z1 := hM.hi hz
  have hm : m < sz := by omega
  obtain ⟨l3, l4, l5, l6, l7, l8⟩ := hW.ok
  refine T_aload0 dX13_horse_0 rfl ?_
  refine T_iconst (0) dX13_horse_1 rfl rfl ?_
  refine p13_57 rfl (hM.t_m) dX13_horse_2 rfl ?_
  refine T_nm (fun M1 e1 => ?_)
  have hM := MV.mv hM.p_th e1
  have hS := hS.frU e1 (by omega)
  have hW := hW.frV e1 (by omega)
  refine T_aload0 dX13_horse_5 rfl ?_
  refine T_iload1 dX13_horse_6 rfl ?_
  refine T_cV1 (c_X13_isHorse hX hM hS hW hL _) hX k13_341 (Or.inl ⟨_, _, _, _, (hM.t_m), by decide, rfl⟩) (by decide) (Nat.le_of_ble_eq_true rfl) dX13_horse_7 rfl ?_
  rintro _ _ _ _ ⟨rfl, rfl, rfl, rfl⟩
  refine T_if_eq 32 13 dX13_horse_10 (by decide) rfl (fun c10 => ?_) (fun c10 => ?_)
  ·
    refine T_aload0 dX13_horse_32 rfl ?_
    refine T_iconst (1) dX13_horse_33 rfl rfl ?_
    refine T_cV1 (c_X13_no hX hM.t_m _) hX k13_291 (Or.inl ⟨_, _, _, _, (hM.t_m), by decide, rfl⟩) (by decide) (Nat.le_of_ble_eq_true rfl) dX13_horse_34 rfl ?_
    rintro _ _ _ M9 ⟨rfl, rfl, rfl, e9⟩
    refine T_iret rfl rfl dX13_horse_37 ?_
    first
      | exact ⟨fun _ => ⟨rfl, TH.c e1 e9⟩, fun q => absurd c10 q.1⟩
      | exact ⟨fun _ => ⟨rfl, TH.c e1 e9⟩, fun q => absurd c19 q.2⟩
      | exact ⟨fun q => q.elim (fun z => absurd z c10) (fun z => absurd z c19), fun _ => ⟨by rw [nI_cl (by omega), nI_cl (by omega)], TH.a e1 hm hT hK⟩⟩
  ·
    obtain ⟨i, hi, rfl⟩ := has_nI (by omega) c10
    refine T_iload2 dX13_horse_13 rfl ?_
    refine T_iconst (0) dX13_horse_14 rfl rfl ?_
    refine T_bipush (9) dX13_horse_15 rfl rfl ?_
    refine T_cS3 (c_X13_isIn hX _ _ _) hX k13_63 (by decide) (Nat.le_of_ble_eq_true rfl) dX13_horse_17 rfl ?_
    rintro _ _ _ _ ⟨rfl, rfl, rfl, rfl⟩
    refine T_if_eq 32 23 dX13_horse_20 (by decide) rfl (fun c19 => ?_) (fun c19 => ?_)
    ·
      refine T_aload0 dX13_horse_32 rfl ?_
      refine T_iconst (1) dX13_horse_33 rfl rfl ?_
      refine T_cV1 (c_X13_no hX hM.t_m _) hX k13_291 (Or.inl ⟨_, _, _, _, (hM.t_m), by decide, rfl⟩) (by decide) (Nat.le_of_ble_eq_true rfl) dX13_horse_34 rfl ?_
      rintro _ _ _ M9 ⟨rfl, rfl, rfl, e9⟩
      refine T_iret rfl rfl dX13_horse_37 ?_
      first
        | exact ⟨fun _ => ⟨rfl, TH.c e1 e9⟩, fun q => absurd c10 q.1⟩
        | exact ⟨fun _ => ⟨rfl, TH.c e1 e9⟩, fun q => absurd c19 q.2⟩
        | exact ⟨fun q => q.elim (fun z => absurd z c10) (fun z => absurd z c19), fun _ => ⟨by rw [nI_cl (by omega), nI_cl (by omega)], TH.a e1 hm hT hK⟩⟩
    ·
      obtain ⟨j, hj, rfl⟩ := ii_nI (n := 9) (by omega) c19
      refine T_aload0 dX13_horse_23 rfl ?_
      refine T_iload1 dX13_horse_24 rfl ?_
      refine T_iload2 dX13_horse_25 rfl ?_
      refine T_cV2 (c_X13_horseTold hX hM hS hW hL hi (by omega)) hX k13_344 (Or.inl ⟨_, _, _, _, (hM.t_m), by decide, rfl⟩) (by decide) (Nat.le_of_ble_eq_true rfl) dX13_horse_26 rfl ?_
      rintro _ _ _ M9 ⟨rfl, rfl, hT, hK⟩
      refine T_goto 37 dX13_horse_29 (by decide) ?_
      refine T_iret rfl rfl dX13_horse_37 ?_
      first
        | exact ⟨fun _ => ⟨rfl, TH.c e1 e9⟩, fun q => absurd c10 q.1⟩
        | exact ⟨fun _ => ⟨rfl, TH.c e1 e9⟩, fun q => absurd c19 q.2⟩
        | exact ⟨fun q => q.elim (fun z => absurd z c10) (fun z => absurd z c19), fun _ => ⟨by rw [nI_cl (by omega), nI_cl (by omega)], TH.a e1 hm hT hK⟩⟩
set_option maxHeartbeats 1000000 in
theorem c_X13_log {l : Launch} {D : va_G} {cA : Nat → ClassId} {n0 : Nat} {sg adK adV : Nat → Nat} {sgA smA wdA bS LS : Nat} {xs : Nat → Int32} (hX : SF n0 (XW0 sg adK adV sgA smA wdA n0 bS LS xs)) {sz : Nat} {τ : TY} {N1 N2 M : ME} {m y z n8 tk dp a b c hc wc sn : Nat} {B : Nat → Nat} {ω ρ π : RH} {σ : Nat → Nat} {μ κ : Nat → Int32} (hM : MV τ N1 M m y z (m + 26) (m + 40) n8 tk dp B ω) (hS : SL τ N2 M (m + 26) a b c ρ m μ κ) (hW : WN τ M m y (m + 26) a b c hc wc sn ρ π σ) (hL : y = m + 7 ∨ m + 54 ≤ y) (x w : Int32) : CT l D cA n0 (XW0 sg adK adV sgA smA wdA n0 bS LS xs) mX13_log 3 0 0 sz τ M [.ref m, .int x, .int w] (fun v' sz' τ' M' => (hasI x (nI c) = 0 ∨ iiF w 0 3 = 0 → v' = some (.int (0)) ∧ TH τ M m sz sz' τ' M' (1)) ∧ (¬ hasI x (nI c) = 0 ∧ ¬ iiF w 0 3 = 0 → v' = some (.int (lgF ρ x.toNatClampNeg w.toNatClampNeg)) ∧ TH τ M m sz sz' τ' M' (0))) := by
  refine CT.of (ls := [.ref m, .int x, .int w]) (by decide) (Nat.le_of_ble_eq_true rfl) rfl ?_
  refine T_szb (fun hz => ?_)
  have z1 := hM.hi hz
  have hm : m < sz := by omega
  obtain ⟨l3, l4, l5, l6, l7, l8⟩ := hW.ok
  refine T_aload0 dX13_log_0 rfl ?_
  refine T_iconst (0) dX13_log_1 rfl rfl ?_
  refine p13_57 rfl (hM.t_m) dX13_log_2 rfl ?_
  refine T_nm (fun M1 e1 => ?_)
  have hM := MV.mv hM.p_th e1
  have hS := hS.frU e1 (by omega)
  have hW := hW.frV e1 (by omega)
  refine T_aload0 dX13_log_5 rfl ?_
  refine T_iload1 dX13_log_6 rfl ?_
  refine T_cV1 (c_X13_isLog hX hM hS hW hL _) hX k13_356 (Or.inl ⟨_, _, _, _, (hM.t_m), by decide, rfl⟩) (by decide) (Nat.le_of_ble_eq_true rfl) dX13_log_7 rfl ?_
  rintro _ _ _ _ ⟨rfl, rfl, rfl, rfl⟩
  refine T_if_eq 31 13 dX13_log_10 (by decide) rfl (fun c10 => ?_) (fun c10 => ?_)
  ·
    refine T_aload0 dX13_log_31 rfl ?_
    refine T_iconst (1) dX13_log_32 rfl rfl ?_
    refine T_cV1 (c_X13_no hX hM.t_m _) hX k13_291 (Or.inl ⟨_, _, _, _, (hM.t_m), by decide, rfl⟩) (by decide) (Nat.le_of_ble_eq_true rfl) dX13_log_33 rfl ?_
    rintro _ _ _ M9 ⟨rfl, rfl, rfl, e9⟩
    refine T_iret rfl rfl dX13_log_36 ?_
    first
      | exact ⟨fun _ => ⟨rfl, TH.c e1 e9⟩, fun q => absurd c10 q.1⟩
      | exact ⟨fun _ => ⟨rfl, TH.c e1 e9⟩, fun q => absurd c19 q.2⟩
      | exact ⟨fun q => q.elim (fun z => absurd z c10) (fun z => absurd z c19), fun _ => ⟨by rw [nI_cl (by omega), nI_cl (by omega)], TH.b e1⟩⟩
  ·
    obtain ⟨i, hi, rfl⟩ := has_nI (by omega) c10
    refine T_iload2 dX13_log_13 rfl ?_
    refine T_iconst (0) dX13_log_14 rfl rfl ?_
    refine T_iconst (3) dX13_log_15 rfl rfl ?_
    refine T_cS3 (c_X13_isIn hX _ _ _) hX k13_63 (by decide) (Nat.le_of_ble_eq_true rfl) dX13_log_16 rfl ?_
    rintro _ _ _ _ ⟨rfl, rfl, rfl, rfl⟩
    refine T_if_eq 31 22 dX13_log_19 (by decide) rfl (fun c19 => ?_) (fun c19 => ?_)
    ·
      refine T_aload0 dX13_log_31 rfl ?_
      refine T_iconst (1) dX13_log_32 rfl rfl ?_
      refine T_cV1 (c_X13_no hX hM.t_m _) hX k13_291 (Or.inl ⟨_, _, _, _, (hM.t_m), by decide, rfl⟩) (by decide) (Nat.le_of_ble_eq_true rfl) dX13_log_33 rfl ?_
      rintro _ _ _ M9 ⟨rfl, rfl, rfl, e9⟩
      refine T_iret rfl rfl dX13_log_36 ?_
      first
        | exact ⟨fun _ => ⟨rfl, TH.c e1 e9⟩, fun q => absurd c10 q.1⟩
        | exact ⟨fun _ => ⟨rfl, TH.c e1 e9⟩, fun q => absurd c19 q.2⟩
        | exact ⟨fun q => q.elim (fun z => absurd z c10) (fun z => absurd z c19), fun _ => ⟨by rw [nI_cl (by omega), nI_cl (by omega)], TH.b e1⟩⟩
    ·
      obtain ⟨j, hj, rfl⟩ := ii_nI (n := 3) (by omega) c19
      refine T_aload0 dX13_log_22 rfl ?_
      refine T_iload1 dX13_log_23 rfl ?_
      refine T_iload2 dX13_log_24 rfl ?_
      refine T_cV2 (c_X13_logTold hX hM hS hW hL hi (by omega)) hX k13_359 (Or.inl ⟨_, _, _, _, (hM.t_m), by decide, rfl⟩) (by decide) (Nat.le_of_ble_eq_true rfl) dX13_log_25 rfl ?_
      rintro _ _ _ _ ⟨rfl, rfl, rfl, rfl⟩
      refine T_goto 36 dX13_log_28 (by decide) ?_
      refine T_iret rfl rfl dX13_log_36 ?_
      first
        | exact ⟨fun _ => ⟨rfl, TH.c e1 e9⟩, fun q => absurd c10 q.1⟩
        | exact ⟨fun _ => ⟨rfl, TH.c e1 e9⟩, fun q => absurd c19 q.2⟩
        | exact ⟨fun q => q.elim (fun z => absurd z c10) (fun z => absurd z c19), fun _ => ⟨by rw [nI_cl (by omega), nI_cl (by omega)], TH.b e1⟩⟩
set_option maxHeartbeats 1000000 in
theorem c_X13_needs {l : Launch} {D : va_G} {cA : Nat → ClassId} {n0 : Nat} {sg adK adV : Nat → Nat} {sgA smA wdA bS LS : Nat} {xs : Nat → Int32} (hX : SF n0 (XW0 sg adK adV sgA smA wdA n0 bS LS xs)) {sz : Nat} {τ : TY} {N1 N2 M : ME} {m y z n8 tk dp a b c hc wc sn : Nat} {B : Nat → Nat} {ω ρ π : RH} {σ : Nat → Nat} {μ κ : Nat → Int32} (hM : MV τ N1 M m y z (m + 26) (m + 40) n8 tk dp B ω) (hS : SL τ N2 M (m + 26) a b c ρ m μ κ) (hW : WN τ M m y (m + 26) a b c hc wc sn ρ π σ) (hL : y = m + 7 ∨ m + 54 ≤ y) (x w : Int32) : CT l D cA n0 (XW0 sg adK adV sgA smA wdA n0 bS LS xs) mX13_needs 4 0 0 sz τ M [.ref m, .int x, .int w] (fun v' sz' τ' M' => (hasI x (nI b) = 0 ∨ hasI w (nI a) = 0 → v' = some (.int (0)) ∧ TH τ M m sz sz' τ' M' (1)) ∧ (¬ hasI x (nI b) = 0 ∧ ¬ hasI w (nI a) = 0 → v' = some (.int (needF c ρ x w.toNatClampNeg)) ∧ TH τ M m sz sz' τ' M' (0))) := by
  refine CT.of (ls := [.ref m, .int x, .int w]) (by decide) (Nat.le_of_ble_eq_true rfl) rfl ?_
  refine T_szb (fun hz => ?_)
  have z1 := hM.hi hz
  have hm : m < sz := by omega
  obtain ⟨l3, l4, l5, l6, l7, l8⟩ := hW.ok
  refine T_aload0 dX13_needs_0 rfl ?_
  refine T_iconst (0) dX13_needs_1 rfl rfl ?_
  refine p13_57 rfl (hM.t_m) dX13_needs_2 rfl ?_
  refine T_nm (fun M1 e1 => ?_)
  have hM := MV.mv hM.p_th e1
  have hS := hS.frU e1 (by omega)
  have hW := hW.frV e1 (by omega)
  refine T_aload0 dX13_needs_5 rfl ?_
  refine T_iload1 dX13_needs_6 rfl ?_
  refine T_cV1 (c_X13_isHorse hX hM hS hW hL _) hX k13_341 (Or.inl ⟨_, _, _, _, (hM.t_m), by decide, rfl⟩) (by decide) (Nat.le_of_ble_eq_true rfl) dX13_needs_7 rfl ?_
  rintro _ _ _ _ ⟨rfl, rfl, rfl, rfl⟩
  refine T_if_eq 33 13 dX13_needs_10 (by decide) rfl (fun c10 => ?_) (fun c10 => ?_)
  ·
    refine T_aload0 dX13_needs_33 rfl ?_
    refine T_iconst (1) dX13_needs_34 rfl rfl ?_
    refine T_cV1 (c_X13_no hX hM.t_m _) hX k13_291 (Or.inl ⟨_, _, _, _, (hM.t_m), by decide, rfl⟩) (by decide) (Nat.le_of_ble_eq_true rfl) dX13_needs_35 rfl ?_
    rintro _ _ _ M9 ⟨rfl, rfl, rfl, e9⟩
    refine T_iret rfl rfl dX13_needs_38 ?_
    first
      | exact ⟨fun _ => ⟨rfl, TH.c e1 e9⟩, fun q => absurd c10 q.1⟩
      | exact ⟨fun _ => ⟨rfl, TH.c e1 e9⟩, fun q => absurd c19 q.2⟩
      | exact ⟨fun q => q.elim (fun z => absurd z c10) (fun z => absurd z c19), fun _ => ⟨by rw [nI_cl (by omega)], TH.b e1⟩⟩
  ·
    obtain ⟨i, hi, rfl⟩ := has_nI (by omega) c10
    refine T_aload0 dX13_needs_13 rfl ?_
    refine T_iload2 dX13_needs_14 rfl ?_
    refine T_cV1 (c_X13_isStretch hX hM hS hW hL _) hX k13_319 (Or.inl ⟨_, _, _, _, (hM.t_m), by decide, rfl⟩) (by decide) (Nat.le_of_ble_eq_true rfl) dX13_needs_15 rfl ?_
    rintro _ _ _ _ ⟨rfl, rfl, rfl, rfl⟩
    refine T_if_eq 33 21 dX13_needs_18 (by decide) rfl (fun c19 => ?_) (fun c19 => ?_)
    ·
      refine T_aload0 dX13_needs_33 rfl ?_
      refine T_iconst (1) dX13_needs_34 rfl rfl ?_
      refine T_cV1 (c_X13_no hX hM.t_m _) hX k13_291 (Or.inl ⟨_, _, _, _, (hM.t_m), by decide, rfl⟩) (by decide) (Nat.le_of_ble_eq_true rfl) dX13_needs_35 rfl ?_
      rintro _ _ _ M9 ⟨rfl, rfl, rfl, e9⟩
      refine T_iret rfl rfl dX13_needs_38 ?_
      first
        | exact ⟨fun _ => ⟨rfl, TH.c e1 e9⟩, fun q => absurd c10 q.1⟩
        | exact ⟨fun _ => ⟨rfl, TH.c e1 e9⟩, fun q => absurd c19 q.2⟩
        | exact ⟨fun q => q.elim (fun z => absurd z c10) (fun z => absurd z c19), fun _ => ⟨by rw [nI_cl (by omega)], TH.b e1⟩⟩
    ·
      obtain ⟨j, hj, rfl⟩ := has_nI (by omega) c19
      refine T_aload0 dX13_needs_21 rfl ?_
      refine g13_47 _ rfl (hM.t_m) (hM.g_s1) dX13_needs_22 rfl ?_
      refine T_iload1 dX13_needs_25 rfl ?_
      refine T_iload2 dX13_needs_26 rfl ?_
      refine T_cV2 (c_X12_needs hX hS hW hi hj) hX k13_362 (Or.inl ⟨_, _, _, _, (hS.t_s), by decide, rfl⟩) (by decide) (Nat.le_of_ble_eq_true rfl) dX13_needs_27 rfl ?_
      rintro _ _ _ _ ⟨rfl, rfl, rfl, rfl⟩
      refine T_goto 38 dX13_needs_30 (by decide) ?_
      refine T_iret rfl rfl dX13_needs_38 ?_
      first
        | exact ⟨fun _ => ⟨rfl, TH.c e1 e9⟩, fun q => absurd c10 q.1⟩
        | exact ⟨fun _ => ⟨rfl, TH.c e1 e9⟩, fun q => absurd c19 q.2⟩
        | exact ⟨fun q => q.elim (fun z => absurd z c10) (fun z => absurd z c19), fun _ => ⟨by rw [nI_cl (by omega)], TH.b e1⟩⟩
set_option maxHeartbeats 1000000 in
theorem c_X13_errorAt {l : Launch} {D : va_G} {cA : Nat → ClassId} {n0 : Nat} {sg adK adV : Nat → Nat} {sgA smA wdA bS LS : Nat} {xs : Nat → Int32} (hX : SF n0 (XW0 sg adK adV sgA smA wdA n0 bS LS xs)) {sz : Nat} {τ : TY} {N1 N2 M : ME} {m y z n8 tk dp a b c hc wc sn : Nat} {B : Nat → Nat} {ω ρ π : RH} {σ : Nat → Nat} {μ κ : Nat → Int32} (hM : MV τ N1 M m y z (m + 26) (m + 40) n8 tk dp B ω) (hS : SL τ N2 M (m + 26) a b c ρ m μ κ) (hW : WN τ M m y (m + 26) a b c hc wc sn ρ π σ) (hL : y = m + 7 ∨ m + 54 ≤ y) : CT l D cA n0 (XW0 sg adK adV sgA smA wdA n0 bS LS xs) mX13_errorAt 1 0 0 sz τ M [.ref m] (fun v' sz' τ' M' => (True → v' = some (.int (ω 91 0)) ∧ TH τ M m sz sz' τ' M' (0))) := by
  refine CT.of (ls := [.ref m]) (by decide) (Nat.le_of_ble_eq_true rfl) rfl ?_
  refine T_szb (fun hz => ?_)
  have z1 := hM.hi hz
  have hm : m < sz := by omega
  obtain ⟨l3, l4, l5, l6, l7, l8⟩ := hW.ok
  refine T_aload0 dX13_errorAt_0 rfl ?_
  refine T_iconst (0) dX13_errorAt_1 rfl rfl ?_
  refine p13_57 rfl (hM.t_m) dX13_errorAt_2 rfl ?_
  refine T_nm (fun M1 e1 => ?_)
  have hM := MV.mv hM.p_th e1
  have hS := hS.frU e1 (by omega)
  have hW := hW.frV e1 (by omega)
  refine T_aload0 dX13_errorAt_5 rfl ?_
  refine g13_13 _ rfl (hM.t_m) (hM.g_ea) dX13_errorAt_6 rfl ?_
  refine T_iret rfl rfl dX13_errorAt_9 ?_
  exact fun _ => ⟨rfl, TH.b e1⟩
/-- behind a call that changes the model's state -/
def SC (τ : TY) (M : ME) (m sz sz' : Nat) (τ' : TY) (M' : ME) (y z n tk dp : Nat) (B : Nat → Nat) (ω : RH) (a b c : Nat) (ρ' : RH) : Prop := sz' = sz ∧ τ' = τ ∧ (∀ q, q < m ∨ (m < q ∧ q < m + 26) ∨ m + 40 ≤ q → M' q = M q) ∧ MV τ M' M' m y z (m + 26) (m + 40) n tk dp B (u2 ω 90 0 0) ∧ ∃ μ' κ', SL τ M' M' (m + 26) a b c ρ' m μ' κ'
theorem WN.re {τ : TY} {M M1 : ME} {m y s a b c hc wc sn : Nat} {ρ ρ' π : RH} {σ : Nat → Nat} (h : WN τ M m y s a b c hc wc sn ρ π σ) (h1 : M1 m 11 = .ref y) (h2 : ∀ q, y ≤ q → q < y + 19 → M1 q = M q) (k : KS ρ ρ') : WN τ M1 m y s a b c hc wc sn ρ' π σ := by
  refine WN.ks ?_ k
  obtain ⟨h0, h3, h4, h5, h6, hr, wr, cs, os, w, h7, h8⟩ := h
  exact ⟨h0, h3, h1, h5, h6, hr, wr, cs, os, w, h7.fr h2, h8⟩
set_option maxHeartbeats 1000000 in
theorem c_X13_setWeather {l : Launch} {D : va_G} {cA : Nat → ClassId} {n0 : Nat} {sg adK adV : Nat → Nat} {sgA smA wdA bS LS : Nat} {xs : Nat → Int32} (hX : SF n0 (XW0 sg adK adV sgA smA wdA n0 bS LS xs)) {sz : Nat} {τ : TY} {N1 N2 M : ME} {m y z n8 tk dp a b c hc wc sn : Nat} {B : Nat → Nat} {ω ρ π : RH} {σ : Nat → Nat} {μ κ : Nat → Int32} (hM : MV τ N1 M m y z (m + 26) (m + 40) n8 tk dp B ω) (hS : SL τ N2 M (m + 26) a b c ρ m μ κ) (hW : WN τ M m y (m + 26) a b c hc wc sn ρ π σ) (hL : y = m + 7 ∨ m + 54 ≤ y) (x : Int32) : CT l D cA n0 (XW0 sg adK adV sgA smA wdA n0 bS LS xs) mX13_setWeather 2 0 0 sz τ M [.ref m, .int x] (fun v' sz' τ' M' => (iiF x (-3) 3 = 0 → v' = some (.int 0) ∧ TH τ M m sz sz' τ' M' 1) ∧ (¬ iiF x (-3) 3 = 0 → v' = some (.int (ρ 7 0)) ∧ SC τ M m sz sz' τ' M' y z n8 tk dp B ω a b c (u2 ρ 7 0 x))) := by
  refine CT.of (ls := [.ref m, .int x, UU]) (by decide) (Nat.le_of_ble_eq_true rfl) rfl ?_
  refine T_szb (fun hz => ?_)
  have z1 := hM.hi hz
  have hm : m < sz := by omega
  obtain ⟨l3, l4, l5, l6, l7, l8⟩ := hW.ok
  have hF : ∀ q, q < m ∨ (m < q ∧ q < m + 26) ∨ m + 40 ≤ q → M q = M q := fun _ _ => rfl
  refine T_aload0 dX13_setWeather_0 rfl ?_
  refine T_iconst (0) dX13_setWeather_1 rfl rfl ?_
  refine p13_57 rfl (hM.t_m) dX13_setWeather_2 rfl ?_
  refine T_nm (fun M1 e1 => ?_)
  have hM := MV.mv hM.p_th e1
  have hS := hS.frU e1 (by omega)
  have hW := hW.frV e1 (by omega)
  have hF : ∀ q, q < m ∨ (m < q ∧ q < m + 26) ∨ m + 40 ≤ q → M1 q = M q := fun q hq => (by rw [e1]; exact (up_a (by omega)).trans (hF q hq))
  refine T_iload1 dX13_setWeather_5 rfl ?_
  refine T_bipush (-3) dX13_setWeather_6 rfl rfl ?_
  refine T_iconst (3) dX13_setWeather_8 rfl rfl ?_
  refine T_cS3 (c_X13_isIn hX _ _ _) hX k13_63 (by decide) (Nat.le_of_ble_eq_true rfl) dX13_setWeather_9 rfl ?_
  rintro _ _ _ _ ⟨rfl, rfl, rfl, rfl⟩
  refine T_if_ne 21 15 dX13_setWeather_12 (by decide) rfl (fun c12 => ?_) (fun c12 => ?_)
  ·
    refine T_aload0 dX13_setWeather_21 rfl ?_
    refine g13_47 _ rfl (hM.t_m) (hM.g_s1) dX13_setWeather_22 rfl ?_
    refine g13_304 _ rfl (hS.t_s) (hS.g_weat) dX13_setWeather_25 rfl ?_
    refine T_istore2 rfl (by decide) dX13_setWeather_28 rfl ?_
    refine T_aload0 dX13_setWeather_29 rfl ?_
    refine g13_47 _ rfl (hM.t_m) (hM.g_s1) dX13_setWeather_30 rfl ?_
    refine T_iload1 dX13_setWeather_33 rfl ?_
    refine p13_304 rfl (hS.t_s) dX13_setWeather_34 rfl ?_
    refine T_nm (fun M2 e2 => ?_)
    have hM := hM.frU e2 (by omega)
    have hS := SL.mv hS.p_weat e2
    have hW := hW.frV e2 (by omega)
    have hF : ∀ q, q < m ∨ (m < q ∧ q < m + 26) ∨ m + 40 ≤ q → M2 q = M q := fun q hq => (by rw [e2]; exact (up_a (by omega)).trans (hF q hq))
    refine T_iload2 dX13_setWeather_37 rfl ?_
    refine T_iret rfl rfl dX13_setWeather_38 ?_
    exact ⟨fun q => absurd q c12, fun _ => ⟨rfl, rfl, rfl, hF, hM.rf, _, _, hS.rf⟩⟩
  ·
    refine T_aload0 dX13_setWeather_15 rfl ?_
    refine T_iconst (1) dX13_setWeather_16 rfl rfl ?_
    refine T_cV1 (c_X13_no hX hM.t_m _) hX k13_291 (Or.inl ⟨_, _, _, _, (hM.t_m), by decide, rfl⟩) (by decide) (Nat.le_of_ble_eq_true rfl) dX13_setWeather_17 rfl ?_
    rintro _ _ _ M9 ⟨rfl, rfl, rfl, e9⟩
    refine T_iret rfl rfl dX13_setWeather_20 ?_
    exact ⟨fun _ => ⟨rfl, TH.c e1 e9⟩, fun q => absurd c12 q⟩
set_option maxHeartbeats 1000000 in
theorem c_X13_forge {l : Launch} {D : va_G} {cA : Nat → ClassId} {n0 : Nat} {sg adK adV : Nat → Nat} {sgA smA wdA bS LS : Nat} {xs : Nat → Int32} (hX : SF n0 (XW0 sg adK adV sgA smA wdA n0 bS LS xs)) {sz : Nat} {τ : TY} {N1 N2 M : ME} {m y z n8 tk dp a b c hc wc sn : Nat} {B : Nat → Nat} {ω ρ π : RH} {σ : Nat → Nat} {μ κ : Nat → Int32} (hM : MV τ N1 M m y z (m + 26) (m + 40) n8 tk dp B ω) (hS : SL τ N2 M (m + 26) a b c ρ m μ κ) (hW : WN τ M m y (m + 26) a b c hc wc sn ρ π σ) (hL : y = m + 7 ∨ m + 54 ≤ y) (x w : Int32) : CT l D cA n0 (XW0 sg adK adV sgA smA wdA n0 bS LS xs) mX13_forge 3 0 0 sz τ M [.ref m, .int x, .int w] (fun v' sz' τ' M' => (hasI x (nI b) = 0 → v' = some (.int 0) ∧ TH τ M m sz sz' τ' M' 1) ∧ (¬ hasI x (nI b) = 0 ∧ iiF w 1 9 = 0 → v' = some (.int 0) ∧ TH τ M m sz sz' τ' M' 2) ∧ (¬ hasI x (nI b) = 0 ∧ ¬ iiF w 1 9 = 0 → v' = some (.int (minI (ρ 12 x.toNatClampNeg + w) 9)) ∧ SC τ M m sz sz' τ' M' y z n8 tk dp B ω a b c (u2 ρ 12 x.toNatClampNeg (minI (ρ 12 x.toNatClampNeg + w) 9)))) := by
  refine CT.of (ls := [.ref m, .int x, .int w]) (by decide) (Nat.le_of_ble_eq_true rfl) rfl ?_
  refine T_szb (fun hz => ?_)
  have z1 := hM.hi hz
  have hm : m < sz := by omega
  obtain ⟨l3, l4, l5, l6, l7, l8⟩ := hW.ok
  have hF : ∀ q, q < m ∨ (m < q ∧ q < m + 26) ∨ m + 40 ≤ q → M q = M q := fun _ _ => rfl
  refine T_aload0 dX13_forge_0 rfl ?_
  refine T_iconst (0) dX13_forge_1 rfl rfl ?_
  refine p13_57 rfl (hM.t_m) dX13_forge_2 rfl ?_
  refine T_nm (fun M1 e1 => ?_)
  have hM := MV.mv hM.p_th e1
  have hS := hS.frU e1 (by omega)
  have hW := hW.frV e1 (by omega)
  have hF : ∀ q, q < m ∨ (m < q ∧ q < m + 26) ∨ m + 40 ≤ q → M1 q = M q := fun q hq => (by rw [e1]; exact (up_a (by omega)).trans (hF q hq))
  refine T_aload0 dX13_forge_5 rfl ?_
  refine T_iload1 dX13_forge_6 rfl ?_
  refine T_cV1 (c_X13_isHorse hX hM hS hW hL _) hX k13_341 (Or.inl ⟨_, _, _, _, (hM.t_m), by decide, rfl⟩) (by decide) (Nat.le_of_ble_eq_true rfl) dX13_forge_7 rfl ?_
  rintro _ _ _ _ ⟨rfl, rfl, rfl, rfl⟩
  refine T_if_ne 19 13 dX13_forge_10 (by decide) rfl (fun c10 => ?_) (fun c10 => ?_)
  ·
    obtain ⟨i, hi, rfl⟩ := has_nI (by omega) c10
    refine T_iload2 dX13_forge_19 rfl ?_
    refine T_iconst (1) dX13_forge_20 rfl rfl ?_
    refine T_bipush (9) dX13_forge_21 rfl rfl ?_
    refine T_cS3 (c_X13_isIn hX _ _ _) hX k13_63 (by decide) (Nat.le_of_ble_eq_true rfl) dX13_forge_23 rfl ?_
    rintro _ _ _ _ ⟨rfl, rfl, rfl, rfl⟩
    refine T_if_ne 35 29 dX13_forge_26 (by decide) rfl (fun c26 => ?_) (fun c26 => ?_)
    ·
      refine T_aload0 dX13_forge_35 rfl ?_
      refine g13_47 _ rfl (hM.t_m) (hM.g_s1) dX13_forge_36 rfl ?_
      refine g13_300 _ rfl (hS.t_s) (hS.g_a6) dX13_forge_39 rfl ?_
      refine T_iload1 dX13_forge_42 rfl ?_
      refine T_bipush (9) dX13_forge_43 rfl rfl ?_
      refine T_aload0 dX13_forge_45 rfl ?_
      refine g13_47 _ rfl (hM.t_m) (hM.g_s1) dX13_forge_46 rfl ?_
      refine g13_300 _ rfl (hS.t_s) (hS.g_a6) dX13_forge_49 rfl ?_
      refine T_iload1 dX13_forge_52 rfl ?_
      refine T_iald _ (hS.t_a6) rfl (by omega) (by decide) dX13_forge_53 rfl (hS.g_link (by omega)) ?_
      refine T_iload2 dX13_forge_54 rfl ?_
      refine T_iadd dX13_forge_55 rfl ?_
      refine T_min km13_77 (by decide) (Nat.le_of_ble_eq_true rfl) dX13_forge_56 rfl ?_
      refine T_iast _ (hS.t_a6) rfl (by omega) (by decide) dX13_forge_59 rfl ?_
      refine T_nm (fun M2 e2 => ?_)
      have hM := hM.frU e2 (by omega)
      have hS := SL.mv (hS.p_link (by omega)) e2
      have hW := hW.frV e2 (by omega)
      have hF : ∀ q, q < m ∨ (m < q ∧ q < m + 26) ∨ m + 40 ≤ q → M2 q = M q := fun q hq => (by rw [e2]; exact (up_a (by omega)).trans (hF q hq))
      refine T_aload0 dX13_forge_60 rfl ?_
      refine g13_47 _ rfl (hM.t_m) (hM.g_s1) dX13_forge_61 rfl ?_
      refine g13_300 _ rfl (hS.t_s) (hS.g_a6) dX13_forge_64 rfl ?_
      refine T_iload1 dX13_forge_67 rfl ?_
      refine T_iald _ (hS.t_a6) rfl (by omega) (by decide) dX13_forge_68 rfl (hS.g_link (by omega)) ?_
      refine T_iret rfl rfl dX13_forge_69 ?_
      rw [nI_cl (by omega)]
      exact ⟨fun q => absurd q c10, fun q => absurd q.2 c26, fun _ => ⟨congrArg (fun z => some (Value.int z)) (u2_s _ 12 _ _), rfl, rfl, hF, hM.rf, _, _, hS.rf⟩⟩
    ·
      refine T_aload0 dX13_forge_29 rfl ?_
      refine T_iconst (2) dX13_forge_30 rfl rfl ?_
      refine T_cV1 (c_X13_no hX hM.t_m _) hX k13_291 (Or.inl ⟨_, _, _, _, (hM.t_m), by decide, rfl⟩) (by decide) (Nat.le_of_ble_eq_true rfl) dX13_forge_31 rfl ?_
      rintro _ _ _ M9 ⟨rfl, rfl, rfl, e9⟩
      refine T_iret rfl rfl dX13_forge_34 ?_
      exact ⟨fun q => absurd q c10, fun _ => ⟨rfl, TH.c e1 e9⟩, fun q => absurd c26 q.2⟩
  ·
    refine T_aload0 dX13_forge_13 rfl ?_
    refine T_iconst (1) dX13_forge_14 rfl rfl ?_
    refine T_cV1 (c_X13_no hX hM.t_m _) hX k13_291 (Or.inl ⟨_, _, _, _, (hM.t_m), by decide, rfl⟩) (by decide) (Nat.le_of_ble_eq_true rfl) dX13_forge_15 rfl ?_
    rintro _ _ _ M9 ⟨rfl, rfl, rfl, e9⟩
    refine T_iret rfl rfl dX13_forge_18 ?_
    exact ⟨fun _ => ⟨rfl, TH.c e1 e9⟩, fun q => absurd c10 q.1, fun q => absurd c10 q.1⟩
theorem nI_pos2 {n : Nat} (h : n < 2 ^ 31) : 0 ≤ nI n := (nI_leI (a := 0) (b := n) (by omega) h).mpr (Nat.zero_le _)
theorem ii_nI2 {x : Int32} {n : Nat} (hn : n ≤ 2000) (h : ¬ iiF x 0 (nI n) = 0) : ∃ j, j ≤ n ∧ x = nI j := by
  have h2 : 0 ≤ x ∧ x ≤ nI n := Decidable.byContradiction fun q => h (if_neg q)
  exact nI_of2 (nI_toInt (by omega)) (Int32.not_lt.mpr h2.1) h2.2
set_option maxHeartbeats 1000000 in
theorem c_X13_trim {l : Launch} {D : va_G} {cA : Nat → ClassId} {n0 : Nat} {sg adK adV : Nat → Nat} {sgA smA wdA bS LS : Nat} {xs : Nat → Int32} (hX : SF n0 (XW0 sg adK adV sgA smA wdA n0 bS LS xs)) {sz : Nat} {τ : TY} {N1 N2 M : ME} {m y z n8 tk dp a b c hc wc sn : Nat} {B : Nat → Nat} {ω ρ π : RH} {σ : Nat → Nat} {μ κ : Nat → Int32} (hM : MV τ N1 M m y z (m + 26) (m + 40) n8 tk dp B ω) (hS : SL τ N2 M (m + 26) a b c ρ m μ κ) (hW : WN τ M m y (m + 26) a b c hc wc sn ρ π σ) (hL : y = m + 7 ∨ m + 54 ≤ y) (h8 : n8 ≤ 2000) (x : Int32) : CT l D cA n0 (XW0 sg adK adV sgA smA wdA n0 bS LS xs) mX13_trim 2 0 0 sz τ M [.ref m, .int x] (fun v' sz' τ' M' => (iiF x 0 (nI n8) = 0 → v' = some (.int 0) ∧ TH τ M m sz sz' τ' M' 1) ∧ (∀ j, j ≤ n8 → x = nI j → v' = some (.int x) ∧ SC τ M m sz sz' τ' M' y z j tk dp B ω a b c ρ)) := by
  refine CT.of (ls := [.ref m, .int x]) (by decide) (Nat.le_of_ble_eq_true rfl) rfl ?_
  refine T_szb (fun hz => ?_)
  have z1 := hM.hi hz
  have hm : m < sz := by omega
  obtain ⟨l3, l4, l5, l6, l7, l8⟩ := hW.ok
  have hF : ∀ q, q < m ∨ (m < q ∧ q < m + 26) ∨ m + 40 ≤ q → M q = M q := fun _ _ => rfl
  refine T_aload0 dX13_trim_0 rfl ?_
  refine T_iconst (0) dX13_trim_1 rfl rfl ?_
  refine p13_57 rfl (hM.t_m) dX13_trim_2 rfl ?_
  refine T_nm (fun M1 e1 => ?_)
  have hM := MV.mv hM.p_th e1
  have hS := hS.frU e1 (by omega)
  have hW := hW.frV e1 (by omega)
  have hF : ∀ q, q < m ∨ (m < q ∧ q < m + 26) ∨ m + 40 ≤ q → M1 q = M q := fun q hq => (by rw [e1]; exact (up_a (by omega)).trans (hF q hq))
  refine T_iload1 dX13_trim_5 rfl ?_
  refine T_iconst (0) dX13_trim_6 rfl rfl ?_
  refine T_aload0 dX13_trim_7 rfl ?_
  refine g13_86 _ rfl (hM.t_m) (hM.g_n) dX13_trim_8 rfl ?_
  refine T_cS3 (c_X13_isIn hX _ _ _) hX k13_63 (by decide) (Nat.le_of_ble_eq_true rfl) dX13_trim_11 rfl ?_
  rintro _ _ _ _ ⟨rfl, rfl, rfl, rfl⟩
  refine T_if_ne 23 17 dX13_trim_14 (by decide) rfl (fun c14 => ?_) (fun c14 => ?_)
  ·
    obtain ⟨j, hj, rfl⟩ := ii_nI2 (by omega) c14
    refine T_aload0 dX13_trim_23 rfl ?_
    refine T_iload1 dX13_trim_24 rfl ?_
    refine p13_86 rfl (hM.t_m) dX13_trim_25 rfl ?_
    refine T_nm (fun M2 e2 => ?_)
    have hM := MV.mv (hM.p_n rfl) e2
    have hS := hS.frU e2 (by omega)
    have hW := hW.frV e2 (by omega)
    have hF : ∀ q, q < m ∨ (m < q ∧ q < m + 26) ∨ m + 40 ≤ q → M2 q = M q := fun q hq => (by rw [e2]; exact (up_a (by omega)).trans (hF q hq))
    refine T_iload1 dX13_trim_28 rfl ?_
    refine T_iret rfl rfl dX13_trim_29 ?_
    exact ⟨fun q => absurd q c14, fun j2 h2 e => by obtain rfl := (nI_eq (by omega) (by omega)).mp e; exact ⟨rfl, rfl, rfl, hF, hM.rf, _, _, hS.rf⟩⟩
  ·
    refine T_aload0 dX13_trim_17 rfl ?_
    refine T_iconst (1) dX13_trim_18 rfl rfl ?_
    refine T_cV1 (c_X13_no hX hM.t_m _) hX k13_291 (Or.inl ⟨_, _, _, _, (hM.t_m), by decide, rfl⟩) (by decide) (Nat.le_of_ble_eq_true rfl) dX13_trim_19 rfl ?_
    rintro _ _ _ M9 ⟨rfl, rfl, rfl, e9⟩
    refine T_iret rfl rfl dX13_trim_22 ?_
    exact ⟨fun _ => ⟨rfl, TH.c e1 e9⟩, fun j hj e => by subst e; rw [ii_1 (nI_pos2 (by omega)) ((nI_leI (by omega) (by omega)).mpr hj)] at c14; exact absurd c14 (by decide)⟩
set_option maxHeartbeats 1000000 in
theorem L_X13_clear {l : Launch} {D : va_G} {cA : Nat → ClassId} {n0 : Nat} {sg adK adV : Nat → Nat} {sgA smA wdA bS LS : Nat} {xs : Nat → Int32} (hX : SF n0 (XW0 sg adK adV sgA smA wdA n0 bS LS xs)) {sz : Nat} {τ : TY} {M : ME} {m y z n8 tk dp a b c hc wc sn : Nat} {B : Nat → Nat} {ω ρ π : RH} {σ : Nat → Nat} {μ κ : Nat → Int32} (x : Int32) (hg : ¬ hasI x (nI a) = 0) : ∀ (n : Nat) (k : Nat) (acc : Int32) (N1 N2 Mk : ME) (hk : k ≤ c) (ha : acc = flOf k ρ x) (hM : MV τ N1 Mk m y z (m + 26) (m + 40) n8 tk dp B (u2 ω 90 0 0)) (hS : SL τ N2 Mk (m + 26) a b c (mpL ρ 2 x 0 (-1) k) m μ κ) (hW : WN τ Mk m y (m + 26) a b c hc wc sn ρ π σ) (hF : ∀ q, q < m ∨ (m < q ∧ q < m + 26) ∨ m + 40 ≤ q → Mk q = M q), c - k < n → T l D cA n0 (XW0 sg adK adV sgA smA wdA n0 bS LS xs) mX13_clear 3 0 0 sz τ Mk 23 [.ref m, .int x, .int acc, .int (nI k)] [] (fun v' sz' τ' M' => (hasI x (nI a) = 0 → v' = some (.int 0) ∧ TH τ M m sz sz' τ' M' 1) ∧ (¬ hasI x (nI a) = 0 → v' = some (.int (flOf c ρ x)) ∧ SC τ M m sz sz' τ' M' y z n8 tk dp B ω a b c (mpL ρ 2 x 0 (-1) c))) (fun _ _ _ _ => False) := by
  intro n
  induction n with
  | zero => intros; omega
  | succ n ih =>
    intro k acc N1 N2 Mk hk ha hM hS hW hF hn
    obtain ⟨l3, l4, l5, l6, l7, l8⟩ := hW.ok
    refine T_iload3 dX13_clear_23 rfl ?_
    refine T_aload0 dX13_clear_24 rfl ?_
    first | refine g13_35 _ rfl (hM.t_m) (hM.g_y) dX13_clear_25 rfl ?_ | refine g13_35 _ rfl (hW.t_m) (hW.g_pl) dX13_clear_25 rfl ?_
    refine g13_70 _ rfl (hW.t_q) (hW.g_logs) dX13_clear_28 rfl ?_
    refine T_icmp_ge 82 34 dX13_clear_31 (by decide) rfl (fun c9 => ?_) (fun c9 => ?_)
    ·
      have c9 := le_out rfl c9
      refine T_iload2 dX13_clear_82 rfl ?_
      refine T_iret rfl rfl dX13_clear_83 ?_
      have hkk : k = c := by omega
      subst hkk
      exact ⟨fun q => absurd q hg, fun _ => ⟨congrArg (fun z => some (Value.int z)) ha, rfl, rfl, hF, hM.rf, _, _, hS.rf⟩⟩
    ·
      have c9 := lt_in rfl c9
      refine T_aload0 dX13_clear_34 rfl ?_
      refine g13_47 _ rfl (hM.t_m) (hM.g_s1) dX13_clear_35 rfl ?_
      refine g13_347 _ rfl (hS.t_s) (hS.g_a10) dX13_clear_38 rfl ?_
      refine T_iload3 dX13_clear_41 rfl ?_
      refine T_iald _ (hS.t_a10) rfl (by omega) (by decide) dX13_clear_42 rfl (hS.g_lies (by omega)) ?_
      refine T_iconst (2) dX13_clear_43 rfl rfl ?_
      refine T_icmp_ne 76 47 dX13_clear_44 (by decide) rfl (fun c1 => ?_) (fun c1 => ?_)
      ·
        rw [mpL_at (Nat.le_refl _)] at c1
        first | refine T_iinc3 rfl (by decide) dX13_clear_76 rfl (inc1 _) ?_ | refine T_iinc3 rfl (by decide) dX13_clear_76 rfl rfl ?_
        refine T_goto 23 dX13_clear_79 (by decide) ?_
        first | exact ih (k + 1) _ _ _ _ (by omega) (by unfold flOf at *; rw [sm, ha]; simp [c1, c2]) hM (by rw [← mpL_y c1 c2]; exact hS) hW hF (by omega) | exact ih (k + 1) _ _ _ _ (by omega) (by unfold flOf at *; rw [sm, ha]; first | (simp [c1]; done) | (simp [c2]; done)) hM (by rw [mpL_n (fun q => by first | exact c1 q.1 | exact c2 q.2)]; exact hS) hW hF (by omega)
      ·
        rw [mpL_at (Nat.le_refl _)] at c1
        refine T_aload0 dX13_clear_47 rfl ?_
        refine g13_47 _ rfl (hM.t_m) (hM.g_s1) dX13_clear_48 rfl ?_
        refine g13_350 _ rfl (hS.t_s) (hS.g_a11) dX13_clear_51 rfl ?_
        refine T_iload3 dX13_clear_54 rfl ?_
        refine T_iald _ (hS.t_a11) rfl (by omega) (by decide) dX13_clear_55 rfl (hS.g_atat (by omega)) ?_
        refine T_iload1 dX13_clear_56 rfl ?_
        refine T_icmp_eq 63 60 dX13_clear_57 (by decide) rfl (fun c2 => ?_) (fun c2 => ?_)
        ·
          rw [mpL_at (Nat.le_refl _)] at c2
          refine T_aload0 dX13_clear_63 rfl ?_
          refine g13_47 _ rfl (hM.t_m) (hM.g_s1) dX13_clear_64 rfl ?_
          refine T_iload3 dX13_clear_67 rfl ?_
          refine T_iconst (0) dX13_clear_68 rfl rfl ?_
          refine T_iconst (-1) dX13_clear_69 rfl rfl ?_
          refine T_cVN3 (c_X12_put hX hS.rf (hW.ks (KS.rf ρ).mp) (by omega) _ _) hX k13_365 (Or.inl ⟨_, _, _, _, (hS.t_s), by decide, rfl⟩) (by decide) (Nat.le_of_ble_eq_true rfl) dX13_clear_70 rfl ?_
          rintro _ _ _ M8 ⟨rfl, rfl, rfl, hN⟩
          have hW := hW.nx hN.frame
          have hM := hM.nx hN.frame (by omega)
          have hF : ∀ q, q < m ∨ (m < q ∧ q < m + 26) ∨ m + 40 ≤ q → M8 q = M q := fun q hq => (hN.frame q (by omega)).trans (hF q hq)
          have hS := hN
          first | refine T_iinc2 rfl (by decide) dX13_clear_73 rfl (inc1 _) ?_ | refine T_iinc2 rfl (by decide) dX13_clear_73 rfl rfl ?_
          first | refine T_iinc3 rfl (by decide) dX13_clear_76 rfl (inc1 _) ?_ | refine T_iinc3 rfl (by decide) dX13_clear_76 rfl rfl ?_
          refine T_goto 23 dX13_clear_79 (by decide) ?_
          first | exact ih (k + 1) _ _ _ _ (by omega) (by unfold flOf at *; rw [sm, ha]; simp [c1, c2]) hM (by rw [← mpL_y c1 c2]; exact hS) hW hF (by omega) | exact ih (k + 1) _ _ _ _ (by omega) (by unfold flOf at *; rw [sm, ha]; first | (simp [c1]; done) | (simp [c2]; done)) hM (by rw [mpL_n (fun q => by first | exact c1 q.1 | exact c2 q.2)]; exact hS) hW hF (by omega)
        ·
          rw [mpL_at (Nat.le_refl _)] at c2
          refine T_goto 76 dX13_clear_60 (by decide) ?_
          first | refine T_iinc3 rfl (by decide) dX13_clear_76 rfl (inc1 _) ?_ | refine T_iinc3 rfl (by decide) dX13_clear_76 rfl rfl ?_
          refine T_goto 23 dX13_clear_79 (by decide) ?_
          first | exact ih (k + 1) _ _ _ _ (by omega) (by unfold flOf at *; rw [sm, ha]; simp [c1, c2]) hM (by rw [← mpL_y c1 c2]; exact hS) hW hF (by omega) | exact ih (k + 1) _ _ _ _ (by omega) (by unfold flOf at *; rw [sm, ha]; first | (simp [c1]; done) | (simp [c2]; done)) hM (by rw [mpL_n (fun q => by first | exact c1 q.1 | exact c2 q.2)]; exact hS) hW hF (by omega)
set_option maxHeartbeats 1000000 in
theorem c_X13_clear {l : Launch} {D : va_G} {cA : Nat → ClassId} {n0 : Nat} {sg adK adV : Nat → Nat} {sgA smA wdA bS LS : Nat} {xs : Nat → Int32} (hX : SF n0 (XW0 sg adK adV sgA smA wdA n0 bS LS xs)) {sz : Nat} {τ : TY} {N1 N2 M : ME} {m y z n8 tk dp a b c hc wc sn : Nat} {B : Nat → Nat} {ω ρ π : RH} {σ : Nat → Nat} {μ κ : Nat → Int32} (hM : MV τ N1 M m y z (m + 26) (m + 40) n8 tk dp B ω) (hS : SL τ N2 M (m + 26) a b c ρ m μ κ) (hW : WN τ M m y (m + 26) a b c hc wc sn ρ π σ) (hL : y = m + 7 ∨ m + 54 ≤ y) (x : Int32) : CT l D cA n0 (XW0 sg adK adV sgA smA wdA n0 bS LS xs) mX13_clear 3 0 0 sz τ M [.ref m, .int x] (fun v' sz' τ' M' => (hasI x (nI a) = 0 → v' = some (.int 0) ∧ TH τ M m sz sz' τ' M' 1) ∧ (¬ hasI x (nI a) = 0 → v' = some (.int (flOf c ρ x)) ∧ SC τ M m sz sz' τ' M' y z n8 tk dp B ω a b c (mpL ρ 2 x 0 (-1) c))) := by
  refine CT.of (ls := [.ref m, .int x, UU, UU]) (by decide) (Nat.le_of_ble_eq_true rfl) rfl ?_
  refine T_szb (fun hz => ?_)
  have z1 := hM.hi hz
  have hm : m < sz := by omega
  obtain ⟨l3, l4, l5, l6, l7, l8⟩ := hW.ok
  have hF : ∀ q, q < m ∨ (m < q ∧ q < m + 26) ∨ m + 40 ≤ q → M q = M q := fun _ _ => rfl
  refine T_aload0 dX13_clear_0 rfl ?_
  refine T_iconst (0) dX13_clear_1 rfl rfl ?_
  refine p13_57 rfl (hM.t_m) dX13_clear_2 rfl ?_
  refine T_nm (fun M1 e1 => ?_)
  have hM := MV.mv hM.p_th e1
  have hS := hS.frU e1 (by omega)
  have hW := hW.frV e1 (by omega)
  have hF : ∀ q, q < m ∨ (m < q ∧ q < m + 26) ∨ m + 40 ≤ q → M1 q = M q := fun q hq => (by rw [e1]; exact (up_a (by omega)).trans (hF q hq))
  refine T_aload0 dX13_clear_5 rfl ?_
  refine T_iload1 dX13_clear_6 rfl ?_
  refine T_cV1 (c_X13_isStretch hX hM hS hW hL _) hX k13_319 (Or.inl ⟨_, _, _, _, (hM.t_m), by decide, rfl⟩) (by decide) (Nat.le_of_ble_eq_true rfl) dX13_clear_7 rfl ?_
  rintro _ _ _ _ ⟨rfl, rfl, rfl, rfl⟩
  refine T_if_ne 19 13 dX13_clear_10 (by decide) rfl (fun c10 => ?_) (fun c10 => ?_)
  ·
    refine T_iconst (0) dX13_clear_19 rfl rfl ?_
    refine T_istore2 rfl (by decide) dX13_clear_20 rfl ?_
    refine T_iconst (0) dX13_clear_21 rfl rfl ?_
    refine T_istore3 rfl (by decide) dX13_clear_22 rfl ?_
    exact L_X13_clear hX x c10 (c + 1) 0 0 _ _ _ (Nat.zero_le _) rfl hM (by rw [mpL_0]; exact hS) hW hF (by omega)
  ·
    refine T_aload0 dX13_clear_13 rfl ?_
    refine T_iconst (1) dX13_clear_14 rfl rfl ?_
    refine T_cV1 (c_X13_no hX hM.t_m _) hX k13_291 (Or.inl ⟨_, _, _, _, (hM.t_m), by decide, rfl⟩) (by decide) (Nat.le_of_ble_eq_true rfl) dX13_clear_15 rfl ?_
    rintro _ _ _ M9 ⟨rfl, rfl, rfl, e9⟩
    refine T_iret rfl rfl dX13_clear_18 ?_
    exact ⟨fun _ => ⟨rfl, TH.c e1 e9⟩, fun q => absurd c10 q⟩
