set_option maxHeartbeats 1000000 in
theorem c_X13_count {l : Launch} {D : va_G} {cA : Nat → ClassId} {n0 : Nat} {sg adK adV : Nat → Nat} {sgA smA wdA bS LS : Nat} {xs : Nat → Int32} (hX : SF n0 (XW0 sg adK adV sgA smA wdA n0 bS LS xs)) {sz : Nat} {τ : TY} {N1 N2 M : ME} {m y z n8 tk dp a b c hc wc sn : Nat} {B : Nat → Nat} {ω ρ π : RH} {σ : Nat → Nat} {μ κ : Nat → Int32} (hM : MV τ N1 M m y z (m + 26) (m + 40) n8 tk dp B ω) (hS : SL τ N2 M (m + 26) a b c ρ m μ κ) (hW : WN τ M m y (m + 26) a b c hc wc sn ρ π σ) (hL : y = m + 7 ∨ m + 54 ≤ y) (x : Int32) : CT l D cA n0 (XW0 sg adK adV sgA smA wdA n0 bS LS xs) mX13_count 4 1 13 sz τ M [.ref m, .int x] (fun v' sz' τ' M' => (iiF x 0 12 = 0 → v' = some (.int (0)) ∧ TH τ M m sz sz' τ' M' (1)) ∧ (¬ iiF x 0 12 = 0 → v' = some (.int (cntF a b c n8 ρ x.toNatClampNeg)) ∧ TH τ M m sz sz' τ' M' (0))) := by
  refine CT.of (ls := [.ref m, .int x]) (by decide) (Nat.le_of_ble_eq_true rfl) rfl ?_
  refine T_szb (fun hz => ?_)
  have z1 := hM.hi hz
  have hm : m < sz := by omega
  obtain ⟨l3, l4, l5, l6, l7, l8⟩ := hW.ok
  refine T_aload0 dX13_count_0 rfl ?_
  refine T_iconst (0) dX13_count_1 rfl rfl ?_
  refine p13_57 rfl (hM.t_m) dX13_count_2 rfl ?_
  refine T_nm (fun M1 e1 => ?_)
  have hM := MV.mv hM.p_th e1
  have hS := hS.frU e1 (by omega)
  have hW := hW.frV e1 (by omega)
  refine T_iload1 dX13_count_5 rfl ?_
  refine T_iconst (0) dX13_count_6 rfl rfl ?_
  refine T_bipush (12) dX13_count_7 rfl rfl ?_
  refine T_cS3 (c_X13_isIn hX _ _ _) hX k13_63 (by decide) (Nat.le_of_ble_eq_true rfl) dX13_count_9 rfl ?_
  rintro _ _ _ _ ⟨rfl, rfl, rfl, rfl⟩
  refine T_if_eq 23 15 dX13_count_12 (by decide) rfl (fun c12 => ?_) (fun c12 => ?_)
  ·
    refine T_aload0 dX13_count_23 rfl ?_
    refine T_iconst (1) dX13_count_24 rfl rfl ?_
    refine T_cV1 (c_X13_no hX hM.t_m _) hX k13_291 (Or.inl ⟨_, _, _, _, (hM.t_m), by decide, rfl⟩) (by decide) (Nat.le_of_ble_eq_true rfl) dX13_count_25 rfl ?_
    rintro _ _ _ M9 ⟨rfl, rfl, rfl, e9⟩
    refine T_iret rfl rfl dX13_count_28 ?_
    first
      | exact ⟨fun _ => ⟨rfl, TH.c e1 e9⟩, fun q => absurd c12 q⟩
      | exact ⟨fun q => absurd q c12, fun _ => ⟨by rw [nI_cl (by omega)], TH.a e1 hm hT hK⟩⟩
  ·
    obtain ⟨j, hj, rfl⟩ := ii_nI (n := 12) (by omega) c12
    refine T_aload0 dX13_count_15 rfl ?_
    refine T_iload1 dX13_count_16 rfl ?_
    refine T_cV1 (c_X13_counted hX hM hS hW hL (by omega)) hX k13_315 (Or.inl ⟨_, _, _, _, (hM.t_m), by decide, rfl⟩) (by decide) (Nat.le_of_ble_eq_true rfl) dX13_count_17 rfl ?_
    rintro _ _ _ M9 ⟨rfl, rfl, hT, hK⟩
    refine T_goto 28 dX13_count_20 (by decide) ?_
    refine T_iret rfl rfl dX13_count_28 ?_
    first
      | exact ⟨fun _ => ⟨rfl, TH.c e1 e9⟩, fun q => absurd c12 q⟩
      | exact ⟨fun q => absurd q c12, fun _ => ⟨by rw [nI_cl (by omega)], TH.a e1 hm hT hK⟩⟩
set_option maxHeartbeats 1000000 in
theorem c_X13_stretch {l : Launch} {D : va_G} {cA : Nat → ClassId} {n0 : Nat} {sg adK adV : Nat → Nat} {sgA smA wdA bS LS : Nat} {xs : Nat → Int32} (hX : SF n0 (XW0 sg adK adV sgA smA wdA n0 bS LS xs)) {sz : Nat} {τ : TY} {N1 N2 M : ME} {m y z n8 tk dp a b c hc wc sn : Nat} {B : Nat → Nat} {ω ρ π : RH} {σ : Nat → Nat} {μ κ : Nat → Int32} (hM : MV τ N1 M m y z (m + 26) (m + 40) n8 tk dp B ω) (hS : SL τ N2 M (m + 26) a b c ρ m μ κ) (hW : WN τ M m y (m + 26) a b c hc wc sn ρ π σ) (hL : y = m + 7 ∨ m + 54 ≤ y) (x w : Int32) : CT l D cA n0 (XW0 sg adK adV sgA smA wdA n0 bS LS xs) mX13_stretch 4 1 5 sz τ M [.ref m, .int x, .int w] (fun v' sz' τ' M' => (hasI x (nI a) = 0 ∨ iiF w 0 4 = 0 → v' = some (.int (0)) ∧ TH τ M m sz sz' τ' M' (1)) ∧ (¬ hasI x (nI a) = 0 ∧ ¬ iiF w 0 4 = 0 → v' = some (.int (stF b c ρ x.toNatClampNeg w.toNatClampNeg)) ∧ TH τ M m sz sz' τ' M' (0))) := by
  refine CT.of (ls := [.ref m, .int x, .int w]) (by decide) (Nat.le_of_ble_eq_true rfl) rfl ?_
  refine T_szb (fun hz => ?_)
  have z1 := hM.hi hz
  have hm : m < sz := by omega
  obtain ⟨l3, l4, l5, l6, l7, l8⟩ := hW.ok
  refine T_aload0 dX13_stretch_0 rfl ?_
  refine T_iconst (0) dX13_stretch_1 rfl rfl ?_
  refine p13_57 rfl (hM.t_m) dX13_stretch_2 rfl ?_
  refine T_nm (fun M1 e1 => ?_)
  have hM := MV.mv hM.p_th e1
  have hS := hS.frU e1 (by omega)
  have hW := hW.frV e1 (by omega)
  refine T_aload0 dX13_stretch_5 rfl ?_
  refine T_iload1 dX13_stretch_6 rfl ?_
  refine T_cV1 (c_X13_isStretch hX hM hS hW hL _) hX k13_319 (Or.inl ⟨_, _, _, _, (hM.t_m), by decide, rfl⟩) (by decide) (Nat.le_of_ble_eq_true rfl) dX13_stretch_7 rfl ?_
  rintro _ _ _ _ ⟨rfl, rfl, rfl, rfl⟩
  refine T_if_eq 31 13 dX13_stretch_10 (by decide) rfl (fun c10 => ?_) (fun c10 => ?_)
  ·
    refine T_aload0 dX13_stretch_31 rfl ?_
    refine T_iconst (1) dX13_stretch_32 rfl rfl ?_
    refine T_cV1 (c_X13_no hX hM.t_m _) hX k13_291 (Or.inl ⟨_, _, _, _, (hM.t_m), by decide, rfl⟩) (by decide) (Nat.le_of_ble_eq_true rfl) dX13_stretch_33 rfl ?_
    rintro _ _ _ M9 ⟨rfl, rfl, rfl, e9⟩
    refine T_iret rfl rfl dX13_stretch_36 ?_
    first
      | exact ⟨fun _ => ⟨rfl, TH.c e1 e9⟩, fun q => absurd c10 q.1⟩
      | exact ⟨fun _ => ⟨rfl, TH.c e1 e9⟩, fun q => absurd c19 q.2⟩
      | exact ⟨fun q => q.elim (fun z => absurd z c10) (fun z => absurd z c19), fun _ => ⟨by rw [nI_cl (by omega), nI_cl (by omega)], TH.a e1 hm hT hK⟩⟩
  ·
    obtain ⟨i, hi, rfl⟩ := has_nI (by omega) c10
    refine T_iload2 dX13_stretch_13 rfl ?_
    refine T_iconst (0) dX13_stretch_14 rfl rfl ?_
    refine T_iconst (4) dX13_stretch_15 rfl rfl ?_
    refine T_cS3 (c_X13_isIn hX _ _ _) hX k13_63 (by decide) (Nat.le_of_ble_eq_true rfl) dX13_stretch_16 rfl ?_
    rintro _ _ _ _ ⟨rfl, rfl, rfl, rfl⟩
    refine T_if_eq 31 22 dX13_stretch_19 (by decide) rfl (fun c19 => ?_) (fun c19 => ?_)
    ·
      refine T_aload0 dX13_stretch_31 rfl ?_
      refine T_iconst (1) dX13_stretch_32 rfl rfl ?_
      refine T_cV1 (c_X13_no hX hM.t_m _) hX k13_291 (Or.inl ⟨_, _, _, _, (hM.t_m), by decide, rfl⟩) (by decide) (Nat.le_of_ble_eq_true rfl) dX13_stretch_33 rfl ?_
      rintro _ _ _ M9 ⟨rfl, rfl, rfl, e9⟩
      refine T_iret rfl rfl dX13_stretch_36 ?_
      first
        | exact ⟨fun _ => ⟨rfl, TH.c e1 e9⟩, fun q => absurd c10 q.1⟩
        | exact ⟨fun _ => ⟨rfl, TH.c e1 e9⟩, fun q => absurd c19 q.2⟩
        | exact ⟨fun q => q.elim (fun z => absurd z c10) (fun z => absurd z c19), fun _ => ⟨by rw [nI_cl (by omega), nI_cl (by omega)], TH.a e1 hm hT hK⟩⟩
    ·
      obtain ⟨j, hj, rfl⟩ := ii_nI (n := 4) (by omega) c19
      refine T_aload0 dX13_stretch_22 rfl ?_
      refine T_iload1 dX13_stretch_23 rfl ?_
      refine T_iload2 dX13_stretch_24 rfl ?_
      refine T_cV2 (c_X13_stretchTold hX hM hS hW hL hi (by omega)) hX k13_322 (Or.inl ⟨_, _, _, _, (hM.t_m), by decide, rfl⟩) (by decide) (Nat.le_of_ble_eq_true rfl) dX13_stretch_25 rfl ?_
      rintro _ _ _ M9 ⟨rfl, rfl, hT, hK⟩
      refine T_goto 36 dX13_stretch_28 (by decide) ?_
      refine T_iret rfl rfl dX13_stretch_36 ?_
      first
        | exact ⟨fun _ => ⟨rfl, TH.c e1 e9⟩, fun q => absurd c10 q.1⟩
        | exact ⟨fun _ => ⟨rfl, TH.c e1 e9⟩, fun q => absurd c19 q.2⟩
        | exact ⟨fun q => q.elim (fun z => absurd z c10) (fun z => absurd z c19), fun _ => ⟨by rw [nI_cl (by omega), nI_cl (by omega)], TH.a e1 hm hT hK⟩⟩
