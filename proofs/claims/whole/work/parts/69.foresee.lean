def fsF (a b c hc wc : Nat) (σ : Nat → Nat) (π ρ : RH) (j i : Nat) : Int32 := match i with
  | 0 => wOf c (gbC a b c hc wc σ π ρ j) 3 - wOf c ρ 3
  | 1 => nOf c (gbC a b c hc wc σ π ρ j) 2
  | 2 => (gbC a b c hc wc σ π ρ j) 8 0 - ρ 8 0
  | _ => wOf c (gbC a b c hc wc σ π ρ j) 0
set_option maxHeartbeats 1000000 in
theorem c_X13_foresee {l : Launch} {D : va_G} {cA : Nat → ClassId} {n0 : Nat} {sg adK adV : Nat → Nat} {sgA smA wdA bS LS : Nat} {xs : Nat → Int32} (hX : SF n0 (XW0 sg adK adV sgA smA wdA n0 bS LS xs)) {sz : Nat} {τ : TY} {N1 N2 M : ME} {m y z n8 tk dp a b c hc wc sn : Nat} {B : Nat → Nat} {ω ρ π : RH} {σ : Nat → Nat} {μ κ : Nat → Int32} (hM : MV τ N1 M m y z (m + 26) (m + 40) n8 tk dp B ω) (hS : SL τ N2 M (m + 26) a b c ρ m μ κ) (hW : WN τ M m y (m + 26) a b c hc wc sn ρ π σ) (hL : y = m + 7 ∨ m + 54 ≤ y) (ho : PmOK a b c hc wc sn σ π) (hi : RI a b c ρ) {N3 : ME} {ρ2 : RH} {μ2 κ2 : Nat → Int32} (hA : SL τ N3 M (m + 40) a b c ρ2 m μ2 κ2) (hU : WN τ M m y (m + 40) a b c hc wc sn ρ π σ) (x w : Int32) : CT l D cA n0 (XW0 sg adK adV sgA smA wdA n0 bS LS xs) mX13_foresee 9 0 0 sz τ M [.ref m, .int x, .int w] (fun v' sz' τ' M' => (iiF x 1 120 = 0 → v' = some (.int 0) ∧ TH τ M m sz sz' τ' M' 1) ∧ (¬ iiF x 1 120 = 0 ∧ iiF w 0 3 = 0 → v' = some (.int 0) ∧ TH τ M m sz sz' τ' M' 2) ∧ (¬ iiF x 1 120 = 0 ∧ ¬ iiF w 0 3 = 0 → v' = some (.int (fsF a b c hc wc σ π ρ x.toNatClampNeg w.toNatClampNeg)) ∧ SA τ M m sz sz' τ' M' y z n8 tk dp B ω a b c ρ)) := by
  refine CT.of (ls := [.ref m, .int x, .int w]) (by decide) (Nat.le_of_ble_eq_true rfl) rfl ?_
  refine T_szb (fun hz => ?_)
  have z1 := hM.hi hz
  have hm : m < sz := by omega
  obtain ⟨l3, l4, l5, l6, l7, l8⟩ := hW.ok
  have hF : ∀ q, q < m ∨ (m < q ∧ q < m + 26) ∨ m + 54 ≤ q → M q = M q := fun _ _ => rfl
  refine T_aload0 dX13_foresee_0 rfl ?_
  refine T_iconst (0) dX13_foresee_1 rfl rfl ?_
  refine p13_57 rfl (hM.t_m) dX13_foresee_2 rfl ?_
  refine T_nm (fun M1 e1 => ?_)
  have hM := MV.mv hM.p_th e1
  have hS := hS.frU e1 (by omega)
  have hA := hA.frU e1 (by omega)
  have hW := hW.frV e1 (by omega)
  have hU := hU.frV e1 (by omega)
  have hF : ∀ q, q < m ∨ (m < q ∧ q < m + 26) ∨ m + 54 ≤ q → M1 q = M q := fun q hq => (by rw [e1]; exact (up_a (by omega)).trans (hF q hq))
  refine T_iload1 dX13_foresee_5 rfl ?_
  refine T_iconst (1) dX13_foresee_6 rfl rfl ?_
  refine T_bipush (120) dX13_foresee_7 rfl rfl ?_
  refine T_cS3 (c_X13_isIn hX _ _ _) hX k13_63 (by decide) (Nat.le_of_ble_eq_true rfl) dX13_foresee_9 rfl ?_
  rintro _ _ _ _ ⟨rfl, rfl, rfl, rfl⟩
  refine T_if_ne 21 15 dX13_foresee_12 (by decide) rfl (fun c12 => ?_) (fun c12 => ?_)
  ·
    obtain ⟨j, hj1, hj, rfl⟩ := ii_1n (n := 120) (by omega) c12
    refine T_iload2 dX13_foresee_21 rfl ?_
    refine T_iconst (0) dX13_foresee_22 rfl rfl ?_
    refine T_iconst (3) dX13_foresee_23 rfl rfl ?_
    refine T_cS3 (c_X13_isIn hX _ _ _) hX k13_63 (by decide) (Nat.le_of_ble_eq_true rfl) dX13_foresee_24 rfl ?_
    rintro _ _ _ _ ⟨rfl, rfl, rfl, rfl⟩
    refine T_if_ne 36 30 dX13_foresee_27 (by decide) rfl (fun c27 => ?_) (fun c27 => ?_)
    ·
      obtain ⟨i, hi4, rfl⟩ := ii_nI (n := 3) (by omega) c27
      rw [nI_cl (by omega), nI_cl (by omega)]
      refine T_aload0 dX13_foresee_36 rfl ?_
      refine g13_51 _ rfl (hM.t_m) (hM.g_s2) dX13_foresee_37 rfl ?_
      refine T_aload0 dX13_foresee_40 rfl ?_
      refine g13_47 _ rfl (hM.t_m) (hM.g_s1) dX13_foresee_41 rfl ?_
      refine T_cV1 (c_X12_become hX hA.rf hS (by omega)) hX k13_371 (by first | exact Or.inl ⟨_, _, _, _, (hS.t_s), by decide, rfl⟩ | exact Or.inl ⟨_, _, _, _, (hA.t_s), by decide, rfl⟩) (by decide) (Nat.le_of_ble_eq_true rfl) dX13_foresee_44 rfl ?_
      rintro _ _ _ M8 ⟨rfl, rfl, rfl, hN⟩
      have hU := hU.nx hN.frame
      have hW := hW.re (by exact (congrFun (hN.frame m (by omega)) 11).trans hW.g_pl) (fun q g1 g2 => hN.frame q (by omega)) (KS.rf ρ)
      have hM := hM.nx hN.frame (by omega)
      have hS := hS.nx hN.frame (by omega)
      have hF : ∀ q, q < m ∨ (m < q ∧ q < m + 26) ∨ m + 54 ≤ q → M8 q = M q := fun q hq => (hN.frame q (by omega)).trans (hF q hq)
      have hA := hN.rf
      refine T_aload0 dX13_foresee_47 rfl ?_
      refine g13_51 _ rfl (hM.t_m) (hM.g_s2) dX13_foresee_48 rfl ?_
      refine T_iload1 dX13_foresee_51 rfl ?_
      refine T_cV1 (c_X12_pass_ hX ho hi hA.rf hU (hs := j) (by omega)) hX k13_368 (by first | exact Or.inl ⟨_, _, _, _, (hS.t_s), by decide, rfl⟩ | exact Or.inl ⟨_, _, _, _, (hA.t_s), by decide, rfl⟩) (by decide) (Nat.le_of_ble_eq_true rfl) dX13_foresee_52 rfl ?_
      rintro _ _ _ M8 ⟨rfl, rfl, rfl, μ9, κ9, hN⟩
      have hU := hU.nx hN.frame
      have hW := hW.re (by exact (congrFun (hN.frame m (by omega)) 11).trans hW.g_pl) (fun q g1 g2 => hN.frame q (by omega)) (KS.rf ρ)
      have hM := hM.nx hN.frame (by omega)
      have hS := hS.nx hN.frame (by omega)
      have hF : ∀ q, q < m ∨ (m < q ∧ q < m + 26) ∨ m + 54 ≤ q → M8 q = M q := fun q hq => (hN.frame q (by omega)).trans (hF q hq)
      have hA := hN.rf
      refine T_iload2 dX13_foresee_55 rfl ?_
      rcases (show i = 0 ∨ i = 1 ∨ i = 2 ∨ i = 3 by omega) with rfl | rfl | rfl | rfl
      ·
        refine T_tin (off := 28) 84 dX13_foresee_56 (by decide +kernel) (by decide +kernel) (by decide +kernel) (by decide) ?_
        refine T_aload0 dX13_foresee_84 rfl ?_
        refine g13_51 _ rfl (hM.t_m) (hM.g_s2) dX13_foresee_85 rfl ?_
        refine T_iconst (3) dX13_foresee_88 rfl rfl ?_
        refine T_iconst (-1) dX13_foresee_89 rfl rfl ?_
        refine T_cV2 (c_X12_weights hX hA (hU.ks ((KS.rf ρ).gb j)) _ _) hX k13_307 (by first | exact Or.inl ⟨_, _, _, _, (hS.t_s), by decide, rfl⟩ | exact Or.inl ⟨_, _, _, _, (hA.t_s), by decide, rfl⟩) (by decide) (Nat.le_of_ble_eq_true rfl) dX13_foresee_90 rfl ?_
        rintro _ _ _ _ ⟨rfl, rfl, rfl, rfl⟩
        refine T_aload0 dX13_foresee_93 rfl ?_
        refine g13_47 _ rfl (hM.t_m) (hM.g_s1) dX13_foresee_94 rfl ?_
        refine T_iconst (3) dX13_foresee_97 rfl rfl ?_
        refine T_iconst (-1) dX13_foresee_98 rfl rfl ?_
        refine T_cV2 (c_X12_weights hX hS hW _ _) hX k13_307 (by first | exact Or.inl ⟨_, _, _, _, (hS.t_s), by decide, rfl⟩ | exact Or.inl ⟨_, _, _, _, (hA.t_s), by decide, rfl⟩) (by decide) (Nat.le_of_ble_eq_true rfl) dX13_foresee_99 rfl ?_
        rintro _ _ _ _ ⟨rfl, rfl, rfl, rfl⟩
        refine T_isub dX13_foresee_102 rfl ?_
        refine T_iret rfl rfl dX13_foresee_103 ?_
        refine ⟨fun q => absurd q c12, fun q => absurd q.2 c27, fun _ => ⟨congrArg (fun z => some (Value.int z)) ?_, rfl, rfl, hF, hM.rf, ⟨_, _, hS.rf⟩, _, _, _, hA.rf⟩⟩
        simp only [fsF, wb_all, nb_all]
      ·
        refine T_tin (off := 48) 104 dX13_foresee_56 (by decide +kernel) (by decide +kernel) (by decide +kernel) (by decide) ?_
        refine T_aload0 dX13_foresee_104 rfl ?_
        refine g13_51 _ rfl (hM.t_m) (hM.g_s2) dX13_foresee_105 rfl ?_
        refine T_iconst (2) dX13_foresee_108 rfl rfl ?_
        refine T_iconst (-1) dX13_foresee_109 rfl rfl ?_
        refine T_cV2 (c_X12_logs hX hA (hU.ks ((KS.rf ρ).gb j)) _ _) hX k13_310 (by first | exact Or.inl ⟨_, _, _, _, (hS.t_s), by decide, rfl⟩ | exact Or.inl ⟨_, _, _, _, (hA.t_s), by decide, rfl⟩) (by decide) (Nat.le_of_ble_eq_true rfl) dX13_foresee_110 rfl ?_
        rintro _ _ _ _ ⟨rfl, rfl, rfl, rfl⟩
        refine T_iret rfl rfl dX13_foresee_113 ?_
        refine ⟨fun q => absurd q c12, fun q => absurd q.2 c27, fun _ => ⟨congrArg (fun z => some (Value.int z)) ?_, rfl, rfl, hF, hM.rf, ⟨_, _, hS.rf⟩, _, _, _, hA.rf⟩⟩
        simp only [fsF, wb_all, nb_all]
      ·
        refine T_tin (off := 58) 114 dX13_foresee_56 (by decide +kernel) (by decide +kernel) (by decide +kernel) (by decide) ?_
        refine T_aload0 dX13_foresee_114 rfl ?_
        refine g13_51 _ rfl (hM.t_m) (hM.g_s2) dX13_foresee_115 rfl ?_
        first | refine g13_312 _ rfl (hS.t_s) (hS.g_brok) dX13_foresee_118 rfl ?_ | refine g13_312 _ rfl (hA.t_s) (hA.g_brok) dX13_foresee_118 rfl ?_
        refine T_aload0 dX13_foresee_121 rfl ?_
        refine g13_47 _ rfl (hM.t_m) (hM.g_s1) dX13_foresee_122 rfl ?_
        first | refine g13_312 _ rfl (hS.t_s) (hS.g_brok) dX13_foresee_125 rfl ?_ | refine g13_312 _ rfl (hA.t_s) (hA.g_brok) dX13_foresee_125 rfl ?_
        refine T_isub dX13_foresee_128 rfl ?_
        refine T_iret rfl rfl dX13_foresee_129 ?_
        refine ⟨fun q => absurd q c12, fun q => absurd q.2 c27, fun _ => ⟨congrArg (fun z => some (Value.int z)) ?_, rfl, rfl, hF, hM.rf, ⟨_, _, hS.rf⟩, _, _, _, hA.rf⟩⟩
        simp only [fsF, wb_all, nb_all]
      ·
        refine T_tout 130 dX13_foresee_56 (by decide +kernel) (by decide) ?_
        refine T_aload0 dX13_foresee_130 rfl ?_
        refine g13_51 _ rfl (hM.t_m) (hM.g_s2) dX13_foresee_131 rfl ?_
        refine T_iconst (0) dX13_foresee_134 rfl rfl ?_
        refine T_iconst (-1) dX13_foresee_135 rfl rfl ?_
        refine T_cV2 (c_X12_weights hX hA (hU.ks ((KS.rf ρ).gb j)) _ _) hX k13_307 (by first | exact Or.inl ⟨_, _, _, _, (hS.t_s), by decide, rfl⟩ | exact Or.inl ⟨_, _, _, _, (hA.t_s), by decide, rfl⟩) (by decide) (Nat.le_of_ble_eq_true rfl) dX13_foresee_136 rfl ?_
        rintro _ _ _ _ ⟨rfl, rfl, rfl, rfl⟩
        refine T_iret rfl rfl dX13_foresee_139 ?_
        refine ⟨fun q => absurd q c12, fun q => absurd q.2 c27, fun _ => ⟨congrArg (fun z => some (Value.int z)) ?_, rfl, rfl, hF, hM.rf, ⟨_, _, hS.rf⟩, _, _, _, hA.rf⟩⟩
        simp only [fsF, wb_all, nb_all]
    ·
      refine T_aload0 dX13_foresee_30 rfl ?_
      refine T_iconst (2) dX13_foresee_31 rfl rfl ?_
      refine T_cV1 (c_X13_no hX hM.t_m _) hX k13_291 (Or.inl ⟨_, _, _, _, (hM.t_m), by decide, rfl⟩) (by decide) (Nat.le_of_ble_eq_true rfl) dX13_foresee_32 rfl ?_
      rintro _ _ _ M9 ⟨rfl, rfl, rfl, e9⟩
      refine T_iret rfl rfl dX13_foresee_35 ?_
      exact ⟨fun q => absurd q c12, fun _ => ⟨rfl, TH.c e1 e9⟩, fun q => absurd c27 q.2⟩
  ·
    refine T_aload0 dX13_foresee_15 rfl ?_
    refine T_iconst (1) dX13_foresee_16 rfl rfl ?_
    refine T_cV1 (c_X13_no hX hM.t_m _) hX k13_291 (Or.inl ⟨_, _, _, _, (hM.t_m), by decide, rfl⟩) (by decide) (Nat.le_of_ble_eq_true rfl) dX13_foresee_17 rfl ?_
    rintro _ _ _ M9 ⟨rfl, rfl, rfl, e9⟩
    refine T_iret rfl rfl dX13_foresee_20 ?_
    exact ⟨fun _ => ⟨rfl, TH.c e1 e9⟩, fun q => absurd c12 q.1, fun q => absurd c12 q.1⟩
