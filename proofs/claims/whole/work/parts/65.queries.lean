theorem nar_ii (v x z : Int32) : narrow FieldType.boolean (.int (iiF v x z)) = .int (iiF v x z) := by
  unfold iiF; split <;> rfl
theorem nI_m1a (a : Nat) (h : a ≤ 1000) (x : Int32) : iiF x 0 (nI a - 1) = hasI x (nI a) := by
  unfold iiF hasI
  have e : (0 ≤ x ∧ x ≤ nI a - 1) ↔ (0 ≤ x ∧ x < nI a) := by
    refine and_congr_right (fun h0 => ?_)
    obtain ⟨j, hj, rfl⟩ := nI_of (Int32.not_lt.mpr h0)
    rw [Int32.sub_eq_add_neg]
    by_cases q : a = 0
    · subst q
      refine ⟨fun z => absurd (Int32.le_trans h0 z) (by decide), fun z => absurd z (Int32.not_lt.mpr h0)⟩
    · rw [nI_pr1 (by omega), nI_leI hj (by omega)]
      exact ⟨fun z => nI_lt (by omega) (by omega), fun z => by
        have := (nI_leI (a := a) (b := j) (by omega) hj)
        have h2 : ¬ nI a ≤ nI j := Int32.not_le.mpr z
        rw [this] at h2; omega⟩
  simp only [e]
set_option maxHeartbeats 1000000 in
theorem c_X13_isStretch {l : Launch} {D : va_G} {cA : Nat → ClassId} {n0 : Nat} {sg adK adV : Nat → Nat} {sgA smA wdA bS LS : Nat} {xs : Nat → Int32} (hX : SF n0 (XW0 sg adK adV sgA smA wdA n0 bS LS xs)) {sz : Nat} {τ : TY} {N1 N2 M : ME} {m y z n8 tk dp a b c hc wc sn : Nat} {B : Nat → Nat} {ω ρ π : RH} {σ : Nat → Nat} {μ κ : Nat → Int32} (hM : MV τ N1 M m y z (m + 26) (m + 40) n8 tk dp B ω) (hS : SL τ N2 M (m + 26) a b c ρ m μ κ) (hW : WN τ M m y (m + 26) a b c hc wc sn ρ π σ) (hL : y = m + 7 ∨ m + 54 ≤ y) (x : Int32) : CT l D cA n0 (XW0 sg adK adV sgA smA wdA n0 bS LS xs) mX13_isStretch 2 0 0 sz τ M [.ref m, .int x] (ROq (.int (hasI x (nI a))) sz τ M) := by
  refine CT.of (ls := [.ref m, .int x]) (by decide) (Nat.le_of_ble_eq_true rfl) rfl ?_
  obtain ⟨l3, l4, l5, l6, l7, l8⟩ := hW.ok
  refine T_iload1 dX13_isStretch_0 rfl ?_
  refine T_iconst (0) dX13_isStretch_1 rfl rfl ?_
  refine T_aload0 dX13_isStretch_2 rfl ?_
  first | refine g13_35 _ rfl (hM.t_m) (hM.g_y) dX13_isStretch_3 rfl ?_ | refine g13_35 _ rfl (hW.t_m) (hW.g_pl) dX13_isStretch_3 rfl ?_
  refine g13_60 _ rfl (hW.t_q) (hW.g_stretches) dX13_isStretch_6 rfl ?_
  refine T_iconst (1) dX13_isStretch_9 rfl rfl ?_
  refine T_isub dX13_isStretch_10 rfl ?_
  refine T_cS3 (c_X13_isIn hX _ _ _) hX k13_63 (by decide) (Nat.le_of_ble_eq_true rfl) dX13_isStretch_11 rfl ?_
  rintro _ _ _ _ ⟨rfl, rfl, rfl, rfl⟩
  refine T_iret rfl (nar_ii _ _ _) dX13_isStretch_14 ?_
  exact ⟨congrArg (fun z => some (Value.int z)) (nI_m1a a (by omega) _), rfl, rfl, rfl⟩
set_option maxHeartbeats 1000000 in
theorem c_X13_isHorse {l : Launch} {D : va_G} {cA : Nat → ClassId} {n0 : Nat} {sg adK adV : Nat → Nat} {sgA smA wdA bS LS : Nat} {xs : Nat → Int32} (hX : SF n0 (XW0 sg adK adV sgA smA wdA n0 bS LS xs)) {sz : Nat} {τ : TY} {N1 N2 M : ME} {m y z n8 tk dp a b c hc wc sn : Nat} {B : Nat → Nat} {ω ρ π : RH} {σ : Nat → Nat} {μ κ : Nat → Int32} (hM : MV τ N1 M m y z (m + 26) (m + 40) n8 tk dp B ω) (hS : SL τ N2 M (m + 26) a b c ρ m μ κ) (hW : WN τ M m y (m + 26) a b c hc wc sn ρ π σ) (hL : y = m + 7 ∨ m + 54 ≤ y) (x : Int32) : CT l D cA n0 (XW0 sg adK adV sgA smA wdA n0 bS LS xs) mX13_isHorse 2 0 0 sz τ M [.ref m, .int x] (ROq (.int (hasI x (nI b))) sz τ M) := by
  refine CT.of (ls := [.ref m, .int x]) (by decide) (Nat.le_of_ble_eq_true rfl) rfl ?_
  obtain ⟨l3, l4, l5, l6, l7, l8⟩ := hW.ok
  refine T_iload1 dX13_isHorse_0 rfl ?_
  refine T_iconst (0) dX13_isHorse_1 rfl rfl ?_
  refine T_aload0 dX13_isHorse_2 rfl ?_
  first | refine g13_35 _ rfl (hM.t_m) (hM.g_y) dX13_isHorse_3 rfl ?_ | refine g13_35 _ rfl (hW.t_m) (hW.g_pl) dX13_isHorse_3 rfl ?_
  refine g13_67 _ rfl (hW.t_q) (hW.g_horses) dX13_isHorse_6 rfl ?_
  refine T_iconst (1) dX13_isHorse_9 rfl rfl ?_
  refine T_isub dX13_isHorse_10 rfl ?_
  refine T_cS3 (c_X13_isIn hX _ _ _) hX k13_63 (by decide) (Nat.le_of_ble_eq_true rfl) dX13_isHorse_11 rfl ?_
  rintro _ _ _ _ ⟨rfl, rfl, rfl, rfl⟩
  refine T_iret rfl (nar_ii _ _ _) dX13_isHorse_14 ?_
  exact ⟨congrArg (fun z => some (Value.int z)) (nI_m1a b (by omega) _), rfl, rfl, rfl⟩
set_option maxHeartbeats 1000000 in
theorem c_X13_isLog {l : Launch} {D : va_G} {cA : Nat → ClassId} {n0 : Nat} {sg adK adV : Nat → Nat} {sgA smA wdA bS LS : Nat} {xs : Nat → Int32} (hX : SF n0 (XW0 sg adK adV sgA smA wdA n0 bS LS xs)) {sz : Nat} {τ : TY} {N1 N2 M : ME} {m y z n8 tk dp a b c hc wc sn : Nat} {B : Nat → Nat} {ω ρ π : RH} {σ : Nat → Nat} {μ κ : Nat → Int32} (hM : MV τ N1 M m y z (m + 26) (m + 40) n8 tk dp B ω) (hS : SL τ N2 M (m + 26) a b c ρ m μ κ) (hW : WN τ M m y (m + 26) a b c hc wc sn ρ π σ) (hL : y = m + 7 ∨ m + 54 ≤ y) (x : Int32) : CT l D cA n0 (XW0 sg adK adV sgA smA wdA n0 bS LS xs) mX13_isLog 2 0 0 sz τ M [.ref m, .int x] (ROq (.int (hasI x (nI c))) sz τ M) := by
  refine CT.of (ls := [.ref m, .int x]) (by decide) (Nat.le_of_ble_eq_true rfl) rfl ?_
  obtain ⟨l3, l4, l5, l6, l7, l8⟩ := hW.ok
  refine T_iload1 dX13_isLog_0 rfl ?_
  refine T_iconst (0) dX13_isLog_1 rfl rfl ?_
  refine T_aload0 dX13_isLog_2 rfl ?_
  first | refine g13_35 _ rfl (hM.t_m) (hM.g_y) dX13_isLog_3 rfl ?_ | refine g13_35 _ rfl (hW.t_m) (hW.g_pl) dX13_isLog_3 rfl ?_
  refine g13_70 _ rfl (hW.t_q) (hW.g_logs) dX13_isLog_6 rfl ?_
  refine T_iconst (1) dX13_isLog_9 rfl rfl ?_
  refine T_isub dX13_isLog_10 rfl ?_
  refine T_cS3 (c_X13_isIn hX _ _ _) hX k13_63 (by decide) (Nat.le_of_ble_eq_true rfl) dX13_isLog_11 rfl ?_
  rintro _ _ _ _ ⟨rfl, rfl, rfl, rfl⟩
  refine T_iret rfl (nar_ii _ _ _) dX13_isLog_14 ?_
  exact ⟨congrArg (fun z => some (Value.int z)) (nI_m1a c (by omega) _), rfl, rfl, rfl⟩
set_option maxHeartbeats 1000000 in
theorem c_X13_horseTold {l : Launch} {D : va_G} {cA : Nat → ClassId} {n0 : Nat} {sg adK adV : Nat → Nat} {sgA smA wdA bS LS : Nat} {xs : Nat → Int32} (hX : SF n0 (XW0 sg adK adV sgA smA wdA n0 bS LS xs)) {sz : Nat} {τ : TY} {N1 N2 M : ME} {m y z n8 tk dp a b c hc wc sn : Nat} {B : Nat → Nat} {ω ρ π : RH} {σ : Nat → Nat} {μ κ : Nat → Int32} (hM : MV τ N1 M m y z (m + 26) (m + 40) n8 tk dp B ω) (hS : SL τ N2 M (m + 26) a b c ρ m μ κ) (hW : WN τ M m y (m + 26) a b c hc wc sn ρ π σ) (hL : y = m + 7 ∨ m + 54 ≤ y) {i j : Nat} (hi : i < b) (hj : j < 10) : CT l D cA n0 (XW0 sg adK adV sgA smA wdA n0 bS LS xs) mX13_horseTold 3 1 10 sz τ M [.ref m, .int (nI i), .int (nI j)] (fun v' sz' τ' M' => v' = some (.int (hsF c ρ i j)) ∧ sz' = sz + 1 ∧ (∀ q, q < sz → τ' q = τ q) ∧ (∀ q, q < sz → M' q = M q)) := by
  refine CT.of (ls := [.ref m, .int (nI i), .int (nI j), UU]) (by decide) (Nat.le_of_ble_eq_true rfl) rfl ?_
  obtain ⟨l3, l4, l5, l6, l7, l8⟩ := hW.ok
  refine T_szb (fun hz => ?_)
  have z1 := hM.hi hz
  have z2 := hS.hi hz
  have z3 := hW.hi hz
  refine T_bipush (10) dX13_horseTold_0 rfl rfl ?_
  refine T_newa (atype := .int) (N := 10) 0 (fun _ => .int 0) w360 (by decide) rfl rfl (by decide) rfl dX13_horseTold_2 rfl ?_
  refine T_nt (fun τ2 eτ => ?_)
  refine T_nm (fun Mn en => ?_)
  have hM := (hM.tau (τ' := τ2) (fun q g1 g2 => by rw [eτ]; exact tyN_n (by omega))).fr (M1 := Mn) (fun q g1 g2 => by rw [en]; exact meN_n (by omega))
  have hS := (hS.tau (τ' := τ2) (fun q g1 g2 => by rw [eτ]; exact tyN_n (by omega))).fr (M1 := Mn) (fun q g1 g2 => by rw [en]; exact meN_n (by omega))
  have hW := hW.al (τ' := τ2) (M1 := Mn) (by rw [en]; exact meN_n (by omega)) (fun q g1 g2 => by rw [en]; exact meN_n (by omega)) (by rw [eτ]; exact tyN_n (by omega)) (fun q g1 g2 => by rw [eτ]; exact tyN_n (by omega))
  have hA : AV τ2 Mn Mn sz 10 (fun _ => 0) := ⟨by rw [eτ]; exact tyN_s _ _ _, fun i hi => by rw [en, meN_s], Fr.rf _ _ _⟩
  have hK : ∀ q, q < sz → Mn q = M q := fun q hq => by rw [en]; exact meN_n (by omega)
  have hT : ∀ q, q < sz → τ2 q = τ q := fun q hq => by rw [eτ]; exact tyN_n (by omega)
  refine T_dup dX13_horseTold_4 rfl rfl ?_
  refine T_iconst (0) dX13_horseTold_5 rfl rfl ?_
  refine T_aload0 dX13_horseTold_6 rfl ?_
  first | refine g13_35 _ rfl (hM.t_m) (hM.g_y) dX13_horseTold_7 rfl ?_ | refine g13_35 _ rfl (hW.t_m) (hW.g_pl) dX13_horseTold_7 rfl ?_
  refine g13_267 _ rfl (hW.t_q) (hW.g_pull) dX13_horseTold_10 rfl ?_
  refine T_iload1 dX13_horseTold_13 rfl ?_
  refine T_iald _ (hW.t_pull) rfl (by omega) (by decide) dX13_horseTold_14 rfl (hW.v_pull (by omega)) ?_
  refine T_iast _ (hA.t_e) (show (0 : Int32) = nI 0 from rfl) (by omega) (by decide) dX13_horseTold_15 rfl ?_
  refine T_nm (fun M1 e1 => ?_)
  have hA := AV.mv (hA.p_v (by omega)) e1
  have hM := hM.frU e1 (by omega)
  have hS := hS.frU e1 (by omega)
  have hW := hW.frV e1 (by omega)
  have hK : ∀ q, q < sz → M1 q = M q := fun q hq => (by rw [e1, up_a (by omega)]; exact hK q hq)
  refine T_dup dX13_horseTold_16 rfl rfl ?_
  refine T_iconst (1) dX13_horseTold_17 rfl rfl ?_
  refine T_aload0 dX13_horseTold_18 rfl ?_
  refine g13_47 _ rfl (hM.t_m) (hM.g_s1) dX13_horseTold_19 rfl ?_
  refine g13_300 _ rfl (hS.t_s) (hS.g_a6) dX13_horseTold_22 rfl ?_
  refine T_iload1 dX13_horseTold_25 rfl ?_
  refine T_iald _ (hS.t_a6) rfl (by omega) (by decide) dX13_horseTold_26 rfl (hS.g_link (by omega)) ?_
  refine T_iast _ (hA.t_e) (show (1 : Int32) = nI 1 from rfl) (by omega) (by decide) dX13_horseTold_27 rfl ?_
  refine T_nm (fun M2 e2 => ?_)
  have hA := AV.mv (hA.p_v (by omega)) e2
  have hM := hM.frU e2 (by omega)
  have hS := hS.frU e2 (by omega)
  have hW := hW.frV e2 (by omega)
  have hK : ∀ q, q < sz → M2 q = M q := fun q hq => (by rw [e2, up_a (by omega)]; exact hK q hq)
  refine T_dup dX13_horseTold_28 rfl rfl ?_
  refine T_iconst (2) dX13_horseTold_29 rfl rfl ?_
  refine T_aload0 dX13_horseTold_30 rfl ?_
  refine g13_47 _ rfl (hM.t_m) (hM.g_s1) dX13_horseTold_31 rfl ?_
  refine g13_325 _ rfl (hS.t_s) (hS.g_a7) dX13_horseTold_34 rfl ?_
  refine T_iload1 dX13_horseTold_37 rfl ?_
  refine T_iald _ (hS.t_a7) rfl (by omega) (by decide) dX13_horseTold_38 rfl (hS.g_iron (by omega)) ?_
  refine T_iast _ (hA.t_e) (show (2 : Int32) = nI 2 from rfl) (by omega) (by decide) dX13_horseTold_39 rfl ?_
  refine T_nm (fun M3 e3 => ?_)
  have hA := AV.mv (hA.p_v (by omega)) e3
  have hM := hM.frU e3 (by omega)
  have hS := hS.frU e3 (by omega)
  have hW := hW.frV e3 (by omega)
  have hK : ∀ q, q < sz → M3 q = M q := fun q hq => (by rw [e3, up_a (by omega)]; exact hK q hq)
  refine T_dup dX13_horseTold_40 rfl rfl ?_
  refine T_iconst (3) dX13_horseTold_41 rfl rfl ?_
  refine T_aload0 dX13_horseTold_42 rfl ?_
  first | refine g13_35 _ rfl (hM.t_m) (hM.g_y) dX13_horseTold_43 rfl ?_ | refine g13_35 _ rfl (hW.t_m) (hW.g_pl) dX13_horseTold_43 rfl ?_
  refine g13_276 _ rfl (hW.t_q) (hW.g_bell) dX13_horseTold_46 rfl ?_
  refine T_iload1 dX13_horseTold_49 rfl ?_
  refine T_iald _ (hW.t_bell) rfl (by omega) (by decide) dX13_horseTold_50 rfl (hW.v_bell (by omega)) ?_
  refine T_iast _ (hA.t_e) (show (3 : Int32) = nI 3 from rfl) (by omega) (by decide) dX13_horseTold_51 rfl ?_
  refine T_nm (fun M4 e4 => ?_)
  have hA := AV.mv (hA.p_v (by omega)) e4
  have hM := hM.frU e4 (by omega)
  have hS := hS.frU e4 (by omega)
  have hW := hW.frV e4 (by omega)
  have hK : ∀ q, q < sz → M4 q = M q := fun q hq => (by rw [e4, up_a (by omega)]; exact hK q hq)
  refine T_dup dX13_horseTold_52 rfl rfl ?_
  refine T_iconst (4) dX13_horseTold_53 rfl rfl ?_
  refine T_aload0 dX13_horseTold_54 rfl ?_
  refine g13_47 _ rfl (hM.t_m) (hM.g_s1) dX13_horseTold_55 rfl ?_
  refine g13_297 _ rfl (hS.t_s) (hS.g_a2) dX13_horseTold_58 rfl ?_
  refine T_iload1 dX13_horseTold_61 rfl ?_
  refine T_iald _ (hS.t_a2) rfl (by omega) (by decide) dX13_horseTold_62 rfl (hS.g_wher (by omega)) ?_
  refine T_iast _ (hA.t_e) (show (4 : Int32) = nI 4 from rfl) (by omega) (by decide) dX13_horseTold_63 rfl ?_
  refine T_nm (fun M5 e5 => ?_)
  have hA := AV.mv (hA.p_v (by omega)) e5
  have hM := hM.frU e5 (by omega)
  have hS := hS.frU e5 (by omega)
  have hW := hW.frV e5 (by omega)
  have hK : ∀ q, q < sz → M5 q = M q := fun q hq => (by rw [e5, up_a (by omega)]; exact hK q hq)
  refine T_dup dX13_horseTold_64 rfl rfl ?_
  refine T_iconst (5) dX13_horseTold_65 rfl rfl ?_
  refine T_aload0 dX13_horseTold_66 rfl ?_
  refine g13_47 _ rfl (hM.t_m) (hM.g_s1) dX13_horseTold_67 rfl ?_
  refine g13_326 _ rfl (hS.t_s) (hS.g_a3) dX13_horseTold_70 rfl ?_
  refine T_iload1 dX13_horseTold_73 rfl ?_
  refine T_iald _ (hS.t_a3) rfl (by omega) (by decide) dX13_horseTold_74 rfl (hS.g_down (by omega)) ?_
  refine T_iast _ (hA.t_e) (show (5 : Int32) = nI 5 from rfl) (by omega) (by decide) dX13_horseTold_75 rfl ?_
  refine T_nm (fun M6 e6 => ?_)
  have hA := AV.mv (hA.p_v (by omega)) e6
  have hM := hM.frU e6 (by omega)
  have hS := hS.frU e6 (by omega)
  have hW := hW.frV e6 (by omega)
  have hK : ∀ q, q < sz → M6 q = M q := fun q hq => (by rw [e6, up_a (by omega)]; exact hK q hq)
  refine T_dup dX13_horseTold_76 rfl rfl ?_
  refine T_bipush (6) dX13_horseTold_77 rfl rfl ?_
  refine T_aload0 dX13_horseTold_79 rfl ?_
  refine g13_47 _ rfl (hM.t_m) (hM.g_s1) dX13_horseTold_80 rfl ?_
  refine g13_329 _ rfl (hS.t_s) (hS.g_a4) dX13_horseTold_83 rfl ?_
  refine T_iload1 dX13_horseTold_86 rfl ?_
  refine T_iald _ (hS.t_a4) rfl (by omega) (by decide) dX13_horseTold_87 rfl (hS.g_gone (by omega)) ?_
  refine T_iast _ (hA.t_e) (show (6 : Int32) = nI 6 from rfl) (by omega) (by decide) dX13_horseTold_88 rfl ?_
  refine T_nm (fun M7 e7 => ?_)
  have hA := AV.mv (hA.p_v (by omega)) e7
  have hM := hM.frU e7 (by omega)
  have hS := hS.frU e7 (by omega)
  have hW := hW.frV e7 (by omega)
  have hK : ∀ q, q < sz → M7 q = M q := fun q hq => (by rw [e7, up_a (by omega)]; exact hK q hq)
  refine T_dup dX13_horseTold_89 rfl rfl ?_
  refine T_bipush (7) dX13_horseTold_90 rfl rfl ?_
  refine T_aload0 dX13_horseTold_92 rfl ?_
  refine g13_47 _ rfl (hM.t_m) (hM.g_s1) dX13_horseTold_93 rfl ?_
  refine T_iload1 dX13_horseTold_96 rfl ?_
  refine T_cV1 (c_X12_load hX hS hW (by omega)) hX k13_332 (Or.inl ⟨_, _, _, _, (hS.t_s), by decide, rfl⟩) (by decide) (Nat.le_of_ble_eq_true rfl) dX13_horseTold_97 rfl ?_
  rintro _ _ _ _ ⟨rfl, rfl, rfl, rfl⟩
  refine T_iast _ (hA.t_e) (show (7 : Int32) = nI 7 from rfl) (by omega) (by decide) dX13_horseTold_100 rfl ?_
  refine T_nm (fun M8 e8 => ?_)
  have hA := AV.mv (hA.p_v (by omega)) e8
  have hM := hM.frU e8 (by omega)
  have hS := hS.frU e8 (by omega)
  have hW := hW.frV e8 (by omega)
  have hK : ∀ q, q < sz → M8 q = M q := fun q hq => (by rw [e8, up_a (by omega)]; exact hK q hq)
  refine T_dup dX13_horseTold_101 rfl rfl ?_
  refine T_bipush (8) dX13_horseTold_102 rfl rfl ?_
  refine T_aload0 dX13_horseTold_104 rfl ?_
  refine g13_47 _ rfl (hM.t_m) (hM.g_s1) dX13_horseTold_105 rfl ?_
  refine g13_335 _ rfl (hS.t_s) (hS.g_a5) dX13_horseTold_108 rfl ?_
  refine T_iload1 dX13_horseTold_111 rfl ?_
  refine T_iald _ (hS.t_a5) rfl (by omega) (by decide) dX13_horseTold_112 rfl (hS.g_tire (by omega)) ?_
  refine T_iast _ (hA.t_e) (show (8 : Int32) = nI 8 from rfl) (by omega) (by decide) dX13_horseTold_113 rfl ?_
  refine T_nm (fun M9 e9 => ?_)
  have hA := AV.mv (hA.p_v (by omega)) e9
  have hM := hM.frU e9 (by omega)
  have hS := hS.frU e9 (by omega)
  have hW := hW.frV e9 (by omega)
  have hK : ∀ q, q < sz → M9 q = M q := fun q hq => (by rw [e9, up_a (by omega)]; exact hK q hq)
  refine T_dup dX13_horseTold_114 rfl rfl ?_
  refine T_bipush (9) dX13_horseTold_115 rfl rfl ?_
  refine T_aload0 dX13_horseTold_117 rfl ?_
  refine g13_47 _ rfl (hM.t_m) (hM.g_s1) dX13_horseTold_118 rfl ?_
  refine g13_338 _ rfl (hS.t_s) (hS.g_a8) dX13_horseTold_121 rfl ?_
  refine T_iload1 dX13_horseTold_124 rfl ?_
  refine T_iald _ (hS.t_a8) rfl (by omega) (by decide) dX13_horseTold_125 rfl (hS.g_brou (by omega)) ?_
  refine T_iast _ (hA.t_e) (show (9 : Int32) = nI 9 from rfl) (by omega) (by decide) dX13_horseTold_126 rfl ?_
  refine T_nm (fun M10 e10 => ?_)
  have hA := AV.mv (hA.p_v (by omega)) e10
  have hM := hM.frU e10 (by omega)
  have hS := hS.frU e10 (by omega)
  have hW := hW.frV e10 (by omega)
  have hK : ∀ q, q < sz → M10 q = M q := fun q hq => (by rw [e10, up_a (by omega)]; exact hK q hq)
  refine T_astore3 rfl (by decide) dX13_horseTold_127 rfl ?_
  refine T_aload3 dX13_horseTold_128 rfl ?_
  refine T_iload2 dX13_horseTold_129 rfl ?_
  refine T_iald _ (hA.t_e) rfl (by omega) (by decide) dX13_horseTold_130 rfl (hA.g_v (by omega)) ?_
  refine T_iret rfl rfl dX13_horseTold_131 ?_
  refine ⟨congrArg (fun z => some (Value.int z)) ?_, rfl, hT, hK⟩
  rcases (show j = 0 ∨ j = 1 ∨ j = 2 ∨ j = 3 ∨ j = 4 ∨ j = 5 ∨ j = 6 ∨ j = 7 ∨ j = 8 ∨ j = 9 by omega) with rfl | rfl | rfl | rfl | rfl | rfl | rfl | rfl | rfl | rfl <;> simp [uI, hsF]
