/-! the reference reads by the rules: the rest *of* a value -/
theorem MPl.ad {τ : TY} {N1 N2 M : ME} {m y z s1 s2 n8 : Nat} {B : Nat → Nat} {ω ω0 w w0 : RH} {hr wr lt ez dp o : Nat} {s : PS} {c : Int32} (hwd : wdF o = 1) (hnm : nmB o = false) (hc : c = nI (mkF o)) (hM : MV τ N1 M m y z s1 s2 n8 s.1 dp B ω) (hV : PV τ N2 M z 0 0 0 0 hr 0 wr (psF s.2.2.1 s.2.1 + 1) (cnF s.2.2.1 s.2.1) (u2 w 71 (psF s.2.2.1 s.2.1) c)) (hω : ∀ f i, ¬ f = 83 → ω f i = ω0 f i) (hrl : ∀ i, i ≤ lt → ω 83 i = s.2.2.2.2 i) (hw : ∀ f i, ¬ f = 71 → ¬ f = 72 → w f i = w0 f i) (hG : GPw w s) (hn : s.2.1 + (ez + 1) ≤ s.1) (ht : s.1 ≤ lt) (hz : ∀ i, s.1 ≤ i → s.2.2.2.2 i = 0) : MPl τ M m y z s1 s2 n8 B ω0 w0 hr wr lt ez dp (stp s o 0) := by
  have e1 : psF (u1 s.2.2.1 s.2.1 o) (s.2.1 + 1) = psF s.2.2.1 s.2.1 + 1 := by rw [psF_u, hwd]
  have e2 : cnF (u1 s.2.2.1 s.2.1 o) (s.2.1 + 1) = cnF s.2.2.1 s.2.1 := by rw [cnF_u, hnm]; rfl
  refine ⟨ω, _, hM.rf, (by rw [← e1, ← e2] at hV; exact hV.rf), hω, hrl, fun f i h1 h2 => ?_, GPw.st hG (fun i hi => ?_) (fun i hi => ?_) ?_ (fun z => ?_) (fun z => ?_), ?_, ht, hz⟩
  · rw [u2_f h1]; exact hw f i h1 h2
  · rw [u2_i (by omega)]
  · rw [u2_f (by decide)]
  · rw [u2_s, hc]
  · rw [hwd] at z; exact absurd z (by decide)
  · rw [hnm] at z; cases z
  · show s.2.1 + 1 + ez ≤ s.1; omega
set_option maxHeartbeats 1000000 in
theorem gm_neg {l : Launch} {D : va_G} {cA : Nat → ClassId} {n0 : Nat} {sg adK adV : Nat → Nat} {sgA smA wdA bS LS : Nat} {xs : Nat → Int32} (hX : SF n0 (XW0 sg adK adV sgA smA wdA n0 bS LS xs)) {m y z s1 s2 n8 hr wr lt : Nat} {B : Nat → Nat} {K : Nat → Nat} {S : Nat → Int32} {V : Nat → Int64} {ω0 w0 : RH} (hTK : TKF B lt K S V ω0) (hmz : m + 7 ≤ z ∨ z + 19 ≤ m) {d : Nat} {s : PS} (hd : d ≤ 8) {q : PQ} (hq : K s.1 = 35) (hd8 : d < 8) (hV1 : ∀ (sz : Nat) (τ : TY) (M : ME) (ez : Nat), MPl τ M m y z s1 s2 n8 B ω0 w0 hr wr lt (ez) (d + 1) (adv s 1) → CT l D cA n0 (XW0 sg adK adV sgA smA wdA n0 bS LS xs) mX13_isValue (10 * (9 - (d + 1)) + 3) 0 0 sz τ M [.ref m] (fun v' sz' τ' M' => (v' = some (.int (if (q).1 = true then 1 else 0)) ∧ MQQ τ M' m y z s1 s2 n8 B ω0 w0 hr wr lt (ez) (d + 1) (q)) ∧ sz' = sz ∧ τ' = τ ∧ FMZ m z M M')) {sz : Nat} {τ : TY} {M : ME} {ez : Nat} (hQ : MPl τ M m y z s1 s2 n8 B ω0 w0 hr wr lt (ez) (d) (s)) : CT l D cA n0 (XW0 sg adK adV sgA smA wdA n0 bS LS xs) mX13_isValue (10 * (9 - d) + 3) 0 0 sz τ M [.ref m] (fun v' sz' τ' M' => (v' = some (.int (if (adQ q 47).1 = true then 1 else 0)) ∧ MQQ τ M' m y z s1 s2 n8 B ω0 w0 hr wr lt (ez) (d) (adQ q 47)) ∧ sz' = sz ∧ τ' = τ ∧ FMZ m z M M') := by
  refine CT.of (ls := [.ref m, UU, UU]) (by decide) (Nat.le_of_ble_eq_true rfl) rfl ?_
  obtain ⟨ω, w, hM, hV, hω, hrl, hw, hG, hn, ht, hz⟩ := hQ
  have k0 : ω 80 s.1 = nI (kkF (K s.1)) := by rw [hω 80 _ (by decide)]; exact (hTK.2.1 s.1 ht).1
  have hk := (hTK.2.1 s.1 ht).2.1
  have hl := hTK.1.1
  have hps := (ps_le (σ := s.2.2.1) s.2.1).1
  have hcn := cnF_le (σ := s.2.2.1) s.2.1
  have hF : FMZ m z M M := FMZ.rf _ _ _
  have hlt : s.1 < lt := Nat.lt_of_le_of_ne ht (fun e => by have h9 := hTK.1.2; rw [← e] at h9; omega)
  refine T_aload0 dX13_isValue_0 rfl ?_
  refine T_bipush (41) dX13_isValue_1 rfl rfl ?_
  refine T_cV1 (c_X13_is hX hM (by omega) _) hX k13_127 (Or.inl ⟨_, _, _, _, (hM.t_m), by decide, rfl⟩) (by omega) (Nat.le_of_ble_eq_true rfl) dX13_isValue_3 rfl ?_
  rintro _ _ _ _ ⟨rfl, rfl, rfl, rfl⟩
  rw [k0, if_neg (fun e => absurd ((kc_41 _ hk.1 hk.2).mp e) (by omega))]
  refine T_if_eq_t 39 dX13_isValue_6 (by decide) rfl ?_
  refine T_aload0 dX13_isValue_39 rfl ?_
  refine g13_17 _ rfl (hM.t_m) (hM.g_kd) dX13_isValue_40 rfl ?_
  refine T_aload0 dX13_isValue_43 rfl ?_
  refine g13_124 _ rfl (hM.t_m) (hM.g_tk) dX13_isValue_44 rfl ?_
  refine T_iald _ (hM.t_kd) rfl (by omega) (by decide) dX13_isValue_47 rfl (hM.g_vkd (by omega)) ?_
  refine T_bipush (16) dX13_isValue_48 rfl rfl ?_
  refine T_bipush (19) dX13_isValue_50 rfl rfl ?_
  refine T_cS3 (c_X13_isIn hX _ _ _) hX k13_63 (by omega) (Nat.le_of_ble_eq_true rfl) dX13_isValue_52 rfl ?_
  rintro _ _ _ _ ⟨rfl, rfl, rfl, rfl⟩
  rw [k0, kc_in _ hk.1, if_neg (by omega)]
  refine T_if_eq_t 83 dX13_isValue_55 (by decide) rfl ?_
  refine T_aload0 dX13_isValue_83 rfl ?_
  refine g13_17 _ rfl (hM.t_m) (hM.g_kd) dX13_isValue_84 rfl ?_
  refine T_aload0 dX13_isValue_87 rfl ?_
  refine g13_124 _ rfl (hM.t_m) (hM.g_tk) dX13_isValue_88 rfl ?_
  refine T_iald _ (hM.t_kd) rfl (by omega) (by decide) dX13_isValue_91 rfl (hM.g_vkd (by omega)) ?_
  refine T_cS1 (c_X13_isOf hX _) hX k13_73 (by omega) (Nat.le_of_ble_eq_true rfl) dX13_isValue_92 rfl ?_
  rintro _ _ _ _ ⟨rfl, rfl, rfl, rfl⟩
  rw [k0, kc_of _ hk.1 hk.2, if_neg (by omega)]
  refine T_if_eq_t 127 dX13_isValue_95 (by decide) rfl ?_
  refine T_aload0 dX13_isValue_127 rfl ?_
  refine T_bipush (45) dX13_isValue_128 rfl rfl ?_
  refine T_cV1 (c_X13_isSign hX hM (by omega) _) hX k13_210 (Or.inl ⟨_, _, _, _, (hM.t_m), by decide, rfl⟩) (by omega) (Nat.le_of_ble_eq_true rfl) dX13_isValue_130 rfl ?_
  rintro _ _ _ _ ⟨rfl, rfl, rfl, rfl⟩
  rw [k0, show (50 : Int32) + 45 = 95 from by decide, if_pos ((kc_95 _ hk.1 hk.2).mpr hq)]
  refine T_if_eq_f 170 136 dX13_isValue_133 (by decide) rfl (by decide) ?_
  refine T_aload0 dX13_isValue_136 rfl ?_
  refine T_cV0 (c_X13_isDeeper hX hM (by omega) hd) hX k13_207 (Or.inl ⟨_, _, _, _, (hM.t_m), by decide, rfl⟩) (by omega) (Nat.le_of_ble_eq_true rfl) dX13_isValue_137 rfl ?_
  rintro _ _ _ M9 ⟨rfl, rfl, rfl, hM9⟩
  rw [if_pos hd8]
  rw [if_pos hd8, if_pos hd8] at hM9
  have hV := (hV.nx hM9.frame (by omega)).rf
  have hF := hF.fm hM9.frame
  have hM := hM9.rf
  refine T_if_eq_f 150 143 dX13_isValue_140 (by decide) rfl (by decide) ?_
  refine T_aload0 dX13_isValue_143 rfl ?_
  refine T_cV0 (hV1 _ _ _ (ez + 1) ⟨ω, w, hM.rf, hV.rf, hω, hrl, hw, hG, (by show s.2.1 + (ez + 1) ≤ s.1 + 1; omega), hlt, (fun i hi => hz i (Nat.le_trans (Nat.le_succ _) hi))⟩) hX k13_216 (Or.inl ⟨_, _, _, _, (hM.t_m), by decide, rfl⟩) (by omega) (Nat.le_of_ble_eq_true rfl) dX13_isValue_144 rfl ?_
  rintro _ _ _ M8 ⟨⟨rfl, hQ9⟩, rfl, rfl, hF9⟩
  have hF := hF.tr hF9
  refine T_if_ne 152 150 dX13_isValue_147 (by decide) rfl (fun c147 => ?_) (fun c147 => ?_)
  ·
    have z9 := ifz1 c147
    obtain ⟨ω, w, hM, hV, hω, hrl, hw, hG, hn, ht, hz⟩ := hQ9.1 z9
    have k0 : ω 80 q.2.1 = nI (kkF (K q.2.1)) := by rw [hω 80 _ (by decide)]; exact (hTK.2.1 q.2.1 ht).1
    have hk := (hTK.2.1 q.2.1 ht).2.1
    have hps := (ps_le (σ := q.2.2.2.1) q.2.2.1).1
    have hcn := cnF_le (σ := q.2.2.2.1) q.2.2.1
    refine T_aload0 dX13_isValue_152 rfl ?_
    refine T_dup dX13_isValue_153 rfl rfl ?_
    refine g13_198 _ rfl (hM.t_m) (hM.g_dp) dX13_isValue_154 rfl ?_
    refine T_iconst (1) dX13_isValue_157 rfl rfl ?_
    refine T_isub dX13_isValue_158 rfl ?_
    refine p13_198 rfl (hM.t_m) dX13_isValue_159 rfl ?_
    refine T_nm (fun M1 e1 => ?_)
    have hM := MV.mv (hM.p_dp (n := d) (nI_pred d)) e1
    have hV := hV.frU e1 (by omega)
    have hF := hF.up e1 (by omega)
    refine T_aload0 dX13_isValue_162 rfl ?_
    refine T_bipush (31) dX13_isValue_163 rfl rfl ?_
    refine T_cV1 (c_X13_put hX hM (by omega) hV hmz (by omega) _) hX k13_191 (Or.inl ⟨_, _, _, _, (hM.t_m), by decide, rfl⟩) (by omega) (Nat.le_of_ble_eq_true rfl) dX13_isValue_165 rfl ?_
    rintro _ _ _ M9 ⟨rfl, rfl, rfl, hV9⟩
    have hM := (hM.nx hV9.frame (by omega)).rf
    have hF := hF.fz hV9.frame
    have hV := hV9.rf
    refine T_iconst (1) dX13_isValue_168 rfl rfl ?_
    refine T_iret rfl rfl dX13_isValue_169 ?_
    exact ⟨⟨by rw [if_pos (show (adQ q 47).1 = true from z9)], MQQ.t (q := adQ q 47) z9 (MPl.ad (o := 47) rfl rfl rfl hM hV hω hrl hw hG hn ht hz)⟩, rfl, rfl, hF⟩
  ·
    have z9 := ifz0 (by first | exact c147 | exact Decidable.not_not.mp c147)
    refine T_iconst (0) dX13_isValue_150 rfl rfl ?_
    refine T_iret rfl rfl dX13_isValue_151 ?_
    exact ⟨⟨by rw [if_neg (show ¬ (adQ q 47).1 = true from z9)], MQQ.f (q := adQ q 47) z9 (hQ9.2 (fls z9))⟩, rfl, rfl, hF⟩
set_option maxHeartbeats 1000000 in
theorem gm_ngf {l : Launch} {D : va_G} {cA : Nat → ClassId} {n0 : Nat} {sg adK adV : Nat → Nat} {sgA smA wdA bS LS : Nat} {xs : Nat → Int32} (hX : SF n0 (XW0 sg adK adV sgA smA wdA n0 bS LS xs)) {m y z s1 s2 n8 hr wr lt : Nat} {B : Nat → Nat} {K : Nat → Nat} {S : Nat → Int32} {V : Nat → Int64} {ω0 w0 : RH} (hTK : TKF B lt K S V ω0) (hmz : m + 7 ≤ z ∨ z + 19 ≤ m) {d : Nat} {s : PS} (hd : d ≤ 8) (hq : K s.1 = 35) (hd8 : ¬ d < 8) {sz : Nat} {τ : TY} {M : ME} {ez : Nat} (hQ : MPl τ M m y z s1 s2 n8 B ω0 w0 hr wr lt (ez) (d) (s)) : CT l D cA n0 (XW0 sg adK adV sgA smA wdA n0 bS LS xs) mX13_isValue (10 * (9 - d) + 3) 0 0 sz τ M [.ref m] (fun v' sz' τ' M' => (v' = some (.int (if ((false, s)).1 = true then 1 else 0)) ∧ MQQ τ M' m y z s1 s2 n8 B ω0 w0 hr wr lt (ez) (d) ((false, s))) ∧ sz' = sz ∧ τ' = τ ∧ FMZ m z M M') := by
  refine CT.of (ls := [.ref m, UU, UU]) (by decide) (Nat.le_of_ble_eq_true rfl) rfl ?_
  obtain ⟨ω, w, hM, hV, hω, hrl, hw, hG, hn, ht, hz⟩ := hQ
  have k0 : ω 80 s.1 = nI (kkF (K s.1)) := by rw [hω 80 _ (by decide)]; exact (hTK.2.1 s.1 ht).1
  have hk := (hTK.2.1 s.1 ht).2.1
  have hl := hTK.1.1
  have hps := (ps_le (σ := s.2.2.1) s.2.1).1
  have hcn := cnF_le (σ := s.2.2.1) s.2.1
  have hF : FMZ m z M M := FMZ.rf _ _ _
  have hlt : s.1 < lt := Nat.lt_of_le_of_ne ht (fun e => by have h9 := hTK.1.2; rw [← e] at h9; omega)
  refine T_aload0 dX13_isValue_0 rfl ?_
  refine T_bipush (41) dX13_isValue_1 rfl rfl ?_
  refine T_cV1 (c_X13_is hX hM (by omega) _) hX k13_127 (Or.inl ⟨_, _, _, _, (hM.t_m), by decide, rfl⟩) (by omega) (Nat.le_of_ble_eq_true rfl) dX13_isValue_3 rfl ?_
  rintro _ _ _ _ ⟨rfl, rfl, rfl, rfl⟩
  rw [k0, if_neg (fun e => absurd ((kc_41 _ hk.1 hk.2).mp e) (by omega))]
  refine T_if_eq_t 39 dX13_isValue_6 (by decide) rfl ?_
  refine T_aload0 dX13_isValue_39 rfl ?_
  refine g13_17 _ rfl (hM.t_m) (hM.g_kd) dX13_isValue_40 rfl ?_
  refine T_aload0 dX13_isValue_43 rfl ?_
  refine g13_124 _ rfl (hM.t_m) (hM.g_tk) dX13_isValue_44 rfl ?_
  refine T_iald _ (hM.t_kd) rfl (by omega) (by decide) dX13_isValue_47 rfl (hM.g_vkd (by omega)) ?_
  refine T_bipush (16) dX13_isValue_48 rfl rfl ?_
  refine T_bipush (19) dX13_isValue_50 rfl rfl ?_
  refine T_cS3 (c_X13_isIn hX _ _ _) hX k13_63 (by omega) (Nat.le_of_ble_eq_true rfl) dX13_isValue_52 rfl ?_
  rintro _ _ _ _ ⟨rfl, rfl, rfl, rfl⟩
  rw [k0, kc_in _ hk.1, if_neg (by omega)]
  refine T_if_eq_t 83 dX13_isValue_55 (by decide) rfl ?_
  refine T_aload0 dX13_isValue_83 rfl ?_
  refine g13_17 _ rfl (hM.t_m) (hM.g_kd) dX13_isValue_84 rfl ?_
  refine T_aload0 dX13_isValue_87 rfl ?_
  refine g13_124 _ rfl (hM.t_m) (hM.g_tk) dX13_isValue_88 rfl ?_
  refine T_iald _ (hM.t_kd) rfl (by omega) (by decide) dX13_isValue_91 rfl (hM.g_vkd (by omega)) ?_
  refine T_cS1 (c_X13_isOf hX _) hX k13_73 (by omega) (Nat.le_of_ble_eq_true rfl) dX13_isValue_92 rfl ?_
  rintro _ _ _ _ ⟨rfl, rfl, rfl, rfl⟩
  rw [k0, kc_of _ hk.1 hk.2, if_neg (by omega)]
  refine T_if_eq_t 127 dX13_isValue_95 (by decide) rfl ?_
  refine T_aload0 dX13_isValue_127 rfl ?_
  refine T_bipush (45) dX13_isValue_128 rfl rfl ?_
  refine T_cV1 (c_X13_isSign hX hM (by omega) _) hX k13_210 (Or.inl ⟨_, _, _, _, (hM.t_m), by decide, rfl⟩) (by omega) (Nat.le_of_ble_eq_true rfl) dX13_isValue_130 rfl ?_
  rintro _ _ _ _ ⟨rfl, rfl, rfl, rfl⟩
  rw [k0, show (50 : Int32) + 45 = 95 from by decide, if_pos ((kc_95 _ hk.1 hk.2).mpr hq)]
  refine T_if_eq_f 170 136 dX13_isValue_133 (by decide) rfl (by decide) ?_
  refine T_aload0 dX13_isValue_136 rfl ?_
  refine T_cV0 (c_X13_isDeeper hX hM (by omega) hd) hX k13_207 (Or.inl ⟨_, _, _, _, (hM.t_m), by decide, rfl⟩) (by omega) (Nat.le_of_ble_eq_true rfl) dX13_isValue_137 rfl ?_
  rintro _ _ _ M9 ⟨rfl, rfl, rfl, hM9⟩
  rw [if_neg hd8]
  rw [if_neg hd8, if_neg hd8] at hM9
  have hV := (hV.nx hM9.frame (by omega)).rf
  have hF := hF.fm hM9.frame
  have hM := hM9.rf
  refine T_if_eq_t 150 dX13_isValue_140 (by decide) rfl ?_
  refine T_iconst (0) dX13_isValue_150 rfl rfl ?_
  refine T_iret rfl rfl dX13_isValue_151 ?_
  exact ⟨⟨rfl, MQQ.f (q := (false, s)) (by simp) ⟨by omega, _, _, _, _, _, _, _, _, _, _, _, _, hM.rf, hV.rf, hω⟩⟩, rfl, rfl, hF⟩
set_option maxHeartbeats 1000000 in
theorem gm_opn {l : Launch} {D : va_G} {cA : Nat → ClassId} {n0 : Nat} {sg adK adV : Nat → Nat} {sgA smA wdA bS LS : Nat} {xs : Nat → Int32} (hX : SF n0 (XW0 sg adK adV sgA smA wdA n0 bS LS xs)) {m y z s1 s2 n8 hr wr lt : Nat} {B : Nat → Nat} {K : Nat → Nat} {S : Nat → Int32} {V : Nat → Int64} {ω0 w0 : RH} (hTK : TKF B lt K S V ω0) (hmz : m + 7 ≤ z ∨ z + 19 ≤ m) {d : Nat} {s : PS} (hd : d ≤ 8) {q : PQ} (hq : K s.1 = 28) (hd8 : d < 8) (hS1 : ∀ (sz : Nat) (τ : TY) (M : ME) (ez : Nat), MPl τ M m y z s1 s2 n8 B ω0 w0 hr wr lt (ez) (d + 1) (adv s 1) → CT l D cA n0 (XW0 sg adK adV sgA smA wdA n0 bS LS xs) mX13_isSum (10 * (9 - (d + 1)) + 5) 0 0 sz τ M [.ref m] (fun v' sz' τ' M' => (v' = some (.int (if (q).1 = true then 1 else 0)) ∧ MQQ τ M' m y z s1 s2 n8 B ω0 w0 hr wr lt (ez) (d + 1) (q)) ∧ sz' = sz ∧ τ' = τ ∧ FMZ m z M M')) {sz : Nat} {τ : TY} {M : ME} {ez : Nat} (hQ : MPl τ M m y z s1 s2 n8 B ω0 w0 hr wr lt (ez) (d) (s)) : CT l D cA n0 (XW0 sg adK adV sgA smA wdA n0 bS LS xs) mX13_isValue (10 * (9 - d) + 3) 0 0 sz τ M [.ref m] (fun v' sz' τ' M' => (v' = some (.int (if (tkQ K 29 q).1 = true then 1 else 0)) ∧ MQQ τ M' m y z s1 s2 n8 B ω0 w0 hr wr lt (ez) (d) (tkQ K 29 q)) ∧ sz' = sz ∧ τ' = τ ∧ FMZ m z M M') := by
  refine CT.of (ls := [.ref m, UU, UU]) (by decide) (Nat.le_of_ble_eq_true rfl) rfl ?_
  obtain ⟨ω, w, hM, hV, hω, hrl, hw, hG, hn, ht, hz⟩ := hQ
  have k0 : ω 80 s.1 = nI (kkF (K s.1)) := by rw [hω 80 _ (by decide)]; exact (hTK.2.1 s.1 ht).1
  have hk := (hTK.2.1 s.1 ht).2.1
  have hl := hTK.1.1
  have hps := (ps_le (σ := s.2.2.1) s.2.1).1
  have hcn := cnF_le (σ := s.2.2.1) s.2.1
  have hF : FMZ m z M M := FMZ.rf _ _ _
  have hlt : s.1 < lt := Nat.lt_of_le_of_ne ht (fun e => by have h9 := hTK.1.2; rw [← e] at h9; omega)
  refine T_aload0 dX13_isValue_0 rfl ?_
  refine T_bipush (41) dX13_isValue_1 rfl rfl ?_
  refine T_cV1 (c_X13_is hX hM (by omega) _) hX k13_127 (Or.inl ⟨_, _, _, _, (hM.t_m), by decide, rfl⟩) (by omega) (Nat.le_of_ble_eq_true rfl) dX13_isValue_3 rfl ?_
  rintro _ _ _ _ ⟨rfl, rfl, rfl, rfl⟩
  rw [k0, if_neg (fun e => absurd ((kc_41 _ hk.1 hk.2).mp e) (by omega))]
  refine T_if_eq_t 39 dX13_isValue_6 (by decide) rfl ?_
  refine T_aload0 dX13_isValue_39 rfl ?_
  refine g13_17 _ rfl (hM.t_m) (hM.g_kd) dX13_isValue_40 rfl ?_
  refine T_aload0 dX13_isValue_43 rfl ?_
  refine g13_124 _ rfl (hM.t_m) (hM.g_tk) dX13_isValue_44 rfl ?_
  refine T_iald _ (hM.t_kd) rfl (by omega) (by decide) dX13_isValue_47 rfl (hM.g_vkd (by omega)) ?_
  refine T_bipush (16) dX13_isValue_48 rfl rfl ?_
  refine T_bipush (19) dX13_isValue_50 rfl rfl ?_
  refine T_cS3 (c_X13_isIn hX _ _ _) hX k13_63 (by omega) (Nat.le_of_ble_eq_true rfl) dX13_isValue_52 rfl ?_
  rintro _ _ _ _ ⟨rfl, rfl, rfl, rfl⟩
  rw [k0, kc_in _ hk.1, if_neg (by omega)]
  refine T_if_eq_t 83 dX13_isValue_55 (by decide) rfl ?_
  refine T_aload0 dX13_isValue_83 rfl ?_
  refine g13_17 _ rfl (hM.t_m) (hM.g_kd) dX13_isValue_84 rfl ?_
  refine T_aload0 dX13_isValue_87 rfl ?_
  refine g13_124 _ rfl (hM.t_m) (hM.g_tk) dX13_isValue_88 rfl ?_
  refine T_iald _ (hM.t_kd) rfl (by omega) (by decide) dX13_isValue_91 rfl (hM.g_vkd (by omega)) ?_
  refine T_cS1 (c_X13_isOf hX _) hX k13_73 (by omega) (Nat.le_of_ble_eq_true rfl) dX13_isValue_92 rfl ?_
  rintro _ _ _ _ ⟨rfl, rfl, rfl, rfl⟩
  rw [k0, kc_of _ hk.1 hk.2, if_neg (by omega)]
  refine T_if_eq_t 127 dX13_isValue_95 (by decide) rfl ?_
  refine T_aload0 dX13_isValue_127 rfl ?_
  refine T_bipush (45) dX13_isValue_128 rfl rfl ?_
  refine T_cV1 (c_X13_isSign hX hM (by omega) _) hX k13_210 (Or.inl ⟨_, _, _, _, (hM.t_m), by decide, rfl⟩) (by omega) (Nat.le_of_ble_eq_true rfl) dX13_isValue_130 rfl ?_
  rintro _ _ _ _ ⟨rfl, rfl, rfl, rfl⟩
  rw [k0, show (50 : Int32) + 45 = 95 from by decide, if_neg (fun e => absurd ((kc_95 _ hk.1 hk.2).mp e) (by omega))]
  refine T_if_eq_t 170 dX13_isValue_133 (by decide) rfl ?_
  refine T_aload0 dX13_isValue_170 rfl ?_
  refine g13_17 _ rfl (hM.t_m) (hM.g_kd) dX13_isValue_171 rfl ?_
  refine T_aload0 dX13_isValue_174 rfl ?_
  refine g13_124 _ rfl (hM.t_m) (hM.g_tk) dX13_isValue_175 rfl ?_
  refine T_iald _ (hM.t_kd) rfl (by omega) (by decide) dX13_isValue_178 rfl (hM.g_vkd (by omega)) ?_
  refine T_istore1 rfl (by decide) dX13_isValue_179 rfl ?_
  refine T_aload0 dX13_isValue_180 rfl ?_
  refine T_bipush (26) dX13_isValue_181 rfl rfl ?_
  refine T_cV1 (c_X13_eat hX hM (by omega) _) hX k13_130 (Or.inl ⟨_, _, _, _, (hM.t_m), by decide, rfl⟩) (by omega) (Nat.le_of_ble_eq_true rfl) dX13_isValue_183 rfl ?_
  rintro _ _ _ M9 ⟨rfl, rfl, rfl, hM9⟩
  rw [k0, if_neg (fun e => absurd ((kc_26 _ hk.1 hk.2).mp e) (by omega))]
  rw [k0, if_neg (fun e => absurd ((kc_26 _ hk.1 hk.2).mp e) (by omega))] at hM9
  have hV := (hV.nx hM9.frame (by omega)).rf
  have hF := hF.fm hM9.frame
  have hM := hM9.rf
  refine T_if_ne_f 198 189 dX13_isValue_186 (by decide) rfl rfl ?_
  refine T_aload0 dX13_isValue_189 rfl ?_
  refine T_bipush (27) dX13_isValue_190 rfl rfl ?_
  refine T_cV1 (c_X13_eat hX hM (by omega) _) hX k13_130 (Or.inl ⟨_, _, _, _, (hM.t_m), by decide, rfl⟩) (by omega) (Nat.le_of_ble_eq_true rfl) dX13_isValue_192 rfl ?_
  rintro _ _ _ M9 ⟨rfl, rfl, rfl, hM9⟩
  rw [k0, if_neg (fun e => absurd ((kc_27 _ hk.1 hk.2).mp e) (by omega))]
  rw [k0, if_neg (fun e => absurd ((kc_27 _ hk.1 hk.2).mp e) (by omega))] at hM9
  have hV := (hV.nx hM9.frame (by omega)).rf
  have hF := hF.fm hM9.frame
  have hM := hM9.rf
  refine T_if_eq_t 202 dX13_isValue_195 (by decide) rfl ?_
  refine T_iconst (0) dX13_isValue_202 rfl rfl ?_
  refine T_istore2 rfl (by decide) dX13_isValue_203 rfl ?_
  refine T_aload0 dX13_isValue_204 rfl ?_
  refine T_bipush (40) dX13_isValue_205 rfl rfl ?_
  refine T_cV1 (c_X13_isSign hX hM (by omega) _) hX k13_210 (Or.inl ⟨_, _, _, _, (hM.t_m), by decide, rfl⟩) (by omega) (Nat.le_of_ble_eq_true rfl) dX13_isValue_207 rfl ?_
  rintro _ _ _ _ ⟨rfl, rfl, rfl, rfl⟩
  rw [k0, show (50 : Int32) + 40 = 90 from by decide, if_pos ((kc_90 _ hk.1 hk.2).mpr hq)]
  refine T_if_eq_f 247 213 dX13_isValue_210 (by decide) rfl (by decide) ?_
  refine T_aload0 dX13_isValue_213 rfl ?_
  refine T_cV0 (c_X13_isDeeper hX hM (by omega) hd) hX k13_207 (Or.inl ⟨_, _, _, _, (hM.t_m), by decide, rfl⟩) (by omega) (Nat.le_of_ble_eq_true rfl) dX13_isValue_214 rfl ?_
  rintro _ _ _ M9 ⟨rfl, rfl, rfl, hM9⟩
  rw [if_pos hd8]
  rw [if_pos hd8, if_pos hd8] at hM9
  have hV := (hV.nx hM9.frame (by omega)).rf
  have hF := hF.fm hM9.frame
  have hM := hM9.rf
  refine T_if_eq_f 247 220 dX13_isValue_217 (by decide) rfl (by decide) ?_
  refine T_aload0 dX13_isValue_220 rfl ?_
  refine T_cV0 (hS1 _ _ _ (ez + 1) ⟨ω, w, hM.rf, hV.rf, hω, hrl, hw, hG, (by show s.2.1 + (ez + 1) ≤ s.1 + 1; omega), hlt, (fun i hi => hz i (Nat.le_trans (Nat.le_succ _) hi))⟩) hX k13_167 (Or.inl ⟨_, _, _, _, (hM.t_m), by decide, rfl⟩) (by omega) (Nat.le_of_ble_eq_true rfl) dX13_isValue_221 rfl ?_
  rintro _ _ _ M8 ⟨⟨rfl, hQ9⟩, rfl, rfl, hF9⟩
  have hF := hF.tr hF9
  refine T_if_eq 247 227 dX13_isValue_224 (by decide) rfl (fun c224 => ?_) (fun c224 => ?_)
  ·
    have z9 := ifz0 c224
    refine T_iconst (0) dX13_isValue_247 rfl rfl ?_
    refine T_iret rfl rfl dX13_isValue_248 ?_
    have z8 : ¬ (tkQ K 29 q).1 = true := fun z => z9 (tkQ_t z).1
    have e8 : tkQ K 29 q = q := if_neg z9
    exact ⟨⟨by rw [if_neg z8], MQQ.f z8 (by rw [e8]; exact hQ9.2 (fls z9))⟩, rfl, rfl, hF⟩
  ·
    have z9 := ifz1 c224
    obtain ⟨ω, w, hM, hV, hω, hrl, hw, hG, hn, ht, hz⟩ := hQ9.1 z9
    have k0 : ω 80 q.2.1 = nI (kkF (K q.2.1)) := by rw [hω 80 _ (by decide)]; exact (hTK.2.1 q.2.1 ht).1
    have hk := (hTK.2.1 q.2.1 ht).2.1
    have hps := (ps_le (σ := q.2.2.2.1) q.2.2.1).1
    have hcn := cnF_le (σ := q.2.2.2.1) q.2.2.1
    refine T_iload2 dX13_isValue_227 rfl ?_
    refine T_if_eq_t 249 dX13_isValue_228 (by decide) rfl ?_
    refine T_aload0 dX13_isValue_249 rfl ?_
    refine T_dup dX13_isValue_250 rfl rfl ?_
    refine g13_198 _ rfl (hM.t_m) (hM.g_dp) dX13_isValue_251 rfl ?_
    refine T_iconst (1) dX13_isValue_254 rfl rfl ?_
    refine T_isub dX13_isValue_255 rfl ?_
    refine p13_198 rfl (hM.t_m) dX13_isValue_256 rfl ?_
    refine T_nm (fun M1 e1 => ?_)
    have hM := MV.mv (hM.p_dp (n := d) (nI_pred d)) e1
    have hV := hV.frU e1 (by omega)
    have hF := hF.up e1 (by omega)
    refine T_iload2 dX13_isValue_259 rfl ?_
    refine T_if_eq_t 268 dX13_isValue_260 (by decide) rfl ?_
    refine T_aload0 dX13_isValue_268 rfl ?_
    refine T_bipush (41) dX13_isValue_269 rfl rfl ?_
    refine T_cV1 (c_X13_eatSign hX hM (by omega) _) hX k13_153 (Or.inl ⟨_, _, _, _, (hM.t_m), by decide, rfl⟩) (by omega) (Nat.le_of_ble_eq_true rfl) dX13_isValue_271 rfl ?_
    rintro _ _ _ M9 ⟨rfl, rfl, rfl, hM9⟩
    have hV := (hV.nx hM9.frame (by omega)).rf
    have hF := hF.fm hM9.frame
    rw [show (50 : Int32) + 41 = 91 from by decide, k0] at hM9 ⊢
    refine T_iret rfl nrB dX13_isValue_274 ?_
    by_cases e29 : K q.2.1 = 29
    · have e8 : tkQ K 29 q = (true, adv q.2 1) := by unfold tkQ; rw [if_pos z9, if_pos e29]
      rw [if_pos ((kc_91 _ hk.1 hk.2).mpr e29)] at hM9 ⊢
      rw [e8]
      refine ⟨⟨rfl, MQQ.t rfl ⟨ω, w, hM9.rf, hV, hω, hrl, hw, hG, by show q.2.2.1 + ez ≤ q.2.1 + 1; omega, ?_, fun i hi => hz i (Nat.le_trans (Nat.le_succ _) hi)⟩⟩, rfl, rfl, hF⟩
      have h9 : ¬ q.2.1 = lt := fun e => by have h9 := hTK.1.2; rw [← e] at h9; omega
      show q.2.1 + 1 ≤ lt; omega
    · have e8 : tkQ K 29 q = (false, q.2) := by unfold tkQ; rw [if_pos z9, if_neg e29]
      rw [if_neg (fun e => e29 ((kc_91 _ hk.1 hk.2).mp e))] at hM9 ⊢
      rw [e8]
      exact ⟨⟨rfl, MQQ.f (q := (false, q.2)) (by simp) ⟨ht, _, _, _, _, _, _, _, _, _, _, _, _, hM9.rf, hV, hω⟩⟩, rfl, rfl, hF⟩
set_option maxHeartbeats 1000000 in
theorem gm_opf {l : Launch} {D : va_G} {cA : Nat → ClassId} {n0 : Nat} {sg adK adV : Nat → Nat} {sgA smA wdA bS LS : Nat} {xs : Nat → Int32} (hX : SF n0 (XW0 sg adK adV sgA smA wdA n0 bS LS xs)) {m y z s1 s2 n8 hr wr lt : Nat} {B : Nat → Nat} {K : Nat → Nat} {S : Nat → Int32} {V : Nat → Int64} {ω0 w0 : RH} (hTK : TKF B lt K S V ω0) (hmz : m + 7 ≤ z ∨ z + 19 ≤ m) {d : Nat} {s : PS} (hd : d ≤ 8) (hq : K s.1 = 28) (hd8 : ¬ d < 8) {sz : Nat} {τ : TY} {M : ME} {ez : Nat} (hQ : MPl τ M m y z s1 s2 n8 B ω0 w0 hr wr lt (ez) (d) (s)) : CT l D cA n0 (XW0 sg adK adV sgA smA wdA n0 bS LS xs) mX13_isValue (10 * (9 - d) + 3) 0 0 sz τ M [.ref m] (fun v' sz' τ' M' => (v' = some (.int (if ((false, s)).1 = true then 1 else 0)) ∧ MQQ τ M' m y z s1 s2 n8 B ω0 w0 hr wr lt (ez) (d) ((false, s))) ∧ sz' = sz ∧ τ' = τ ∧ FMZ m z M M') := by
  refine CT.of (ls := [.ref m, UU, UU]) (by decide) (Nat.le_of_ble_eq_true rfl) rfl ?_
  obtain ⟨ω, w, hM, hV, hω, hrl, hw, hG, hn, ht, hz⟩ := hQ
  have k0 : ω 80 s.1 = nI (kkF (K s.1)) := by rw [hω 80 _ (by decide)]; exact (hTK.2.1 s.1 ht).1
  have hk := (hTK.2.1 s.1 ht).2.1
  have hl := hTK.1.1
  have hps := (ps_le (σ := s.2.2.1) s.2.1).1
  have hcn := cnF_le (σ := s.2.2.1) s.2.1
  have hF : FMZ m z M M := FMZ.rf _ _ _
  have hlt : s.1 < lt := Nat.lt_of_le_of_ne ht (fun e => by have h9 := hTK.1.2; rw [← e] at h9; omega)
  refine T_aload0 dX13_isValue_0 rfl ?_
  refine T_bipush (41) dX13_isValue_1 rfl rfl ?_
  refine T_cV1 (c_X13_is hX hM (by omega) _) hX k13_127 (Or.inl ⟨_, _, _, _, (hM.t_m), by decide, rfl⟩) (by omega) (Nat.le_of_ble_eq_true rfl) dX13_isValue_3 rfl ?_
  rintro _ _ _ _ ⟨rfl, rfl, rfl, rfl⟩
  rw [k0, if_neg (fun e => absurd ((kc_41 _ hk.1 hk.2).mp e) (by omega))]
  refine T_if_eq_t 39 dX13_isValue_6 (by decide) rfl ?_
  refine T_aload0 dX13_isValue_39 rfl ?_
  refine g13_17 _ rfl (hM.t_m) (hM.g_kd) dX13_isValue_40 rfl ?_
  refine T_aload0 dX13_isValue_43 rfl ?_
  refine g13_124 _ rfl (hM.t_m) (hM.g_tk) dX13_isValue_44 rfl ?_
  refine T_iald _ (hM.t_kd) rfl (by omega) (by decide) dX13_isValue_47 rfl (hM.g_vkd (by omega)) ?_
  refine T_bipush (16) dX13_isValue_48 rfl rfl ?_
  refine T_bipush (19) dX13_isValue_50 rfl rfl ?_
  refine T_cS3 (c_X13_isIn hX _ _ _) hX k13_63 (by omega) (Nat.le_of_ble_eq_true rfl) dX13_isValue_52 rfl ?_
  rintro _ _ _ _ ⟨rfl, rfl, rfl, rfl⟩
  rw [k0, kc_in _ hk.1, if_neg (by omega)]
  refine T_if_eq_t 83 dX13_isValue_55 (by decide) rfl ?_
  refine T_aload0 dX13_isValue_83 rfl ?_
  refine g13_17 _ rfl (hM.t_m) (hM.g_kd) dX13_isValue_84 rfl ?_
  refine T_aload0 dX13_isValue_87 rfl ?_
  refine g13_124 _ rfl (hM.t_m) (hM.g_tk) dX13_isValue_88 rfl ?_
  refine T_iald _ (hM.t_kd) rfl (by omega) (by decide) dX13_isValue_91 rfl (hM.g_vkd (by omega)) ?_
  refine T_cS1 (c_X13_isOf hX _) hX k13_73 (by omega) (Nat.le_of_ble_eq_true rfl) dX13_isValue_92 rfl ?_
  rintro _ _ _ _ ⟨rfl, rfl, rfl, rfl⟩
  rw [k0, kc_of _ hk.1 hk.2, if_neg (by omega)]
  refine T_if_eq_t 127 dX13_isValue_95 (by decide) rfl ?_
  refine T_aload0 dX13_isValue_127 rfl ?_
  refine T_bipush (45) dX13_isValue_128 rfl rfl ?_
  refine T_cV1 (c_X13_isSign hX hM (by omega) _) hX k13_210 (Or.inl ⟨_, _, _, _, (hM.t_m), by decide, rfl⟩) (by omega) (Nat.le_of_ble_eq_true rfl) dX13_isValue_130 rfl ?_
  rintro _ _ _ _ ⟨rfl, rfl, rfl, rfl⟩
  rw [k0, show (50 : Int32) + 45 = 95 from by decide, if_neg (fun e => absurd ((kc_95 _ hk.1 hk.2).mp e) (by omega))]
  refine T_if_eq_t 170 dX13_isValue_133 (by decide) rfl ?_
  refine T_aload0 dX13_isValue_170 rfl ?_
  refine g13_17 _ rfl (hM.t_m) (hM.g_kd) dX13_isValue_171 rfl ?_
  refine T_aload0 dX13_isValue_174 rfl ?_
  refine g13_124 _ rfl (hM.t_m) (hM.g_tk) dX13_isValue_175 rfl ?_
  refine T_iald _ (hM.t_kd) rfl (by omega) (by decide) dX13_isValue_178 rfl (hM.g_vkd (by omega)) ?_
  refine T_istore1 rfl (by decide) dX13_isValue_179 rfl ?_
  refine T_aload0 dX13_isValue_180 rfl ?_
  refine T_bipush (26) dX13_isValue_181 rfl rfl ?_
  refine T_cV1 (c_X13_eat hX hM (by omega) _) hX k13_130 (Or.inl ⟨_, _, _, _, (hM.t_m), by decide, rfl⟩) (by omega) (Nat.le_of_ble_eq_true rfl) dX13_isValue_183 rfl ?_
  rintro _ _ _ M9 ⟨rfl, rfl, rfl, hM9⟩
  rw [k0, if_neg (fun e => absurd ((kc_26 _ hk.1 hk.2).mp e) (by omega))]
  rw [k0, if_neg (fun e => absurd ((kc_26 _ hk.1 hk.2).mp e) (by omega))] at hM9
  have hV := (hV.nx hM9.frame (by omega)).rf
  have hF := hF.fm hM9.frame
  have hM := hM9.rf
  refine T_if_ne_f 198 189 dX13_isValue_186 (by decide) rfl rfl ?_
  refine T_aload0 dX13_isValue_189 rfl ?_
  refine T_bipush (27) dX13_isValue_190 rfl rfl ?_
  refine T_cV1 (c_X13_eat hX hM (by omega) _) hX k13_130 (Or.inl ⟨_, _, _, _, (hM.t_m), by decide, rfl⟩) (by omega) (Nat.le_of_ble_eq_true rfl) dX13_isValue_192 rfl ?_
  rintro _ _ _ M9 ⟨rfl, rfl, rfl, hM9⟩
  rw [k0, if_neg (fun e => absurd ((kc_27 _ hk.1 hk.2).mp e) (by omega))]
  rw [k0, if_neg (fun e => absurd ((kc_27 _ hk.1 hk.2).mp e) (by omega))] at hM9
  have hV := (hV.nx hM9.frame (by omega)).rf
  have hF := hF.fm hM9.frame
  have hM := hM9.rf
  refine T_if_eq_t 202 dX13_isValue_195 (by decide) rfl ?_
  refine T_iconst (0) dX13_isValue_202 rfl rfl ?_
  refine T_istore2 rfl (by decide) dX13_isValue_203 rfl ?_
  refine T_aload0 dX13_isValue_204 rfl ?_
  refine T_bipush (40) dX13_isValue_205 rfl rfl ?_
  refine T_cV1 (c_X13_isSign hX hM (by omega) _) hX k13_210 (Or.inl ⟨_, _, _, _, (hM.t_m), by decide, rfl⟩) (by omega) (Nat.le_of_ble_eq_true rfl) dX13_isValue_207 rfl ?_
  rintro _ _ _ _ ⟨rfl, rfl, rfl, rfl⟩
  rw [k0, show (50 : Int32) + 40 = 90 from by decide, if_pos ((kc_90 _ hk.1 hk.2).mpr hq)]
  refine T_if_eq_f 247 213 dX13_isValue_210 (by decide) rfl (by decide) ?_
  refine T_aload0 dX13_isValue_213 rfl ?_
  refine T_cV0 (c_X13_isDeeper hX hM (by omega) hd) hX k13_207 (Or.inl ⟨_, _, _, _, (hM.t_m), by decide, rfl⟩) (by omega) (Nat.le_of_ble_eq_true rfl) dX13_isValue_214 rfl ?_
  rintro _ _ _ M9 ⟨rfl, rfl, rfl, hM9⟩
  rw [if_neg hd8]
  rw [if_neg hd8, if_neg hd8] at hM9
  have hV := (hV.nx hM9.frame (by omega)).rf
  have hF := hF.fm hM9.frame
  have hM := hM9.rf
  refine T_if_eq_t 247 dX13_isValue_217 (by decide) rfl ?_
  refine T_iconst (0) dX13_isValue_247 rfl rfl ?_
  refine T_iret rfl rfl dX13_isValue_248 ?_
  exact ⟨⟨rfl, MQQ.f (q := (false, s)) (by simp) ⟨by omega, _, _, _, _, _, _, _, _, _, _, _, _, hM.rf, hV.rf, hω⟩⟩, rfl, rfl, hF⟩
set_option maxHeartbeats 1000000 in
theorem gm_non {l : Launch} {D : va_G} {cA : Nat → ClassId} {n0 : Nat} {sg adK adV : Nat → Nat} {sgA smA wdA bS LS : Nat} {xs : Nat → Int32} (hX : SF n0 (XW0 sg adK adV sgA smA wdA n0 bS LS xs)) {m y z s1 s2 n8 hr wr lt : Nat} {B : Nat → Nat} {K : Nat → Nat} {S : Nat → Int32} {V : Nat → Int64} {ω0 w0 : RH} (hTK : TKF B lt K S V ω0) (hmz : m + 7 ≤ z ∨ z + 19 ≤ m) {d : Nat} {s : PS} (hd : d ≤ 8) (hq : ¬ vlK (K s.1)) {sz : Nat} {τ : TY} {M : ME} {ez : Nat} (hQ : MPl τ M m y z s1 s2 n8 B ω0 w0 hr wr lt (ez) (d) (s)) : CT l D cA n0 (XW0 sg adK adV sgA smA wdA n0 bS LS xs) mX13_isValue (10 * (9 - d) + 3) 0 0 sz τ M [.ref m] (fun v' sz' τ' M' => (v' = some (.int (if ((false, s)).1 = true then 1 else 0)) ∧ MQQ τ M' m y z s1 s2 n8 B ω0 w0 hr wr lt (ez) (d) ((false, s))) ∧ sz' = sz ∧ τ' = τ ∧ FMZ m z M M') := by
  refine CT.of (ls := [.ref m, UU, UU]) (by decide) (Nat.le_of_ble_eq_true rfl) rfl ?_
  obtain ⟨ω, w, hM, hV, hω, hrl, hw, hG, hn, ht, hz⟩ := hQ
  have k0 : ω 80 s.1 = nI (kkF (K s.1)) := by rw [hω 80 _ (by decide)]; exact (hTK.2.1 s.1 ht).1
  have hk := (hTK.2.1 s.1 ht).2.1
  have hl := hTK.1.1
  have hps := (ps_le (σ := s.2.2.1) s.2.1).1
  have hcn := cnF_le (σ := s.2.2.1) s.2.1
  have hF : FMZ m z M M := FMZ.rf _ _ _
  unfold vlK at hq
  refine T_aload0 dX13_isValue_0 rfl ?_
  refine T_bipush (41) dX13_isValue_1 rfl rfl ?_
  refine T_cV1 (c_X13_is hX hM (by omega) _) hX k13_127 (Or.inl ⟨_, _, _, _, (hM.t_m), by decide, rfl⟩) (by omega) (Nat.le_of_ble_eq_true rfl) dX13_isValue_3 rfl ?_
  rintro _ _ _ _ ⟨rfl, rfl, rfl, rfl⟩
  rw [k0, if_neg (fun e => absurd ((kc_41 _ hk.1 hk.2).mp e) (by omega))]
  refine T_if_eq_t 39 dX13_isValue_6 (by decide) rfl ?_
  refine T_aload0 dX13_isValue_39 rfl ?_
  refine g13_17 _ rfl (hM.t_m) (hM.g_kd) dX13_isValue_40 rfl ?_
  refine T_aload0 dX13_isValue_43 rfl ?_
  refine g13_124 _ rfl (hM.t_m) (hM.g_tk) dX13_isValue_44 rfl ?_
  refine T_iald _ (hM.t_kd) rfl (by omega) (by decide) dX13_isValue_47 rfl (hM.g_vkd (by omega)) ?_
  refine T_bipush (16) dX13_isValue_48 rfl rfl ?_
  refine T_bipush (19) dX13_isValue_50 rfl rfl ?_
  refine T_cS3 (c_X13_isIn hX _ _ _) hX k13_63 (by omega) (Nat.le_of_ble_eq_true rfl) dX13_isValue_52 rfl ?_
  rintro _ _ _ _ ⟨rfl, rfl, rfl, rfl⟩
  rw [k0, kc_in _ hk.1, if_neg (by omega)]
  refine T_if_eq_t 83 dX13_isValue_55 (by decide) rfl ?_
  refine T_aload0 dX13_isValue_83 rfl ?_
  refine g13_17 _ rfl (hM.t_m) (hM.g_kd) dX13_isValue_84 rfl ?_
  refine T_aload0 dX13_isValue_87 rfl ?_
  refine g13_124 _ rfl (hM.t_m) (hM.g_tk) dX13_isValue_88 rfl ?_
  refine T_iald _ (hM.t_kd) rfl (by omega) (by decide) dX13_isValue_91 rfl (hM.g_vkd (by omega)) ?_
  refine T_cS1 (c_X13_isOf hX _) hX k13_73 (by omega) (Nat.le_of_ble_eq_true rfl) dX13_isValue_92 rfl ?_
  rintro _ _ _ _ ⟨rfl, rfl, rfl, rfl⟩
  rw [k0, kc_of _ hk.1 hk.2, if_neg (by omega)]
  refine T_if_eq_t 127 dX13_isValue_95 (by decide) rfl ?_
  refine T_aload0 dX13_isValue_127 rfl ?_
  refine T_bipush (45) dX13_isValue_128 rfl rfl ?_
  refine T_cV1 (c_X13_isSign hX hM (by omega) _) hX k13_210 (Or.inl ⟨_, _, _, _, (hM.t_m), by decide, rfl⟩) (by omega) (Nat.le_of_ble_eq_true rfl) dX13_isValue_130 rfl ?_
  rintro _ _ _ _ ⟨rfl, rfl, rfl, rfl⟩
  rw [k0, show (50 : Int32) + 45 = 95 from by decide, if_neg (fun e => absurd ((kc_95 _ hk.1 hk.2).mp e) (by omega))]
  refine T_if_eq_t 170 dX13_isValue_133 (by decide) rfl ?_
  refine T_aload0 dX13_isValue_170 rfl ?_
  refine g13_17 _ rfl (hM.t_m) (hM.g_kd) dX13_isValue_171 rfl ?_
  refine T_aload0 dX13_isValue_174 rfl ?_
  refine g13_124 _ rfl (hM.t_m) (hM.g_tk) dX13_isValue_175 rfl ?_
  refine T_iald _ (hM.t_kd) rfl (by omega) (by decide) dX13_isValue_178 rfl (hM.g_vkd (by omega)) ?_
  refine T_istore1 rfl (by decide) dX13_isValue_179 rfl ?_
  refine T_aload0 dX13_isValue_180 rfl ?_
  refine T_bipush (26) dX13_isValue_181 rfl rfl ?_
  refine T_cV1 (c_X13_eat hX hM (by omega) _) hX k13_130 (Or.inl ⟨_, _, _, _, (hM.t_m), by decide, rfl⟩) (by omega) (Nat.le_of_ble_eq_true rfl) dX13_isValue_183 rfl ?_
  rintro _ _ _ M9 ⟨rfl, rfl, rfl, hM9⟩
  rw [k0, if_neg (fun e => absurd ((kc_26 _ hk.1 hk.2).mp e) (by omega))]
  rw [k0, if_neg (fun e => absurd ((kc_26 _ hk.1 hk.2).mp e) (by omega))] at hM9
  have hV := (hV.nx hM9.frame (by omega)).rf
  have hF := hF.fm hM9.frame
  have hM := hM9.rf
  refine T_if_ne_f 198 189 dX13_isValue_186 (by decide) rfl rfl ?_
  refine T_aload0 dX13_isValue_189 rfl ?_
  refine T_bipush (27) dX13_isValue_190 rfl rfl ?_
  refine T_cV1 (c_X13_eat hX hM (by omega) _) hX k13_130 (Or.inl ⟨_, _, _, _, (hM.t_m), by decide, rfl⟩) (by omega) (Nat.le_of_ble_eq_true rfl) dX13_isValue_192 rfl ?_
  rintro _ _ _ M9 ⟨rfl, rfl, rfl, hM9⟩
  rw [k0, if_neg (fun e => absurd ((kc_27 _ hk.1 hk.2).mp e) (by omega))]
  rw [k0, if_neg (fun e => absurd ((kc_27 _ hk.1 hk.2).mp e) (by omega))] at hM9
  have hV := (hV.nx hM9.frame (by omega)).rf
  have hF := hF.fm hM9.frame
  have hM := hM9.rf
  refine T_if_eq_t 202 dX13_isValue_195 (by decide) rfl ?_
  refine T_iconst (0) dX13_isValue_202 rfl rfl ?_
  refine T_istore2 rfl (by decide) dX13_isValue_203 rfl ?_
  refine T_aload0 dX13_isValue_204 rfl ?_
  refine T_bipush (40) dX13_isValue_205 rfl rfl ?_
  refine T_cV1 (c_X13_isSign hX hM (by omega) _) hX k13_210 (Or.inl ⟨_, _, _, _, (hM.t_m), by decide, rfl⟩) (by omega) (Nat.le_of_ble_eq_true rfl) dX13_isValue_207 rfl ?_
  rintro _ _ _ _ ⟨rfl, rfl, rfl, rfl⟩
  rw [k0, show (50 : Int32) + 40 = 90 from by decide, if_neg (fun e => absurd ((kc_90 _ hk.1 hk.2).mp e) (by omega))]
  refine T_if_eq_t 247 dX13_isValue_210 (by decide) rfl ?_
  refine T_iconst (0) dX13_isValue_247 rfl rfl ?_
  refine T_iret rfl rfl dX13_isValue_248 ?_
  exact ⟨⟨rfl, MQQ.f (q := (false, s)) (by simp) ⟨by omega, _, _, _, _, _, _, _, _, _, _, _, _, hM.rf, hV.rf, hω⟩⟩, rfl, rfl, hF⟩
