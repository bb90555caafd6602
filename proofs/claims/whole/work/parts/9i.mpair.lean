/-! the reference reads by the rules: pairs, products, sums -/
theorem tkQ_n {K : Nat → Nat} {k : Nat} {q : PQ} (h : ¬ q.1 = true) : tkQ K k q = q := if_neg h
theorem tkQ_y {K : Nat → Nat} {k : Nat} {q : PQ} (h : q.1 = true) (e : K q.2.1 = k) : tkQ K k q = (true, adv q.2 1) := by unfold tkQ; rw [if_pos h, if_pos e]
theorem tkQ_z {K : Nat → Nat} {k : Nat} {q : PQ} (h : q.1 = true) (e : ¬ K q.2.1 = k) : tkQ K k q = (false, q.2) := by unfold tkQ; rw [if_pos h, if_neg e]
theorem tcQ_n {K : Nat → Nat} {q : PQ} (h : ¬ q.1 = true) : tcQ K q = q := if_neg h
theorem tcQ_y {K : Nat → Nat} {q : PQ} (h : q.1 = true) (e : 38 ≤ K q.2.1 ∧ K q.2.1 ≤ 42) : tcQ K q = (true, adv q.2 1) := by unfold tcQ; rw [if_pos h, if_pos e]
theorem tcQ_z {K : Nat → Nat} {q : PQ} (h : q.1 = true) (e : ¬ (38 ≤ K q.2.1 ∧ K q.2.1 ≤ 42)) : tcQ K q = (false, q.2) := by unfold tcQ; rw [if_pos h, if_neg e]
set_option maxHeartbeats 1000000 in
theorem gm_twf26 {l : Launch} {D : va_G} {cA : Nat → ClassId} {n0 : Nat} {sg adK adV : Nat → Nat} {sgA smA wdA bS LS : Nat} {xs : Nat → Int32} (hX : SF n0 (XW0 sg adK adV sgA smA wdA n0 bS LS xs)) {m y z s1 s2 n8 hr wr lt : Nat} {B : Nat → Nat} {K : Nat → Nat} {S : Nat → Int32} {V : Nat → Int64} {ω0 w0 : RH} (hTK : TKF B lt K S V ω0) (hmz : m + 7 ≤ z ∨ z + 19 ≤ m) {d : Nat} {s : PS} (hd : d ≤ 8) (hq : K s.1 = 26) (h28 : ¬ K (s.1 + 1) = 28) {sz : Nat} {τ : TY} {M : ME} {ez : Nat} (hQ : MPl τ M m y z s1 s2 n8 B ω0 w0 hr wr lt (ez) (d) (s)) : CT l D cA n0 (XW0 sg adK adV sgA smA wdA n0 bS LS xs) mX13_isValue (10 * (9 - d) + 3) 0 0 sz τ M [.ref m] (fun v' sz' τ' M' => (v' = some (.int (if ((false, adv s 1)).1 = true then 1 else 0)) ∧ MQQ τ M' m y z s1 s2 n8 B ω0 w0 hr wr lt (ez) (d) ((false, adv s 1))) ∧ sz' = sz ∧ τ' = τ ∧ FMZ m z M M') := by
  refine CT.of (ls := [.ref m, UU, UU]) (by decide) (Nat.le_of_ble_eq_true rfl) rfl ?_
  obtain ⟨ω, w, hM, hV, hω, hrl, hw, hG, hn, ht, hz⟩ := hQ
  have k0 : ω 80 s.1 = nI (kkF (K s.1)) := by rw [hω 80 _ (by decide)]; exact (hTK.2.1 s.1 ht).1
  have hk := (hTK.2.1 s.1 ht).2.1
  have hl := hTK.1.1
  have hps := (ps_le (σ := s.2.2.1) s.2.1).1
  have hcn := cnF_le (σ := s.2.2.1) s.2.1
  have hF : FMZ m z M M := FMZ.rf _ _ _
  have hlt : s.1 < lt := Nat.lt_of_le_of_ne ht (fun e => by have h9 := hTK.1.2; rw [← e] at h9; omega)
  have k1 : ω 80 (s.1 + 1) = nI (kkF (K (s.1 + 1))) := by rw [hω 80 _ (by decide)]; exact (hTK.2.1 (s.1 + 1) hlt).1
  have hk1 := (hTK.2.1 (s.1 + 1) hlt).2.1
  refine T_aload0 dX13_isValue_0 rfl ?_
  refine T_bipush (41) dX13_isValue_1 rfl rfl ?_
  refine T_cV1 (c_X13_is hX hM (by omega) _) hX k13_127 (Or.inl ⟨_, _, _, _, (hM.t_m), by decide, rfl⟩) (by omega) (Nat.le_of_ble_eq_true rfl) dX13_isValue_3 rfl ?_
  rintro _ _ _ _ ⟨rfl, rfl, rfl, rfl⟩
  rw [k0, if_neg (fun e => absurd ((kc_41 _ hk.1 hk.2).mp e) (by omega))]
  refine T_if_eq_t 39 dX13_isValue_6 (by decide) rfl ?_
  refine T_aload0 dX13_isValue_39 rfl ?_
  refine g13_17 _ rfl (hM.t_m) (hM.g_kd) dX13_isValue_40 rfl ?_
  refine T_aload0 dX13_isValue_43 rfl ?_
  refine g13_124 _ rfl (hM.t_m) (hM.g_tk) dX13_isValue_44 rfl ?_
  refine T_iald _ (hM.t_kd) rfl (by omega) (by decide) dX13_isValue_47 rfl (hM.g_vkd (by omega)) ?_
  refine T_bipush (16) dX13_isValue_48 rfl rfl ?_
  refine T_bipush (19) dX13_isValue_50 rfl rfl ?_
  refine T_cS3 (c_X13_isIn hX _ _ _) hX k13_63 (by omega) (Nat.le_of_ble_eq_true rfl) dX13_isValue_52 rfl ?_
  rintro _ _ _ _ ⟨rfl, rfl, rfl, rfl⟩
  rw [k0, kc_in _ hk.1, if_neg (by omega)]
  refine T_if_eq_t 83 dX13_isValue_55 (by decide) rfl ?_
  refine T_aload0 dX13_isValue_83 rfl ?_
  refine g13_17 _ rfl (hM.t_m) (hM.g_kd) dX13_isValue_84 rfl ?_
  refine T_aload0 dX13_isValue_87 rfl ?_
  refine g13_124 _ rfl (hM.t_m) (hM.g_tk) dX13_isValue_88 rfl ?_
  refine T_iald _ (hM.t_kd) rfl (by omega) (by decide) dX13_isValue_91 rfl (hM.g_vkd (by omega)) ?_
  refine T_cS1 (c_X13_isOf hX _) hX k13_73 (by omega) (Nat.le_of_ble_eq_true rfl) dX13_isValue_92 rfl ?_
  rintro _ _ _ _ ⟨rfl, rfl, rfl, rfl⟩
  rw [k0, kc_of _ hk.1 hk.2, if_neg (by omega)]
  refine T_if_eq_t 127 dX13_isValue_95 (by decide) rfl ?_
  refine T_aload0 dX13_isValue_127 rfl ?_
  refine T_bipush (45) dX13_isValue_128 rfl rfl ?_
  refine T_cV1 (c_X13_isSign hX hM (by omega) _) hX k13_210 (Or.inl ⟨_, _, _, _, (hM.t_m), by decide, rfl⟩) (by omega) (Nat.le_of_ble_eq_true rfl) dX13_isValue_130 rfl ?_
  rintro _ _ _ _ ⟨rfl, rfl, rfl, rfl⟩
  rw [k0, show (50 : Int32) + 45 = 95 from by decide, if_neg (fun e => absurd ((kc_95 _ hk.1 hk.2).mp e) (by omega))]
  refine T_if_eq_t 170 dX13_isValue_133 (by decide) rfl ?_
  refine T_aload0 dX13_isValue_170 rfl ?_
  refine g13_17 _ rfl (hM.t_m) (hM.g_kd) dX13_isValue_171 rfl ?_
  refine T_aload0 dX13_isValue_174 rfl ?_
  refine g13_124 _ rfl (hM.t_m) (hM.g_tk) dX13_isValue_175 rfl ?_
  refine T_iald _ (hM.t_kd) rfl (by omega) (by decide) dX13_isValue_178 rfl (hM.g_vkd (by omega)) ?_
  rw [k0]
  refine T_istore1 rfl (by decide) dX13_isValue_179 rfl ?_
  refine T_aload0 dX13_isValue_180 rfl ?_
  refine T_bipush (26) dX13_isValue_181 rfl rfl ?_
  refine T_cV1 (c_X13_eat hX hM (by omega) _) hX k13_130 (Or.inl ⟨_, _, _, _, (hM.t_m), by decide, rfl⟩) (by omega) (Nat.le_of_ble_eq_true rfl) dX13_isValue_183 rfl ?_
  rintro _ _ _ M9 ⟨rfl, rfl, rfl, hM9⟩
  rw [k0, if_pos ((kc_26 _ hk.1 hk.2).mpr hq)]
  rw [k0, if_pos ((kc_26 _ hk.1 hk.2).mpr hq)] at hM9
  have hV := (hV.nx hM9.frame (by omega)).rf
  have hF := hF.fm hM9.frame
  have hM := hM9.rf
  refine T_if_ne_t 198 dX13_isValue_186 (by decide) (by decide) ?_
  refine T_iconst (1) dX13_isValue_198 rfl rfl ?_
  refine T_goto 203 dX13_isValue_199 (by decide) ?_
  refine T_istore2 rfl (by decide) dX13_isValue_203 rfl ?_
  refine T_aload0 dX13_isValue_204 rfl ?_
  refine T_bipush (40) dX13_isValue_205 rfl rfl ?_
  refine T_cV1 (c_X13_isSign hX hM (by omega) _) hX k13_210 (Or.inl ⟨_, _, _, _, (hM.t_m), by decide, rfl⟩) (by omega) (Nat.le_of_ble_eq_true rfl) dX13_isValue_207 rfl ?_
  rintro _ _ _ _ ⟨rfl, rfl, rfl, rfl⟩
  rw [k1, show (50 : Int32) + 40 = 90 from by decide, if_neg (fun e => absurd ((kc_90 _ hk1.1 hk1.2).mp e) h28)]
  refine T_if_eq_t 247 dX13_isValue_210 (by decide) rfl ?_
  refine T_iconst (0) dX13_isValue_247 rfl rfl ?_
  refine T_iret rfl rfl dX13_isValue_248 ?_
  exact ⟨⟨rfl, MQQ.f (q := (false, adv s 1)) (by simp) ⟨hlt, _, _, _, _, _, _, _, _, _, _, _, _, hM.rf, hV.rf, hω⟩⟩, rfl, rfl, hF⟩
set_option maxHeartbeats 1000000 in
theorem gm_twg26 {l : Launch} {D : va_G} {cA : Nat → ClassId} {n0 : Nat} {sg adK adV : Nat → Nat} {sgA smA wdA bS LS : Nat} {xs : Nat → Int32} (hX : SF n0 (XW0 sg adK adV sgA smA wdA n0 bS LS xs)) {m y z s1 s2 n8 hr wr lt : Nat} {B : Nat → Nat} {K : Nat → Nat} {S : Nat → Int32} {V : Nat → Int64} {ω0 w0 : RH} (hTK : TKF B lt K S V ω0) (hmz : m + 7 ≤ z ∨ z + 19 ≤ m) {d : Nat} {s : PS} (hd : d ≤ 8) (hq : K s.1 = 26) (h28 : K (s.1 + 1) = 28) (hd8 : ¬ d < 8) {sz : Nat} {τ : TY} {M : ME} {ez : Nat} (hQ : MPl τ M m y z s1 s2 n8 B ω0 w0 hr wr lt (ez) (d) (s)) : CT l D cA n0 (XW0 sg adK adV sgA smA wdA n0 bS LS xs) mX13_isValue (10 * (9 - d) + 3) 0 0 sz τ M [.ref m] (fun v' sz' τ' M' => (v' = some (.int (if ((false, adv s 1)).1 = true then 1 else 0)) ∧ MQQ τ M' m y z s1 s2 n8 B ω0 w0 hr wr lt (ez) (d) ((false, adv s 1))) ∧ sz' = sz ∧ τ' = τ ∧ FMZ m z M M') := by
  refine CT.of (ls := [.ref m, UU, UU]) (by decide) (Nat.le_of_ble_eq_true rfl) rfl ?_
  obtain ⟨ω, w, hM, hV, hω, hrl, hw, hG, hn, ht, hz⟩ := hQ
  have k0 : ω 80 s.1 = nI (kkF (K s.1)) := by rw [hω 80 _ (by decide)]; exact (hTK.2.1 s.1 ht).1
  have hk := (hTK.2.1 s.1 ht).2.1
  have hl := hTK.1.1
  have hps := (ps_le (σ := s.2.2.1) s.2.1).1
  have hcn := cnF_le (σ := s.2.2.1) s.2.1
  have hF : FMZ m z M M := FMZ.rf _ _ _
  have hlt : s.1 < lt := Nat.lt_of_le_of_ne ht (fun e => by have h9 := hTK.1.2; rw [← e] at h9; omega)
  have k1 : ω 80 (s.1 + 1) = nI (kkF (K (s.1 + 1))) := by rw [hω 80 _ (by decide)]; exact (hTK.2.1 (s.1 + 1) hlt).1
  have hk1 := (hTK.2.1 (s.1 + 1) hlt).2.1
  refine T_aload0 dX13_isValue_0 rfl ?_
  refine T_bipush (41) dX13_isValue_1 rfl rfl ?_
  refine T_cV1 (c_X13_is hX hM (by omega) _) hX k13_127 (Or.inl ⟨_, _, _, _, (hM.t_m), by decide, rfl⟩) (by omega) (Nat.le_of_ble_eq_true rfl) dX13_isValue_3 rfl ?_
  rintro _ _ _ _ ⟨rfl, rfl, rfl, rfl⟩
  rw [k0, if_neg (fun e => absurd ((kc_41 _ hk.1 hk.2).mp e) (by omega))]
  refine T_if_eq_t 39 dX13_isValue_6 (by decide) rfl ?_
  refine T_aload0 dX13_isValue_39 rfl ?_
  refine g13_17 _ rfl (hM.t_m) (hM.g_kd) dX13_isValue_40 rfl ?_
  refine T_aload0 dX13_isValue_43 rfl ?_
  refine g13_124 _ rfl (hM.t_m) (hM.g_tk) dX13_isValue_44 rfl ?_
  refine T_iald _ (hM.t_kd) rfl (by omega) (by decide) dX13_isValue_47 rfl (hM.g_vkd (by omega)) ?_
  refine T_bipush (16) dX13_isValue_48 rfl rfl ?_
  refine T_bipush (19) dX13_isValue_50 rfl rfl ?_
  refine T_cS3 (c_X13_isIn hX _ _ _) hX k13_63 (by omega) (Nat.le_of_ble_eq_true rfl) dX13_isValue_52 rfl ?_
  rintro _ _ _ _ ⟨rfl, rfl, rfl, rfl⟩
  rw [k0, kc_in _ hk.1, if_neg (by omega)]
  refine T_if_eq_t 83 dX13_isValue_55 (by decide) rfl ?_
  refine T_aload0 dX13_isValue_83 rfl ?_
  refine g13_17 _ rfl (hM.t_m) (hM.g_kd) dX13_isValue_84 rfl ?_
  refine T_aload0 dX13_isValue_87 rfl ?_
  refine g13_124 _ rfl (hM.t_m) (hM.g_tk) dX13_isValue_88 rfl ?_
  refine T_iald _ (hM.t_kd) rfl (by omega) (by decide) dX13_isValue_91 rfl (hM.g_vkd (by omega)) ?_
  refine T_cS1 (c_X13_isOf hX _) hX k13_73 (by omega) (Nat.le_of_ble_eq_true rfl) dX13_isValue_92 rfl ?_
  rintro _ _ _ _ ⟨rfl, rfl, rfl, rfl⟩
  rw [k0, kc_of _ hk.1 hk.2, if_neg (by omega)]
  refine T_if_eq_t 127 dX13_isValue_95 (by decide) rfl ?_
  refine T_aload0 dX13_isValue_127 rfl ?_
  refine T_bipush (45) dX13_isValue_128 rfl rfl ?_
  refine T_cV1 (c_X13_isSign hX hM (by omega) _) hX k13_210 (Or.inl ⟨_, _, _, _, (hM.t_m), by decide, rfl⟩) (by omega) (Nat.le_of_ble_eq_true rfl) dX13_isValue_130 rfl ?_
  rintro _ _ _ _ ⟨rfl, rfl, rfl, rfl⟩
  rw [k0, show (50 : Int32) + 45 = 95 from by decide, if_neg (fun e => absurd ((kc_95 _ hk.1 hk.2).mp e) (by omega))]
  refine T_if_eq_t 170 dX13_isValue_133 (by decide) rfl ?_
  refine T_aload0 dX13_isValue_170 rfl ?_
  refine g13_17 _ rfl (hM.t_m) (hM.g_kd) dX13_isValue_171 rfl ?_
  refine T_aload0 dX13_isValue_174 rfl ?_
  refine g13_124 _ rfl (hM.t_m) (hM.g_tk) dX13_isValue_175 rfl ?_
  refine T_iald _ (hM.t_kd) rfl (by omega) (by decide) dX13_isValue_178 rfl (hM.g_vkd (by omega)) ?_
  rw [k0]
  refine T_istore1 rfl (by decide) dX13_isValue_179 rfl ?_
  refine T_aload0 dX13_isValue_180 rfl ?_
  refine T_bipush (26) dX13_isValue_181 rfl rfl ?_
  refine T_cV1 (c_X13_eat hX hM (by omega) _) hX k13_130 (Or.inl ⟨_, _, _, _, (hM.t_m), by decide, rfl⟩) (by omega) (Nat.le_of_ble_eq_true rfl) dX13_isValue_183 rfl ?_
  rintro _ _ _ M9 ⟨rfl, rfl, rfl, hM9⟩
  rw [k0, if_pos ((kc_26 _ hk.1 hk.2).mpr hq)]
  rw [k0, if_pos ((kc_26 _ hk.1 hk.2).mpr hq)] at hM9
  have hV := (hV.nx hM9.frame (by omega)).rf
  have hF := hF.fm hM9.frame
  have hM := hM9.rf
  refine T_if_ne_t 198 dX13_isValue_186 (by decide) (by decide) ?_
  refine T_iconst (1) dX13_isValue_198 rfl rfl ?_
  refine T_goto 203 dX13_isValue_199 (by decide) ?_
  refine T_istore2 rfl (by decide) dX13_isValue_203 rfl ?_
  refine T_aload0 dX13_isValue_204 rfl ?_
  refine T_bipush (40) dX13_isValue_205 rfl rfl ?_
  refine T_cV1 (c_X13_isSign hX hM (by omega) _) hX k13_210 (Or.inl ⟨_, _, _, _, (hM.t_m), by decide, rfl⟩) (by omega) (Nat.le_of_ble_eq_true rfl) dX13_isValue_207 rfl ?_
  rintro _ _ _ _ ⟨rfl, rfl, rfl, rfl⟩
  rw [k1, show (50 : Int32) + 40 = 90 from by decide, if_pos ((kc_90 _ hk1.1 hk1.2).mpr h28)]
  refine T_if_eq_f 247 213 dX13_isValue_210 (by decide) rfl (by decide) ?_
  refine T_aload0 dX13_isValue_213 rfl ?_
  refine T_cV0 (c_X13_isDeeper hX hM (by omega) hd) hX k13_207 (Or.inl ⟨_, _, _, _, (hM.t_m), by decide, rfl⟩) (by omega) (Nat.le_of_ble_eq_true rfl) dX13_isValue_214 rfl ?_
  rintro _ _ _ M9 ⟨rfl, rfl, rfl, hM9⟩
  rw [if_neg hd8]
  rw [if_neg hd8, if_neg hd8] at hM9
  have hV := (hV.nx hM9.frame (by omega)).rf
  have hF := hF.fm hM9.frame
  have hM := hM9.rf
  refine T_if_eq_t 247 dX13_isValue_217 (by decide) rfl ?_
  refine T_iconst (0) dX13_isValue_247 rfl rfl ?_
  refine T_iret rfl rfl dX13_isValue_248 ?_
  exact ⟨⟨rfl, MQQ.f (q := (false, adv s 1)) (by simp) ⟨hlt, _, _, _, _, _, _, _, _, _, _, _, _, hM.rf, hV.rf, hω⟩⟩, rfl, rfl, hF⟩
set_option maxHeartbeats 1000000 in
theorem gm_two26 {l : Launch} {D : va_G} {cA : Nat → ClassId} {n0 : Nat} {sg adK adV : Nat → Nat} {sgA smA wdA bS LS : Nat} {xs : Nat → Int32} (hX : SF n0 (XW0 sg adK adV sgA smA wdA n0 bS LS xs)) {m y z s1 s2 n8 hr wr lt : Nat} {B : Nat → Nat} {K : Nat → Nat} {S : Nat → Int32} {V : Nat → Int64} {ω0 w0 : RH} (hTK : TKF B lt K S V ω0) (hmz : m + 7 ≤ z ∨ z + 19 ≤ m) {d : Nat} {s : PS} (hd : d ≤ 8) {q q2 : PQ} (hq : K s.1 = 26) (h28 : K (s.1 + 1) = 28) (hd8 : d < 8) (hS1 : ∀ (sz : Nat) (τ : TY) (M : ME) (ez : Nat), MPl τ M m y z s1 s2 n8 B ω0 w0 hr wr lt (ez) (d + 1) (adv s 2) → CT l D cA n0 (XW0 sg adK adV sgA smA wdA n0 bS LS xs) mX13_isSum (10 * (9 - (d + 1)) + 5) 0 0 sz τ M [.ref m] (fun v' sz' τ' M' => (v' = some (.int (if (q).1 = true then 1 else 0)) ∧ MQQ τ M' m y z s1 s2 n8 B ω0 w0 hr wr lt (ez) (d + 1) (q)) ∧ sz' = sz ∧ τ' = τ ∧ FMZ m z M M')) (hf2 : (tkQ K 33 q).1 = false → q2 = tkQ K 33 q) (hS2 : (tkQ K 33 q).1 = true → ∀ (sz : Nat) (τ : TY) (M : ME) (ez : Nat), MPl τ M m y z s1 s2 n8 B ω0 w0 hr wr lt (ez) (d + 1) ((tkQ K 33 q).2) → CT l D cA n0 (XW0 sg adK adV sgA smA wdA n0 bS LS xs) mX13_isSum (10 * (9 - (d + 1)) + 5) 0 0 sz τ M [.ref m] (fun v' sz' τ' M' => (v' = some (.int (if (q2).1 = true then 1 else 0)) ∧ MQQ τ M' m y z s1 s2 n8 B ω0 w0 hr wr lt (ez) (d + 1) (q2)) ∧ sz' = sz ∧ τ' = τ ∧ FMZ m z M M')) {sz : Nat} {τ : TY} {M : ME} {ez : Nat} (hQ : MPl τ M m y z s1 s2 n8 B ω0 w0 hr wr lt (ez) (d) (s)) : CT l D cA n0 (XW0 sg adK adV sgA smA wdA n0 bS LS xs) mX13_isValue (10 * (9 - d) + 3) 0 0 sz τ M [.ref m] (fun v' sz' τ' M' => (v' = some (.int (if (adQ (tkQ K 29 q2) (K s.1)).1 = true then 1 else 0)) ∧ MQQ τ M' m y z s1 s2 n8 B ω0 w0 hr wr lt (ez) (d) (adQ (tkQ K 29 q2) (K s.1))) ∧ sz' = sz ∧ τ' = τ ∧ FMZ m z M M') := by
  refine CT.of (ls := [.ref m, UU, UU]) (by decide) (Nat.le_of_ble_eq_true rfl) rfl ?_
  obtain ⟨ω, w, hM, hV, hω, hrl, hw, hG, hn, ht, hz⟩ := hQ
  have k0 : ω 80 s.1 = nI (kkF (K s.1)) := by rw [hω 80 _ (by decide)]; exact (hTK.2.1 s.1 ht).1
  have hk := (hTK.2.1 s.1 ht).2.1
  have hl := hTK.1.1
  have hps := (ps_le (σ := s.2.2.1) s.2.1).1
  have hcn := cnF_le (σ := s.2.2.1) s.2.1
  have hF : FMZ m z M M := FMZ.rf _ _ _
  have hlt : s.1 < lt := Nat.lt_of_le_of_ne ht (fun e => by have h9 := hTK.1.2; rw [← e] at h9; omega)
  have k1 : ω 80 (s.1 + 1) = nI (kkF (K (s.1 + 1))) := by rw [hω 80 _ (by decide)]; exact (hTK.2.1 (s.1 + 1) hlt).1
  have hk1 := (hTK.2.1 (s.1 + 1) hlt).2.1
  have hlt2 : s.1 + 2 ≤ lt := by have h9 : ¬ s.1 + 1 = lt := fun e => by have h9 := hTK.1.2; rw [← e] at h9; omega
                                 omega
  refine T_aload0 dX13_isValue_0 rfl ?_
  refine T_bipush (41) dX13_isValue_1 rfl rfl ?_
  refine T_cV1 (c_X13_is hX hM (by omega) _) hX k13_127 (Or.inl ⟨_, _, _, _, (hM.t_m), by decide, rfl⟩) (by omega) (Nat.le_of_ble_eq_true rfl) dX13_isValue_3 rfl ?_
  rintro _ _ _ _ ⟨rfl, rfl, rfl, rfl⟩
  rw [k0, if_neg (fun e => absurd ((kc_41 _ hk.1 hk.2).mp e) (by omega))]
  refine T_if_eq_t 39 dX13_isValue_6 (by decide) rfl ?_
  refine T_aload0 dX13_isValue_39 rfl ?_
  refine g13_17 _ rfl (hM.t_m) (hM.g_kd) dX13_isValue_40 rfl ?_
  refine T_aload0 dX13_isValue_43 rfl ?_
  refine g13_124 _ rfl (hM.t_m) (hM.g_tk) dX13_isValue_44 rfl ?_
  refine T_iald _ (hM.t_kd) rfl (by omega) (by decide) dX13_isValue_47 rfl (hM.g_vkd (by omega)) ?_
  refine T_bipush (16) dX13_isValue_48 rfl rfl ?_
  refine T_bipush (19) dX13_isValue_50 rfl rfl ?_
  refine T_cS3 (c_X13_isIn hX _ _ _) hX k13_63 (by omega) (Nat.le_of_ble_eq_true rfl) dX13_isValue_52 rfl ?_
  rintro _ _ _ _ ⟨rfl, rfl, rfl, rfl⟩
  rw [k0, kc_in _ hk.1, if_neg (by omega)]
  refine T_if_eq_t 83 dX13_isValue_55 (by decide) rfl ?_
  refine T_aload0 dX13_isValue_83 rfl ?_
  refine g13_17 _ rfl (hM.t_m) (hM.g_kd) dX13_isValue_84 rfl ?_
  refine T_aload0 dX13_isValue_87 rfl ?_
  refine g13_124 _ rfl (hM.t_m) (hM.g_tk) dX13_isValue_88 rfl ?_
  refine T_iald _ (hM.t_kd) rfl (by omega) (by decide) dX13_isValue_91 rfl (hM.g_vkd (by omega)) ?_
  refine T_cS1 (c_X13_isOf hX _) hX k13_73 (by omega) (Nat.le_of_ble_eq_true rfl) dX13_isValue_92 rfl ?_
  rintro _ _ _ _ ⟨rfl, rfl, rfl, rfl⟩
  rw [k0, kc_of _ hk.1 hk.2, if_neg (by omega)]
  refine T_if_eq_t 127 dX13_isValue_95 (by decide) rfl ?_
  refine T_aload0 dX13_isValue_127 rfl ?_
  refine T_bipush (45) dX13_isValue_128 rfl rfl ?_
  refine T_cV1 (c_X13_isSign hX hM (by omega) _) hX k13_210 (Or.inl ⟨_, _, _, _, (hM.t_m), by decide, rfl⟩) (by omega) (Nat.le_of_ble_eq_true rfl) dX13_isValue_130 rfl ?_
  rintro _ _ _ _ ⟨rfl, rfl, rfl, rfl⟩
  rw [k0, show (50 : Int32) + 45 = 95 from by decide, if_neg (fun e => absurd ((kc_95 _ hk.1 hk.2).mp e) (by omega))]
  refine T_if_eq_t 170 dX13_isValue_133 (by decide) rfl ?_
  refine T_aload0 dX13_isValue_170 rfl ?_
  refine g13_17 _ rfl (hM.t_m) (hM.g_kd) dX13_isValue_171 rfl ?_
  refine T_aload0 dX13_isValue_174 rfl ?_
  refine g13_124 _ rfl (hM.t_m) (hM.g_tk) dX13_isValue_175 rfl ?_
  refine T_iald _ (hM.t_kd) rfl (by omega) (by decide) dX13_isValue_178 rfl (hM.g_vkd (by omega)) ?_
  rw [k0]
  refine T_istore1 rfl (by decide) dX13_isValue_179 rfl ?_
  refine T_aload0 dX13_isValue_180 rfl ?_
  refine T_bipush (26) dX13_isValue_181 rfl rfl ?_
  refine T_cV1 (c_X13_eat hX hM (by omega) _) hX k13_130 (Or.inl ⟨_, _, _, _, (hM.t_m), by decide, rfl⟩) (by omega) (Nat.le_of_ble_eq_true rfl) dX13_isValue_183 rfl ?_
  rintro _ _ _ M9 ⟨rfl, rfl, rfl, hM9⟩
  rw [k0, if_pos ((kc_26 _ hk.1 hk.2).mpr hq)]
  rw [k0, if_pos ((kc_26 _ hk.1 hk.2).mpr hq)] at hM9
  have hV := (hV.nx hM9.frame (by omega)).rf
  have hF := hF.fm hM9.frame
  have hM := hM9.rf
  refine T_if_ne_t 198 dX13_isValue_186 (by decide) (by decide) ?_
  refine T_iconst (1) dX13_isValue_198 rfl rfl ?_
  refine T_goto 203 dX13_isValue_199 (by decide) ?_
  refine T_istore2 rfl (by decide) dX13_isValue_203 rfl ?_
  refine T_aload0 dX13_isValue_204 rfl ?_
  refine T_bipush (40) dX13_isValue_205 rfl rfl ?_
  refine T_cV1 (c_X13_isSign hX hM (by omega) _) hX k13_210 (Or.inl ⟨_, _, _, _, (hM.t_m), by decide, rfl⟩) (by omega) (Nat.le_of_ble_eq_true rfl) dX13_isValue_207 rfl ?_
  rintro _ _ _ _ ⟨rfl, rfl, rfl, rfl⟩
  rw [k1, show (50 : Int32) + 40 = 90 from by decide, if_pos ((kc_90 _ hk1.1 hk1.2).mpr h28)]
  refine T_if_eq_f 247 213 dX13_isValue_210 (by decide) rfl (by decide) ?_
  refine T_aload0 dX13_isValue_213 rfl ?_
  refine T_cV0 (c_X13_isDeeper hX hM (by omega) hd) hX k13_207 (Or.inl ⟨_, _, _, _, (hM.t_m), by decide, rfl⟩) (by omega) (Nat.le_of_ble_eq_true rfl) dX13_isValue_214 rfl ?_
  rintro _ _ _ M9 ⟨rfl, rfl, rfl, hM9⟩
  rw [if_pos hd8]
  rw [if_pos hd8, if_pos hd8] at hM9
  have hV := (hV.nx hM9.frame (by omega)).rf
  have hF := hF.fm hM9.frame
  have hM := hM9.rf
  refine T_if_eq_f 247 220 dX13_isValue_217 (by decide) rfl (by decide) ?_
  refine T_aload0 dX13_isValue_220 rfl ?_
  refine T_cV0 (hS1 _ _ _ (ez + 1) ⟨ω, w, hM.rf, hV.rf, hω, hrl, hw, hG, (by show s.2.1 + (ez + 1) ≤ s.1 + 2; omega), hlt2, (fun i hi => hz i (by have h9 : s.1 + 2 ≤ i := hi; omega))⟩) hX k13_167 (Or.inl ⟨_, _, _, _, (hM.t_m), by decide, rfl⟩) (by omega) (Nat.le_of_ble_eq_true rfl) dX13_isValue_221 rfl ?_
  rintro _ _ _ M8 ⟨⟨rfl, hQ9⟩, rfl, rfl, hF9⟩
  have hF := hF.tr hF9
  refine T_if_eq 247 227 dX13_isValue_224 (by decide) rfl (fun c224 => ?_) (fun c224 => ?_)
  ·
    have z9 := ifz0 c224
    refine T_iconst (0) dX13_isValue_247 rfl rfl ?_
    refine T_iret rfl rfl dX13_isValue_248 ?_
    first
      | (have e5 : q2 = q := by rw [hf2 (by rw [tkQ_n z9]; exact fls z9)]; exact tkQ_n z9
         subst e5
         have z8 : ¬ (adQ (tkQ K 29 q2) (K s.1)).1 = true := by rw [tkQ_n z9]; exact z9
         exact ⟨⟨by rw [if_neg z8], MQQ.f z8 (show MB _ _ _ _ _ _ _ _ _ _ _ (tkQ K 29 q2).2.1 from by rw [tkQ_n z9]; exact hQ9.2 (fls z9))⟩, rfl, rfl, hF⟩)
      | (have e5 : q2 = (false, q.2) := by rw [hf2 (by rw [tkQ_z z9 e33])]; exact tkQ_z z9 e33
         subst e5
         exact ⟨⟨rfl, MQQ.f (q := adQ (tkQ K 29 (false, q.2)) (K s.1)) (by simp [adQ, tkQ]) ⟨ht, _, _, _, _, _, _, _, _, _, _, _, _, hM9.rf, hV.rf, hω⟩⟩, rfl, rfl, hF⟩)
      | (have z8 : ¬ (adQ (tkQ K 29 q2) (K s.1)).1 = true := by rw [tkQ_n z5]; exact z5
         exact ⟨⟨by rw [if_neg z8], MQQ.f z8 (show MB _ _ _ _ _ _ _ _ _ _ _ (tkQ K 29 q2).2.1 from by rw [tkQ_n z5]; exact hQ8.2 (fls z5))⟩, rfl, rfl, hF⟩)
  ·
    have z9 := ifz1 c224
    obtain ⟨ω, w, hM, hV, hω, hrl, hw, hG, hn, ht, hz⟩ := hQ9.1 z9
    have k0 : ω 80 q.2.1 = nI (kkF (K q.2.1)) := by rw [hω 80 _ (by decide)]; exact (hTK.2.1 q.2.1 ht).1
    have hk := (hTK.2.1 q.2.1 ht).2.1
    have hps := (ps_le (σ := q.2.2.2.1) q.2.2.1).1
    have hcn := cnF_le (σ := q.2.2.2.1) q.2.2.1
    refine T_iload2 dX13_isValue_227 rfl ?_
    refine T_if_eq_f 249 231 dX13_isValue_228 (by decide) rfl (by decide) ?_
    refine T_aload0 dX13_isValue_231 rfl ?_
    refine T_bipush (44) dX13_isValue_232 rfl rfl ?_
    refine T_cV1 (c_X13_eatSign hX hM (by omega) _) hX k13_153 (Or.inl ⟨_, _, _, _, (hM.t_m), by decide, rfl⟩) (by omega) (Nat.le_of_ble_eq_true rfl) dX13_isValue_234 rfl ?_
    rintro _ _ _ M9 ⟨rfl, rfl, rfl, hM9⟩
    have hV := (hV.nx hM9.frame (by omega)).rf
    have hF := hF.fm hM9.frame
    rw [show (50 : Int32) + 44 = 94 from by decide, k0] at hM9 ⊢
    refine T_if_eq 247 240 dX13_isValue_237 (by decide) rfl (fun c237 => ?_) (fun c237 => ?_)
    ·
      have z7 := ifz0 c237
      rw [if_neg z7] at hM9
      have e33 : ¬ K q.2.1 = 33 := fun e => z7 ((kc_94 _ hk.1 hk.2).mpr e)
      refine T_iconst (0) dX13_isValue_247 rfl rfl ?_
      refine T_iret rfl rfl dX13_isValue_248 ?_
      first
        | (have e5 : q2 = q := by rw [hf2 (by rw [tkQ_n z9]; exact fls z9)]; exact tkQ_n z9
           subst e5
           have z8 : ¬ (adQ (tkQ K 29 q2) (K s.1)).1 = true := by rw [tkQ_n z9]; exact z9
           exact ⟨⟨by rw [if_neg z8], MQQ.f z8 (show MB _ _ _ _ _ _ _ _ _ _ _ (tkQ K 29 q2).2.1 from by rw [tkQ_n z9]; exact hQ9.2 (fls z9))⟩, rfl, rfl, hF⟩)
        | (have e5 : q2 = (false, q.2) := by rw [hf2 (by rw [tkQ_z z9 e33])]; exact tkQ_z z9 e33
           subst e5
           exact ⟨⟨rfl, MQQ.f (q := adQ (tkQ K 29 (false, q.2)) (K s.1)) (by simp [adQ, tkQ]) ⟨ht, _, _, _, _, _, _, _, _, _, _, _, _, hM9.rf, hV.rf, hω⟩⟩, rfl, rfl, hF⟩)
        | (have z8 : ¬ (adQ (tkQ K 29 q2) (K s.1)).1 = true := by rw [tkQ_n z5]; exact z5
           exact ⟨⟨by rw [if_neg z8], MQQ.f z8 (show MB _ _ _ _ _ _ _ _ _ _ _ (tkQ K 29 q2).2.1 from by rw [tkQ_n z5]; exact hQ8.2 (fls z5))⟩, rfl, rfl, hF⟩)
    ·
      have z7 := ifz1 c237
      rw [if_pos z7] at hM9
      have e33 := (kc_94 _ hk.1 hk.2).mp z7
      have e8 : tkQ K 33 q = (true, adv q.2 1) := tkQ_y z9 e33
      have hlt : q.2.1 + 1 ≤ lt := Nat.lt_of_le_of_ne ht (fun e => by have h9 := hTK.1.2; rw [← e] at h9; omega)
      refine T_aload0 dX13_isValue_240 rfl ?_
      refine T_cV0 (hS2 (by rw [e8]) _ _ _ (ez + 1) (by rw [e8]; exact ⟨ω, w, hM9.rf, hV.rf, hω, hrl, hw, hG, (by show q.2.2.1 + (ez + 1) ≤ q.2.1 + 1; omega), hlt, (fun i hi => hz i (Nat.le_trans (Nat.le_succ _) hi))⟩)) hX k13_167 (Or.inl ⟨_, _, _, _, (hM.t_m), by decide, rfl⟩) (by omega) (Nat.le_of_ble_eq_true rfl) dX13_isValue_241 rfl ?_
      rintro _ _ _ M8 ⟨⟨rfl, hQ8⟩, rfl, rfl, hF9⟩
      have hF := hF.tr hF9
      refine T_if_ne 249 247 dX13_isValue_244 (by decide) rfl (fun c244 => ?_) (fun c244 => ?_)
      ·
        have z5 := ifz1 c244
        obtain ⟨ω, w, hM, hV, hω, hrl, hw, hG, hn, ht, hz⟩ := hQ8.1 z5
        have k0 : ω 80 q2.2.1 = nI (kkF (K q2.2.1)) := by rw [hω 80 _ (by decide)]; exact (hTK.2.1 q2.2.1 ht).1
        have hk := (hTK.2.1 q2.2.1 ht).2.1
        have hps := (ps_le (σ := q2.2.2.2.1) q2.2.2.1).1
        have hcn := cnF_le (σ := q2.2.2.2.1) q2.2.2.1
        refine T_aload0 dX13_isValue_249 rfl ?_
        refine T_dup dX13_isValue_250 rfl rfl ?_
        refine g13_198 _ rfl (hM.t_m) (hM.g_dp) dX13_isValue_251 rfl ?_
        refine T_iconst (1) dX13_isValue_254 rfl rfl ?_
        refine T_isub dX13_isValue_255 rfl ?_
        refine p13_198 rfl (hM.t_m) dX13_isValue_256 rfl ?_
        refine T_nm (fun M1 e1 => ?_)
        have hM := MV.mv (hM.p_dp (n := d) (nI_pred d)) e1
        have hV := hV.frU e1 (by omega)
        have hF := hF.up e1 (by omega)
        refine T_iload2 dX13_isValue_259 rfl ?_
        refine T_if_eq_f 268 263 dX13_isValue_260 (by decide) rfl (by decide) ?_
        refine T_aload0 dX13_isValue_263 rfl ?_
        refine T_iload1 dX13_isValue_264 rfl ?_
        refine T_cV1 (c_X13_put hX hM (by omega) hV hmz (by omega) _) hX k13_191 (Or.inl ⟨_, _, _, _, (hM.t_m), by decide, rfl⟩) (by omega) (Nat.le_of_ble_eq_true rfl) dX13_isValue_265 rfl ?_
        rintro _ _ _ M9 ⟨rfl, rfl, rfl, hV9⟩
        have hM := (hM.nx hV9.frame (by omega)).rf
        have hF := hF.fz hV9.frame
        have hV := hV9.rf
        refine T_aload0 dX13_isValue_268 rfl ?_
        refine T_bipush (41) dX13_isValue_269 rfl rfl ?_
        refine T_cV1 (c_X13_eatSign hX hM (by omega) _) hX k13_153 (Or.inl ⟨_, _, _, _, (hM.t_m), by decide, rfl⟩) (by omega) (Nat.le_of_ble_eq_true rfl) dX13_isValue_271 rfl ?_
        rintro _ _ _ M9 ⟨rfl, rfl, rfl, hM9⟩
        have hV := (hV.nx hM9.frame (by omega)).rf
        have hF := hF.fm hM9.frame
        rw [show (50 : Int32) + 41 = 91 from by decide, k0] at hM9 ⊢
        refine T_iret rfl nrB dX13_isValue_274 ?_
        by_cases e29 : K q2.2.1 = 29
        · rw [if_pos ((kc_91 _ hk.1 hk.2).mpr e29)] at hM9 ⊢
          rw [tkQ_y z5 e29]
          refine ⟨⟨rfl, MQQ.t rfl (show MPl _ _ _ _ _ _ _ _ _ _ _ _ _ _ _ _ (stp (adv q2.2 1) (K s.1) 0) from MPl.ad (s := adv q2.2 1) (o := K s.1) (by rw [hq]; rfl) (by rw [hq]; rfl) (by rw [hq]; rfl) hM9 hV hω hrl hw hG (by show q2.2.2.1 + (ez + 1) ≤ q2.2.1 + 1; omega) ?_ (fun i hi => hz i (Nat.le_trans (Nat.le_succ _) hi)))⟩, rfl, rfl, hF⟩
          have h9 : ¬ q2.2.1 = lt := fun e => by have h9 := hTK.1.2; rw [← e] at h9; omega
          show q2.2.1 + 1 ≤ lt; omega
        · rw [if_neg (fun e => e29 ((kc_91 _ hk.1 hk.2).mp e))] at hM9 ⊢
          rw [tkQ_z z5 e29]
          exact ⟨⟨rfl, MQQ.f (q := adQ (false, q2.2) (K s.1)) (by simp [adQ]) ⟨ht, _, _, _, _, _, _, _, _, _, _, _, _, hM9.rf, hV, hω⟩⟩, rfl, rfl, hF⟩
      ·
        have z5 := ifz0 (by first | exact c244 | exact Decidable.not_not.mp c244)
        refine T_iconst (0) dX13_isValue_247 rfl rfl ?_
        refine T_iret rfl rfl dX13_isValue_248 ?_
        first
          | (have e5 : q2 = q := by rw [hf2 (by rw [tkQ_n z9]; exact fls z9)]; exact tkQ_n z9
             subst e5
             have z8 : ¬ (adQ (tkQ K 29 q2) (K s.1)).1 = true := by rw [tkQ_n z9]; exact z9
             exact ⟨⟨by rw [if_neg z8], MQQ.f z8 (show MB _ _ _ _ _ _ _ _ _ _ _ (tkQ K 29 q2).2.1 from by rw [tkQ_n z9]; exact hQ9.2 (fls z9))⟩, rfl, rfl, hF⟩)
          | (have e5 : q2 = (false, q.2) := by rw [hf2 (by rw [tkQ_z z9 e33])]; exact tkQ_z z9 e33
             subst e5
             exact ⟨⟨rfl, MQQ.f (q := adQ (tkQ K 29 (false, q.2)) (K s.1)) (by simp [adQ, tkQ]) ⟨ht, _, _, _, _, _, _, _, _, _, _, _, _, hM9.rf, hV.rf, hω⟩⟩, rfl, rfl, hF⟩)
          | (have z8 : ¬ (adQ (tkQ K 29 q2) (K s.1)).1 = true := by rw [tkQ_n z5]; exact z5
             exact ⟨⟨by rw [if_neg z8], MQQ.f z8 (show MB _ _ _ _ _ _ _ _ _ _ _ (tkQ K 29 q2).2.1 from by rw [tkQ_n z5]; exact hQ8.2 (fls z5))⟩, rfl, rfl, hF⟩)
set_option maxHeartbeats 1000000 in
theorem gm_twf27 {l : Launch} {D : va_G} {cA : Nat → ClassId} {n0 : Nat} {sg adK adV : Nat → Nat} {sgA smA wdA bS LS : Nat} {xs : Nat → Int32} (hX : SF n0 (XW0 sg adK adV sgA smA wdA n0 bS LS xs)) {m y z s1 s2 n8 hr wr lt : Nat} {B : Nat → Nat} {K : Nat → Nat} {S : Nat → Int32} {V : Nat → Int64} {ω0 w0 : RH} (hTK : TKF B lt K S V ω0) (hmz : m + 7 ≤ z ∨ z + 19 ≤ m) {d : Nat} {s : PS} (hd : d ≤ 8) (hq : K s.1 = 27) (h28 : ¬ K (s.1 + 1) = 28) {sz : Nat} {τ : TY} {M : ME} {ez : Nat} (hQ : MPl τ M m y z s1 s2 n8 B ω0 w0 hr wr lt (ez) (d) (s)) : CT l D cA n0 (XW0 sg adK adV sgA smA wdA n0 bS LS xs) mX13_isValue (10 * (9 - d) + 3) 0 0 sz τ M [.ref m] (fun v' sz' τ' M' => (v' = some (.int (if ((false, adv s 1)).1 = true then 1 else 0)) ∧ MQQ τ M' m y z s1 s2 n8 B ω0 w0 hr wr lt (ez) (d) ((false, adv s 1))) ∧ sz' = sz ∧ τ' = τ ∧ FMZ m z M M') := by
  refine CT.of (ls := [.ref m, UU, UU]) (by decide) (Nat.le_of_ble_eq_true rfl) rfl ?_
  obtain ⟨ω, w, hM, hV, hω, hrl, hw, hG, hn, ht, hz⟩ := hQ
  have k0 : ω 80 s.1 = nI (kkF (K s.1)) := by rw [hω 80 _ (by decide)]; exact (hTK.2.1 s.1 ht).1
  have hk := (hTK.2.1 s.1 ht).2.1
  have hl := hTK.1.1
  have hps := (ps_le (σ := s.2.2.1) s.2.1).1
  have hcn := cnF_le (σ := s.2.2.1) s.2.1
  have hF : FMZ m z M M := FMZ.rf _ _ _
  have hlt : s.1 < lt := Nat.lt_of_le_of_ne ht (fun e => by have h9 := hTK.1.2; rw [← e] at h9; omega)
  have k1 : ω 80 (s.1 + 1) = nI (kkF (K (s.1 + 1))) := by rw [hω 80 _ (by decide)]; exact (hTK.2.1 (s.1 + 1) hlt).1
  have hk1 := (hTK.2.1 (s.1 + 1) hlt).2.1
  refine T_aload0 dX13_isValue_0 rfl ?_
  refine T_bipush (41) dX13_isValue_1 rfl rfl ?_
  refine T_cV1 (c_X13_is hX hM (by omega) _) hX k13_127 (Or.inl ⟨_, _, _, _, (hM.t_m), by decide, rfl⟩) (by omega) (Nat.le_of_ble_eq_true rfl) dX13_isValue_3 rfl ?_
  rintro _ _ _ _ ⟨rfl, rfl, rfl, rfl⟩
  rw [k0, if_neg (fun e => absurd ((kc_41 _ hk.1 hk.2).mp e) (by omega))]
  refine T_if_eq_t 39 dX13_isValue_6 (by decide) rfl ?_
  refine T_aload0 dX13_isValue_39 rfl ?_
  refine g13_17 _ rfl (hM.t_m) (hM.g_kd) dX13_isValue_40 rfl ?_
  refine T_aload0 dX13_isValue_43 rfl ?_
  refine g13_124 _ rfl (hM.t_m) (hM.g_tk) dX13_isValue_44 rfl ?_
  refine T_iald _ (hM.t_kd) rfl (by omega) (by decide) dX13_isValue_47 rfl (hM.g_vkd (by omega)) ?_
  refine T_bipush (16) dX13_isValue_48 rfl rfl ?_
  refine T_bipush (19) dX13_isValue_50 rfl rfl ?_
  refine T_cS3 (c_X13_isIn hX _ _ _) hX k13_63 (by omega) (Nat.le_of_ble_eq_true rfl) dX13_isValue_52 rfl ?_
  rintro _ _ _ _ ⟨rfl, rfl, rfl, rfl⟩
  rw [k0, kc_in _ hk.1, if_neg (by omega)]
  refine T_if_eq_t 83 dX13_isValue_55 (by decide) rfl ?_
  refine T_aload0 dX13_isValue_83 rfl ?_
  refine g13_17 _ rfl (hM.t_m) (hM.g_kd) dX13_isValue_84 rfl ?_
  refine T_aload0 dX13_isValue_87 rfl ?_
  refine g13_124 _ rfl (hM.t_m) (hM.g_tk) dX13_isValue_88 rfl ?_
  refine T_iald _ (hM.t_kd) rfl (by omega) (by decide) dX13_isValue_91 rfl (hM.g_vkd (by omega)) ?_
  refine T_cS1 (c_X13_isOf hX _) hX k13_73 (by omega) (Nat.le_of_ble_eq_true rfl) dX13_isValue_92 rfl ?_
  rintro _ _ _ _ ⟨rfl, rfl, rfl, rfl⟩
  rw [k0, kc_of _ hk.1 hk.2, if_neg (by omega)]
  refine T_if_eq_t 127 dX13_isValue_95 (by decide) rfl ?_
  refine T_aload0 dX13_isValue_127 rfl ?_
  refine T_bipush (45) dX13_isValue_128 rfl rfl ?_
  refine T_cV1 (c_X13_isSign hX hM (by omega) _) hX k13_210 (Or.inl ⟨_, _, _, _, (hM.t_m), by decide, rfl⟩) (by omega) (Nat.le_of_ble_eq_true rfl) dX13_isValue_130 rfl ?_
  rintro _ _ _ _ ⟨rfl, rfl, rfl, rfl⟩
  rw [k0, show (50 : Int32) + 45 = 95 from by decide, if_neg (fun e => absurd ((kc_95 _ hk.1 hk.2).mp e) (by omega))]
  refine T_if_eq_t 170 dX13_isValue_133 (by decide) rfl ?_
  refine T_aload0 dX13_isValue_170 rfl ?_
  refine g13_17 _ rfl (hM.t_m) (hM.g_kd) dX13_isValue_171 rfl ?_
  refine T_aload0 dX13_isValue_174 rfl ?_
  refine g13_124 _ rfl (hM.t_m) (hM.g_tk) dX13_isValue_175 rfl ?_
  refine T_iald _ (hM.t_kd) rfl (by omega) (by decide) dX13_isValue_178 rfl (hM.g_vkd (by omega)) ?_
  rw [k0]
  refine T_istore1 rfl (by decide) dX13_isValue_179 rfl ?_
  refine T_aload0 dX13_isValue_180 rfl ?_
  refine T_bipush (26) dX13_isValue_181 rfl rfl ?_
  refine T_cV1 (c_X13_eat hX hM (by omega) _) hX k13_130 (Or.inl ⟨_, _, _, _, (hM.t_m), by decide, rfl⟩) (by omega) (Nat.le_of_ble_eq_true rfl) dX13_isValue_183 rfl ?_
  rintro _ _ _ M9 ⟨rfl, rfl, rfl, hM9⟩
  rw [k0, if_neg (fun e => absurd ((kc_26 _ hk.1 hk.2).mp e) (by omega))]
  rw [k0, if_neg (fun e => absurd ((kc_26 _ hk.1 hk.2).mp e) (by omega))] at hM9
  have hV := (hV.nx hM9.frame (by omega)).rf
  have hF := hF.fm hM9.frame
  have hM := hM9.rf
  refine T_if_ne_f 198 189 dX13_isValue_186 (by decide) rfl rfl ?_
  refine T_aload0 dX13_isValue_189 rfl ?_
  refine T_bipush (27) dX13_isValue_190 rfl rfl ?_
  refine T_cV1 (c_X13_eat hX hM (by omega) _) hX k13_130 (Or.inl ⟨_, _, _, _, (hM.t_m), by decide, rfl⟩) (by omega) (Nat.le_of_ble_eq_true rfl) dX13_isValue_192 rfl ?_
  rintro _ _ _ M9 ⟨rfl, rfl, rfl, hM9⟩
  rw [k0, if_pos ((kc_27 _ hk.1 hk.2).mpr hq)]
  rw [k0, if_pos ((kc_27 _ hk.1 hk.2).mpr hq)] at hM9
  have hV := (hV.nx hM9.frame (by omega)).rf
  have hF := hF.fm hM9.frame
  have hM := hM9.rf
  refine T_if_eq_f 202 198 dX13_isValue_195 (by decide) rfl (by decide) ?_
  refine T_iconst (1) dX13_isValue_198 rfl rfl ?_
  refine T_goto 203 dX13_isValue_199 (by decide) ?_
  refine T_istore2 rfl (by decide) dX13_isValue_203 rfl ?_
  refine T_aload0 dX13_isValue_204 rfl ?_
  refine T_bipush (40) dX13_isValue_205 rfl rfl ?_
  refine T_cV1 (c_X13_isSign hX hM (by omega) _) hX k13_210 (Or.inl ⟨_, _, _, _, (hM.t_m), by decide, rfl⟩) (by omega) (Nat.le_of_ble_eq_true rfl) dX13_isValue_207 rfl ?_
  rintro _ _ _ _ ⟨rfl, rfl, rfl, rfl⟩
  rw [k1, show (50 : Int32) + 40 = 90 from by decide, if_neg (fun e => absurd ((kc_90 _ hk1.1 hk1.2).mp e) h28)]
  refine T_if_eq_t 247 dX13_isValue_210 (by decide) rfl ?_
  refine T_iconst (0) dX13_isValue_247 rfl rfl ?_
  refine T_iret rfl rfl dX13_isValue_248 ?_
  exact ⟨⟨rfl, MQQ.f (q := (false, adv s 1)) (by simp) ⟨hlt, _, _, _, _, _, _, _, _, _, _, _, _, hM.rf, hV.rf, hω⟩⟩, rfl, rfl, hF⟩
set_option maxHeartbeats 1000000 in
theorem gm_twg27 {l : Launch} {D : va_G} {cA : Nat → ClassId} {n0 : Nat} {sg adK adV : Nat → Nat} {sgA smA wdA bS LS : Nat} {xs : Nat → Int32} (hX : SF n0 (XW0 sg adK adV sgA smA wdA n0 bS LS xs)) {m y z s1 s2 n8 hr wr lt : Nat} {B : Nat → Nat} {K : Nat → Nat} {S : Nat → Int32} {V : Nat → Int64} {ω0 w0 : RH} (hTK : TKF B lt K S V ω0) (hmz : m + 7 ≤ z ∨ z + 19 ≤ m) {d : Nat} {s : PS} (hd : d ≤ 8) (hq : K s.1 = 27) (h28 : K (s.1 + 1) = 28) (hd8 : ¬ d < 8) {sz : Nat} {τ : TY} {M : ME} {ez : Nat} (hQ : MPl τ M m y z s1 s2 n8 B ω0 w0 hr wr lt (ez) (d) (s)) : CT l D cA n0 (XW0 sg adK adV sgA smA wdA n0 bS LS xs) mX13_isValue (10 * (9 - d) + 3) 0 0 sz τ M [.ref m] (fun v' sz' τ' M' => (v' = some (.int (if ((false, adv s 1)).1 = true then 1 else 0)) ∧ MQQ τ M' m y z s1 s2 n8 B ω0 w0 hr wr lt (ez) (d) ((false, adv s 1))) ∧ sz' = sz ∧ τ' = τ ∧ FMZ m z M M') := by
  refine CT.of (ls := [.ref m, UU, UU]) (by decide) (Nat.le_of_ble_eq_true rfl) rfl ?_
  obtain ⟨ω, w, hM, hV, hω, hrl, hw, hG, hn, ht, hz⟩ := hQ
  have k0 : ω 80 s.1 = nI (kkF (K s.1)) := by rw [hω 80 _ (by decide)]; exact (hTK.2.1 s.1 ht).1
  have hk := (hTK.2.1 s.1 ht).2.1
  have hl := hTK.1.1
  have hps := (ps_le (σ := s.2.2.1) s.2.1).1
  have hcn := cnF_le (σ := s.2.2.1) s.2.1
  have hF : FMZ m z M M := FMZ.rf _ _ _
  have hlt : s.1 < lt := Nat.lt_of_le_of_ne ht (fun e => by have h9 := hTK.1.2; rw [← e] at h9; omega)
  have k1 : ω 80 (s.1 + 1) = nI (kkF (K (s.1 + 1))) := by rw [hω 80 _ (by decide)]; exact (hTK.2.1 (s.1 + 1) hlt).1
  have hk1 := (hTK.2.1 (s.1 + 1) hlt).2.1
  refine T_aload0 dX13_isValue_0 rfl ?_
  refine T_bipush (41) dX13_isValue_1 rfl rfl ?_
  refine T_cV1 (c_X13_is hX hM (by omega) _) hX k13_127 (Or.inl ⟨_, _, _, _, (hM.t_m), by decide, rfl⟩) (by omega) (Nat.le_of_ble_eq_true rfl) dX13_isValue_3 rfl ?_
  rintro _ _ _ _ ⟨rfl, rfl, rfl, rfl⟩
  rw [k0, if_neg (fun e => absurd ((kc_41 _ hk.1 hk.2).mp e) (by omega))]
  refine T_if_eq_t 39 dX13_isValue_6 (by decide) rfl ?_
  refine T_aload0 dX13_isValue_39 rfl ?_
  refine g13_17 _ rfl (hM.t_m) (hM.g_kd) dX13_isValue_40 rfl ?_
  refine T_aload0 dX13_isValue_43 rfl ?_
  refine g13_124 _ rfl (hM.t_m) (hM.g_tk) dX13_isValue_44 rfl ?_
  refine T_iald _ (hM.t_kd) rfl (by omega) (by decide) dX13_isValue_47 rfl (hM.g_vkd (by omega)) ?_
  refine T_bipush (16) dX13_isValue_48 rfl rfl ?_
  refine T_bipush (19) dX13_isValue_50 rfl rfl ?_
  refine T_cS3 (c_X13_isIn hX _ _ _) hX k13_63 (by omega) (Nat.le_of_ble_eq_true rfl) dX13_isValue_52 rfl ?_
  rintro _ _ _ _ ⟨rfl, rfl, rfl, rfl⟩
  rw [k0, kc_in _ hk.1, if_neg (by omega)]
  refine T_if_eq_t 83 dX13_isValue_55 (by decide) rfl ?_
  refine T_aload0 dX13_isValue_83 rfl ?_
  refine g13_17 _ rfl (hM.t_m) (hM.g_kd) dX13_isValue_84 rfl ?_
  refine T_aload0 dX13_isValue_87 rfl ?_
  refine g13_124 _ rfl (hM.t_m) (hM.g_tk) dX13_isValue_88 rfl ?_
  refine T_iald _ (hM.t_kd) rfl (by omega) (by decide) dX13_isValue_91 rfl (hM.g_vkd (by omega)) ?_
  refine T_cS1 (c_X13_isOf hX _) hX k13_73 (by omega) (Nat.le_of_ble_eq_true rfl) dX13_isValue_92 rfl ?_
  rintro _ _ _ _ ⟨rfl, rfl, rfl, rfl⟩
  rw [k0, kc_of _ hk.1 hk.2, if_neg (by omega)]
  refine T_if_eq_t 127 dX13_isValue_95 (by decide) rfl ?_
  refine T_aload0 dX13_isValue_127 rfl ?_
  refine T_bipush (45) dX13_isValue_128 rfl rfl ?_
  refine T_cV1 (c_X13_isSign hX hM (by omega) _) hX k13_210 (Or.inl ⟨_, _, _, _, (hM.t_m), by decide, rfl⟩) (by omega) (Nat.le_of_ble_eq_true rfl) dX13_isValue_130 rfl ?_
  rintro _ _ _ _ ⟨rfl, rfl, rfl, rfl⟩
  rw [k0, show (50 : Int32) + 45 = 95 from by decide, if_neg (fun e => absurd ((kc_95 _ hk.1 hk.2).mp e) (by omega))]
  refine T_if_eq_t 170 dX13_isValue_133 (by decide) rfl ?_
  refine T_aload0 dX13_isValue_170 rfl ?_
  refine g13_17 _ rfl (hM.t_m) (hM.g_kd) dX13_isValue_171 rfl ?_
  refine T_aload0 dX13_isValue_174 rfl ?_
  refine g13_124 _ rfl (hM.t_m) (hM.g_tk) dX13_isValue_175 rfl ?_
  refine T_iald _ (hM.t_kd) rfl (by omega) (by decide) dX13_isValue_178 rfl (hM.g_vkd (by omega)) ?_
  rw [k0]
  refine T_istore1 rfl (by decide) dX13_isValue_179 rfl ?_
  refine T_aload0 dX13_isValue_180 rfl ?_
  refine T_bipush (26) dX13_isValue_181 rfl rfl ?_
  refine T_cV1 (c_X13_eat hX hM (by omega) _) hX k13_130 (Or.inl ⟨_, _, _, _, (hM.t_m), by decide, rfl⟩) (by omega) (Nat.le_of_ble_eq_true rfl) dX13_isValue_183 rfl ?_
  rintro _ _ _ M9 ⟨rfl, rfl, rfl, hM9⟩
  rw [k0, if_neg (fun e => absurd ((kc_26 _ hk.1 hk.2).mp e) (by omega))]
  rw [k0, if_neg (fun e => absurd ((kc_26 _ hk.1 hk.2).mp e) (by omega))] at hM9
  have hV := (hV.nx hM9.frame (by omega)).rf
  have hF := hF.fm hM9.frame
  have hM := hM9.rf
  refine T_if_ne_f 198 189 dX13_isValue_186 (by decide) rfl rfl ?_
  refine T_aload0 dX13_isValue_189 rfl ?_
  refine T_bipush (27) dX13_isValue_190 rfl rfl ?_
  refine T_cV1 (c_X13_eat hX hM (by omega) _) hX k13_130 (Or.inl ⟨_, _, _, _, (hM.t_m), by decide, rfl⟩) (by omega) (Nat.le_of_ble_eq_true rfl) dX13_isValue_192 rfl ?_
  rintro _ _ _ M9 ⟨rfl, rfl, rfl, hM9⟩
  rw [k0, if_pos ((kc_27 _ hk.1 hk.2).mpr hq)]
  rw [k0, if_pos ((kc_27 _ hk.1 hk.2).mpr hq)] at hM9
  have hV := (hV.nx hM9.frame (by omega)).rf
  have hF := hF.fm hM9.frame
  have hM := hM9.rf
  refine T_if_eq_f 202 198 dX13_isValue_195 (by decide) rfl (by decide) ?_
  refine T_iconst (1) dX13_isValue_198 rfl rfl ?_
  refine T_goto 203 dX13_isValue_199 (by decide) ?_
  refine T_istore2 rfl (by decide) dX13_isValue_203 rfl ?_
  refine T_aload0 dX13_isValue_204 rfl ?_
  refine T_bipush (40) dX13_isValue_205 rfl rfl ?_
  refine T_cV1 (c_X13_isSign hX hM (by omega) _) hX k13_210 (Or.inl ⟨_, _, _, _, (hM.t_m), by decide, rfl⟩) (by omega) (Nat.le_of_ble_eq_true rfl) dX13_isValue_207 rfl ?_
  rintro _ _ _ _ ⟨rfl, rfl, rfl, rfl⟩
  rw [k1, show (50 : Int32) + 40 = 90 from by decide, if_pos ((kc_90 _ hk1.1 hk1.2).mpr h28)]
  refine T_if_eq_f 247 213 dX13_isValue_210 (by decide) rfl (by decide) ?_
  refine T_aload0 dX13_isValue_213 rfl ?_
  refine T_cV0 (c_X13_isDeeper hX hM (by omega) hd) hX k13_207 (Or.inl ⟨_, _, _, _, (hM.t_m), by decide, rfl⟩) (by omega) (Nat.le_of_ble_eq_true rfl) dX13_isValue_214 rfl ?_
  rintro _ _ _ M9 ⟨rfl, rfl, rfl, hM9⟩
  rw [if_neg hd8]
  rw [if_neg hd8, if_neg hd8] at hM9
  have hV := (hV.nx hM9.frame (by omega)).rf
  have hF := hF.fm hM9.frame
  have hM := hM9.rf
  refine T_if_eq_t 247 dX13_isValue_217 (by decide) rfl ?_
  refine T_iconst (0) dX13_isValue_247 rfl rfl ?_
  refine T_iret rfl rfl dX13_isValue_248 ?_
  exact ⟨⟨rfl, MQQ.f (q := (false, adv s 1)) (by simp) ⟨hlt, _, _, _, _, _, _, _, _, _, _, _, _, hM.rf, hV.rf, hω⟩⟩, rfl, rfl, hF⟩
set_option maxHeartbeats 1000000 in
theorem gm_two27 {l : Launch} {D : va_G} {cA : Nat → ClassId} {n0 : Nat} {sg adK adV : Nat → Nat} {sgA smA wdA bS LS : Nat} {xs : Nat → Int32} (hX : SF n0 (XW0 sg adK adV sgA smA wdA n0 bS LS xs)) {m y z s1 s2 n8 hr wr lt : Nat} {B : Nat → Nat} {K : Nat → Nat} {S : Nat → Int32} {V : Nat → Int64} {ω0 w0 : RH} (hTK : TKF B lt K S V ω0) (hmz : m + 7 ≤ z ∨ z + 19 ≤ m) {d : Nat} {s : PS} (hd : d ≤ 8) {q q2 : PQ} (hq : K s.1 = 27) (h28 : K (s.1 + 1) = 28) (hd8 : d < 8) (hS1 : ∀ (sz : Nat) (τ : TY) (M : ME) (ez : Nat), MPl τ M m y z s1 s2 n8 B ω0 w0 hr wr lt (ez) (d + 1) (adv s 2) → CT l D cA n0 (XW0 sg adK adV sgA smA wdA n0 bS LS xs) mX13_isSum (10 * (9 - (d + 1)) + 5) 0 0 sz τ M [.ref m] (fun v' sz' τ' M' => (v' = some (.int (if (q).1 = true then 1 else 0)) ∧ MQQ τ M' m y z s1 s2 n8 B ω0 w0 hr wr lt (ez) (d + 1) (q)) ∧ sz' = sz ∧ τ' = τ ∧ FMZ m z M M')) (hf2 : (tkQ K 33 q).1 = false → q2 = tkQ K 33 q) (hS2 : (tkQ K 33 q).1 = true → ∀ (sz : Nat) (τ : TY) (M : ME) (ez : Nat), MPl τ M m y z s1 s2 n8 B ω0 w0 hr wr lt (ez) (d + 1) ((tkQ K 33 q).2) → CT l D cA n0 (XW0 sg adK adV sgA smA wdA n0 bS LS xs) mX13_isSum (10 * (9 - (d + 1)) + 5) 0 0 sz τ M [.ref m] (fun v' sz' τ' M' => (v' = some (.int (if (q2).1 = true then 1 else 0)) ∧ MQQ τ M' m y z s1 s2 n8 B ω0 w0 hr wr lt (ez) (d + 1) (q2)) ∧ sz' = sz ∧ τ' = τ ∧ FMZ m z M M')) {sz : Nat} {τ : TY} {M : ME} {ez : Nat} (hQ : MPl τ M m y z s1 s2 n8 B ω0 w0 hr wr lt (ez) (d) (s)) : CT l D cA n0 (XW0 sg adK adV sgA smA wdA n0 bS LS xs) mX13_isValue (10 * (9 - d) + 3) 0 0 sz τ M [.ref m] (fun v' sz' τ' M' => (v' = some (.int (if (adQ (tkQ K 29 q2) (K s.1)).1 = true then 1 else 0)) ∧ MQQ τ M' m y z s1 s2 n8 B ω0 w0 hr wr lt (ez) (d) (adQ (tkQ K 29 q2) (K s.1))) ∧ sz' = sz ∧ τ' = τ ∧ FMZ m z M M') := by
  refine CT.of (ls := [.ref m, UU, UU]) (by decide) (Nat.le_of_ble_eq_true rfl) rfl ?_
  obtain ⟨ω, w, hM, hV, hω, hrl, hw, hG, hn, ht, hz⟩ := hQ
  have k0 : ω 80 s.1 = nI (kkF (K s.1)) := by rw [hω 80 _ (by decide)]; exact (hTK.2.1 s.1 ht).1
  have hk := (hTK.2.1 s.1 ht).2.1
  have hl := hTK.1.1
  have hps := (ps_le (σ := s.2.2.1) s.2.1).1
  have hcn := cnF_le (σ := s.2.2.1) s.2.1
  have hF : FMZ m z M M := FMZ.rf _ _ _
  have hlt : s.1 < lt := Nat.lt_of_le_of_ne ht (fun e => by have h9 := hTK.1.2; rw [← e] at h9; omega)
  have k1 : ω 80 (s.1 + 1) = nI (kkF (K (s.1 + 1))) := by rw [hω 80 _ (by decide)]; exact (hTK.2.1 (s.1 + 1) hlt).1
  have hk1 := (hTK.2.1 (s.1 + 1) hlt).2.1
  have hlt2 : s.1 + 2 ≤ lt := by have h9 : ¬ s.1 + 1 = lt := fun e => by have h9 := hTK.1.2; rw [← e] at h9; omega
                                 omega
  refine T_aload0 dX13_isValue_0 rfl ?_
  refine T_bipush (41) dX13_isValue_1 rfl rfl ?_
  refine T_cV1 (c_X13_is hX hM (by omega) _) hX k13_127 (Or.inl ⟨_, _, _, _, (hM.t_m), by decide, rfl⟩) (by omega) (Nat.le_of_ble_eq_true rfl) dX13_isValue_3 rfl ?_
  rintro _ _ _ _ ⟨rfl, rfl, rfl, rfl⟩
  rw [k0, if_neg (fun e => absurd ((kc_41 _ hk.1 hk.2).mp e) (by omega))]
  refine T_if_eq_t 39 dX13_isValue_6 (by decide) rfl ?_
  refine T_aload0 dX13_isValue_39 rfl ?_
  refine g13_17 _ rfl (hM.t_m) (hM.g_kd) dX13_isValue_40 rfl ?_
  refine T_aload0 dX13_isValue_43 rfl ?_
  refine g13_124 _ rfl (hM.t_m) (hM.g_tk) dX13_isValue_44 rfl ?_
  refine T_iald _ (hM.t_kd) rfl (by omega) (by decide) dX13_isValue_47 rfl (hM.g_vkd (by omega)) ?_
  refine T_bipush (16) dX13_isValue_48 rfl rfl ?_
  refine T_bipush (19) dX13_isValue_50 rfl rfl ?_
  refine T_cS3 (c_X13_isIn hX _ _ _) hX k13_63 (by omega) (Nat.le_of_ble_eq_true rfl) dX13_isValue_52 rfl ?_
  rintro _ _ _ _ ⟨rfl, rfl, rfl, rfl⟩
  rw [k0, kc_in _ hk.1, if_neg (by omega)]
  refine T_if_eq_t 83 dX13_isValue_55 (by decide) rfl ?_
  refine T_aload0 dX13_isValue_83 rfl ?_
  refine g13_17 _ rfl (hM.t_m) (hM.g_kd) dX13_isValue_84 rfl ?_
  refine T_aload0 dX13_isValue_87 rfl ?_
  refine g13_124 _ rfl (hM.t_m) (hM.g_tk) dX13_isValue_88 rfl ?_
  refine T_iald _ (hM.t_kd) rfl (by omega) (by decide) dX13_isValue_91 rfl (hM.g_vkd (by omega)) ?_
  refine T_cS1 (c_X13_isOf hX _) hX k13_73 (by omega) (Nat.le_of_ble_eq_true rfl) dX13_isValue_92 rfl ?_
  rintro _ _ _ _ ⟨rfl, rfl, rfl, rfl⟩
  rw [k0, kc_of _ hk.1 hk.2, if_neg (by omega)]
  refine T_if_eq_t 127 dX13_isValue_95 (by decide) rfl ?_
  refine T_aload0 dX13_isValue_127 rfl ?_
  refine T_bipush (45) dX13_isValue_128 rfl rfl ?_
  refine T_cV1 (c_X13_isSign hX hM (by omega) _) hX k13_210 (Or.inl ⟨_, _, _, _, (hM.t_m), by decide, rfl⟩) (by omega) (Nat.le_of_ble_eq_true rfl) dX13_isValue_130 rfl ?_
  rintro _ _ _ _ ⟨rfl, rfl, rfl, rfl⟩
  rw [k0, show (50 : Int32) + 45 = 95 from by decide, if_neg (fun e => absurd ((kc_95 _ hk.1 hk.2).mp e) (by omega))]
  refine T_if_eq_t 170 dX13_isValue_133 (by decide) rfl ?_
  refine T_aload0 dX13_isValue_170 rfl ?_
  refine g13_17 _ rfl (hM.t_m) (hM.g_kd) dX13_isValue_171 rfl ?_
  refine T_aload0 dX13_isValue_174 rfl ?_
  refine g13_124 _ rfl (hM.t_m) (hM.g_tk) dX13_isValue_175 rfl ?_
  refine T_iald _ (hM.t_kd) rfl (by omega) (by decide) dX13_isValue_178 rfl (hM.g_vkd (by omega)) ?_
  rw [k0]
  refine T_istore1 rfl (by decide) dX13_isValue_179 rfl ?_
  refine T_aload0 dX13_isValue_180 rfl ?_
  refine T_bipush (26) dX13_isValue_181 rfl rfl ?_
  refine T_cV1 (c_X13_eat hX hM (by omega) _) hX k13_130 (Or.inl ⟨_, _, _, _, (hM.t_m), by decide, rfl⟩) (by omega) (Nat.le_of_ble_eq_true rfl) dX13_isValue_183 rfl ?_
  rintro _ _ _ M9 ⟨rfl, rfl, rfl, hM9⟩
  rw [k0, if_neg (fun e => absurd ((kc_26 _ hk.1 hk.2).mp e) (by omega))]
  rw [k0, if_neg (fun e => absurd ((kc_26 _ hk.1 hk.2).mp e) (by omega))] at hM9
  have hV := (hV.nx hM9.frame (by omega)).rf
  have hF := hF.fm hM9.frame
  have hM := hM9.rf
  refine T_if_ne_f 198 189 dX13_isValue_186 (by decide) rfl rfl ?_
  refine T_aload0 dX13_isValue_189 rfl ?_
  refine T_bipush (27) dX13_isValue_190 rfl rfl ?_
  refine T_cV1 (c_X13_eat hX hM (by omega) _) hX k13_130 (Or.inl ⟨_, _, _, _, (hM.t_m), by decide, rfl⟩) (by omega) (Nat.le_of_ble_eq_true rfl) dX13_isValue_192 rfl ?_
  rintro _ _ _ M9 ⟨rfl, rfl, rfl, hM9⟩
  rw [k0, if_pos ((kc_27 _ hk.1 hk.2).mpr hq)]
  rw [k0, if_pos ((kc_27 _ hk.1 hk.2).mpr hq)] at hM9
  have hV := (hV.nx hM9.frame (by omega)).rf
  have hF := hF.fm hM9.frame
  have hM := hM9.rf
  refine T_if_eq_f 202 198 dX13_isValue_195 (by decide) rfl (by decide) ?_
  refine T_iconst (1) dX13_isValue_198 rfl rfl ?_
  refine T_goto 203 dX13_isValue_199 (by decide) ?_
  refine T_istore2 rfl (by decide) dX13_isValue_203 rfl ?_
  refine T_aload0 dX13_isValue_204 rfl ?_
  refine T_bipush (40) dX13_isValue_205 rfl rfl ?_
  refine T_cV1 (c_X13_isSign hX hM (by omega) _) hX k13_210 (Or.inl ⟨_, _, _, _, (hM.t_m), by decide, rfl⟩) (by omega) (Nat.le_of_ble_eq_true rfl) dX13_isValue_207 rfl ?_
  rintro _ _ _ _ ⟨rfl, rfl, rfl, rfl⟩
  rw [k1, show (50 : Int32) + 40 = 90 from by decide, if_pos ((kc_90 _ hk1.1 hk1.2).mpr h28)]
  refine T_if_eq_f 247 213 dX13_isValue_210 (by decide) rfl (by decide) ?_
  refine T_aload0 dX13_isValue_213 rfl ?_
  refine T_cV0 (c_X13_isDeeper hX hM (by omega) hd) hX k13_207 (Or.inl ⟨_, _, _, _, (hM.t_m), by decide, rfl⟩) (by omega) (Nat.le_of_ble_eq_true rfl) dX13_isValue_214 rfl ?_
  rintro _ _ _ M9 ⟨rfl, rfl, rfl, hM9⟩
  rw [if_pos hd8]
  rw [if_pos hd8, if_pos hd8] at hM9
  have hV := (hV.nx hM9.frame (by omega)).rf
  have hF := hF.fm hM9.frame
  have hM := hM9.rf
  refine T_if_eq_f 247 220 dX13_isValue_217 (by decide) rfl (by decide) ?_
  refine T_aload0 dX13_isValue_220 rfl ?_
  refine T_cV0 (hS1 _ _ _ (ez + 1) ⟨ω, w, hM.rf, hV.rf, hω, hrl, hw, hG, (by show s.2.1 + (ez + 1) ≤ s.1 + 2; omega), hlt2, (fun i hi => hz i (by have h9 : s.1 + 2 ≤ i := hi; omega))⟩) hX k13_167 (Or.inl ⟨_, _, _, _, (hM.t_m), by decide, rfl⟩) (by omega) (Nat.le_of_ble_eq_true rfl) dX13_isValue_221 rfl ?_
  rintro _ _ _ M8 ⟨⟨rfl, hQ9⟩, rfl, rfl, hF9⟩
  have hF := hF.tr hF9
  refine T_if_eq 247 227 dX13_isValue_224 (by decide) rfl (fun c224 => ?_) (fun c224 => ?_)
  ·
    have z9 := ifz0 c224
    refine T_iconst (0) dX13_isValue_247 rfl rfl ?_
    refine T_iret rfl rfl dX13_isValue_248 ?_
    first
      | (have e5 : q2 = q := by rw [hf2 (by rw [tkQ_n z9]; exact fls z9)]; exact tkQ_n z9
         subst e5
         have z8 : ¬ (adQ (tkQ K 29 q2) (K s.1)).1 = true := by rw [tkQ_n z9]; exact z9
         exact ⟨⟨by rw [if_neg z8], MQQ.f z8 (show MB _ _ _ _ _ _ _ _ _ _ _ (tkQ K 29 q2).2.1 from by rw [tkQ_n z9]; exact hQ9.2 (fls z9))⟩, rfl, rfl, hF⟩)
      | (have e5 : q2 = (false, q.2) := by rw [hf2 (by rw [tkQ_z z9 e33])]; exact tkQ_z z9 e33
         subst e5
         exact ⟨⟨rfl, MQQ.f (q := adQ (tkQ K 29 (false, q.2)) (K s.1)) (by simp [adQ, tkQ]) ⟨ht, _, _, _, _, _, _, _, _, _, _, _, _, hM9.rf, hV.rf, hω⟩⟩, rfl, rfl, hF⟩)
      | (have z8 : ¬ (adQ (tkQ K 29 q2) (K s.1)).1 = true := by rw [tkQ_n z5]; exact z5
         exact ⟨⟨by rw [if_neg z8], MQQ.f z8 (show MB _ _ _ _ _ _ _ _ _ _ _ (tkQ K 29 q2).2.1 from by rw [tkQ_n z5]; exact hQ8.2 (fls z5))⟩, rfl, rfl, hF⟩)
  ·
    have z9 := ifz1 c224
    obtain ⟨ω, w, hM, hV, hω, hrl, hw, hG, hn, ht, hz⟩ := hQ9.1 z9
    have k0 : ω 80 q.2.1 = nI (kkF (K q.2.1)) := by rw [hω 80 _ (by decide)]; exact (hTK.2.1 q.2.1 ht).1
    have hk := (hTK.2.1 q.2.1 ht).2.1
    have hps := (ps_le (σ := q.2.2.2.1) q.2.2.1).1
    have hcn := cnF_le (σ := q.2.2.2.1) q.2.2.1
    refine T_iload2 dX13_isValue_227 rfl ?_
    refine T_if_eq_f 249 231 dX13_isValue_228 (by decide) rfl (by decide) ?_
    refine T_aload0 dX13_isValue_231 rfl ?_
    refine T_bipush (44) dX13_isValue_232 rfl rfl ?_
    refine T_cV1 (c_X13_eatSign hX hM (by omega) _) hX k13_153 (Or.inl ⟨_, _, _, _, (hM.t_m), by decide, rfl⟩) (by omega) (Nat.le_of_ble_eq_true rfl) dX13_isValue_234 rfl ?_
    rintro _ _ _ M9 ⟨rfl, rfl, rfl, hM9⟩
    have hV := (hV.nx hM9.frame (by omega)).rf
    have hF := hF.fm hM9.frame
    rw [show (50 : Int32) + 44 = 94 from by decide, k0] at hM9 ⊢
    refine T_if_eq 247 240 dX13_isValue_237 (by decide) rfl (fun c237 => ?_) (fun c237 => ?_)
    ·
      have z7 := ifz0 c237
      rw [if_neg z7] at hM9
      have e33 : ¬ K q.2.1 = 33 := fun e => z7 ((kc_94 _ hk.1 hk.2).mpr e)
      refine T_iconst (0) dX13_isValue_247 rfl rfl ?_
      refine T_iret rfl rfl dX13_isValue_248 ?_
      first
        | (have e5 : q2 = q := by rw [hf2 (by rw [tkQ_n z9]; exact fls z9)]; exact tkQ_n z9
           subst e5
           have z8 : ¬ (adQ (tkQ K 29 q2) (K s.1)).1 = true := by rw [tkQ_n z9]; exact z9
           exact ⟨⟨by rw [if_neg z8], MQQ.f z8 (show MB _ _ _ _ _ _ _ _ _ _ _ (tkQ K 29 q2).2.1 from by rw [tkQ_n z9]; exact hQ9.2 (fls z9))⟩, rfl, rfl, hF⟩)
        | (have e5 : q2 = (false, q.2) := by rw [hf2 (by rw [tkQ_z z9 e33])]; exact tkQ_z z9 e33
           subst e5
           exact ⟨⟨rfl, MQQ.f (q := adQ (tkQ K 29 (false, q.2)) (K s.1)) (by simp [adQ, tkQ]) ⟨ht, _, _, _, _, _, _, _, _, _, _, _, _, hM9.rf, hV.rf, hω⟩⟩, rfl, rfl, hF⟩)
        | (have z8 : ¬ (adQ (tkQ K 29 q2) (K s.1)).1 = true := by rw [tkQ_n z5]; exact z5
           exact ⟨⟨by rw [if_neg z8], MQQ.f z8 (show MB _ _ _ _ _ _ _ _ _ _ _ (tkQ K 29 q2).2.1 from by rw [tkQ_n z5]; exact hQ8.2 (fls z5))⟩, rfl, rfl, hF⟩)
    ·
      have z7 := ifz1 c237
      rw [if_pos z7] at hM9
      have e33 := (kc_94 _ hk.1 hk.2).mp z7
      have e8 : tkQ K 33 q = (true, adv q.2 1) := tkQ_y z9 e33
      have hlt : q.2.1 + 1 ≤ lt := Nat.lt_of_le_of_ne ht (fun e => by have h9 := hTK.1.2; rw [← e] at h9; omega)
      refine T_aload0 dX13_isValue_240 rfl ?_
      refine T_cV0 (hS2 (by rw [e8]) _ _ _ (ez + 1) (by rw [e8]; exact ⟨ω, w, hM9.rf, hV.rf, hω, hrl, hw, hG, (by show q.2.2.1 + (ez + 1) ≤ q.2.1 + 1; omega), hlt, (fun i hi => hz i (Nat.le_trans (Nat.le_succ _) hi))⟩)) hX k13_167 (Or.inl ⟨_, _, _, _, (hM.t_m), by decide, rfl⟩) (by omega) (Nat.le_of_ble_eq_true rfl) dX13_isValue_241 rfl ?_
      rintro _ _ _ M8 ⟨⟨rfl, hQ8⟩, rfl, rfl, hF9⟩
      have hF := hF.tr hF9
      refine T_if_ne 249 247 dX13_isValue_244 (by decide) rfl (fun c244 => ?_) (fun c244 => ?_)
      ·
        have z5 := ifz1 c244
        obtain ⟨ω, w, hM, hV, hω, hrl, hw, hG, hn, ht, hz⟩ := hQ8.1 z5
        have k0 : ω 80 q2.2.1 = nI (kkF (K q2.2.1)) := by rw [hω 80 _ (by decide)]; exact (hTK.2.1 q2.2.1 ht).1
        have hk := (hTK.2.1 q2.2.1 ht).2.1
        have hps := (ps_le (σ := q2.2.2.2.1) q2.2.2.1).1
        have hcn := cnF_le (σ := q2.2.2.2.1) q2.2.2.1
        refine T_aload0 dX13_isValue_249 rfl ?_
        refine T_dup dX13_isValue_250 rfl rfl ?_
        refine g13_198 _ rfl (hM.t_m) (hM.g_dp) dX13_isValue_251 rfl ?_
        refine T_iconst (1) dX13_isValue_254 rfl rfl ?_
        refine T_isub dX13_isValue_255 rfl ?_
        refine p13_198 rfl (hM.t_m) dX13_isValue_256 rfl ?_
        refine T_nm (fun M1 e1 => ?_)
        have hM := MV.mv (hM.p_dp (n := d) (nI_pred d)) e1
        have hV := hV.frU e1 (by omega)
        have hF := hF.up e1 (by omega)
        refine T_iload2 dX13_isValue_259 rfl ?_
        refine T_if_eq_f 268 263 dX13_isValue_260 (by decide) rfl (by decide) ?_
        refine T_aload0 dX13_isValue_263 rfl ?_
        refine T_iload1 dX13_isValue_264 rfl ?_
        refine T_cV1 (c_X13_put hX hM (by omega) hV hmz (by omega) _) hX k13_191 (Or.inl ⟨_, _, _, _, (hM.t_m), by decide, rfl⟩) (by omega) (Nat.le_of_ble_eq_true rfl) dX13_isValue_265 rfl ?_
        rintro _ _ _ M9 ⟨rfl, rfl, rfl, hV9⟩
        have hM := (hM.nx hV9.frame (by omega)).rf
        have hF := hF.fz hV9.frame
        have hV := hV9.rf
        refine T_aload0 dX13_isValue_268 rfl ?_
        refine T_bipush (41) dX13_isValue_269 rfl rfl ?_
        refine T_cV1 (c_X13_eatSign hX hM (by omega) _) hX k13_153 (Or.inl ⟨_, _, _, _, (hM.t_m), by decide, rfl⟩) (by omega) (Nat.le_of_ble_eq_true rfl) dX13_isValue_271 rfl ?_
        rintro _ _ _ M9 ⟨rfl, rfl, rfl, hM9⟩
        have hV := (hV.nx hM9.frame (by omega)).rf
        have hF := hF.fm hM9.frame
        rw [show (50 : Int32) + 41 = 91 from by decide, k0] at hM9 ⊢
        refine T_iret rfl nrB dX13_isValue_274 ?_
        by_cases e29 : K q2.2.1 = 29
        · rw [if_pos ((kc_91 _ hk.1 hk.2).mpr e29)] at hM9 ⊢
          rw [tkQ_y z5 e29]
          refine ⟨⟨rfl, MQQ.t rfl (show MPl _ _ _ _ _ _ _ _ _ _ _ _ _ _ _ _ (stp (adv q2.2 1) (K s.1) 0) from MPl.ad (s := adv q2.2 1) (o := K s.1) (by rw [hq]; rfl) (by rw [hq]; rfl) (by rw [hq]; rfl) hM9 hV hω hrl hw hG (by show q2.2.2.1 + (ez + 1) ≤ q2.2.1 + 1; omega) ?_ (fun i hi => hz i (Nat.le_trans (Nat.le_succ _) hi)))⟩, rfl, rfl, hF⟩
          have h9 : ¬ q2.2.1 = lt := fun e => by have h9 := hTK.1.2; rw [← e] at h9; omega
          show q2.2.1 + 1 ≤ lt; omega
        · rw [if_neg (fun e => e29 ((kc_91 _ hk.1 hk.2).mp e))] at hM9 ⊢
          rw [tkQ_z z5 e29]
          exact ⟨⟨rfl, MQQ.f (q := adQ (false, q2.2) (K s.1)) (by simp [adQ]) ⟨ht, _, _, _, _, _, _, _, _, _, _, _, _, hM9.rf, hV, hω⟩⟩, rfl, rfl, hF⟩
      ·
        have z5 := ifz0 (by first | exact c244 | exact Decidable.not_not.mp c244)
        refine T_iconst (0) dX13_isValue_247 rfl rfl ?_
        refine T_iret rfl rfl dX13_isValue_248 ?_
        first
          | (have e5 : q2 = q := by rw [hf2 (by rw [tkQ_n z9]; exact fls z9)]; exact tkQ_n z9
             subst e5
             have z8 : ¬ (adQ (tkQ K 29 q2) (K s.1)).1 = true := by rw [tkQ_n z9]; exact z9
             exact ⟨⟨by rw [if_neg z8], MQQ.f z8 (show MB _ _ _ _ _ _ _ _ _ _ _ (tkQ K 29 q2).2.1 from by rw [tkQ_n z9]; exact hQ9.2 (fls z9))⟩, rfl, rfl, hF⟩)
          | (have e5 : q2 = (false, q.2) := by rw [hf2 (by rw [tkQ_z z9 e33])]; exact tkQ_z z9 e33
             subst e5
             exact ⟨⟨rfl, MQQ.f (q := adQ (tkQ K 29 (false, q.2)) (K s.1)) (by simp [adQ, tkQ]) ⟨ht, _, _, _, _, _, _, _, _, _, _, _, _, hM9.rf, hV.rf, hω⟩⟩, rfl, rfl, hF⟩)
          | (have z8 : ¬ (adQ (tkQ K 29 q2) (K s.1)).1 = true := by rw [tkQ_n z5]; exact z5
             exact ⟨⟨by rw [if_neg z8], MQQ.f z8 (show MB _ _ _ _ _ _ _ _ _ _ _ (tkQ K 29 q2).2.1 from by rw [tkQ_n z5]; exact hQ8.2 (fls z5))⟩, rfl, rfl, hF⟩)
