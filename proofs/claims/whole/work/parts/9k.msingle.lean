/-! the reference reads by the rules: single tests -/
set_option maxHeartbeats 1000000 in
theorem gm_nt {l : Launch} {D : va_G} {cA : Nat → ClassId} {n0 : Nat} {sg adK adV : Nat → Nat} {sgA smA wdA bS LS : Nat} {xs : Nat → Int32} (hX : SF n0 (XW0 sg adK adV sgA smA wdA n0 bS LS xs)) {m y z s1 s2 n8 hr wr lt : Nat} {B : Nat → Nat} {K : Nat → Nat} {S : Nat → Int32} {V : Nat → Int64} {ω0 w0 : RH} (hTK : TKF B lt K S V ω0) (hmz : m + 7 ≤ z ∨ z + 19 ≤ m) {d : Nat} {s : PS} (hd : d ≤ 8) {q : PQ} (hq : K s.1 = 23) (hd8 : d < 8) (hS1 : ∀ (sz : Nat) (τ : TY) (M : ME) (ez : Nat), MPl τ M m y z s1 s2 n8 B ω0 w0 hr wr lt (ez) (d + 1) (adv s 1) → CT l D cA n0 (XW0 sg adK adV sgA smA wdA n0 bS LS xs) mX13_isSingle (10 * (9 - (d + 1)) + 6) 0 0 sz τ M [.ref m] (fun v' sz' τ' M' => (v' = some (.int (if (q).1 = true then 1 else 0)) ∧ MQQ τ M' m y z s1 s2 n8 B ω0 w0 hr wr lt (ez) (d + 1) (q)) ∧ sz' = sz ∧ τ' = τ ∧ FMZ m z M M')) {sz : Nat} {τ : TY} {M : ME} {ez : Nat} (hQ : MPl τ M m y z s1 s2 n8 B ω0 w0 hr wr lt (ez) (d) (s)) : CT l D cA n0 (XW0 sg adK adV sgA smA wdA n0 bS LS xs) mX13_isSingle (10 * (9 - d) + 6) 0 0 sz τ M [.ref m] (fun v' sz' τ' M' => (v' = some (.int (if (adQ q 23).1 = true then 1 else 0)) ∧ MQQ τ M' m y z s1 s2 n8 B ω0 w0 hr wr lt (ez) (d) (adQ q 23)) ∧ sz' = sz ∧ τ' = τ ∧ FMZ m z M M') := by
  refine CT.of (ls := [.ref m, UU]) (by decide) (Nat.le_of_ble_eq_true rfl) rfl ?_
  obtain ⟨ω, w, hM, hV, hω, hrl, hw, hG, hn, ht, hz⟩ := hQ
  have k0 : ω 80 s.1 = nI (kkF (K s.1)) := by rw [hω 80 _ (by decide)]; exact (hTK.2.1 s.1 ht).1
  have hk := (hTK.2.1 s.1 ht).2.1
  have hl := hTK.1.1
  have hps := (ps_le (σ := s.2.2.1) s.2.1).1
  have hcn := cnF_le (σ := s.2.2.1) s.2.1
  have hF : FMZ m z M M := FMZ.rf _ _ _
  have hlt : s.1 < lt := Nat.lt_of_le_of_ne ht (fun e => by have h9 := hTK.1.2; rw [← e] at h9; omega)
  refine T_aload0 dX13_isSingle_0 rfl ?_
  refine T_bipush (23) dX13_isSingle_1 rfl rfl ?_
  refine T_cV1 (c_X13_is hX hM (by omega) _) hX k13_127 (Or.inl ⟨_, _, _, _, (hM.t_m), by decide, rfl⟩) (by omega) (Nat.le_of_ble_eq_true rfl) dX13_isSingle_3 rfl ?_
  rintro _ _ _ _ ⟨rfl, rfl, rfl, rfl⟩
  rw [k0, if_pos ((kc_23 _ hk.1 hk.2).mpr hq)]
  refine T_if_eq_f 43 9 dX13_isSingle_6 (by decide) rfl (by decide) ?_
  refine T_aload0 dX13_isSingle_9 rfl ?_
  refine T_cV0 (c_X13_isDeeper hX hM (by omega) hd) hX k13_207 (Or.inl ⟨_, _, _, _, (hM.t_m), by decide, rfl⟩) (by omega) (Nat.le_of_ble_eq_true rfl) dX13_isSingle_10 rfl ?_
  rintro _ _ _ M9 ⟨rfl, rfl, rfl, hM9⟩
  rw [if_pos hd8]
  rw [if_pos hd8, if_pos hd8] at hM9
  have hV := (hV.nx hM9.frame (by omega)).rf
  have hF := hF.fm hM9.frame
  have hM := hM9.rf
  refine T_if_eq_f 23 16 dX13_isSingle_13 (by decide) rfl (by decide) ?_
  refine T_aload0 dX13_isSingle_16 rfl ?_
  refine T_cV0 (hS1 _ _ _ (ez + 1) ⟨ω, w, hM.rf, hV.rf, hω, hrl, hw, hG, (by show s.2.1 + (ez + 1) ≤ s.1 + 1; omega), hlt, (fun i hi => hz i (Nat.le_trans (Nat.le_succ _) hi))⟩) hX k13_195 (Or.inl ⟨_, _, _, _, (hM.t_m), by decide, rfl⟩) (by omega) (Nat.le_of_ble_eq_true rfl) dX13_isSingle_17 rfl ?_
  rintro _ _ _ M8 ⟨⟨rfl, hQ9⟩, rfl, rfl, hF9⟩
  have hF := hF.tr hF9
  refine T_if_ne 25 23 dX13_isSingle_20 (by decide) rfl (fun c20 => ?_) (fun c20 => ?_)
  ·
    have z9 := ifz1 c20
    obtain ⟨ω, w, hM, hV, hω, hrl, hw, hG, hn, ht, hz⟩ := hQ9.1 z9
    have k0 : ω 80 q.2.1 = nI (kkF (K q.2.1)) := by rw [hω 80 _ (by decide)]; exact (hTK.2.1 q.2.1 ht).1
    have hk := (hTK.2.1 q.2.1 ht).2.1
    have hps := (ps_le (σ := q.2.2.2.1) q.2.2.1).1
    have hcn := cnF_le (σ := q.2.2.2.1) q.2.2.1
    refine T_aload0 dX13_isSingle_25 rfl ?_
    refine T_dup dX13_isSingle_26 rfl rfl ?_
    refine g13_198 _ rfl (hM.t_m) (hM.g_dp) dX13_isSingle_27 rfl ?_
    refine T_iconst (1) dX13_isSingle_30 rfl rfl ?_
    refine T_isub dX13_isSingle_31 rfl ?_
    refine p13_198 rfl (hM.t_m) dX13_isSingle_32 rfl ?_
    refine T_nm (fun M1 e1 => ?_)
    have hM := MV.mv (hM.p_dp (n := d) (nI_pred d)) e1
    have hV := hV.frU e1 (by omega)
    have hF := hF.up e1 (by omega)
    refine T_aload0 dX13_isSingle_35 rfl ?_
    refine T_bipush (23) dX13_isSingle_36 rfl rfl ?_
    refine T_cV1 (c_X13_put hX hM (by omega) hV hmz (by omega) _) hX k13_191 (Or.inl ⟨_, _, _, _, (hM.t_m), by decide, rfl⟩) (by omega) (Nat.le_of_ble_eq_true rfl) dX13_isSingle_38 rfl ?_
    rintro _ _ _ M9 ⟨rfl, rfl, rfl, hV9⟩
    have hM := (hM.nx hV9.frame (by omega)).rf
    have hF := hF.fz hV9.frame
    have hV := hV9.rf
    refine T_iconst (1) dX13_isSingle_41 rfl rfl ?_
    refine T_iret rfl rfl dX13_isSingle_42 ?_
    exact ⟨⟨by rw [if_pos (show (adQ q 23).1 = true from z9)], MQQ.t (q := adQ q 23) z9 (MPl.ad (o := 23) rfl rfl rfl hM hV hω hrl hw hG hn ht hz)⟩, rfl, rfl, hF⟩
  ·
    have z9 := ifz0 (by first | exact c20 | exact Decidable.not_not.mp c20)
    refine T_iconst (0) dX13_isSingle_23 rfl rfl ?_
    refine T_iret rfl rfl dX13_isSingle_24 ?_
    exact ⟨⟨by rw [if_neg (show ¬ (adQ q 23).1 = true from z9)], MQQ.f (q := adQ q 23) z9 (hQ9.2 (fls z9))⟩, rfl, rfl, hF⟩
set_option maxHeartbeats 1000000 in
theorem gm_ntf {l : Launch} {D : va_G} {cA : Nat → ClassId} {n0 : Nat} {sg adK adV : Nat → Nat} {sgA smA wdA bS LS : Nat} {xs : Nat → Int32} (hX : SF n0 (XW0 sg adK adV sgA smA wdA n0 bS LS xs)) {m y z s1 s2 n8 hr wr lt : Nat} {B : Nat → Nat} {K : Nat → Nat} {S : Nat → Int32} {V : Nat → Int64} {ω0 w0 : RH} (hTK : TKF B lt K S V ω0) (hmz : m + 7 ≤ z ∨ z + 19 ≤ m) {d : Nat} {s : PS} (hd : d ≤ 8) (hq : K s.1 = 23) (hd8 : ¬ d < 8) {sz : Nat} {τ : TY} {M : ME} {ez : Nat} (hQ : MPl τ M m y z s1 s2 n8 B ω0 w0 hr wr lt (ez) (d) (s)) : CT l D cA n0 (XW0 sg adK adV sgA smA wdA n0 bS LS xs) mX13_isSingle (10 * (9 - d) + 6) 0 0 sz τ M [.ref m] (fun v' sz' τ' M' => (v' = some (.int (if ((false, s)).1 = true then 1 else 0)) ∧ MQQ τ M' m y z s1 s2 n8 B ω0 w0 hr wr lt (ez) (d) ((false, s))) ∧ sz' = sz ∧ τ' = τ ∧ FMZ m z M M') := by
  refine CT.of (ls := [.ref m, UU]) (by decide) (Nat.le_of_ble_eq_true rfl) rfl ?_
  obtain ⟨ω, w, hM, hV, hω, hrl, hw, hG, hn, ht, hz⟩ := hQ
  have k0 : ω 80 s.1 = nI (kkF (K s.1)) := by rw [hω 80 _ (by decide)]; exact (hTK.2.1 s.1 ht).1
  have hk := (hTK.2.1 s.1 ht).2.1
  have hl := hTK.1.1
  have hps := (ps_le (σ := s.2.2.1) s.2.1).1
  have hcn := cnF_le (σ := s.2.2.1) s.2.1
  have hF : FMZ m z M M := FMZ.rf _ _ _
  have hlt : s.1 < lt := Nat.lt_of_le_of_ne ht (fun e => by have h9 := hTK.1.2; rw [← e] at h9; omega)
  refine T_aload0 dX13_isSingle_0 rfl ?_
  refine T_bipush (23) dX13_isSingle_1 rfl rfl ?_
  refine T_cV1 (c_X13_is hX hM (by omega) _) hX k13_127 (Or.inl ⟨_, _, _, _, (hM.t_m), by decide, rfl⟩) (by omega) (Nat.le_of_ble_eq_true rfl) dX13_isSingle_3 rfl ?_
  rintro _ _ _ _ ⟨rfl, rfl, rfl, rfl⟩
  rw [k0, if_pos ((kc_23 _ hk.1 hk.2).mpr hq)]
  refine T_if_eq_f 43 9 dX13_isSingle_6 (by decide) rfl (by decide) ?_
  refine T_aload0 dX13_isSingle_9 rfl ?_
  refine T_cV0 (c_X13_isDeeper hX hM (by omega) hd) hX k13_207 (Or.inl ⟨_, _, _, _, (hM.t_m), by decide, rfl⟩) (by omega) (Nat.le_of_ble_eq_true rfl) dX13_isSingle_10 rfl ?_
  rintro _ _ _ M9 ⟨rfl, rfl, rfl, hM9⟩
  rw [if_neg hd8]
  rw [if_neg hd8, if_neg hd8] at hM9
  have hV := (hV.nx hM9.frame (by omega)).rf
  have hF := hF.fm hM9.frame
  have hM := hM9.rf
  refine T_if_eq_t 23 dX13_isSingle_13 (by decide) rfl ?_
  refine T_iconst (0) dX13_isSingle_23 rfl rfl ?_
  refine T_iret rfl rfl dX13_isSingle_24 ?_
  exact ⟨⟨rfl, MQQ.f (q := (false, s)) (by simp) ⟨by omega, _, _, _, _, _, _, _, _, _, _, _, _, hM.rf, hV.rf, hω⟩⟩, rfl, rfl, hF⟩
set_option maxHeartbeats 1000000 in
theorem gm_brk {l : Launch} {D : va_G} {cA : Nat → ClassId} {n0 : Nat} {sg adK adV : Nat → Nat} {sgA smA wdA bS LS : Nat} {xs : Nat → Int32} (hX : SF n0 (XW0 sg adK adV sgA smA wdA n0 bS LS xs)) {m y z s1 s2 n8 hr wr lt : Nat} {B : Nat → Nat} {K : Nat → Nat} {S : Nat → Int32} {V : Nat → Int64} {ω0 w0 : RH} (hTK : TKF B lt K S V ω0) (hmz : m + 7 ≤ z ∨ z + 19 ≤ m) {d : Nat} {s : PS} (hd : d ≤ 8) {q : PQ} (hq : K s.1 = 30) (hd8 : d < 8) (hS1 : ∀ (sz : Nat) (τ : TY) (M : ME) (ez : Nat), MPl τ M m y z s1 s2 n8 B ω0 w0 hr wr lt (ez) (d + 1) (adv s 1) → CT l D cA n0 (XW0 sg adK adV sgA smA wdA n0 bS LS xs) mX13_isTest (10 * (9 - (d + 1)) + 8) 0 0 sz τ M [.ref m] (fun v' sz' τ' M' => (v' = some (.int (if (q).1 = true then 1 else 0)) ∧ MQQ τ M' m y z s1 s2 n8 B ω0 w0 hr wr lt (ez) (d + 1) (q)) ∧ sz' = sz ∧ τ' = τ ∧ FMZ m z M M')) {sz : Nat} {τ : TY} {M : ME} {ez : Nat} (hQ : MPl τ M m y z s1 s2 n8 B ω0 w0 hr wr lt (ez) (d) (s)) : CT l D cA n0 (XW0 sg adK adV sgA smA wdA n0 bS LS xs) mX13_isSingle (10 * (9 - d) + 6) 0 0 sz τ M [.ref m] (fun v' sz' τ' M' => (v' = some (.int (if (tkQ K 31 q).1 = true then 1 else 0)) ∧ MQQ τ M' m y z s1 s2 n8 B ω0 w0 hr wr lt (ez) (d) (tkQ K 31 q)) ∧ sz' = sz ∧ τ' = τ ∧ FMZ m z M M') := by
  refine CT.of (ls := [.ref m, UU]) (by decide) (Nat.le_of_ble_eq_true rfl) rfl ?_
  obtain ⟨ω, w, hM, hV, hω, hrl, hw, hG, hn, ht, hz⟩ := hQ
  have k0 : ω 80 s.1 = nI (kkF (K s.1)) := by rw [hω 80 _ (by decide)]; exact (hTK.2.1 s.1 ht).1
  have hk := (hTK.2.1 s.1 ht).2.1
  have hl := hTK.1.1
  have hps := (ps_le (σ := s.2.2.1) s.2.1).1
  have hcn := cnF_le (σ := s.2.2.1) s.2.1
  have hF : FMZ m z M M := FMZ.rf _ _ _
  have hlt : s.1 < lt := Nat.lt_of_le_of_ne ht (fun e => by have h9 := hTK.1.2; rw [← e] at h9; omega)
  refine T_aload0 dX13_isSingle_0 rfl ?_
  refine T_bipush (23) dX13_isSingle_1 rfl rfl ?_
  refine T_cV1 (c_X13_is hX hM (by omega) _) hX k13_127 (Or.inl ⟨_, _, _, _, (hM.t_m), by decide, rfl⟩) (by omega) (Nat.le_of_ble_eq_true rfl) dX13_isSingle_3 rfl ?_
  rintro _ _ _ _ ⟨rfl, rfl, rfl, rfl⟩
  rw [k0, if_neg (fun e => absurd ((kc_23 _ hk.1 hk.2).mp e) (by omega))]
  refine T_if_eq_t 43 dX13_isSingle_6 (by decide) rfl ?_
  refine T_aload0 dX13_isSingle_43 rfl ?_
  refine T_bipush (91) dX13_isSingle_44 rfl rfl ?_
  refine T_cV1 (c_X13_isSign hX hM (by omega) _) hX k13_210 (Or.inl ⟨_, _, _, _, (hM.t_m), by decide, rfl⟩) (by omega) (Nat.le_of_ble_eq_true rfl) dX13_isSingle_46 rfl ?_
  rintro _ _ _ _ ⟨rfl, rfl, rfl, rfl⟩
  rw [k0, show (50 : Int32) + 91 = 141 from by decide, if_pos ((kc_141 _ hk.1 hk.2).mpr hq)]
  refine T_if_eq_f 85 52 dX13_isSingle_49 (by decide) rfl (by decide) ?_
  refine T_aload0 dX13_isSingle_52 rfl ?_
  refine T_cV0 (c_X13_isDeeper hX hM (by omega) hd) hX k13_207 (Or.inl ⟨_, _, _, _, (hM.t_m), by decide, rfl⟩) (by omega) (Nat.le_of_ble_eq_true rfl) dX13_isSingle_53 rfl ?_
  rintro _ _ _ M9 ⟨rfl, rfl, rfl, hM9⟩
  rw [if_pos hd8]
  rw [if_pos hd8, if_pos hd8] at hM9
  have hV := (hV.nx hM9.frame (by omega)).rf
  have hF := hF.fm hM9.frame
  have hM := hM9.rf
  refine T_if_eq_f 66 59 dX13_isSingle_56 (by decide) rfl (by decide) ?_
  refine T_aload0 dX13_isSingle_59 rfl ?_
  refine T_cV0 (hS1 _ _ _ (ez + 1) ⟨ω, w, hM.rf, hV.rf, hω, hrl, hw, hG, (by show s.2.1 + (ez + 1) ≤ s.1 + 1; omega), hlt, (fun i hi => hz i (Nat.le_trans (Nat.le_succ _) hi))⟩) hX k13_173 (Or.inl ⟨_, _, _, _, (hM.t_m), by decide, rfl⟩) (by omega) (Nat.le_of_ble_eq_true rfl) dX13_isSingle_60 rfl ?_
  rintro _ _ _ M8 ⟨⟨rfl, hQ9⟩, rfl, rfl, hF9⟩
  have hF := hF.tr hF9
  refine T_if_ne 68 66 dX13_isSingle_63 (by decide) rfl (fun c63 => ?_) (fun c63 => ?_)
  ·
    have z9 := ifz1 c63
    obtain ⟨ω, w, hM, hV, hω, hrl, hw, hG, hn, ht, hz⟩ := hQ9.1 z9
    have k0 : ω 80 q.2.1 = nI (kkF (K q.2.1)) := by rw [hω 80 _ (by decide)]; exact (hTK.2.1 q.2.1 ht).1
    have hk := (hTK.2.1 q.2.1 ht).2.1
    have hps := (ps_le (σ := q.2.2.2.1) q.2.2.1).1
    have hcn := cnF_le (σ := q.2.2.2.1) q.2.2.1
    refine T_aload0 dX13_isSingle_68 rfl ?_
    refine T_dup dX13_isSingle_69 rfl rfl ?_
    refine g13_198 _ rfl (hM.t_m) (hM.g_dp) dX13_isSingle_70 rfl ?_
    refine T_iconst (1) dX13_isSingle_73 rfl rfl ?_
    refine T_isub dX13_isSingle_74 rfl ?_
    refine p13_198 rfl (hM.t_m) dX13_isSingle_75 rfl ?_
    refine T_nm (fun M1 e1 => ?_)
    have hM := MV.mv (hM.p_dp (n := d) (nI_pred d)) e1
    have hV := hV.frU e1 (by omega)
    have hF := hF.up e1 (by omega)
    refine T_aload0 dX13_isSingle_78 rfl ?_
    refine T_bipush (93) dX13_isSingle_79 rfl rfl ?_
    refine T_cV1 (c_X13_eatSign hX hM (by omega) _) hX k13_153 (Or.inl ⟨_, _, _, _, (hM.t_m), by decide, rfl⟩) (by omega) (Nat.le_of_ble_eq_true rfl) dX13_isSingle_81 rfl ?_
    rintro _ _ _ M9 ⟨rfl, rfl, rfl, hM9⟩
    have hV := (hV.nx hM9.frame (by omega)).rf
    have hF := hF.fm hM9.frame
    rw [show (50 : Int32) + 93 = 143 from by decide, k0] at hM9 ⊢
    refine T_iret rfl nrB dX13_isSingle_84 ?_
    by_cases e31 : K q.2.1 = 31
    · rw [if_pos ((kc_143 _ hk.1 hk.2).mpr e31)] at hM9 ⊢
      rw [tkQ_y z9 e31]
      refine ⟨⟨rfl, MQQ.t rfl ⟨ω, w, hM9.rf, hV, hω, hrl, hw, hG, by show q.2.2.1 + ez ≤ q.2.1 + 1; omega, ?_, fun i hi => hz i (Nat.le_trans (Nat.le_succ _) hi)⟩⟩, rfl, rfl, hF⟩
      have h9 : ¬ q.2.1 = lt := fun e => by have h9 := hTK.1.2; rw [← e] at h9; omega
      show q.2.1 + 1 ≤ lt; omega
    · rw [if_neg (fun e => e31 ((kc_143 _ hk.1 hk.2).mp e))] at hM9 ⊢
      rw [tkQ_z z9 e31]
      exact ⟨⟨rfl, MQQ.f (q := (false, q.2)) (by simp) ⟨ht, _, _, _, _, _, _, _, _, _, _, _, _, hM9.rf, hV, hω⟩⟩, rfl, rfl, hF⟩
  ·
    have z9 := ifz0 (by first | exact c63 | exact Decidable.not_not.mp c63)
    refine T_iconst (0) dX13_isSingle_66 rfl rfl ?_
    refine T_iret rfl rfl dX13_isSingle_67 ?_
    have z8 : ¬ (tkQ K 31 q).1 = true := fun z => z9 (tkQ_t z).1
    exact ⟨⟨by rw [if_neg z8], MQQ.f z8 (by rw [tkQ_n z9]; exact hQ9.2 (fls z9))⟩, rfl, rfl, hF⟩
set_option maxHeartbeats 1000000 in
theorem gm_bkf {l : Launch} {D : va_G} {cA : Nat → ClassId} {n0 : Nat} {sg adK adV : Nat → Nat} {sgA smA wdA bS LS : Nat} {xs : Nat → Int32} (hX : SF n0 (XW0 sg adK adV sgA smA wdA n0 bS LS xs)) {m y z s1 s2 n8 hr wr lt : Nat} {B : Nat → Nat} {K : Nat → Nat} {S : Nat → Int32} {V : Nat → Int64} {ω0 w0 : RH} (hTK : TKF B lt K S V ω0) (hmz : m + 7 ≤ z ∨ z + 19 ≤ m) {d : Nat} {s : PS} (hd : d ≤ 8) (hq : K s.1 = 30) (hd8 : ¬ d < 8) {sz : Nat} {τ : TY} {M : ME} {ez : Nat} (hQ : MPl τ M m y z s1 s2 n8 B ω0 w0 hr wr lt (ez) (d) (s)) : CT l D cA n0 (XW0 sg adK adV sgA smA wdA n0 bS LS xs) mX13_isSingle (10 * (9 - d) + 6) 0 0 sz τ M [.ref m] (fun v' sz' τ' M' => (v' = some (.int (if ((false, s)).1 = true then 1 else 0)) ∧ MQQ τ M' m y z s1 s2 n8 B ω0 w0 hr wr lt (ez) (d) ((false, s))) ∧ sz' = sz ∧ τ' = τ ∧ FMZ m z M M') := by
  refine CT.of (ls := [.ref m, UU]) (by decide) (Nat.le_of_ble_eq_true rfl) rfl ?_
  obtain ⟨ω, w, hM, hV, hω, hrl, hw, hG, hn, ht, hz⟩ := hQ
  have k0 : ω 80 s.1 = nI (kkF (K s.1)) := by rw [hω 80 _ (by decide)]; exact (hTK.2.1 s.1 ht).1
  have hk := (hTK.2.1 s.1 ht).2.1
  have hl := hTK.1.1
  have hps := (ps_le (σ := s.2.2.1) s.2.1).1
  have hcn := cnF_le (σ := s.2.2.1) s.2.1
  have hF : FMZ m z M M := FMZ.rf _ _ _
  have hlt : s.1 < lt := Nat.lt_of_le_of_ne ht (fun e => by have h9 := hTK.1.2; rw [← e] at h9; omega)
  refine T_aload0 dX13_isSingle_0 rfl ?_
  refine T_bipush (23) dX13_isSingle_1 rfl rfl ?_
  refine T_cV1 (c_X13_is hX hM (by omega) _) hX k13_127 (Or.inl ⟨_, _, _, _, (hM.t_m), by decide, rfl⟩) (by omega) (Nat.le_of_ble_eq_true rfl) dX13_isSingle_3 rfl ?_
  rintro _ _ _ _ ⟨rfl, rfl, rfl, rfl⟩
  rw [k0, if_neg (fun e => absurd ((kc_23 _ hk.1 hk.2).mp e) (by omega))]
  refine T_if_eq_t 43 dX13_isSingle_6 (by decide) rfl ?_
  refine T_aload0 dX13_isSingle_43 rfl ?_
  refine T_bipush (91) dX13_isSingle_44 rfl rfl ?_
  refine T_cV1 (c_X13_isSign hX hM (by omega) _) hX k13_210 (Or.inl ⟨_, _, _, _, (hM.t_m), by decide, rfl⟩) (by omega) (Nat.le_of_ble_eq_true rfl) dX13_isSingle_46 rfl ?_
  rintro _ _ _ _ ⟨rfl, rfl, rfl, rfl⟩
  rw [k0, show (50 : Int32) + 91 = 141 from by decide, if_pos ((kc_141 _ hk.1 hk.2).mpr hq)]
  refine T_if_eq_f 85 52 dX13_isSingle_49 (by decide) rfl (by decide) ?_
  refine T_aload0 dX13_isSingle_52 rfl ?_
  refine T_cV0 (c_X13_isDeeper hX hM (by omega) hd) hX k13_207 (Or.inl ⟨_, _, _, _, (hM.t_m), by decide, rfl⟩) (by omega) (Nat.le_of_ble_eq_true rfl) dX13_isSingle_53 rfl ?_
  rintro _ _ _ M9 ⟨rfl, rfl, rfl, hM9⟩
  rw [if_neg hd8]
  rw [if_neg hd8, if_neg hd8] at hM9
  have hV := (hV.nx hM9.frame (by omega)).rf
  have hF := hF.fm hM9.frame
  have hM := hM9.rf
  refine T_if_eq_t 66 dX13_isSingle_56 (by decide) rfl ?_
  refine T_iconst (0) dX13_isSingle_66 rfl rfl ?_
  refine T_iret rfl rfl dX13_isSingle_67 ?_
  exact ⟨⟨rfl, MQQ.f (q := (false, s)) (by simp) ⟨by omega, _, _, _, _, _, _, _, _, _, _, _, _, hM.rf, hV.rf, hω⟩⟩, rfl, rfl, hF⟩
set_option maxHeartbeats 1000000 in
theorem gm_cmp38 {l : Launch} {D : va_G} {cA : Nat → ClassId} {n0 : Nat} {sg adK adV : Nat → Nat} {sgA smA wdA bS LS : Nat} {xs : Nat → Int32} (hX : SF n0 (XW0 sg adK adV sgA smA wdA n0 bS LS xs)) {m y z s1 s2 n8 hr wr lt : Nat} {B : Nat → Nat} {K : Nat → Nat} {S : Nat → Int32} {V : Nat → Int64} {ω0 w0 : RH} (hTK : TKF B lt K S V ω0) (hmz : m + 7 ≤ z ∨ z + 19 ≤ m) {d : Nat} {s : PS} (hd : d ≤ 8) {q q2 : PQ} (hq1 : ¬ K s.1 = 23) (hq2 : ¬ K s.1 = 30) (hqo : K q.2.1 = 38) (hS1 : ∀ (sz : Nat) (τ : TY) (M : ME) (ez : Nat), MPl τ M m y z s1 s2 n8 B ω0 w0 hr wr lt (ez) (d) (s) → CT l D cA n0 (XW0 sg adK adV sgA smA wdA n0 bS LS xs) mX13_isSum (10 * (9 - (d)) + 5) 0 0 sz τ M [.ref m] (fun v' sz' τ' M' => (v' = some (.int (if (q).1 = true then 1 else 0)) ∧ MQQ τ M' m y z s1 s2 n8 B ω0 w0 hr wr lt (ez) (d) (q)) ∧ sz' = sz ∧ τ' = τ ∧ FMZ m z M M')) (hf2 : (tcQ K q).1 = false → q2 = tcQ K q) (hS2 : (tcQ K q).1 = true → ∀ (sz : Nat) (τ : TY) (M : ME) (ez : Nat), MPl τ M m y z s1 s2 n8 B ω0 w0 hr wr lt (ez) (d) ((tcQ K q).2) → CT l D cA n0 (XW0 sg adK adV sgA smA wdA n0 bS LS xs) mX13_isSum (10 * (9 - (d)) + 5) 0 0 sz τ M [.ref m] (fun v' sz' τ' M' => (v' = some (.int (if (q2).1 = true then 1 else 0)) ∧ MQQ τ M' m y z s1 s2 n8 B ω0 w0 hr wr lt (ez) (d) (q2)) ∧ sz' = sz ∧ τ' = τ ∧ FMZ m z M M')) {sz : Nat} {τ : TY} {M : ME} {ez : Nat} (hQ : MPl τ M m y z s1 s2 n8 B ω0 w0 hr wr lt (ez) (d) (s)) : CT l D cA n0 (XW0 sg adK adV sgA smA wdA n0 bS LS xs) mX13_isSingle (10 * (9 - d) + 6) 0 0 sz τ M [.ref m] (fun v' sz' τ' M' => (v' = some (.int (if (adQ q2 (K q.2.1)).1 = true then 1 else 0)) ∧ MQQ τ M' m y z s1 s2 n8 B ω0 w0 hr wr lt (ez) (d) (adQ q2 (K q.2.1))) ∧ sz' = sz ∧ τ' = τ ∧ FMZ m z M M') := by
  refine CT.of (ls := [.ref m, UU]) (by decide) (Nat.le_of_ble_eq_true rfl) rfl ?_
  obtain ⟨ω, w, hM, hV, hω, hrl, hw, hG, hn, ht, hz⟩ := hQ
  have k0 : ω 80 s.1 = nI (kkF (K s.1)) := by rw [hω 80 _ (by decide)]; exact (hTK.2.1 s.1 ht).1
  have hk := (hTK.2.1 s.1 ht).2.1
  have hl := hTK.1.1
  have hps := (ps_le (σ := s.2.2.1) s.2.1).1
  have hcn := cnF_le (σ := s.2.2.1) s.2.1
  have hF : FMZ m z M M := FMZ.rf _ _ _
  refine T_aload0 dX13_isSingle_0 rfl ?_
  refine T_bipush (23) dX13_isSingle_1 rfl rfl ?_
  refine T_cV1 (c_X13_is hX hM (by omega) _) hX k13_127 (Or.inl ⟨_, _, _, _, (hM.t_m), by decide, rfl⟩) (by omega) (Nat.le_of_ble_eq_true rfl) dX13_isSingle_3 rfl ?_
  rintro _ _ _ _ ⟨rfl, rfl, rfl, rfl⟩
  rw [k0, if_neg (fun e => absurd ((kc_23 _ hk.1 hk.2).mp e) hq1)]
  refine T_if_eq_t 43 dX13_isSingle_6 (by decide) rfl ?_
  refine T_aload0 dX13_isSingle_43 rfl ?_
  refine T_bipush (91) dX13_isSingle_44 rfl rfl ?_
  refine T_cV1 (c_X13_isSign hX hM (by omega) _) hX k13_210 (Or.inl ⟨_, _, _, _, (hM.t_m), by decide, rfl⟩) (by omega) (Nat.le_of_ble_eq_true rfl) dX13_isSingle_46 rfl ?_
  rintro _ _ _ _ ⟨rfl, rfl, rfl, rfl⟩
  rw [k0, show (50 : Int32) + 91 = 141 from by decide, if_neg (fun e => absurd ((kc_141 _ hk.1 hk.2).mp e) hq2)]
  refine T_if_eq_t 85 dX13_isSingle_49 (by decide) rfl ?_
  refine T_aload0 dX13_isSingle_85 rfl ?_
  refine T_cV0 (hS1 _ _ _ (ez) ⟨ω, w, hM.rf, hV.rf, hω, hrl, hw, hG, hn, ht, hz⟩) hX k13_167 (Or.inl ⟨_, _, _, _, (hM.t_m), by decide, rfl⟩) (by omega) (Nat.le_of_ble_eq_true rfl) dX13_isSingle_86 rfl ?_
  rintro _ _ _ M8 ⟨⟨rfl, hQ9⟩, rfl, rfl, hF9⟩
  have hF := hF.tr hF9
  refine T_if_ne 94 92 dX13_isSingle_89 (by decide) rfl (fun c89 => ?_) (fun c89 => ?_)
  ·
    have z9 := ifz1 c89
    obtain ⟨ω, w, hM, hV, hω, hrl, hw, hG, hn, ht, hz⟩ := hQ9.1 z9
    have k0 : ω 80 q.2.1 = nI (kkF (K q.2.1)) := by rw [hω 80 _ (by decide)]; exact (hTK.2.1 q.2.1 ht).1
    have hk := (hTK.2.1 q.2.1 ht).2.1
    have hps := (ps_le (σ := q.2.2.2.1) q.2.2.1).1
    have hcn := cnF_le (σ := q.2.2.2.1) q.2.2.1
    refine T_aload0 dX13_isSingle_94 rfl ?_
    refine T_bipush (60) dX13_isSingle_95 rfl rfl ?_
    refine T_cV1 (c_X13_isSign hX hM (by omega) _) hX k13_210 (Or.inl ⟨_, _, _, _, (hM.t_m), by decide, rfl⟩) (by omega) (Nat.le_of_ble_eq_true rfl) dX13_isSingle_97 rfl ?_
    rintro _ _ _ _ ⟨rfl, rfl, rfl, rfl⟩
    rw [k0, show (50 : Int32) + 60 = 110 from by decide, if_pos ((kc_110 _ hk.1 hk.2).mpr hqo)]
    refine T_if_eq_f 108 103 dX13_isSingle_100 (by decide) rfl (by decide) ?_
    refine T_bipush (36) dX13_isSingle_103 rfl rfl ?_
    refine T_goto 167 dX13_isSingle_105 (by decide) ?_
    refine T_istore1 rfl (by decide) dX13_isSingle_167 rfl ?_
    refine T_iload1 dX13_isSingle_168 rfl ?_
    refine T_iconst (-1) dX13_isSingle_169 rfl rfl ?_
    refine T_icmp_ne_t 175 dX13_isSingle_170 (by decide) (by decide) ?_
    have e8 : tcQ K q = (true, adv q.2 1) := tcQ_y z9 (by omega)
    have hlt : q.2.1 + 1 ≤ lt := Nat.lt_of_le_of_ne ht (fun e => by have h9 := hTK.1.2; rw [← e] at h9; omega)
    refine T_aload0 dX13_isSingle_175 rfl ?_
    refine T_dup dX13_isSingle_176 rfl rfl ?_
    refine g13_124 _ rfl (hM.t_m) (hM.g_tk) dX13_isSingle_177 rfl ?_
    refine T_iconst (1) dX13_isSingle_180 rfl rfl ?_
    refine T_iadd dX13_isSingle_181 rfl ?_
    refine p13_124 rfl (hM.t_m) dX13_isSingle_182 rfl ?_
    refine T_nm (fun M1 e1 => ?_)
    have hM := MV.mv (hM.p_tk (n := q.2.1 + 1) (nI_1 _)) e1
    have hV := hV.frU e1 (by omega)
    have hF := hF.up e1 (by omega)
    refine T_aload0 dX13_isSingle_185 rfl ?_
    refine T_cV0 (hS2 (by rw [e8]) _ _ _ (ez + 1) (by rw [e8]; exact ⟨ω, w, hM.rf, hV.rf, hω, hrl, hw, hG, (by show q.2.2.1 + (ez + 1) ≤ q.2.1 + 1; omega), hlt, (fun i hi => hz i (Nat.le_trans (Nat.le_succ _) hi))⟩)) hX k13_167 (Or.inl ⟨_, _, _, _, (hM.t_m), by decide, rfl⟩) (by omega) (Nat.le_of_ble_eq_true rfl) dX13_isSingle_186 rfl ?_
    rintro _ _ _ M8 ⟨⟨rfl, hQ8⟩, rfl, rfl, hF9⟩
    have hF := hF.tr hF9
    refine T_if_ne 194 192 dX13_isSingle_189 (by decide) rfl (fun c189 => ?_) (fun c189 => ?_)
    ·
      have z5 := ifz1 c189
      obtain ⟨ω, w, hM, hV, hω, hrl, hw, hG, hn, ht, hz⟩ := hQ8.1 z5
      have k0 : ω 80 q2.2.1 = nI (kkF (K q2.2.1)) := by rw [hω 80 _ (by decide)]; exact (hTK.2.1 q2.2.1 ht).1
      have hk := (hTK.2.1 q2.2.1 ht).2.1
      have hps := (ps_le (σ := q2.2.2.2.1) q2.2.2.1).1
      have hcn := cnF_le (σ := q2.2.2.2.1) q2.2.2.1
      refine T_aload0 dX13_isSingle_194 rfl ?_
      refine T_iload1 dX13_isSingle_195 rfl ?_
      refine T_cV1 (c_X13_put hX hM (by omega) hV hmz (by omega) _) hX k13_191 (Or.inl ⟨_, _, _, _, (hM.t_m), by decide, rfl⟩) (by omega) (Nat.le_of_ble_eq_true rfl) dX13_isSingle_196 rfl ?_
      rintro _ _ _ M9 ⟨rfl, rfl, rfl, hV9⟩
      have hM := (hM.nx hV9.frame (by omega)).rf
      have hF := hF.fz hV9.frame
      have hV := hV9.rf
      refine T_iconst (1) dX13_isSingle_199 rfl rfl ?_
      refine T_iret rfl rfl dX13_isSingle_200 ?_
      have hw1 : wdF (K q.2.1) = 1 := by rw [hqo]; rfl
      have hn1 : nmB (K q.2.1) = false := by rw [hqo]; rfl
      exact ⟨⟨by rw [if_pos (show (adQ q2 (K q.2.1)).1 = true from z5)], MQQ.t (q := adQ q2 (K q.2.1)) z5 (MPl.ad (o := K q.2.1) hw1 hn1 (by rw [hqo]; rfl) hM hV hω hrl hw hG hn ht hz)⟩, rfl, rfl, hF⟩
    ·
      have z5 := ifz0 (by first | exact c189 | exact Decidable.not_not.mp c189)
      refine T_iconst (0) dX13_isSingle_192 rfl rfl ?_
      refine T_iret rfl rfl dX13_isSingle_193 ?_
      exact ⟨⟨by rw [if_neg (show ¬ (adQ q2 (K q.2.1)).1 = true from z5)], MQQ.f (q := adQ q2 (K q.2.1)) z5 (hQ8.2 (fls z5))⟩, rfl, rfl, hF⟩
  ·
    have z9 := ifz0 (by first | exact c89 | exact Decidable.not_not.mp c89)
    refine T_iconst (0) dX13_isSingle_92 rfl rfl ?_
    refine T_iret rfl rfl dX13_isSingle_93 ?_
    have e5 : q2 = q := by rw [hf2 (by rw [tcQ_n z9]; exact fls z9)]; exact tcQ_n z9
    subst e5
    exact ⟨⟨by rw [if_neg (show ¬ (adQ q2 (K q2.2.1)).1 = true from z9)], MQQ.f (q := adQ q2 (K q2.2.1)) z9 (hQ9.2 (fls z9))⟩, rfl, rfl, hF⟩
set_option maxHeartbeats 1000000 in
theorem gm_cmp39 {l : Launch} {D : va_G} {cA : Nat → ClassId} {n0 : Nat} {sg adK adV : Nat → Nat} {sgA smA wdA bS LS : Nat} {xs : Nat → Int32} (hX : SF n0 (XW0 sg adK adV sgA smA wdA n0 bS LS xs)) {m y z s1 s2 n8 hr wr lt : Nat} {B : Nat → Nat} {K : Nat → Nat} {S : Nat → Int32} {V : Nat → Int64} {ω0 w0 : RH} (hTK : TKF B lt K S V ω0) (hmz : m + 7 ≤ z ∨ z + 19 ≤ m) {d : Nat} {s : PS} (hd : d ≤ 8) {q q2 : PQ} (hq1 : ¬ K s.1 = 23) (hq2 : ¬ K s.1 = 30) (hqo : K q.2.1 = 39) (hS1 : ∀ (sz : Nat) (τ : TY) (M : ME) (ez : Nat), MPl τ M m y z s1 s2 n8 B ω0 w0 hr wr lt (ez) (d) (s) → CT l D cA n0 (XW0 sg adK adV sgA smA wdA n0 bS LS xs) mX13_isSum (10 * (9 - (d)) + 5) 0 0 sz τ M [.ref m] (fun v' sz' τ' M' => (v' = some (.int (if (q).1 = true then 1 else 0)) ∧ MQQ τ M' m y z s1 s2 n8 B ω0 w0 hr wr lt (ez) (d) (q)) ∧ sz' = sz ∧ τ' = τ ∧ FMZ m z M M')) (hf2 : (tcQ K q).1 = false → q2 = tcQ K q) (hS2 : (tcQ K q).1 = true → ∀ (sz : Nat) (τ : TY) (M : ME) (ez : Nat), MPl τ M m y z s1 s2 n8 B ω0 w0 hr wr lt (ez) (d) ((tcQ K q).2) → CT l D cA n0 (XW0 sg adK adV sgA smA wdA n0 bS LS xs) mX13_isSum (10 * (9 - (d)) + 5) 0 0 sz τ M [.ref m] (fun v' sz' τ' M' => (v' = some (.int (if (q2).1 = true then 1 else 0)) ∧ MQQ τ M' m y z s1 s2 n8 B ω0 w0 hr wr lt (ez) (d) (q2)) ∧ sz' = sz ∧ τ' = τ ∧ FMZ m z M M')) {sz : Nat} {τ : TY} {M : ME} {ez : Nat} (hQ : MPl τ M m y z s1 s2 n8 B ω0 w0 hr wr lt (ez) (d) (s)) : CT l D cA n0 (XW0 sg adK adV sgA smA wdA n0 bS LS xs) mX13_isSingle (10 * (9 - d) + 6) 0 0 sz τ M [.ref m] (fun v' sz' τ' M' => (v' = some (.int (if (adQ q2 (K q.2.1)).1 = true then 1 else 0)) ∧ MQQ τ M' m y z s1 s2 n8 B ω0 w0 hr wr lt (ez) (d) (adQ q2 (K q.2.1))) ∧ sz' = sz ∧ τ' = τ ∧ FMZ m z M M') := by
  refine CT.of (ls := [.ref m, UU]) (by decide) (Nat.le_of_ble_eq_true rfl) rfl ?_
  obtain ⟨ω, w, hM, hV, hω, hrl, hw, hG, hn, ht, hz⟩ := hQ
  have k0 : ω 80 s.1 = nI (kkF (K s.1)) := by rw [hω 80 _ (by decide)]; exact (hTK.2.1 s.1 ht).1
  have hk := (hTK.2.1 s.1 ht).2.1
  have hl := hTK.1.1
  have hps := (ps_le (σ := s.2.2.1) s.2.1).1
  have hcn := cnF_le (σ := s.2.2.1) s.2.1
  have hF : FMZ m z M M := FMZ.rf _ _ _
  refine T_aload0 dX13_isSingle_0 rfl ?_
  refine T_bipush (23) dX13_isSingle_1 rfl rfl ?_
  refine T_cV1 (c_X13_is hX hM (by omega) _) hX k13_127 (Or.inl ⟨_, _, _, _, (hM.t_m), by decide, rfl⟩) (by omega) (Nat.le_of_ble_eq_true rfl) dX13_isSingle_3 rfl ?_
  rintro _ _ _ _ ⟨rfl, rfl, rfl, rfl⟩
  rw [k0, if_neg (fun e => absurd ((kc_23 _ hk.1 hk.2).mp e) hq1)]
  refine T_if_eq_t 43 dX13_isSingle_6 (by decide) rfl ?_
  refine T_aload0 dX13_isSingle_43 rfl ?_
  refine T_bipush (91) dX13_isSingle_44 rfl rfl ?_
  refine T_cV1 (c_X13_isSign hX hM (by omega) _) hX k13_210 (Or.inl ⟨_, _, _, _, (hM.t_m), by decide, rfl⟩) (by omega) (Nat.le_of_ble_eq_true rfl) dX13_isSingle_46 rfl ?_
  rintro _ _ _ _ ⟨rfl, rfl, rfl, rfl⟩
  rw [k0, show (50 : Int32) + 91 = 141 from by decide, if_neg (fun e => absurd ((kc_141 _ hk.1 hk.2).mp e) hq2)]
  refine T_if_eq_t 85 dX13_isSingle_49 (by decide) rfl ?_
  refine T_aload0 dX13_isSingle_85 rfl ?_
  refine T_cV0 (hS1 _ _ _ (ez) ⟨ω, w, hM.rf, hV.rf, hω, hrl, hw, hG, hn, ht, hz⟩) hX k13_167 (Or.inl ⟨_, _, _, _, (hM.t_m), by decide, rfl⟩) (by omega) (Nat.le_of_ble_eq_true rfl) dX13_isSingle_86 rfl ?_
  rintro _ _ _ M8 ⟨⟨rfl, hQ9⟩, rfl, rfl, hF9⟩
  have hF := hF.tr hF9
  refine T_if_ne 94 92 dX13_isSingle_89 (by decide) rfl (fun c89 => ?_) (fun c89 => ?_)
  ·
    have z9 := ifz1 c89
    obtain ⟨ω, w, hM, hV, hω, hrl, hw, hG, hn, ht, hz⟩ := hQ9.1 z9
    have k0 : ω 80 q.2.1 = nI (kkF (K q.2.1)) := by rw [hω 80 _ (by decide)]; exact (hTK.2.1 q.2.1 ht).1
    have hk := (hTK.2.1 q.2.1 ht).2.1
    have hps := (ps_le (σ := q.2.2.2.1) q.2.2.1).1
    have hcn := cnF_le (σ := q.2.2.2.1) q.2.2.1
    refine T_aload0 dX13_isSingle_94 rfl ?_
    refine T_bipush (60) dX13_isSingle_95 rfl rfl ?_
    refine T_cV1 (c_X13_isSign hX hM (by omega) _) hX k13_210 (Or.inl ⟨_, _, _, _, (hM.t_m), by decide, rfl⟩) (by omega) (Nat.le_of_ble_eq_true rfl) dX13_isSingle_97 rfl ?_
    rintro _ _ _ _ ⟨rfl, rfl, rfl, rfl⟩
    rw [k0, show (50 : Int32) + 60 = 110 from by decide, if_neg (fun e => absurd ((kc_110 _ hk.1 hk.2).mp e) (by omega))]
    refine T_if_eq_t 108 dX13_isSingle_100 (by decide) rfl ?_
    refine T_aload0 dX13_isSingle_108 rfl ?_
    refine T_bipush (62) dX13_isSingle_109 rfl rfl ?_
    refine T_cV1 (c_X13_isSign hX hM (by omega) _) hX k13_210 (Or.inl ⟨_, _, _, _, (hM.t_m), by decide, rfl⟩) (by omega) (Nat.le_of_ble_eq_true rfl) dX13_isSingle_111 rfl ?_
    rintro _ _ _ _ ⟨rfl, rfl, rfl, rfl⟩
    rw [k0, show (50 : Int32) + 62 = 112 from by decide, if_pos ((kc_112 _ hk.1 hk.2).mpr hqo)]
    refine T_if_eq_f 122 117 dX13_isSingle_114 (by decide) rfl (by decide) ?_
    refine T_bipush (37) dX13_isSingle_117 rfl rfl ?_
    refine T_goto 167 dX13_isSingle_119 (by decide) ?_
    refine T_istore1 rfl (by decide) dX13_isSingle_167 rfl ?_
    refine T_iload1 dX13_isSingle_168 rfl ?_
    refine T_iconst (-1) dX13_isSingle_169 rfl rfl ?_
    refine T_icmp_ne_t 175 dX13_isSingle_170 (by decide) (by decide) ?_
    have e8 : tcQ K q = (true, adv q.2 1) := tcQ_y z9 (by omega)
    have hlt : q.2.1 + 1 ≤ lt := Nat.lt_of_le_of_ne ht (fun e => by have h9 := hTK.1.2; rw [← e] at h9; omega)
    refine T_aload0 dX13_isSingle_175 rfl ?_
    refine T_dup dX13_isSingle_176 rfl rfl ?_
    refine g13_124 _ rfl (hM.t_m) (hM.g_tk) dX13_isSingle_177 rfl ?_
    refine T_iconst (1) dX13_isSingle_180 rfl rfl ?_
    refine T_iadd dX13_isSingle_181 rfl ?_
    refine p13_124 rfl (hM.t_m) dX13_isSingle_182 rfl ?_
    refine T_nm (fun M1 e1 => ?_)
    have hM := MV.mv (hM.p_tk (n := q.2.1 + 1) (nI_1 _)) e1
    have hV := hV.frU e1 (by omega)
    have hF := hF.up e1 (by omega)
    refine T_aload0 dX13_isSingle_185 rfl ?_
    refine T_cV0 (hS2 (by rw [e8]) _ _ _ (ez + 1) (by rw [e8]; exact ⟨ω, w, hM.rf, hV.rf, hω, hrl, hw, hG, (by show q.2.2.1 + (ez + 1) ≤ q.2.1 + 1; omega), hlt, (fun i hi => hz i (Nat.le_trans (Nat.le_succ _) hi))⟩)) hX k13_167 (Or.inl ⟨_, _, _, _, (hM.t_m), by decide, rfl⟩) (by omega) (Nat.le_of_ble_eq_true rfl) dX13_isSingle_186 rfl ?_
    rintro _ _ _ M8 ⟨⟨rfl, hQ8⟩, rfl, rfl, hF9⟩
    have hF := hF.tr hF9
    refine T_if_ne 194 192 dX13_isSingle_189 (by decide) rfl (fun c189 => ?_) (fun c189 => ?_)
    ·
      have z5 := ifz1 c189
      obtain ⟨ω, w, hM, hV, hω, hrl, hw, hG, hn, ht, hz⟩ := hQ8.1 z5
      have k0 : ω 80 q2.2.1 = nI (kkF (K q2.2.1)) := by rw [hω 80 _ (by decide)]; exact (hTK.2.1 q2.2.1 ht).1
      have hk := (hTK.2.1 q2.2.1 ht).2.1
      have hps := (ps_le (σ := q2.2.2.2.1) q2.2.2.1).1
      have hcn := cnF_le (σ := q2.2.2.2.1) q2.2.2.1
      refine T_aload0 dX13_isSingle_194 rfl ?_
      refine T_iload1 dX13_isSingle_195 rfl ?_
      refine T_cV1 (c_X13_put hX hM (by omega) hV hmz (by omega) _) hX k13_191 (Or.inl ⟨_, _, _, _, (hM.t_m), by decide, rfl⟩) (by omega) (Nat.le_of_ble_eq_true rfl) dX13_isSingle_196 rfl ?_
      rintro _ _ _ M9 ⟨rfl, rfl, rfl, hV9⟩
      have hM := (hM.nx hV9.frame (by omega)).rf
      have hF := hF.fz hV9.frame
      have hV := hV9.rf
      refine T_iconst (1) dX13_isSingle_199 rfl rfl ?_
      refine T_iret rfl rfl dX13_isSingle_200 ?_
      have hw1 : wdF (K q.2.1) = 1 := by rw [hqo]; rfl
      have hn1 : nmB (K q.2.1) = false := by rw [hqo]; rfl
      exact ⟨⟨by rw [if_pos (show (adQ q2 (K q.2.1)).1 = true from z5)], MQQ.t (q := adQ q2 (K q.2.1)) z5 (MPl.ad (o := K q.2.1) hw1 hn1 (by rw [hqo]; rfl) hM hV hω hrl hw hG hn ht hz)⟩, rfl, rfl, hF⟩
    ·
      have z5 := ifz0 (by first | exact c189 | exact Decidable.not_not.mp c189)
      refine T_iconst (0) dX13_isSingle_192 rfl rfl ?_
      refine T_iret rfl rfl dX13_isSingle_193 ?_
      exact ⟨⟨by rw [if_neg (show ¬ (adQ q2 (K q.2.1)).1 = true from z5)], MQQ.f (q := adQ q2 (K q.2.1)) z5 (hQ8.2 (fls z5))⟩, rfl, rfl, hF⟩
  ·
    have z9 := ifz0 (by first | exact c89 | exact Decidable.not_not.mp c89)
    refine T_iconst (0) dX13_isSingle_92 rfl rfl ?_
    refine T_iret rfl rfl dX13_isSingle_93 ?_
    have e5 : q2 = q := by rw [hf2 (by rw [tcQ_n z9]; exact fls z9)]; exact tcQ_n z9
    subst e5
    exact ⟨⟨by rw [if_neg (show ¬ (adQ q2 (K q2.2.1)).1 = true from z9)], MQQ.f (q := adQ q2 (K q2.2.1)) z9 (hQ9.2 (fls z9))⟩, rfl, rfl, hF⟩
set_option maxHeartbeats 1000000 in
theorem gm_cmp40 {l : Launch} {D : va_G} {cA : Nat → ClassId} {n0 : Nat} {sg adK adV : Nat → Nat} {sgA smA wdA bS LS : Nat} {xs : Nat → Int32} (hX : SF n0 (XW0 sg adK adV sgA smA wdA n0 bS LS xs)) {m y z s1 s2 n8 hr wr lt : Nat} {B : Nat → Nat} {K : Nat → Nat} {S : Nat → Int32} {V : Nat → Int64} {ω0 w0 : RH} (hTK : TKF B lt K S V ω0) (hmz : m + 7 ≤ z ∨ z + 19 ≤ m) {d : Nat} {s : PS} (hd : d ≤ 8) {q q2 : PQ} (hq1 : ¬ K s.1 = 23) (hq2 : ¬ K s.1 = 30) (hqo : K q.2.1 = 40) (hS1 : ∀ (sz : Nat) (τ : TY) (M : ME) (ez : Nat), MPl τ M m y z s1 s2 n8 B ω0 w0 hr wr lt (ez) (d) (s) → CT l D cA n0 (XW0 sg adK adV sgA smA wdA n0 bS LS xs) mX13_isSum (10 * (9 - (d)) + 5) 0 0 sz τ M [.ref m] (fun v' sz' τ' M' => (v' = some (.int (if (q).1 = true then 1 else 0)) ∧ MQQ τ M' m y z s1 s2 n8 B ω0 w0 hr wr lt (ez) (d) (q)) ∧ sz' = sz ∧ τ' = τ ∧ FMZ m z M M')) (hf2 : (tcQ K q).1 = false → q2 = tcQ K q) (hS2 : (tcQ K q).1 = true → ∀ (sz : Nat) (τ : TY) (M : ME) (ez : Nat), MPl τ M m y z s1 s2 n8 B ω0 w0 hr wr lt (ez) (d) ((tcQ K q).2) → CT l D cA n0 (XW0 sg adK adV sgA smA wdA n0 bS LS xs) mX13_isSum (10 * (9 - (d)) + 5) 0 0 sz τ M [.ref m] (fun v' sz' τ' M' => (v' = some (.int (if (q2).1 = true then 1 else 0)) ∧ MQQ τ M' m y z s1 s2 n8 B ω0 w0 hr wr lt (ez) (d) (q2)) ∧ sz' = sz ∧ τ' = τ ∧ FMZ m z M M')) {sz : Nat} {τ : TY} {M : ME} {ez : Nat} (hQ : MPl τ M m y z s1 s2 n8 B ω0 w0 hr wr lt (ez) (d) (s)) : CT l D cA n0 (XW0 sg adK adV sgA smA wdA n0 bS LS xs) mX13_isSingle (10 * (9 - d) + 6) 0 0 sz τ M [.ref m] (fun v' sz' τ' M' => (v' = some (.int (if (adQ q2 (K q.2.1)).1 = true then 1 else 0)) ∧ MQQ τ M' m y z s1 s2 n8 B ω0 w0 hr wr lt (ez) (d) (adQ q2 (K q.2.1))) ∧ sz' = sz ∧ τ' = τ ∧ FMZ m z M M') := by
  refine CT.of (ls := [.ref m, UU]) (by decide) (Nat.le_of_ble_eq_true rfl) rfl ?_
  obtain ⟨ω, w, hM, hV, hω, hrl, hw, hG, hn, ht, hz⟩ := hQ
  have k0 : ω 80 s.1 = nI (kkF (K s.1)) := by rw [hω 80 _ (by decide)]; exact (hTK.2.1 s.1 ht).1
  have hk := (hTK.2.1 s.1 ht).2.1
  have hl := hTK.1.1
  have hps := (ps_le (σ := s.2.2.1) s.2.1).1
  have hcn := cnF_le (σ := s.2.2.1) s.2.1
  have hF : FMZ m z M M := FMZ.rf _ _ _
  refine T_aload0 dX13_isSingle_0 rfl ?_
  refine T_bipush (23) dX13_isSingle_1 rfl rfl ?_
  refine T_cV1 (c_X13_is hX hM (by omega) _) hX k13_127 (Or.inl ⟨_, _, _, _, (hM.t_m), by decide, rfl⟩) (by omega) (Nat.le_of_ble_eq_true rfl) dX13_isSingle_3 rfl ?_
  rintro _ _ _ _ ⟨rfl, rfl, rfl, rfl⟩
  rw [k0, if_neg (fun e => absurd ((kc_23 _ hk.1 hk.2).mp e) hq1)]
  refine T_if_eq_t 43 dX13_isSingle_6 (by decide) rfl ?_
  refine T_aload0 dX13_isSingle_43 rfl ?_
  refine T_bipush (91) dX13_isSingle_44 rfl rfl ?_
  refine T_cV1 (c_X13_isSign hX hM (by omega) _) hX k13_210 (Or.inl ⟨_, _, _, _, (hM.t_m), by decide, rfl⟩) (by omega) (Nat.le_of_ble_eq_true rfl) dX13_isSingle_46 rfl ?_
  rintro _ _ _ _ ⟨rfl, rfl, rfl, rfl⟩
  rw [k0, show (50 : Int32) + 91 = 141 from by decide, if_neg (fun e => absurd ((kc_141 _ hk.1 hk.2).mp e) hq2)]
  refine T_if_eq_t 85 dX13_isSingle_49 (by decide) rfl ?_
  refine T_aload0 dX13_isSingle_85 rfl ?_
  refine T_cV0 (hS1 _ _ _ (ez) ⟨ω, w, hM.rf, hV.rf, hω, hrl, hw, hG, hn, ht, hz⟩) hX k13_167 (Or.inl ⟨_, _, _, _, (hM.t_m), by decide, rfl⟩) (by omega) (Nat.le_of_ble_eq_true rfl) dX13_isSingle_86 rfl ?_
  rintro _ _ _ M8 ⟨⟨rfl, hQ9⟩, rfl, rfl, hF9⟩
  have hF := hF.tr hF9
  refine T_if_ne 94 92 dX13_isSingle_89 (by decide) rfl (fun c89 => ?_) (fun c89 => ?_)
  ·
    have z9 := ifz1 c89
    obtain ⟨ω, w, hM, hV, hω, hrl, hw, hG, hn, ht, hz⟩ := hQ9.1 z9
    have k0 : ω 80 q.2.1 = nI (kkF (K q.2.1)) := by rw [hω 80 _ (by decide)]; exact (hTK.2.1 q.2.1 ht).1
    have hk := (hTK.2.1 q.2.1 ht).2.1
    have hps := (ps_le (σ := q.2.2.2.1) q.2.2.1).1
    have hcn := cnF_le (σ := q.2.2.2.1) q.2.2.1
    refine T_aload0 dX13_isSingle_94 rfl ?_
    refine T_bipush (60) dX13_isSingle_95 rfl rfl ?_
    refine T_cV1 (c_X13_isSign hX hM (by omega) _) hX k13_210 (Or.inl ⟨_, _, _, _, (hM.t_m), by decide, rfl⟩) (by omega) (Nat.le_of_ble_eq_true rfl) dX13_isSingle_97 rfl ?_
    rintro _ _ _ _ ⟨rfl, rfl, rfl, rfl⟩
    rw [k0, show (50 : Int32) + 60 = 110 from by decide, if_neg (fun e => absurd ((kc_110 _ hk.1 hk.2).mp e) (by omega))]
    refine T_if_eq_t 108 dX13_isSingle_100 (by decide) rfl ?_
    refine T_aload0 dX13_isSingle_108 rfl ?_
    refine T_bipush (62) dX13_isSingle_109 rfl rfl ?_
    refine T_cV1 (c_X13_isSign hX hM (by omega) _) hX k13_210 (Or.inl ⟨_, _, _, _, (hM.t_m), by decide, rfl⟩) (by omega) (Nat.le_of_ble_eq_true rfl) dX13_isSingle_111 rfl ?_
    rintro _ _ _ _ ⟨rfl, rfl, rfl, rfl⟩
    rw [k0, show (50 : Int32) + 62 = 112 from by decide, if_neg (fun e => absurd ((kc_112 _ hk.1 hk.2).mp e) (by omega))]
    refine T_if_eq_t 122 dX13_isSingle_114 (by decide) rfl ?_
    refine T_aload0 dX13_isSingle_122 rfl ?_
    refine T_bipush (61) dX13_isSingle_123 rfl rfl ?_
    refine T_cV1 (c_X13_isSign hX hM (by omega) _) hX k13_210 (Or.inl ⟨_, _, _, _, (hM.t_m), by decide, rfl⟩) (by omega) (Nat.le_of_ble_eq_true rfl) dX13_isSingle_125 rfl ?_
    rintro _ _ _ _ ⟨rfl, rfl, rfl, rfl⟩
    rw [k0, show (50 : Int32) + 61 = 111 from by decide, if_pos ((kc_111 _ hk.1 hk.2).mpr hqo)]
    refine T_if_eq_f 136 131 dX13_isSingle_128 (by decide) rfl (by decide) ?_
    refine T_bipush (38) dX13_isSingle_131 rfl rfl ?_
    refine T_goto 167 dX13_isSingle_133 (by decide) ?_
    refine T_istore1 rfl (by decide) dX13_isSingle_167 rfl ?_
    refine T_iload1 dX13_isSingle_168 rfl ?_
    refine T_iconst (-1) dX13_isSingle_169 rfl rfl ?_
    refine T_icmp_ne_t 175 dX13_isSingle_170 (by decide) (by decide) ?_
    have e8 : tcQ K q = (true, adv q.2 1) := tcQ_y z9 (by omega)
    have hlt : q.2.1 + 1 ≤ lt := Nat.lt_of_le_of_ne ht (fun e => by have h9 := hTK.1.2; rw [← e] at h9; omega)
    refine T_aload0 dX13_isSingle_175 rfl ?_
    refine T_dup dX13_isSingle_176 rfl rfl ?_
    refine g13_124 _ rfl (hM.t_m) (hM.g_tk) dX13_isSingle_177 rfl ?_
    refine T_iconst (1) dX13_isSingle_180 rfl rfl ?_
    refine T_iadd dX13_isSingle_181 rfl ?_
    refine p13_124 rfl (hM.t_m) dX13_isSingle_182 rfl ?_
    refine T_nm (fun M1 e1 => ?_)
    have hM := MV.mv (hM.p_tk (n := q.2.1 + 1) (nI_1 _)) e1
    have hV := hV.frU e1 (by omega)
    have hF := hF.up e1 (by omega)
    refine T_aload0 dX13_isSingle_185 rfl ?_
    refine T_cV0 (hS2 (by rw [e8]) _ _ _ (ez + 1) (by rw [e8]; exact ⟨ω, w, hM.rf, hV.rf, hω, hrl, hw, hG, (by show q.2.2.1 + (ez + 1) ≤ q.2.1 + 1; omega), hlt, (fun i hi => hz i (Nat.le_trans (Nat.le_succ _) hi))⟩)) hX k13_167 (Or.inl ⟨_, _, _, _, (hM.t_m), by decide, rfl⟩) (by omega) (Nat.le_of_ble_eq_true rfl) dX13_isSingle_186 rfl ?_
    rintro _ _ _ M8 ⟨⟨rfl, hQ8⟩, rfl, rfl, hF9⟩
    have hF := hF.tr hF9
    refine T_if_ne 194 192 dX13_isSingle_189 (by decide) rfl (fun c189 => ?_) (fun c189 => ?_)
    ·
      have z5 := ifz1 c189
      obtain ⟨ω, w, hM, hV, hω, hrl, hw, hG, hn, ht, hz⟩ := hQ8.1 z5
      have k0 : ω 80 q2.2.1 = nI (kkF (K q2.2.1)) := by rw [hω 80 _ (by decide)]; exact (hTK.2.1 q2.2.1 ht).1
      have hk := (hTK.2.1 q2.2.1 ht).2.1
      have hps := (ps_le (σ := q2.2.2.2.1) q2.2.2.1).1
      have hcn := cnF_le (σ := q2.2.2.2.1) q2.2.2.1
      refine T_aload0 dX13_isSingle_194 rfl ?_
      refine T_iload1 dX13_isSingle_195 rfl ?_
      refine T_cV1 (c_X13_put hX hM (by omega) hV hmz (by omega) _) hX k13_191 (Or.inl ⟨_, _, _, _, (hM.t_m), by decide, rfl⟩) (by omega) (Nat.le_of_ble_eq_true rfl) dX13_isSingle_196 rfl ?_
      rintro _ _ _ M9 ⟨rfl, rfl, rfl, hV9⟩
      have hM := (hM.nx hV9.frame (by omega)).rf
      have hF := hF.fz hV9.frame
      have hV := hV9.rf
      refine T_iconst (1) dX13_isSingle_199 rfl rfl ?_
      refine T_iret rfl rfl dX13_isSingle_200 ?_
      have hw1 : wdF (K q.2.1) = 1 := by rw [hqo]; rfl
      have hn1 : nmB (K q.2.1) = false := by rw [hqo]; rfl
      exact ⟨⟨by rw [if_pos (show (adQ q2 (K q.2.1)).1 = true from z5)], MQQ.t (q := adQ q2 (K q.2.1)) z5 (MPl.ad (o := K q.2.1) hw1 hn1 (by rw [hqo]; rfl) hM hV hω hrl hw hG hn ht hz)⟩, rfl, rfl, hF⟩
    ·
      have z5 := ifz0 (by first | exact c189 | exact Decidable.not_not.mp c189)
      refine T_iconst (0) dX13_isSingle_192 rfl rfl ?_
      refine T_iret rfl rfl dX13_isSingle_193 ?_
      exact ⟨⟨by rw [if_neg (show ¬ (adQ q2 (K q.2.1)).1 = true from z5)], MQQ.f (q := adQ q2 (K q.2.1)) z5 (hQ8.2 (fls z5))⟩, rfl, rfl, hF⟩
  ·
    have z9 := ifz0 (by first | exact c89 | exact Decidable.not_not.mp c89)
    refine T_iconst (0) dX13_isSingle_92 rfl rfl ?_
    refine T_iret rfl rfl dX13_isSingle_93 ?_
    have e5 : q2 = q := by rw [hf2 (by rw [tcQ_n z9]; exact fls z9)]; exact tcQ_n z9
    subst e5
    exact ⟨⟨by rw [if_neg (show ¬ (adQ q2 (K q2.2.1)).1 = true from z9)], MQQ.f (q := adQ q2 (K q2.2.1)) z9 (hQ9.2 (fls z9))⟩, rfl, rfl, hF⟩
set_option maxHeartbeats 1000000 in
theorem gm_cmp41 {l : Launch} {D : va_G} {cA : Nat → ClassId} {n0 : Nat} {sg adK adV : Nat → Nat} {sgA smA wdA bS LS : Nat} {xs : Nat → Int32} (hX : SF n0 (XW0 sg adK adV sgA smA wdA n0 bS LS xs)) {m y z s1 s2 n8 hr wr lt : Nat} {B : Nat → Nat} {K : Nat → Nat} {S : Nat → Int32} {V : Nat → Int64} {ω0 w0 : RH} (hTK : TKF B lt K S V ω0) (hmz : m + 7 ≤ z ∨ z + 19 ≤ m) {d : Nat} {s : PS} (hd : d ≤ 8) {q q2 : PQ} (hq1 : ¬ K s.1 = 23) (hq2 : ¬ K s.1 = 30) (hqo : K q.2.1 = 41) (hS1 : ∀ (sz : Nat) (τ : TY) (M : ME) (ez : Nat), MPl τ M m y z s1 s2 n8 B ω0 w0 hr wr lt (ez) (d) (s) → CT l D cA n0 (XW0 sg adK adV sgA smA wdA n0 bS LS xs) mX13_isSum (10 * (9 - (d)) + 5) 0 0 sz τ M [.ref m] (fun v' sz' τ' M' => (v' = some (.int (if (q).1 = true then 1 else 0)) ∧ MQQ τ M' m y z s1 s2 n8 B ω0 w0 hr wr lt (ez) (d) (q)) ∧ sz' = sz ∧ τ' = τ ∧ FMZ m z M M')) (hf2 : (tcQ K q).1 = false → q2 = tcQ K q) (hS2 : (tcQ K q).1 = true → ∀ (sz : Nat) (τ : TY) (M : ME) (ez : Nat), MPl τ M m y z s1 s2 n8 B ω0 w0 hr wr lt (ez) (d) ((tcQ K q).2) → CT l D cA n0 (XW0 sg adK adV sgA smA wdA n0 bS LS xs) mX13_isSum (10 * (9 - (d)) + 5) 0 0 sz τ M [.ref m] (fun v' sz' τ' M' => (v' = some (.int (if (q2).1 = true then 1 else 0)) ∧ MQQ τ M' m y z s1 s2 n8 B ω0 w0 hr wr lt (ez) (d) (q2)) ∧ sz' = sz ∧ τ' = τ ∧ FMZ m z M M')) {sz : Nat} {τ : TY} {M : ME} {ez : Nat} (hQ : MPl τ M m y z s1 s2 n8 B ω0 w0 hr wr lt (ez) (d) (s)) : CT l D cA n0 (XW0 sg adK adV sgA smA wdA n0 bS LS xs) mX13_isSingle (10 * (9 - d) + 6) 0 0 sz τ M [.ref m] (fun v' sz' τ' M' => (v' = some (.int (if (adQ q2 (K q.2.1)).1 = true then 1 else 0)) ∧ MQQ τ M' m y z s1 s2 n8 B ω0 w0 hr wr lt (ez) (d) (adQ q2 (K q.2.1))) ∧ sz' = sz ∧ τ' = τ ∧ FMZ m z M M') := by
  refine CT.of (ls := [.ref m, UU]) (by decide) (Nat.le_of_ble_eq_true rfl) rfl ?_
  obtain ⟨ω, w, hM, hV, hω, hrl, hw, hG, hn, ht, hz⟩ := hQ
  have k0 : ω 80 s.1 = nI (kkF (K s.1)) := by rw [hω 80 _ (by decide)]; exact (hTK.2.1 s.1 ht).1
  have hk := (hTK.2.1 s.1 ht).2.1
  have hl := hTK.1.1
  have hps := (ps_le (σ := s.2.2.1) s.2.1).1
  have hcn := cnF_le (σ := s.2.2.1) s.2.1
  have hF : FMZ m z M M := FMZ.rf _ _ _
  refine T_aload0 dX13_isSingle_0 rfl ?_
  refine T_bipush (23) dX13_isSingle_1 rfl rfl ?_
  refine T_cV1 (c_X13_is hX hM (by omega) _) hX k13_127 (Or.inl ⟨_, _, _, _, (hM.t_m), by decide, rfl⟩) (by omega) (Nat.le_of_ble_eq_true rfl) dX13_isSingle_3 rfl ?_
  rintro _ _ _ _ ⟨rfl, rfl, rfl, rfl⟩
  rw [k0, if_neg (fun e => absurd ((kc_23 _ hk.1 hk.2).mp e) hq1)]
  refine T_if_eq_t 43 dX13_isSingle_6 (by decide) rfl ?_
  refine T_aload0 dX13_isSingle_43 rfl ?_
  refine T_bipush (91) dX13_isSingle_44 rfl rfl ?_
  refine T_cV1 (c_X13_isSign hX hM (by omega) _) hX k13_210 (Or.inl ⟨_, _, _, _, (hM.t_m), by decide, rfl⟩) (by omega) (Nat.le_of_ble_eq_true rfl) dX13_isSingle_46 rfl ?_
  rintro _ _ _ _ ⟨rfl, rfl, rfl, rfl⟩
  rw [k0, show (50 : Int32) + 91 = 141 from by decide, if_neg (fun e => absurd ((kc_141 _ hk.1 hk.2).mp e) hq2)]
  refine T_if_eq_t 85 dX13_isSingle_49 (by decide) rfl ?_
  refine T_aload0 dX13_isSingle_85 rfl ?_
  refine T_cV0 (hS1 _ _ _ (ez) ⟨ω, w, hM.rf, hV.rf, hω, hrl, hw, hG, hn, ht, hz⟩) hX k13_167 (Or.inl ⟨_, _, _, _, (hM.t_m), by decide, rfl⟩) (by omega) (Nat.le_of_ble_eq_true rfl) dX13_isSingle_86 rfl ?_
  rintro _ _ _ M8 ⟨⟨rfl, hQ9⟩, rfl, rfl, hF9⟩
  have hF := hF.tr hF9
  refine T_if_ne 94 92 dX13_isSingle_89 (by decide) rfl (fun c89 => ?_) (fun c89 => ?_)
  ·
    have z9 := ifz1 c89
    obtain ⟨ω, w, hM, hV, hω, hrl, hw, hG, hn, ht, hz⟩ := hQ9.1 z9
    have k0 : ω 80 q.2.1 = nI (kkF (K q.2.1)) := by rw [hω 80 _ (by decide)]; exact (hTK.2.1 q.2.1 ht).1
    have hk := (hTK.2.1 q.2.1 ht).2.1
    have hps := (ps_le (σ := q.2.2.2.1) q.2.2.1).1
    have hcn := cnF_le (σ := q.2.2.2.1) q.2.2.1
    refine T_aload0 dX13_isSingle_94 rfl ?_
    refine T_bipush (60) dX13_isSingle_95 rfl rfl ?_
    refine T_cV1 (c_X13_isSign hX hM (by omega) _) hX k13_210 (Or.inl ⟨_, _, _, _, (hM.t_m), by decide, rfl⟩) (by omega) (Nat.le_of_ble_eq_true rfl) dX13_isSingle_97 rfl ?_
    rintro _ _ _ _ ⟨rfl, rfl, rfl, rfl⟩
    rw [k0, show (50 : Int32) + 60 = 110 from by decide, if_neg (fun e => absurd ((kc_110 _ hk.1 hk.2).mp e) (by omega))]
    refine T_if_eq_t 108 dX13_isSingle_100 (by decide) rfl ?_
    refine T_aload0 dX13_isSingle_108 rfl ?_
    refine T_bipush (62) dX13_isSingle_109 rfl rfl ?_
    refine T_cV1 (c_X13_isSign hX hM (by omega) _) hX k13_210 (Or.inl ⟨_, _, _, _, (hM.t_m), by decide, rfl⟩) (by omega) (Nat.le_of_ble_eq_true rfl) dX13_isSingle_111 rfl ?_
    rintro _ _ _ _ ⟨rfl, rfl, rfl, rfl⟩
    rw [k0, show (50 : Int32) + 62 = 112 from by decide, if_neg (fun e => absurd ((kc_112 _ hk.1 hk.2).mp e) (by omega))]
    refine T_if_eq_t 122 dX13_isSingle_114 (by decide) rfl ?_
    refine T_aload0 dX13_isSingle_122 rfl ?_
    refine T_bipush (61) dX13_isSingle_123 rfl rfl ?_
    refine T_cV1 (c_X13_isSign hX hM (by omega) _) hX k13_210 (Or.inl ⟨_, _, _, _, (hM.t_m), by decide, rfl⟩) (by omega) (Nat.le_of_ble_eq_true rfl) dX13_isSingle_125 rfl ?_
    rintro _ _ _ _ ⟨rfl, rfl, rfl, rfl⟩
    rw [k0, show (50 : Int32) + 61 = 111 from by decide, if_neg (fun e => absurd ((kc_111 _ hk.1 hk.2).mp e) (by omega))]
    refine T_if_eq_t 136 dX13_isSingle_128 (by decide) rfl ?_
    refine T_aload0 dX13_isSingle_136 rfl ?_
    refine T_sipush (300) dX13_isSingle_137 rfl rfl ?_
    refine T_cV1 (c_X13_is hX hM (by omega) _) hX k13_127 (Or.inl ⟨_, _, _, _, (hM.t_m), by decide, rfl⟩) (by omega) (Nat.le_of_ble_eq_true rfl) dX13_isSingle_140 rfl ?_
    rintro _ _ _ _ ⟨rfl, rfl, rfl, rfl⟩
    rw [k0, if_pos ((kc_300 _ hk.1 hk.2).mpr hqo)]
    refine T_if_eq_f 151 146 dX13_isSingle_143 (by decide) rfl (by decide) ?_
    refine T_bipush (39) dX13_isSingle_146 rfl rfl ?_
    refine T_goto 167 dX13_isSingle_148 (by decide) ?_
    refine T_istore1 rfl (by decide) dX13_isSingle_167 rfl ?_
    refine T_iload1 dX13_isSingle_168 rfl ?_
    refine T_iconst (-1) dX13_isSingle_169 rfl rfl ?_
    refine T_icmp_ne_t 175 dX13_isSingle_170 (by decide) (by decide) ?_
    have e8 : tcQ K q = (true, adv q.2 1) := tcQ_y z9 (by omega)
    have hlt : q.2.1 + 1 ≤ lt := Nat.lt_of_le_of_ne ht (fun e => by have h9 := hTK.1.2; rw [← e] at h9; omega)
    refine T_aload0 dX13_isSingle_175 rfl ?_
    refine T_dup dX13_isSingle_176 rfl rfl ?_
    refine g13_124 _ rfl (hM.t_m) (hM.g_tk) dX13_isSingle_177 rfl ?_
    refine T_iconst (1) dX13_isSingle_180 rfl rfl ?_
    refine T_iadd dX13_isSingle_181 rfl ?_
    refine p13_124 rfl (hM.t_m) dX13_isSingle_182 rfl ?_
    refine T_nm (fun M1 e1 => ?_)
    have hM := MV.mv (hM.p_tk (n := q.2.1 + 1) (nI_1 _)) e1
    have hV := hV.frU e1 (by omega)
    have hF := hF.up e1 (by omega)
    refine T_aload0 dX13_isSingle_185 rfl ?_
    refine T_cV0 (hS2 (by rw [e8]) _ _ _ (ez + 1) (by rw [e8]; exact ⟨ω, w, hM.rf, hV.rf, hω, hrl, hw, hG, (by show q.2.2.1 + (ez + 1) ≤ q.2.1 + 1; omega), hlt, (fun i hi => hz i (Nat.le_trans (Nat.le_succ _) hi))⟩)) hX k13_167 (Or.inl ⟨_, _, _, _, (hM.t_m), by decide, rfl⟩) (by omega) (Nat.le_of_ble_eq_true rfl) dX13_isSingle_186 rfl ?_
    rintro _ _ _ M8 ⟨⟨rfl, hQ8⟩, rfl, rfl, hF9⟩
    have hF := hF.tr hF9
    refine T_if_ne 194 192 dX13_isSingle_189 (by decide) rfl (fun c189 => ?_) (fun c189 => ?_)
    ·
      have z5 := ifz1 c189
      obtain ⟨ω, w, hM, hV, hω, hrl, hw, hG, hn, ht, hz⟩ := hQ8.1 z5
      have k0 : ω 80 q2.2.1 = nI (kkF (K q2.2.1)) := by rw [hω 80 _ (by decide)]; exact (hTK.2.1 q2.2.1 ht).1
      have hk := (hTK.2.1 q2.2.1 ht).2.1
      have hps := (ps_le (σ := q2.2.2.2.1) q2.2.2.1).1
      have hcn := cnF_le (σ := q2.2.2.2.1) q2.2.2.1
      refine T_aload0 dX13_isSingle_194 rfl ?_
      refine T_iload1 dX13_isSingle_195 rfl ?_
      refine T_cV1 (c_X13_put hX hM (by omega) hV hmz (by omega) _) hX k13_191 (Or.inl ⟨_, _, _, _, (hM.t_m), by decide, rfl⟩) (by omega) (Nat.le_of_ble_eq_true rfl) dX13_isSingle_196 rfl ?_
      rintro _ _ _ M9 ⟨rfl, rfl, rfl, hV9⟩
      have hM := (hM.nx hV9.frame (by omega)).rf
      have hF := hF.fz hV9.frame
      have hV := hV9.rf
      refine T_iconst (1) dX13_isSingle_199 rfl rfl ?_
      refine T_iret rfl rfl dX13_isSingle_200 ?_
      have hw1 : wdF (K q.2.1) = 1 := by rw [hqo]; rfl
      have hn1 : nmB (K q.2.1) = false := by rw [hqo]; rfl
      exact ⟨⟨by rw [if_pos (show (adQ q2 (K q.2.1)).1 = true from z5)], MQQ.t (q := adQ q2 (K q.2.1)) z5 (MPl.ad (o := K q.2.1) hw1 hn1 (by rw [hqo]; rfl) hM hV hω hrl hw hG hn ht hz)⟩, rfl, rfl, hF⟩
    ·
      have z5 := ifz0 (by first | exact c189 | exact Decidable.not_not.mp c189)
      refine T_iconst (0) dX13_isSingle_192 rfl rfl ?_
      refine T_iret rfl rfl dX13_isSingle_193 ?_
      exact ⟨⟨by rw [if_neg (show ¬ (adQ q2 (K q.2.1)).1 = true from z5)], MQQ.f (q := adQ q2 (K q.2.1)) z5 (hQ8.2 (fls z5))⟩, rfl, rfl, hF⟩
  ·
    have z9 := ifz0 (by first | exact c89 | exact Decidable.not_not.mp c89)
    refine T_iconst (0) dX13_isSingle_92 rfl rfl ?_
    refine T_iret rfl rfl dX13_isSingle_93 ?_
    have e5 : q2 = q := by rw [hf2 (by rw [tcQ_n z9]; exact fls z9)]; exact tcQ_n z9
    subst e5
    exact ⟨⟨by rw [if_neg (show ¬ (adQ q2 (K q2.2.1)).1 = true from z9)], MQQ.f (q := adQ q2 (K q2.2.1)) z9 (hQ9.2 (fls z9))⟩, rfl, rfl, hF⟩
set_option maxHeartbeats 1000000 in
theorem gm_cmp42 {l : Launch} {D : va_G} {cA : Nat → ClassId} {n0 : Nat} {sg adK adV : Nat → Nat} {sgA smA wdA bS LS : Nat} {xs : Nat → Int32} (hX : SF n0 (XW0 sg adK adV sgA smA wdA n0 bS LS xs)) {m y z s1 s2 n8 hr wr lt : Nat} {B : Nat → Nat} {K : Nat → Nat} {S : Nat → Int32} {V : Nat → Int64} {ω0 w0 : RH} (hTK : TKF B lt K S V ω0) (hmz : m + 7 ≤ z ∨ z + 19 ≤ m) {d : Nat} {s : PS} (hd : d ≤ 8) {q q2 : PQ} (hq1 : ¬ K s.1 = 23) (hq2 : ¬ K s.1 = 30) (hqo : K q.2.1 = 42) (hS1 : ∀ (sz : Nat) (τ : TY) (M : ME) (ez : Nat), MPl τ M m y z s1 s2 n8 B ω0 w0 hr wr lt (ez) (d) (s) → CT l D cA n0 (XW0 sg adK adV sgA smA wdA n0 bS LS xs) mX13_isSum (10 * (9 - (d)) + 5) 0 0 sz τ M [.ref m] (fun v' sz' τ' M' => (v' = some (.int (if (q).1 = true then 1 else 0)) ∧ MQQ τ M' m y z s1 s2 n8 B ω0 w0 hr wr lt (ez) (d) (q)) ∧ sz' = sz ∧ τ' = τ ∧ FMZ m z M M')) (hf2 : (tcQ K q).1 = false → q2 = tcQ K q) (hS2 : (tcQ K q).1 = true → ∀ (sz : Nat) (τ : TY) (M : ME) (ez : Nat), MPl τ M m y z s1 s2 n8 B ω0 w0 hr wr lt (ez) (d) ((tcQ K q).2) → CT l D cA n0 (XW0 sg adK adV sgA smA wdA n0 bS LS xs) mX13_isSum (10 * (9 - (d)) + 5) 0 0 sz τ M [.ref m] (fun v' sz' τ' M' => (v' = some (.int (if (q2).1 = true then 1 else 0)) ∧ MQQ τ M' m y z s1 s2 n8 B ω0 w0 hr wr lt (ez) (d) (q2)) ∧ sz' = sz ∧ τ' = τ ∧ FMZ m z M M')) {sz : Nat} {τ : TY} {M : ME} {ez : Nat} (hQ : MPl τ M m y z s1 s2 n8 B ω0 w0 hr wr lt (ez) (d) (s)) : CT l D cA n0 (XW0 sg adK adV sgA smA wdA n0 bS LS xs) mX13_isSingle (10 * (9 - d) + 6) 0 0 sz τ M [.ref m] (fun v' sz' τ' M' => (v' = some (.int (if (adQ q2 (K q.2.1)).1 = true then 1 else 0)) ∧ MQQ τ M' m y z s1 s2 n8 B ω0 w0 hr wr lt (ez) (d) (adQ q2 (K q.2.1))) ∧ sz' = sz ∧ τ' = τ ∧ FMZ m z M M') := by
  refine CT.of (ls := [.ref m, UU]) (by decide) (Nat.le_of_ble_eq_true rfl) rfl ?_
  obtain ⟨ω, w, hM, hV, hω, hrl, hw, hG, hn, ht, hz⟩ := hQ
  have k0 : ω 80 s.1 = nI (kkF (K s.1)) := by rw [hω 80 _ (by decide)]; exact (hTK.2.1 s.1 ht).1
  have hk := (hTK.2.1 s.1 ht).2.1
  have hl := hTK.1.1
  have hps := (ps_le (σ := s.2.2.1) s.2.1).1
  have hcn := cnF_le (σ := s.2.2.1) s.2.1
  have hF : FMZ m z M M := FMZ.rf _ _ _
  refine T_aload0 dX13_isSingle_0 rfl ?_
  refine T_bipush (23) dX13_isSingle_1 rfl rfl ?_
  refine T_cV1 (c_X13_is hX hM (by omega) _) hX k13_127 (Or.inl ⟨_, _, _, _, (hM.t_m), by decide, rfl⟩) (by omega) (Nat.le_of_ble_eq_true rfl) dX13_isSingle_3 rfl ?_
  rintro _ _ _ _ ⟨rfl, rfl, rfl, rfl⟩
  rw [k0, if_neg (fun e => absurd ((kc_23 _ hk.1 hk.2).mp e) hq1)]
  refine T_if_eq_t 43 dX13_isSingle_6 (by decide) rfl ?_
  refine T_aload0 dX13_isSingle_43 rfl ?_
  refine T_bipush (91) dX13_isSingle_44 rfl rfl ?_
  refine T_cV1 (c_X13_isSign hX hM (by omega) _) hX k13_210 (Or.inl ⟨_, _, _, _, (hM.t_m), by decide, rfl⟩) (by omega) (Nat.le_of_ble_eq_true rfl) dX13_isSingle_46 rfl ?_
  rintro _ _ _ _ ⟨rfl, rfl, rfl, rfl⟩
  rw [k0, show (50 : Int32) + 91 = 141 from by decide, if_neg (fun e => absurd ((kc_141 _ hk.1 hk.2).mp e) hq2)]
  refine T_if_eq_t 85 dX13_isSingle_49 (by decide) rfl ?_
  refine T_aload0 dX13_isSingle_85 rfl ?_
  refine T_cV0 (hS1 _ _ _ (ez) ⟨ω, w, hM.rf, hV.rf, hω, hrl, hw, hG, hn, ht, hz⟩) hX k13_167 (Or.inl ⟨_, _, _, _, (hM.t_m), by decide, rfl⟩) (by omega) (Nat.le_of_ble_eq_true rfl) dX13_isSingle_86 rfl ?_
  rintro _ _ _ M8 ⟨⟨rfl, hQ9⟩, rfl, rfl, hF9⟩
  have hF := hF.tr hF9
  refine T_if_ne 94 92 dX13_isSingle_89 (by decide) rfl (fun c89 => ?_) (fun c89 => ?_)
  ·
    have z9 := ifz1 c89
    obtain ⟨ω, w, hM, hV, hω, hrl, hw, hG, hn, ht, hz⟩ := hQ9.1 z9
    have k0 : ω 80 q.2.1 = nI (kkF (K q.2.1)) := by rw [hω 80 _ (by decide)]; exact (hTK.2.1 q.2.1 ht).1
    have hk := (hTK.2.1 q.2.1 ht).2.1
    have hps := (ps_le (σ := q.2.2.2.1) q.2.2.1).1
    have hcn := cnF_le (σ := q.2.2.2.1) q.2.2.1
    refine T_aload0 dX13_isSingle_94 rfl ?_
    refine T_bipush (60) dX13_isSingle_95 rfl rfl ?_
    refine T_cV1 (c_X13_isSign hX hM (by omega) _) hX k13_210 (Or.inl ⟨_, _, _, _, (hM.t_m), by decide, rfl⟩) (by omega) (Nat.le_of_ble_eq_true rfl) dX13_isSingle_97 rfl ?_
    rintro _ _ _ _ ⟨rfl, rfl, rfl, rfl⟩
    rw [k0, show (50 : Int32) + 60 = 110 from by decide, if_neg (fun e => absurd ((kc_110 _ hk.1 hk.2).mp e) (by omega))]
    refine T_if_eq_t 108 dX13_isSingle_100 (by decide) rfl ?_
    refine T_aload0 dX13_isSingle_108 rfl ?_
    refine T_bipush (62) dX13_isSingle_109 rfl rfl ?_
    refine T_cV1 (c_X13_isSign hX hM (by omega) _) hX k13_210 (Or.inl ⟨_, _, _, _, (hM.t_m), by decide, rfl⟩) (by omega) (Nat.le_of_ble_eq_true rfl) dX13_isSingle_111 rfl ?_
    rintro _ _ _ _ ⟨rfl, rfl, rfl, rfl⟩
    rw [k0, show (50 : Int32) + 62 = 112 from by decide, if_neg (fun e => absurd ((kc_112 _ hk.1 hk.2).mp e) (by omega))]
    refine T_if_eq_t 122 dX13_isSingle_114 (by decide) rfl ?_
    refine T_aload0 dX13_isSingle_122 rfl ?_
    refine T_bipush (61) dX13_isSingle_123 rfl rfl ?_
    refine T_cV1 (c_X13_isSign hX hM (by omega) _) hX k13_210 (Or.inl ⟨_, _, _, _, (hM.t_m), by decide, rfl⟩) (by omega) (Nat.le_of_ble_eq_true rfl) dX13_isSingle_125 rfl ?_
    rintro _ _ _ _ ⟨rfl, rfl, rfl, rfl⟩
    rw [k0, show (50 : Int32) + 61 = 111 from by decide, if_neg (fun e => absurd ((kc_111 _ hk.1 hk.2).mp e) (by omega))]
    refine T_if_eq_t 136 dX13_isSingle_128 (by decide) rfl ?_
    refine T_aload0 dX13_isSingle_136 rfl ?_
    refine T_sipush (300) dX13_isSingle_137 rfl rfl ?_
    refine T_cV1 (c_X13_is hX hM (by omega) _) hX k13_127 (Or.inl ⟨_, _, _, _, (hM.t_m), by decide, rfl⟩) (by omega) (Nat.le_of_ble_eq_true rfl) dX13_isSingle_140 rfl ?_
    rintro _ _ _ _ ⟨rfl, rfl, rfl, rfl⟩
    rw [k0, if_neg (fun e => absurd ((kc_300 _ hk.1 hk.2).mp e) (by omega))]
    refine T_if_eq_t 151 dX13_isSingle_143 (by decide) rfl ?_
    refine T_aload0 dX13_isSingle_151 rfl ?_
    refine T_sipush (301) dX13_isSingle_152 rfl rfl ?_
    refine T_cV1 (c_X13_is hX hM (by omega) _) hX k13_127 (Or.inl ⟨_, _, _, _, (hM.t_m), by decide, rfl⟩) (by omega) (Nat.le_of_ble_eq_true rfl) dX13_isSingle_155 rfl ?_
    rintro _ _ _ _ ⟨rfl, rfl, rfl, rfl⟩
    rw [k0, if_pos ((kc_301 _ hk.1 hk.2).mpr hqo)]
    refine T_if_eq_f 166 161 dX13_isSingle_158 (by decide) rfl (by decide) ?_
    refine T_bipush (40) dX13_isSingle_161 rfl rfl ?_
    refine T_goto 167 dX13_isSingle_163 (by decide) ?_
    refine T_istore1 rfl (by decide) dX13_isSingle_167 rfl ?_
    refine T_iload1 dX13_isSingle_168 rfl ?_
    refine T_iconst (-1) dX13_isSingle_169 rfl rfl ?_
    refine T_icmp_ne_t 175 dX13_isSingle_170 (by decide) (by decide) ?_
    have e8 : tcQ K q = (true, adv q.2 1) := tcQ_y z9 (by omega)
    have hlt : q.2.1 + 1 ≤ lt := Nat.lt_of_le_of_ne ht (fun e => by have h9 := hTK.1.2; rw [← e] at h9; omega)
    refine T_aload0 dX13_isSingle_175 rfl ?_
    refine T_dup dX13_isSingle_176 rfl rfl ?_
    refine g13_124 _ rfl (hM.t_m) (hM.g_tk) dX13_isSingle_177 rfl ?_
    refine T_iconst (1) dX13_isSingle_180 rfl rfl ?_
    refine T_iadd dX13_isSingle_181 rfl ?_
    refine p13_124 rfl (hM.t_m) dX13_isSingle_182 rfl ?_
    refine T_nm (fun M1 e1 => ?_)
    have hM := MV.mv (hM.p_tk (n := q.2.1 + 1) (nI_1 _)) e1
    have hV := hV.frU e1 (by omega)
    have hF := hF.up e1 (by omega)
    refine T_aload0 dX13_isSingle_185 rfl ?_
    refine T_cV0 (hS2 (by rw [e8]) _ _ _ (ez + 1) (by rw [e8]; exact ⟨ω, w, hM.rf, hV.rf, hω, hrl, hw, hG, (by show q.2.2.1 + (ez + 1) ≤ q.2.1 + 1; omega), hlt, (fun i hi => hz i (Nat.le_trans (Nat.le_succ _) hi))⟩)) hX k13_167 (Or.inl ⟨_, _, _, _, (hM.t_m), by decide, rfl⟩) (by omega) (Nat.le_of_ble_eq_true rfl) dX13_isSingle_186 rfl ?_
    rintro _ _ _ M8 ⟨⟨rfl, hQ8⟩, rfl, rfl, hF9⟩
    have hF := hF.tr hF9
    refine T_if_ne 194 192 dX13_isSingle_189 (by decide) rfl (fun c189 => ?_) (fun c189 => ?_)
    ·
      have z5 := ifz1 c189
      obtain ⟨ω, w, hM, hV, hω, hrl, hw, hG, hn, ht, hz⟩ := hQ8.1 z5
      have k0 : ω 80 q2.2.1 = nI (kkF (K q2.2.1)) := by rw [hω 80 _ (by decide)]; exact (hTK.2.1 q2.2.1 ht).1
      have hk := (hTK.2.1 q2.2.1 ht).2.1
      have hps := (ps_le (σ := q2.2.2.2.1) q2.2.2.1).1
      have hcn := cnF_le (σ := q2.2.2.2.1) q2.2.2.1
      refine T_aload0 dX13_isSingle_194 rfl ?_
      refine T_iload1 dX13_isSingle_195 rfl ?_
      refine T_cV1 (c_X13_put hX hM (by omega) hV hmz (by omega) _) hX k13_191 (Or.inl ⟨_, _, _, _, (hM.t_m), by decide, rfl⟩) (by omega) (Nat.le_of_ble_eq_true rfl) dX13_isSingle_196 rfl ?_
      rintro _ _ _ M9 ⟨rfl, rfl, rfl, hV9⟩
      have hM := (hM.nx hV9.frame (by omega)).rf
      have hF := hF.fz hV9.frame
      have hV := hV9.rf
      refine T_iconst (1) dX13_isSingle_199 rfl rfl ?_
      refine T_iret rfl rfl dX13_isSingle_200 ?_
      have hw1 : wdF (K q.2.1) = 1 := by rw [hqo]; rfl
      have hn1 : nmB (K q.2.1) = false := by rw [hqo]; rfl
      exact ⟨⟨by rw [if_pos (show (adQ q2 (K q.2.1)).1 = true from z5)], MQQ.t (q := adQ q2 (K q.2.1)) z5 (MPl.ad (o := K q.2.1) hw1 hn1 (by rw [hqo]; rfl) hM hV hω hrl hw hG hn ht hz)⟩, rfl, rfl, hF⟩
    ·
      have z5 := ifz0 (by first | exact c189 | exact Decidable.not_not.mp c189)
      refine T_iconst (0) dX13_isSingle_192 rfl rfl ?_
      refine T_iret rfl rfl dX13_isSingle_193 ?_
      exact ⟨⟨by rw [if_neg (show ¬ (adQ q2 (K q.2.1)).1 = true from z5)], MQQ.f (q := adQ q2 (K q.2.1)) z5 (hQ8.2 (fls z5))⟩, rfl, rfl, hF⟩
  ·
    have z9 := ifz0 (by first | exact c89 | exact Decidable.not_not.mp c89)
    refine T_iconst (0) dX13_isSingle_92 rfl rfl ?_
    refine T_iret rfl rfl dX13_isSingle_93 ?_
    have e5 : q2 = q := by rw [hf2 (by rw [tcQ_n z9]; exact fls z9)]; exact tcQ_n z9
    subst e5
    exact ⟨⟨by rw [if_neg (show ¬ (adQ q2 (K q2.2.1)).1 = true from z9)], MQQ.f (q := adQ q2 (K q2.2.1)) z9 (hQ9.2 (fls z9))⟩, rfl, rfl, hF⟩
set_option maxHeartbeats 1000000 in
theorem gm_cmpn {l : Launch} {D : va_G} {cA : Nat → ClassId} {n0 : Nat} {sg adK adV : Nat → Nat} {sgA smA wdA bS LS : Nat} {xs : Nat → Int32} (hX : SF n0 (XW0 sg adK adV sgA smA wdA n0 bS LS xs)) {m y z s1 s2 n8 hr wr lt : Nat} {B : Nat → Nat} {K : Nat → Nat} {S : Nat → Int32} {V : Nat → Int64} {ω0 w0 : RH} (hTK : TKF B lt K S V ω0) (hmz : m + 7 ≤ z ∨ z + 19 ≤ m) {d : Nat} {s : PS} (hd : d ≤ 8) {q q2 : PQ} (hq1 : ¬ K s.1 = 23) (hq2 : ¬ K s.1 = 30) (hqo : ¬ (38 ≤ K q.2.1 ∧ K q.2.1 ≤ 42)) (hS1 : ∀ (sz : Nat) (τ : TY) (M : ME) (ez : Nat), MPl τ M m y z s1 s2 n8 B ω0 w0 hr wr lt (ez) (d) (s) → CT l D cA n0 (XW0 sg adK adV sgA smA wdA n0 bS LS xs) mX13_isSum (10 * (9 - (d)) + 5) 0 0 sz τ M [.ref m] (fun v' sz' τ' M' => (v' = some (.int (if (q).1 = true then 1 else 0)) ∧ MQQ τ M' m y z s1 s2 n8 B ω0 w0 hr wr lt (ez) (d) (q)) ∧ sz' = sz ∧ τ' = τ ∧ FMZ m z M M')) (hf2 : (tcQ K q).1 = false → q2 = tcQ K q) (hS2 : (tcQ K q).1 = true → ∀ (sz : Nat) (τ : TY) (M : ME) (ez : Nat), MPl τ M m y z s1 s2 n8 B ω0 w0 hr wr lt (ez) (d) ((tcQ K q).2) → CT l D cA n0 (XW0 sg adK adV sgA smA wdA n0 bS LS xs) mX13_isSum (10 * (9 - (d)) + 5) 0 0 sz τ M [.ref m] (fun v' sz' τ' M' => (v' = some (.int (if (q2).1 = true then 1 else 0)) ∧ MQQ τ M' m y z s1 s2 n8 B ω0 w0 hr wr lt (ez) (d) (q2)) ∧ sz' = sz ∧ τ' = τ ∧ FMZ m z M M')) {sz : Nat} {τ : TY} {M : ME} {ez : Nat} (hQ : MPl τ M m y z s1 s2 n8 B ω0 w0 hr wr lt (ez) (d) (s)) : CT l D cA n0 (XW0 sg adK adV sgA smA wdA n0 bS LS xs) mX13_isSingle (10 * (9 - d) + 6) 0 0 sz τ M [.ref m] (fun v' sz' τ' M' => (v' = some (.int (if (adQ q2 (K q.2.1)).1 = true then 1 else 0)) ∧ MQQ τ M' m y z s1 s2 n8 B ω0 w0 hr wr lt (ez) (d) (adQ q2 (K q.2.1))) ∧ sz' = sz ∧ τ' = τ ∧ FMZ m z M M') := by
  refine CT.of (ls := [.ref m, UU]) (by decide) (Nat.le_of_ble_eq_true rfl) rfl ?_
  obtain ⟨ω, w, hM, hV, hω, hrl, hw, hG, hn, ht, hz⟩ := hQ
  have k0 : ω 80 s.1 = nI (kkF (K s.1)) := by rw [hω 80 _ (by decide)]; exact (hTK.2.1 s.1 ht).1
  have hk := (hTK.2.1 s.1 ht).2.1
  have hl := hTK.1.1
  have hps := (ps_le (σ := s.2.2.1) s.2.1).1
  have hcn := cnF_le (σ := s.2.2.1) s.2.1
  have hF : FMZ m z M M := FMZ.rf _ _ _
  refine T_aload0 dX13_isSingle_0 rfl ?_
  refine T_bipush (23) dX13_isSingle_1 rfl rfl ?_
  refine T_cV1 (c_X13_is hX hM (by omega) _) hX k13_127 (Or.inl ⟨_, _, _, _, (hM.t_m), by decide, rfl⟩) (by omega) (Nat.le_of_ble_eq_true rfl) dX13_isSingle_3 rfl ?_
  rintro _ _ _ _ ⟨rfl, rfl, rfl, rfl⟩
  rw [k0, if_neg (fun e => absurd ((kc_23 _ hk.1 hk.2).mp e) hq1)]
  refine T_if_eq_t 43 dX13_isSingle_6 (by decide) rfl ?_
  refine T_aload0 dX13_isSingle_43 rfl ?_
  refine T_bipush (91) dX13_isSingle_44 rfl rfl ?_
  refine T_cV1 (c_X13_isSign hX hM (by omega) _) hX k13_210 (Or.inl ⟨_, _, _, _, (hM.t_m), by decide, rfl⟩) (by omega) (Nat.le_of_ble_eq_true rfl) dX13_isSingle_46 rfl ?_
  rintro _ _ _ _ ⟨rfl, rfl, rfl, rfl⟩
  rw [k0, show (50 : Int32) + 91 = 141 from by decide, if_neg (fun e => absurd ((kc_141 _ hk.1 hk.2).mp e) hq2)]
  refine T_if_eq_t 85 dX13_isSingle_49 (by decide) rfl ?_
  refine T_aload0 dX13_isSingle_85 rfl ?_
  refine T_cV0 (hS1 _ _ _ (ez) ⟨ω, w, hM.rf, hV.rf, hω, hrl, hw, hG, hn, ht, hz⟩) hX k13_167 (Or.inl ⟨_, _, _, _, (hM.t_m), by decide, rfl⟩) (by omega) (Nat.le_of_ble_eq_true rfl) dX13_isSingle_86 rfl ?_
  rintro _ _ _ M8 ⟨⟨rfl, hQ9⟩, rfl, rfl, hF9⟩
  have hF := hF.tr hF9
  refine T_if_ne 94 92 dX13_isSingle_89 (by decide) rfl (fun c89 => ?_) (fun c89 => ?_)
  ·
    have z9 := ifz1 c89
    obtain ⟨ω, w, hM, hV, hω, hrl, hw, hG, hn, ht, hz⟩ := hQ9.1 z9
    have k0 : ω 80 q.2.1 = nI (kkF (K q.2.1)) := by rw [hω 80 _ (by decide)]; exact (hTK.2.1 q.2.1 ht).1
    have hk := (hTK.2.1 q.2.1 ht).2.1
    have hps := (ps_le (σ := q.2.2.2.1) q.2.2.1).1
    have hcn := cnF_le (σ := q.2.2.2.1) q.2.2.1
    refine T_aload0 dX13_isSingle_94 rfl ?_
    refine T_bipush (60) dX13_isSingle_95 rfl rfl ?_
    refine T_cV1 (c_X13_isSign hX hM (by omega) _) hX k13_210 (Or.inl ⟨_, _, _, _, (hM.t_m), by decide, rfl⟩) (by omega) (Nat.le_of_ble_eq_true rfl) dX13_isSingle_97 rfl ?_
    rintro _ _ _ _ ⟨rfl, rfl, rfl, rfl⟩
    rw [k0, show (50 : Int32) + 60 = 110 from by decide, if_neg (fun e => absurd ((kc_110 _ hk.1 hk.2).mp e) (by omega))]
    refine T_if_eq_t 108 dX13_isSingle_100 (by decide) rfl ?_
    refine T_aload0 dX13_isSingle_108 rfl ?_
    refine T_bipush (62) dX13_isSingle_109 rfl rfl ?_
    refine T_cV1 (c_X13_isSign hX hM (by omega) _) hX k13_210 (Or.inl ⟨_, _, _, _, (hM.t_m), by decide, rfl⟩) (by omega) (Nat.le_of_ble_eq_true rfl) dX13_isSingle_111 rfl ?_
    rintro _ _ _ _ ⟨rfl, rfl, rfl, rfl⟩
    rw [k0, show (50 : Int32) + 62 = 112 from by decide, if_neg (fun e => absurd ((kc_112 _ hk.1 hk.2).mp e) (by omega))]
    refine T_if_eq_t 122 dX13_isSingle_114 (by decide) rfl ?_
    refine T_aload0 dX13_isSingle_122 rfl ?_
    refine T_bipush (61) dX13_isSingle_123 rfl rfl ?_
    refine T_cV1 (c_X13_isSign hX hM (by omega) _) hX k13_210 (Or.inl ⟨_, _, _, _, (hM.t_m), by decide, rfl⟩) (by omega) (Nat.le_of_ble_eq_true rfl) dX13_isSingle_125 rfl ?_
    rintro _ _ _ _ ⟨rfl, rfl, rfl, rfl⟩
    rw [k0, show (50 : Int32) + 61 = 111 from by decide, if_neg (fun e => absurd ((kc_111 _ hk.1 hk.2).mp e) (by omega))]
    refine T_if_eq_t 136 dX13_isSingle_128 (by decide) rfl ?_
    refine T_aload0 dX13_isSingle_136 rfl ?_
    refine T_sipush (300) dX13_isSingle_137 rfl rfl ?_
    refine T_cV1 (c_X13_is hX hM (by omega) _) hX k13_127 (Or.inl ⟨_, _, _, _, (hM.t_m), by decide, rfl⟩) (by omega) (Nat.le_of_ble_eq_true rfl) dX13_isSingle_140 rfl ?_
    rintro _ _ _ _ ⟨rfl, rfl, rfl, rfl⟩
    rw [k0, if_neg (fun e => absurd ((kc_300 _ hk.1 hk.2).mp e) (by omega))]
    refine T_if_eq_t 151 dX13_isSingle_143 (by decide) rfl ?_
    refine T_aload0 dX13_isSingle_151 rfl ?_
    refine T_sipush (301) dX13_isSingle_152 rfl rfl ?_
    refine T_cV1 (c_X13_is hX hM (by omega) _) hX k13_127 (Or.inl ⟨_, _, _, _, (hM.t_m), by decide, rfl⟩) (by omega) (Nat.le_of_ble_eq_true rfl) dX13_isSingle_155 rfl ?_
    rintro _ _ _ _ ⟨rfl, rfl, rfl, rfl⟩
    rw [k0, if_neg (fun e => absurd ((kc_301 _ hk.1 hk.2).mp e) (by omega))]
    refine T_if_eq_t 166 dX13_isSingle_158 (by decide) rfl ?_
    refine T_iconst (-1) dX13_isSingle_166 rfl rfl ?_
    refine T_istore1 rfl (by decide) dX13_isSingle_167 rfl ?_
    refine T_iload1 dX13_isSingle_168 rfl ?_
    refine T_iconst (-1) dX13_isSingle_169 rfl rfl ?_
    refine T_icmp_ne_f 175 173 dX13_isSingle_170 (by decide) rfl rfl ?_
    refine T_iconst (0) dX13_isSingle_173 rfl rfl ?_
    refine T_iret rfl rfl dX13_isSingle_174 ?_
    have e5 : q2 = (false, q.2) := by rw [hf2 (by rw [tcQ_z z9 hqo])]; exact tcQ_z z9 hqo
    subst e5
    exact ⟨⟨rfl, MQQ.f (q := adQ (false, q.2) (K q.2.1)) (by simp [adQ]) ⟨ht, _, _, _, _, _, _, _, _, _, _, _, _, hM.rf, hV.rf, hω⟩⟩, rfl, rfl, hF⟩
  ·
    have z9 := ifz0 (by first | exact c89 | exact Decidable.not_not.mp c89)
    refine T_iconst (0) dX13_isSingle_92 rfl rfl ?_
    refine T_iret rfl rfl dX13_isSingle_93 ?_
    have e5 : q2 = q := by rw [hf2 (by rw [tcQ_n z9]; exact fls z9)]; exact tcQ_n z9
    subst e5
    exact ⟨⟨by rw [if_neg (show ¬ (adQ q2 (K q2.2.1)).1 = true from z9)], MQQ.f (q := adQ q2 (K q2.2.1)) z9 (hQ9.2 (fls z9))⟩, rfl, rfl, hF⟩
