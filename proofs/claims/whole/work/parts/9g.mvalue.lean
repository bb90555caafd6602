/-! the reference reads by the rules: values -/
theorem ifz1 {p : Prop} [Decidable p] (h : ¬ (if p then (1 : Int32) else 0) = 0) : p := Decidable.byContradiction fun q => h (if_neg q)
theorem ifz0 {p : Prop} [Decidable p] (h : (if p then (1 : Int32) else 0) = 0) : ¬ p := fun q => by rw [if_pos q] at h; exact absurd h (by decide)
theorem MQQ.t {τ : TY} {M : ME} {m y z s1 s2 n8 : Nat} {B : Nat → Nat} {ω0 w0 : RH} {hr wr lt ez dp : Nat} {q : PQ} (e : q.1 = true) (h : MPl τ M m y z s1 s2 n8 B ω0 w0 hr wr lt ez dp q.2) : MQQ τ M m y z s1 s2 n8 B ω0 w0 hr wr lt ez dp q := ⟨fun _ => h, fun z => by rw [e] at z; cases z⟩
theorem MQQ.f {τ : TY} {M : ME} {m y z s1 s2 n8 : Nat} {B : Nat → Nat} {ω0 w0 : RH} {hr wr lt ez dp : Nat} {q : PQ} (e : ¬ q.1 = true) (h : MB τ M m y z s1 s2 n8 B ω0 lt q.2.1) : MQQ τ M m y z s1 s2 n8 B ω0 w0 hr wr lt ez dp q := ⟨fun z => absurd z e, fun _ => h⟩
theorem fls {q : PQ} (e : ¬ q.1 = true) : q.1 = false := by cases h : q.1 with | true => exact absurd h e | false => rfl
set_option maxHeartbeats 1000000 in
theorem L_X13_numberAt {l : Launch} {D : va_G} {cA : Nat → ClassId} {n0 : Nat} {sg adK adV : Nat → Nat} {sgA smA wdA bS LS : Nat} {xs : Nat → Int32} (hX : SF n0 (XW0 sg adK adV sgA smA wdA n0 bS LS xs)) {sz : Nat} {τ : TY} {N1 M : ME} {m y z s1 s2 n8 tk dp i p n2 : Nat} {B : Nat → Nat} {ω : RH} (hM : MV τ N1 M m y z s1 s2 n8 tk dp B ω) (hi : i < 401) (h1 : ω 81 i = nI p) (h2 : ω 82 i = nI n2) (hp : p + n2 ≤ 2000) : ∀ (n : Nat) (k : Nat) (hk : k ≤ n2), n2 - k < n → T l D cA n0 (XW0 sg adK adV sgA smA wdA n0 bS LS xs) mX13_numberAt 1 0 0 sz τ M 4 [.ref m, .int (nI i), .int (nmI B p k), .int (nI k)] [] (ROq (.int (nmI B p n2)) sz τ M) (fun _ _ _ _ => False) := by
  intro n
  induction n with
  | zero => intros; omega
  | succ n ih =>
    intro k hk hn
    refine T_iload3 dX13_numberAt_4 rfl ?_
    refine T_aload0 dX13_numberAt_5 rfl ?_
    refine g13_23 _ rfl (hM.t_m) (hM.g_mn) dX13_numberAt_6 rfl ?_
    refine T_iload1 dX13_numberAt_9 rfl ?_
    refine T_iald _ (hM.t_mn) rfl (by omega) (by decide) dX13_numberAt_10 rfl (hM.g_vmn (by omega)) ?_
    rw [h2]
    refine T_icmp_ge 42 14 dX13_numberAt_11 (by decide) rfl (fun c11 => ?_) (fun c11 => ?_)
    ·
      have c11 := le_out (c := n2) rfl c11
      refine T_iload2 dX13_numberAt_42 rfl ?_
      refine T_iret rfl rfl dX13_numberAt_43 ?_
      obtain rfl : k = n2 := by omega
      exact ⟨rfl, rfl, rfl, rfl⟩
    ·
      have c11 := lt_in (c := n2) rfl c11
      refine T_bipush (10) dX13_numberAt_14 rfl rfl ?_
      refine T_iload2 dX13_numberAt_16 rfl ?_
      refine T_imul dX13_numberAt_17 rfl ?_
      refine T_aload0 dX13_numberAt_18 rfl ?_
      refine g13_9 _ rfl (hM.t_m) (hM.g_tp) dX13_numberAt_19 rfl ?_
      refine T_aload0 dX13_numberAt_22 rfl ?_
      refine g13_20 _ rfl (hM.t_m) (hM.g_fr) dX13_numberAt_23 rfl ?_
      refine T_iload1 dX13_numberAt_26 rfl ?_
      refine T_iald _ (hM.t_fr) rfl (by omega) (by decide) dX13_numberAt_27 rfl (hM.g_vfr (by omega)) ?_
      rw [h1]
      refine T_iload3 dX13_numberAt_28 rfl ?_
      refine T_iadd dX13_numberAt_29 rfl ?_
      refine T_iald _ (hM.t_tp) (nI_add p k) (by omega) (by decide) dX13_numberAt_30 rfl (hM.g_by (by omega)) ?_
      refine T_iadd dX13_numberAt_31 rfl ?_
      refine T_bipush (48) dX13_numberAt_32 rfl rfl ?_
      refine T_isub dX13_numberAt_34 rfl ?_
      refine T_istore2 rfl (by decide) dX13_numberAt_35 rfl ?_
      first | refine T_iinc3 rfl (by decide) dX13_numberAt_36 rfl (inc1 _) ?_ | refine T_iinc3 rfl (by decide) dX13_numberAt_36 rfl rfl ?_
      refine T_goto 4 dX13_numberAt_39 (by decide) ?_
      exact ih (k + 1) (by omega) (by omega)
set_option maxHeartbeats 1000000 in
theorem c_X13_numberAt {l : Launch} {D : va_G} {cA : Nat → ClassId} {n0 : Nat} {sg adK adV : Nat → Nat} {sgA smA wdA bS LS : Nat} {xs : Nat → Int32} (hX : SF n0 (XW0 sg adK adV sgA smA wdA n0 bS LS xs)) {sz : Nat} {τ : TY} {N1 M : ME} {m y z s1 s2 n8 tk dp i p n2 : Nat} {B : Nat → Nat} {ω : RH} (hM : MV τ N1 M m y z s1 s2 n8 tk dp B ω) (hi : i < 401) (h1 : ω 81 i = nI p) (h2 : ω 82 i = nI n2) (hp : p + n2 ≤ 2000) : CT l D cA n0 (XW0 sg adK adV sgA smA wdA n0 bS LS xs) mX13_numberAt 1 0 0 sz τ M [.ref m, .int (nI i)] (ROq (.int (nmI B p n2)) sz τ M) := by
  refine CT.of (ls := [.ref m, .int (nI i), UU, UU]) (by decide) (Nat.le_of_ble_eq_true rfl) rfl ?_
  refine T_iconst (0) dX13_numberAt_0 rfl rfl ?_
  refine T_istore2 rfl (by decide) dX13_numberAt_1 rfl ?_
  refine T_iconst (0) dX13_numberAt_2 rfl rfl ?_
  refine T_istore3 rfl (by decide) dX13_numberAt_3 rfl ?_
  exact L_X13_numberAt hX hM hi h1 h2 hp (n2 + 1) 0 (Nat.zero_le _) (by omega)
set_option maxHeartbeats 1000000 in
theorem gm_num {l : Launch} {D : va_G} {cA : Nat → ClassId} {n0 : Nat} {sg adK adV : Nat → Nat} {sgA smA wdA bS LS : Nat} {xs : Nat → Int32} (hX : SF n0 (XW0 sg adK adV sgA smA wdA n0 bS LS xs)) {m y z s1 s2 n8 hr wr lt : Nat} {B : Nat → Nat} {K : Nat → Nat} {S : Nat → Int32} {V : Nat → Int64} {ω0 w0 : RH} (hTK : TKF B lt K S V ω0) (hmz : m + 7 ≤ z ∨ z + 19 ≤ m) {d : Nat} {s : PS} (hd : d ≤ 8) (hq : K s.1 = 44) {sz : Nat} {τ : TY} {M : ME} {ez : Nat} (hQ : MPl τ M m y z s1 s2 n8 B ω0 w0 hr wr lt (ez) (d) (s)) : CT l D cA n0 (XW0 sg adK adV sgA smA wdA n0 bS LS xs) mX13_isValue (10 * (9 - d) + 3) 0 0 sz τ M [.ref m] (fun v' sz' τ' M' => (v' = some (.int (if ((true, adv (stp s 44 (V s.1).toInt32) 1)).1 = true then 1 else 0)) ∧ MQQ τ M' m y z s1 s2 n8 B ω0 w0 hr wr lt (ez) (d) ((true, adv (stp s 44 (V s.1).toInt32) 1))) ∧ sz' = sz ∧ τ' = τ ∧ FMZ m z M M') := by
  refine CT.of (ls := [.ref m, UU, UU]) (by decide) (Nat.le_of_ble_eq_true rfl) rfl ?_
  obtain ⟨ω, w, hM, hV, hω, hrl, hw, hG, hn, ht, hz⟩ := hQ
  have k0 : ω 80 s.1 = nI (kkF (K s.1)) := by rw [hω 80 _ (by decide)]; exact (hTK.2.1 s.1 ht).1
  have hk := (hTK.2.1 s.1 ht).2.1
  have hl := hTK.1.1
  have hps := (ps_le (σ := s.2.2.1) s.2.1).1
  have hcn := cnF_le (σ := s.2.2.1) s.2.1
  have hF : FMZ m z M M := FMZ.rf _ _ _
  have hlt : s.1 < lt := Nat.lt_of_le_of_ne ht (fun e => by have h9 := hTK.1.2; rw [← e] at h9; omega)
  obtain ⟨p1, n1, hp1, hp2, hp3, hp4⟩ := (hTK.2.2.1 s.1 hlt).2
  rw [← hω 81 _ (by decide)] at hp1
  rw [← hω 82 _ (by decide)] at hp2
  replace hp4 := hp4 hq
  refine T_aload0 dX13_isValue_0 rfl ?_
  refine T_bipush (41) dX13_isValue_1 rfl rfl ?_
  refine T_cV1 (c_X13_is hX hM (by omega) _) hX k13_127 (Or.inl ⟨_, _, _, _, (hM.t_m), by decide, rfl⟩) (by omega) (Nat.le_of_ble_eq_true rfl) dX13_isValue_3 rfl ?_
  rintro _ _ _ _ ⟨rfl, rfl, rfl, rfl⟩
  rw [k0, if_pos ((kc_41 _ hk.1 hk.2).mpr hq)]
  refine T_if_eq_f 39 9 dX13_isValue_6 (by decide) rfl (by decide) ?_
  refine T_aload0 dX13_isValue_9 rfl ?_
  refine T_bipush (30) dX13_isValue_10 rfl rfl ?_
  refine T_cV1 (c_X13_put hX hM (by omega) hV hmz (by omega) _) hX k13_191 (Or.inl ⟨_, _, _, _, (hM.t_m), by decide, rfl⟩) (by omega) (Nat.le_of_ble_eq_true rfl) dX13_isValue_12 rfl ?_
  rintro _ _ _ M9 ⟨rfl, rfl, rfl, hV9⟩
  have hM := (hM.nx hV9.frame (by omega)).rf
  have hF := hF.fz hV9.frame
  have hV := hV9.rf
  refine T_aload0 dX13_isValue_15 rfl ?_
  refine T_aload0 dX13_isValue_16 rfl ?_
  refine T_aload0 dX13_isValue_17 rfl ?_
  refine g13_124 _ rfl (hM.t_m) (hM.g_tk) dX13_isValue_18 rfl ?_
  refine T_cV1 (c_X13_numberAt hX hM (by omega) hp1 hp2 hp3) hX k13_219 (Or.inl ⟨_, _, _, _, (hM.t_m), by decide, rfl⟩) (by omega) (Nat.le_of_ble_eq_true rfl) dX13_isValue_21 rfl ?_
  rintro _ _ _ _ ⟨rfl, rfl, rfl, rfl⟩
  rw [hp4]
  refine T_cV1 (c_X13_put hX hM (by omega) hV hmz (by omega) _) hX k13_191 (Or.inl ⟨_, _, _, _, (hM.t_m), by decide, rfl⟩) (by omega) (Nat.le_of_ble_eq_true rfl) dX13_isValue_24 rfl ?_
  rintro _ _ _ M9 ⟨rfl, rfl, rfl, hV9⟩
  have hM := (hM.nx hV9.frame (by omega)).rf
  have hF := hF.fz hV9.frame
  have hV := hV9.rf
  refine T_aload0 dX13_isValue_27 rfl ?_
  refine T_dup dX13_isValue_28 rfl rfl ?_
  refine g13_124 _ rfl (hM.t_m) (hM.g_tk) dX13_isValue_29 rfl ?_
  refine T_iconst (1) dX13_isValue_32 rfl rfl ?_
  refine T_iadd dX13_isValue_33 rfl ?_
  refine p13_124 rfl (hM.t_m) dX13_isValue_34 rfl ?_
  refine T_nm (fun M1 e1 => ?_)
  have hM := MV.mv (hM.p_tk (n := s.1 + 1) (nI_1 _)) e1
  have hV := hV.frU e1 (by omega)
  have hF := hF.up e1 (by omega)
  refine T_iconst (1) dX13_isValue_37 rfl rfl ?_
  refine T_iret rfl rfl dX13_isValue_38 ?_
  have e1 : psF (u1 s.2.2.1 s.2.1 44) (s.2.1 + 1) = psF s.2.2.1 s.2.1 + 1 + 1 := psF_u
  have e2 : cnF (u1 s.2.2.1 s.2.1 44) (s.2.1 + 1) = cnF s.2.2.1 s.2.1 := cnF_u
  refine ⟨⟨rfl, MQQ.t rfl ⟨ω, _, hM.rf, (by rw [← e1, ← e2] at hV; exact hV.rf), hω, hrl, fun f i h1 h2 => ?_, GPw.st hG (fun i hi => ?_) (fun i hi => ?_) ?_ (fun _ => ?_) (fun z => absurd z (by decide)), ?_, ?_, fun i hi => hz i (Nat.le_trans (Nat.le_succ _) hi)⟩⟩, rfl, rfl, hF⟩
  · rw [u2_f h1, u2_f h1]; exact hw f i h1 h2
  · rw [u2_i (by omega), u2_i (by omega)]
  · rw [u2_f (by decide), u2_f (by decide)]
  · rw [u2_i (by omega), u2_s]; rfl
  · rw [u2_s]
  · show s.2.1 + 1 + ez ≤ s.1 + 1; omega
  · exact hlt
set_option maxHeartbeats 1000000 in
theorem gm_wrd {l : Launch} {D : va_G} {cA : Nat → ClassId} {n0 : Nat} {sg adK adV : Nat → Nat} {sgA smA wdA bS LS : Nat} {xs : Nat → Int32} (hX : SF n0 (XW0 sg adK adV sgA smA wdA n0 bS LS xs)) {m y z s1 s2 n8 hr wr lt : Nat} {B : Nat → Nat} {K : Nat → Nat} {S : Nat → Int32} {V : Nat → Int64} {ω0 w0 : RH} (hTK : TKF B lt K S V ω0) (hmz : m + 7 ≤ z ∨ z + 19 ≤ m) {d : Nat} {s : PS} (hd : d ≤ 8) (hq : 16 ≤ K s.1 ∧ K s.1 ≤ 19) {sz : Nat} {τ : TY} {M : ME} {ez : Nat} (hQ : MPl τ M m y z s1 s2 n8 B ω0 w0 hr wr lt (ez) (d) (s)) : CT l D cA n0 (XW0 sg adK adV sgA smA wdA n0 bS LS xs) mX13_isValue (10 * (9 - d) + 3) 0 0 sz τ M [.ref m] (fun v' sz' τ' M' => (v' = some (.int (if ((true, adv (stp s (K s.1) 0) 1)).1 = true then 1 else 0)) ∧ MQQ τ M' m y z s1 s2 n8 B ω0 w0 hr wr lt (ez) (d) ((true, adv (stp s (K s.1) 0) 1))) ∧ sz' = sz ∧ τ' = τ ∧ FMZ m z M M') := by
  refine CT.of (ls := [.ref m, UU, UU]) (by decide) (Nat.le_of_ble_eq_true rfl) rfl ?_
  obtain ⟨ω, w, hM, hV, hω, hrl, hw, hG, hn, ht, hz⟩ := hQ
  have k0 : ω 80 s.1 = nI (kkF (K s.1)) := by rw [hω 80 _ (by decide)]; exact (hTK.2.1 s.1 ht).1
  have hk := (hTK.2.1 s.1 ht).2.1
  have hl := hTK.1.1
  have hps := (ps_le (σ := s.2.2.1) s.2.1).1
  have hcn := cnF_le (σ := s.2.2.1) s.2.1
  have hF : FMZ m z M M := FMZ.rf _ _ _
  have hlt : s.1 < lt := Nat.lt_of_le_of_ne ht (fun e => by have h9 := hTK.1.2; rw [← e] at h9; omega)
  refine T_aload0 dX13_isValue_0 rfl ?_
  refine T_bipush (41) dX13_isValue_1 rfl rfl ?_
  refine T_cV1 (c_X13_is hX hM (by omega) _) hX k13_127 (Or.inl ⟨_, _, _, _, (hM.t_m), by decide, rfl⟩) (by omega) (Nat.le_of_ble_eq_true rfl) dX13_isValue_3 rfl ?_
  rintro _ _ _ _ ⟨rfl, rfl, rfl, rfl⟩
  rw [k0, if_neg (fun e => absurd ((kc_41 _ hk.1 hk.2).mp e) (by omega))]
  refine T_if_eq_t 39 dX13_isValue_6 (by decide) rfl ?_
  refine T_aload0 dX13_isValue_39 rfl ?_
  refine g13_17 _ rfl (hM.t_m) (hM.g_kd) dX13_isValue_40 rfl ?_
  refine T_aload0 dX13_isValue_43 rfl ?_
  refine g13_124 _ rfl (hM.t_m) (hM.g_tk) dX13_isValue_44 rfl ?_
  refine T_iald _ (hM.t_kd) rfl (by omega) (by decide) dX13_isValue_47 rfl (hM.g_vkd (by omega)) ?_
  refine T_bipush (16) dX13_isValue_48 rfl rfl ?_
  refine T_bipush (19) dX13_isValue_50 rfl rfl ?_
  refine T_cS3 (c_X13_isIn hX _ _ _) hX k13_63 (by omega) (Nat.le_of_ble_eq_true rfl) dX13_isValue_52 rfl ?_
  rintro _ _ _ _ ⟨rfl, rfl, rfl, rfl⟩
  rw [k0, kc_in _ hk.1, if_pos (by omega)]
  refine T_if_eq_f 83 58 dX13_isValue_55 (by decide) rfl (by decide) ?_
  refine T_aload0 dX13_isValue_58 rfl ?_
  refine T_aload0 dX13_isValue_59 rfl ?_
  refine g13_17 _ rfl (hM.t_m) (hM.g_kd) dX13_isValue_60 rfl ?_
  refine T_aload0 dX13_isValue_63 rfl ?_
  refine g13_124 _ rfl (hM.t_m) (hM.g_tk) dX13_isValue_64 rfl ?_
  refine T_iald _ (hM.t_kd) rfl (by omega) (by decide) dX13_isValue_67 rfl (hM.g_vkd (by omega)) ?_
  refine T_cV1 (c_X13_put hX hM (by omega) hV hmz (by omega) _) hX k13_191 (Or.inl ⟨_, _, _, _, (hM.t_m), by decide, rfl⟩) (by omega) (Nat.le_of_ble_eq_true rfl) dX13_isValue_68 rfl ?_
  rintro _ _ _ M9 ⟨rfl, rfl, rfl, hV9⟩
  have hM := (hM.nx hV9.frame (by omega)).rf
  have hF := hF.fz hV9.frame
  have hV := hV9.rf
  refine T_aload0 dX13_isValue_71 rfl ?_
  refine T_dup dX13_isValue_72 rfl rfl ?_
  refine g13_124 _ rfl (hM.t_m) (hM.g_tk) dX13_isValue_73 rfl ?_
  refine T_iconst (1) dX13_isValue_76 rfl rfl ?_
  refine T_iadd dX13_isValue_77 rfl ?_
  refine p13_124 rfl (hM.t_m) dX13_isValue_78 rfl ?_
  refine T_nm (fun M1 e1 => ?_)
  have hM := MV.mv (hM.p_tk (n := s.1 + 1) (nI_1 _)) e1
  have hV := hV.frU e1 (by omega)
  have hF := hF.up e1 (by omega)
  refine T_iconst (1) dX13_isValue_81 rfl rfl ?_
  refine T_iret rfl rfl dX13_isValue_82 ?_
  have hwd : wdF (K s.1) = 1 := by unfold wdF; rw [if_neg (by omega)]
  have hnm : nmB (K s.1) = false := (show ∀ o, o < 48 → 16 ≤ o ∧ o ≤ 19 → nmB o = false from by decide +kernel) _ hk.1 hq
  have hmk : nI (kkF (K s.1)) = nI (mkF (K s.1)) := (show ∀ o, o < 48 → 16 ≤ o ∧ o ≤ 19 → nI (kkF o) = nI (mkF o) from by decide +kernel) _ hk.1 hq
  have e1 : psF (u1 s.2.2.1 s.2.1 (K s.1)) (s.2.1 + 1) = psF s.2.2.1 s.2.1 + 1 := by rw [psF_u, hwd]
  have e2 : cnF (u1 s.2.2.1 s.2.1 (K s.1)) (s.2.1 + 1) = cnF s.2.2.1 s.2.1 := by rw [cnF_u, hnm]; rfl
  refine ⟨⟨rfl, MQQ.t rfl ⟨ω, _, hM.rf, (by rw [← e1, ← e2] at hV; exact hV.rf), hω, hrl, fun f i h1 h2 => ?_, GPw.st hG (fun i hi => ?_) (fun i hi => ?_) ?_ (fun z => ?_) (fun z => ?_), ?_, ?_, fun i hi => hz i (Nat.le_trans (Nat.le_succ _) hi)⟩⟩, rfl, rfl, hF⟩
  · rw [u2_f h1]; exact hw f i h1 h2
  · rw [u2_i (by omega)]
  · rw [u2_f (by decide)]
  · rw [u2_s, k0, hmk]
  · rw [hwd] at z; exact absurd z (by decide)
  · rw [hnm] at z; cases z
  · show s.2.1 + 1 + ez ≤ s.1 + 1; omega
  · exact hlt
set_option maxHeartbeats 1000000 in
theorem gm_hrs {l : Launch} {D : va_G} {cA : Nat → ClassId} {n0 : Nat} {sg adK adV : Nat → Nat} {sgA smA wdA bS LS : Nat} {xs : Nat → Int32} (hX : SF n0 (XW0 sg adK adV sgA smA wdA n0 bS LS xs)) {m y z s1 s2 n8 hr wr lt : Nat} {B : Nat → Nat} {K : Nat → Nat} {S : Nat → Int32} {V : Nat → Int64} {ω0 w0 : RH} (hTK : TKF B lt K S V ω0) (hmz : m + 7 ≤ z ∨ z + 19 ≤ m) {d : Nat} {s : PS} (hd : d ≤ 8) (hq : K s.1 = 20 ∨ K s.1 = 21 ∨ K s.1 = 6) (h43 : K (s.1 + 1) = 43) {sz : Nat} {τ : TY} {M : ME} {ez : Nat} (hQ : MPl τ M m y z s1 s2 n8 B ω0 w0 hr wr lt (ez) (d) (s)) : CT l D cA n0 (XW0 sg adK adV sgA smA wdA n0 bS LS xs) mX13_isValue (10 * (9 - d) + 3) 0 0 sz τ M [.ref m] (fun v' sz' τ' M' => (v' = some (.int (if ((true, adv (rol (stp s (K s.1) (nI (s.1 + 1))) (s.1 + 1) 17) 2)).1 = true then 1 else 0)) ∧ MQQ τ M' m y z s1 s2 n8 B ω0 w0 hr wr lt (ez) (d) ((true, adv (rol (stp s (K s.1) (nI (s.1 + 1))) (s.1 + 1) 17) 2))) ∧ sz' = sz ∧ τ' = τ ∧ FMZ m z M M') := by
  refine CT.of (ls := [.ref m, UU, UU]) (by decide) (Nat.le_of_ble_eq_true rfl) rfl ?_
  obtain ⟨ω, w, hM, hV, hω, hrl, hw, hG, hn, ht, hz⟩ := hQ
  have k0 : ω 80 s.1 = nI (kkF (K s.1)) := by rw [hω 80 _ (by decide)]; exact (hTK.2.1 s.1 ht).1
  have hk := (hTK.2.1 s.1 ht).2.1
  have hl := hTK.1.1
  have hps := (ps_le (σ := s.2.2.1) s.2.1).1
  have hcn := cnF_le (σ := s.2.2.1) s.2.1
  have hF : FMZ m z M M := FMZ.rf _ _ _
  have hlt : s.1 < lt := Nat.lt_of_le_of_ne ht (fun e => by have h9 := hTK.1.2; rw [← e] at h9; omega)
  have k1 : ω 80 (s.1 + 1) = nI (kkF (K (s.1 + 1))) := by rw [hω 80 _ (by decide)]; exact (hTK.2.1 (s.1 + 1) hlt).1
  have hk1 := (hTK.2.1 (s.1 + 1) hlt).2.1
  refine T_aload0 dX13_isValue_0 rfl ?_
  refine T_bipush (41) dX13_isValue_1 rfl rfl ?_
  refine T_cV1 (c_X13_is hX hM (by omega) _) hX k13_127 (Or.inl ⟨_, _, _, _, (hM.t_m), by decide, rfl⟩) (by omega) (Nat.le_of_ble_eq_true rfl) dX13_isValue_3 rfl ?_
  rintro _ _ _ _ ⟨rfl, rfl, rfl, rfl⟩
  rw [k0, if_neg (fun e => absurd ((kc_41 _ hk.1 hk.2).mp e) (by omega))]
  refine T_if_eq_t 39 dX13_isValue_6 (by decide) rfl ?_
  refine T_aload0 dX13_isValue_39 rfl ?_
  refine g13_17 _ rfl (hM.t_m) (hM.g_kd) dX13_isValue_40 rfl ?_
  refine T_aload0 dX13_isValue_43 rfl ?_
  refine g13_124 _ rfl (hM.t_m) (hM.g_tk) dX13_isValue_44 rfl ?_
  refine T_iald _ (hM.t_kd) rfl (by omega) (by decide) dX13_isValue_47 rfl (hM.g_vkd (by omega)) ?_
  refine T_bipush (16) dX13_isValue_48 rfl rfl ?_
  refine T_bipush (19) dX13_isValue_50 rfl rfl ?_
  refine T_cS3 (c_X13_isIn hX _ _ _) hX k13_63 (by omega) (Nat.le_of_ble_eq_true rfl) dX13_isValue_52 rfl ?_
  rintro _ _ _ _ ⟨rfl, rfl, rfl, rfl⟩
  rw [k0, kc_in _ hk.1, if_neg (by omega)]
  refine T_if_eq_t 83 dX13_isValue_55 (by decide) rfl ?_
  refine T_aload0 dX13_isValue_83 rfl ?_
  refine g13_17 _ rfl (hM.t_m) (hM.g_kd) dX13_isValue_84 rfl ?_
  refine T_aload0 dX13_isValue_87 rfl ?_
  refine g13_124 _ rfl (hM.t_m) (hM.g_tk) dX13_isValue_88 rfl ?_
  refine T_iald _ (hM.t_kd) rfl (by omega) (by decide) dX13_isValue_91 rfl (hM.g_vkd (by omega)) ?_
  refine T_cS1 (c_X13_isOf hX _) hX k13_73 (by omega) (Nat.le_of_ble_eq_true rfl) dX13_isValue_92 rfl ?_
  rintro _ _ _ _ ⟨rfl, rfl, rfl, rfl⟩
  rw [k0, kc_of _ hk.1 hk.2, if_pos (by omega)]
  refine T_if_eq_f 127 98 dX13_isValue_95 (by decide) rfl (by decide) ?_
  refine T_aload0 dX13_isValue_98 rfl ?_
  refine T_aload0 dX13_isValue_99 rfl ?_
  refine T_iconst (3) dX13_isValue_100 rfl rfl ?_
  refine T_cV1 (c_X13_is hX hM (by omega) _) hX k13_127 (Or.inl ⟨_, _, _, _, (hM.t_m), by decide, rfl⟩) (by omega) (Nat.le_of_ble_eq_true rfl) dX13_isValue_101 rfl ?_
  rintro _ _ _ _ ⟨rfl, rfl, rfl, rfl⟩
  rw [k0, if_neg (fun e => absurd ((kc_3 _ hk.1 hk.2).mp e) (by omega))]
  refine T_if_ne_f 116 107 dX13_isValue_104 (by decide) rfl rfl ?_
  refine T_aload0 dX13_isValue_107 rfl ?_
  refine T_bipush (22) dX13_isValue_108 rfl rfl ?_
  refine T_cV1 (c_X13_is hX hM (by omega) _) hX k13_127 (Or.inl ⟨_, _, _, _, (hM.t_m), by decide, rfl⟩) (by omega) (Nat.le_of_ble_eq_true rfl) dX13_isValue_110 rfl ?_
  rintro _ _ _ _ ⟨rfl, rfl, rfl, rfl⟩
  rw [k0, if_neg (fun e => absurd ((kc_22 _ hk.1 hk.2).mp e) (by omega))]
  refine T_if_eq_t 121 dX13_isValue_113 (by decide) rfl ?_
  refine T_bipush (17) dX13_isValue_121 rfl rfl ?_
  refine T_cV1 (c_X13_isNamed hX hM (by omega) hV hmz (by omega) (by omega) (by omega) _) hX k13_222 (Or.inl ⟨_, _, _, _, (hM.t_m), by decide, rfl⟩) (by omega) (Nat.le_of_ble_eq_true rfl) dX13_isValue_123 rfl ?_
  rintro _ _ _ M8 ⟨rfl, rfl, rfl, hM, hV, hF9⟩
  rw [k1, if_pos ((kc_40 _ hk1.1 hk1.2).mpr h43)]
  rw [k1, if_pos ((kc_40 _ hk1.1 hk1.2).mpr h43)] at hM
  have hF := hF.tr (show FMZ m z _ _ from hF9)
  refine T_iret rfl rfl dX13_isValue_126 ?_
  have hwd : wdF (K s.1) = 2 := by unfold wdF; rw [if_pos (by omega)]
  have hnm : nmB (K s.1) = true := (show ∀ o, o < 48 → (o = 20 ∨ o = 21 ∨ o = 6) ∨ (o = 3 ∨ o = 22) → nmB o = true from by decide +kernel) _ hk.1 (by omega)
  have hmk : nI (kkF (K s.1)) = nI (mkF (K s.1)) := (show ∀ o, o < 48 → (o = 20 ∨ o = 21 ∨ o = 6) ∨ (o = 3 ∨ o = 22) → nI (kkF o) = nI (mkF o) from by decide +kernel) _ hk.1 (by omega)
  have e1 : psF (u1 s.2.2.1 s.2.1 (K s.1)) (s.2.1 + 1) = psF s.2.2.1 s.2.1 + 1 + 1 := by rw [psF_u, hwd]
  have e2 : cnF (u1 s.2.2.1 s.2.1 (K s.1)) (s.2.1 + 1) = cnF s.2.2.1 s.2.1 + 1 := by rw [cnF_u, hnm]; rfl
  refine ⟨⟨rfl, MQQ.t rfl ⟨_, _, hM, (by rw [← e1, ← e2] at hV; exact hV), fun f i h1 => by rw [u2_f h1]; exact hω f i h1, fun i hi => ?_, fun f i h1 h2 => ?_, (show GPw _ (stp s (K s.1) (nI (s.1 + 1))) from GPw.st hG (fun i hi => ?_) (fun i hi => ?_) ?_ (fun z => ?_) (fun z => ?_)), ?_, ?_, fun i hi => ?_⟩⟩, rfl, rfl, hF⟩
  · show u2 ω 83 (s.1 + 1) 17 83 i = uI s.2.2.2.2 (s.1 + 1) 17 i
    by_cases e : i = s.1 + 1
    · subst e; rw [u2_s, uI_s]
    · rw [u2_i e, uI_i e]; exact hrl i hi
  · rw [u2_f h1, u2_f h2, u2_f h1]; exact hw f i h1 h2
  · rw [u2_i (by omega), u2_f (by decide), u2_i (by omega)]
  · rw [u2_f (by decide), u2_i (by omega), u2_f (by decide)]
  · rw [u2_i (by omega), u2_f (by decide), u2_s, k0, hmk]
  · rw [u2_s]
  · rw [u2_f (by decide), u2_s]
  · show s.2.1 + 1 + ez ≤ s.1 + 1 + 1; omega
  · show s.1 + 2 ≤ lt
    have h9 : ¬ s.1 + 1 = lt := fun e => by have h9 := hTK.1.2; rw [← e] at h9; omega
    omega
  · show uI s.2.2.2.2 (s.1 + 1) 17 i = 0
    have h9 : s.1 + 2 ≤ i := hi
    rw [uI_i (by omega)]; exact hz i (by omega)
set_option maxHeartbeats 1000000 in
theorem gm_hrf {l : Launch} {D : va_G} {cA : Nat → ClassId} {n0 : Nat} {sg adK adV : Nat → Nat} {sgA smA wdA bS LS : Nat} {xs : Nat → Int32} (hX : SF n0 (XW0 sg adK adV sgA smA wdA n0 bS LS xs)) {m y z s1 s2 n8 hr wr lt : Nat} {B : Nat → Nat} {K : Nat → Nat} {S : Nat → Int32} {V : Nat → Int64} {ω0 w0 : RH} (hTK : TKF B lt K S V ω0) (hmz : m + 7 ≤ z ∨ z + 19 ≤ m) {d : Nat} {s : PS} (hd : d ≤ 8) (hq : K s.1 = 20 ∨ K s.1 = 21 ∨ K s.1 = 6) (h43 : ¬ K (s.1 + 1) = 43) {sz : Nat} {τ : TY} {M : ME} {ez : Nat} (hQ : MPl τ M m y z s1 s2 n8 B ω0 w0 hr wr lt (ez) (d) (s)) : CT l D cA n0 (XW0 sg adK adV sgA smA wdA n0 bS LS xs) mX13_isValue (10 * (9 - d) + 3) 0 0 sz τ M [.ref m] (fun v' sz' τ' M' => (v' = some (.int (if ((false, adv s 1)).1 = true then 1 else 0)) ∧ MQQ τ M' m y z s1 s2 n8 B ω0 w0 hr wr lt (ez) (d) ((false, adv s 1))) ∧ sz' = sz ∧ τ' = τ ∧ FMZ m z M M') := by
  refine CT.of (ls := [.ref m, UU, UU]) (by decide) (Nat.le_of_ble_eq_true rfl) rfl ?_
  obtain ⟨ω, w, hM, hV, hω, hrl, hw, hG, hn, ht, hz⟩ := hQ
  have k0 : ω 80 s.1 = nI (kkF (K s.1)) := by rw [hω 80 _ (by decide)]; exact (hTK.2.1 s.1 ht).1
  have hk := (hTK.2.1 s.1 ht).2.1
  have hl := hTK.1.1
  have hps := (ps_le (σ := s.2.2.1) s.2.1).1
  have hcn := cnF_le (σ := s.2.2.1) s.2.1
  have hF : FMZ m z M M := FMZ.rf _ _ _
  have hlt : s.1 < lt := Nat.lt_of_le_of_ne ht (fun e => by have h9 := hTK.1.2; rw [← e] at h9; omega)
  have k1 : ω 80 (s.1 + 1) = nI (kkF (K (s.1 + 1))) := by rw [hω 80 _ (by decide)]; exact (hTK.2.1 (s.1 + 1) hlt).1
  have hk1 := (hTK.2.1 (s.1 + 1) hlt).2.1
  refine T_aload0 dX13_isValue_0 rfl ?_
  refine T_bipush (41) dX13_isValue_1 rfl rfl ?_
  refine T_cV1 (c_X13_is hX hM (by omega) _) hX k13_127 (Or.inl ⟨_, _, _, _, (hM.t_m), by decide, rfl⟩) (by omega) (Nat.le_of_ble_eq_true rfl) dX13_isValue_3 rfl ?_
  rintro _ _ _ _ ⟨rfl, rfl, rfl, rfl⟩
  rw [k0, if_neg (fun e => absurd ((kc_41 _ hk.1 hk.2).mp e) (by omega))]
  refine T_if_eq_t 39 dX13_isValue_6 (by decide) rfl ?_
  refine T_aload0 dX13_isValue_39 rfl ?_
  refine g13_17 _ rfl (hM.t_m) (hM.g_kd) dX13_isValue_40 rfl ?_
  refine T_aload0 dX13_isValue_43 rfl ?_
  refine g13_124 _ rfl (hM.t_m) (hM.g_tk) dX13_isValue_44 rfl ?_
  refine T_iald _ (hM.t_kd) rfl (by omega) (by decide) dX13_isValue_47 rfl (hM.g_vkd (by omega)) ?_
  refine T_bipush (16) dX13_isValue_48 rfl rfl ?_
  refine T_bipush (19) dX13_isValue_50 rfl rfl ?_
  refine T_cS3 (c_X13_isIn hX _ _ _) hX k13_63 (by omega) (Nat.le_of_ble_eq_true rfl) dX13_isValue_52 rfl ?_
  rintro _ _ _ _ ⟨rfl, rfl, rfl, rfl⟩
  rw [k0, kc_in _ hk.1, if_neg (by omega)]
  refine T_if_eq_t 83 dX13_isValue_55 (by decide) rfl ?_
  refine T_aload0 dX13_isValue_83 rfl ?_
  refine g13_17 _ rfl (hM.t_m) (hM.g_kd) dX13_isValue_84 rfl ?_
  refine T_aload0 dX13_isValue_87 rfl ?_
  refine g13_124 _ rfl (hM.t_m) (hM.g_tk) dX13_isValue_88 rfl ?_
  refine T_iald _ (hM.t_kd) rfl (by omega) (by decide) dX13_isValue_91 rfl (hM.g_vkd (by omega)) ?_
  refine T_cS1 (c_X13_isOf hX _) hX k13_73 (by omega) (Nat.le_of_ble_eq_true rfl) dX13_isValue_92 rfl ?_
  rintro _ _ _ _ ⟨rfl, rfl, rfl, rfl⟩
  rw [k0, kc_of _ hk.1 hk.2, if_pos (by omega)]
  refine T_if_eq_f 127 98 dX13_isValue_95 (by decide) rfl (by decide) ?_
  refine T_aload0 dX13_isValue_98 rfl ?_
  refine T_aload0 dX13_isValue_99 rfl ?_
  refine T_iconst (3) dX13_isValue_100 rfl rfl ?_
  refine T_cV1 (c_X13_is hX hM (by omega) _) hX k13_127 (Or.inl ⟨_, _, _, _, (hM.t_m), by decide, rfl⟩) (by omega) (Nat.le_of_ble_eq_true rfl) dX13_isValue_101 rfl ?_
  rintro _ _ _ _ ⟨rfl, rfl, rfl, rfl⟩
  rw [k0, if_neg (fun e => absurd ((kc_3 _ hk.1 hk.2).mp e) (by omega))]
  refine T_if_ne_f 116 107 dX13_isValue_104 (by decide) rfl rfl ?_
  refine T_aload0 dX13_isValue_107 rfl ?_
  refine T_bipush (22) dX13_isValue_108 rfl rfl ?_
  refine T_cV1 (c_X13_is hX hM (by omega) _) hX k13_127 (Or.inl ⟨_, _, _, _, (hM.t_m), by decide, rfl⟩) (by omega) (Nat.le_of_ble_eq_true rfl) dX13_isValue_110 rfl ?_
  rintro _ _ _ _ ⟨rfl, rfl, rfl, rfl⟩
  rw [k0, if_neg (fun e => absurd ((kc_22 _ hk.1 hk.2).mp e) (by omega))]
  refine T_if_eq_t 121 dX13_isValue_113 (by decide) rfl ?_
  refine T_bipush (17) dX13_isValue_121 rfl rfl ?_
  refine T_cV1 (c_X13_isNamed hX hM (by omega) hV hmz (by omega) (by omega) (by omega) _) hX k13_222 (Or.inl ⟨_, _, _, _, (hM.t_m), by decide, rfl⟩) (by omega) (Nat.le_of_ble_eq_true rfl) dX13_isValue_123 rfl ?_
  rintro _ _ _ M8 ⟨rfl, rfl, rfl, hM, hV, hF9⟩
  rw [k1, if_neg (fun e => h43 ((kc_40 _ hk1.1 hk1.2).mp e))]
  rw [k1, if_neg (fun e => h43 ((kc_40 _ hk1.1 hk1.2).mp e))] at hM
  have hF := hF.tr (show FMZ m z _ _ from hF9)
  refine T_iret rfl rfl dX13_isValue_126 ?_
  exact ⟨⟨rfl, MQQ.f (q := (false, adv s 1)) (by simp) ⟨hlt, _, _, _, _, _, _, _, _, _, _, _, _, hM, hV, fun f i h1 => by rw [u2_f h1]; exact hω f i h1⟩⟩, rfl, rfl, hF⟩
set_option maxHeartbeats 1000000 in
theorem gm_str {l : Launch} {D : va_G} {cA : Nat → ClassId} {n0 : Nat} {sg adK adV : Nat → Nat} {sgA smA wdA bS LS : Nat} {xs : Nat → Int32} (hX : SF n0 (XW0 sg adK adV sgA smA wdA n0 bS LS xs)) {m y z s1 s2 n8 hr wr lt : Nat} {B : Nat → Nat} {K : Nat → Nat} {S : Nat → Int32} {V : Nat → Int64} {ω0 w0 : RH} (hTK : TKF B lt K S V ω0) (hmz : m + 7 ≤ z ∨ z + 19 ≤ m) {d : Nat} {s : PS} (hd : d ≤ 8) (hq : K s.1 = 3 ∨ K s.1 = 22) (h43 : K (s.1 + 1) = 43) {sz : Nat} {τ : TY} {M : ME} {ez : Nat} (hQ : MPl τ M m y z s1 s2 n8 B ω0 w0 hr wr lt (ez) (d) (s)) : CT l D cA n0 (XW0 sg adK adV sgA smA wdA n0 bS LS xs) mX13_isValue (10 * (9 - d) + 3) 0 0 sz τ M [.ref m] (fun v' sz' τ' M' => (v' = some (.int (if ((true, adv (rol (stp s (K s.1) (nI (s.1 + 1))) (s.1 + 1) 18) 2)).1 = true then 1 else 0)) ∧ MQQ τ M' m y z s1 s2 n8 B ω0 w0 hr wr lt (ez) (d) ((true, adv (rol (stp s (K s.1) (nI (s.1 + 1))) (s.1 + 1) 18) 2))) ∧ sz' = sz ∧ τ' = τ ∧ FMZ m z M M') := by
  refine CT.of (ls := [.ref m, UU, UU]) (by decide) (Nat.le_of_ble_eq_true rfl) rfl ?_
  obtain ⟨ω, w, hM, hV, hω, hrl, hw, hG, hn, ht, hz⟩ := hQ
  have k0 : ω 80 s.1 = nI (kkF (K s.1)) := by rw [hω 80 _ (by decide)]; exact (hTK.2.1 s.1 ht).1
  have hk := (hTK.2.1 s.1 ht).2.1
  have hl := hTK.1.1
  have hps := (ps_le (σ := s.2.2.1) s.2.1).1
  have hcn := cnF_le (σ := s.2.2.1) s.2.1
  have hF : FMZ m z M M := FMZ.rf _ _ _
  have hlt : s.1 < lt := Nat.lt_of_le_of_ne ht (fun e => by have h9 := hTK.1.2; rw [← e] at h9; omega)
  have k1 : ω 80 (s.1 + 1) = nI (kkF (K (s.1 + 1))) := by rw [hω 80 _ (by decide)]; exact (hTK.2.1 (s.1 + 1) hlt).1
  have hk1 := (hTK.2.1 (s.1 + 1) hlt).2.1
  refine T_aload0 dX13_isValue_0 rfl ?_
  refine T_bipush (41) dX13_isValue_1 rfl rfl ?_
  refine T_cV1 (c_X13_is hX hM (by omega) _) hX k13_127 (Or.inl ⟨_, _, _, _, (hM.t_m), by decide, rfl⟩) (by omega) (Nat.le_of_ble_eq_true rfl) dX13_isValue_3 rfl ?_
  rintro _ _ _ _ ⟨rfl, rfl, rfl, rfl⟩
  rw [k0, if_neg (fun e => absurd ((kc_41 _ hk.1 hk.2).mp e) (by omega))]
  refine T_if_eq_t 39 dX13_isValue_6 (by decide) rfl ?_
  refine T_aload0 dX13_isValue_39 rfl ?_
  refine g13_17 _ rfl (hM.t_m) (hM.g_kd) dX13_isValue_40 rfl ?_
  refine T_aload0 dX13_isValue_43 rfl ?_
  refine g13_124 _ rfl (hM.t_m) (hM.g_tk) dX13_isValue_44 rfl ?_
  refine T_iald _ (hM.t_kd) rfl (by omega) (by decide) dX13_isValue_47 rfl (hM.g_vkd (by omega)) ?_
  refine T_bipush (16) dX13_isValue_48 rfl rfl ?_
  refine T_bipush (19) dX13_isValue_50 rfl rfl ?_
  refine T_cS3 (c_X13_isIn hX _ _ _) hX k13_63 (by omega) (Nat.le_of_ble_eq_true rfl) dX13_isValue_52 rfl ?_
  rintro _ _ _ _ ⟨rfl, rfl, rfl, rfl⟩
  rw [k0, kc_in _ hk.1, if_neg (by omega)]
  refine T_if_eq_t 83 dX13_isValue_55 (by decide) rfl ?_
  refine T_aload0 dX13_isValue_83 rfl ?_
  refine g13_17 _ rfl (hM.t_m) (hM.g_kd) dX13_isValue_84 rfl ?_
  refine T_aload0 dX13_isValue_87 rfl ?_
  refine g13_124 _ rfl (hM.t_m) (hM.g_tk) dX13_isValue_88 rfl ?_
  refine T_iald _ (hM.t_kd) rfl (by omega) (by decide) dX13_isValue_91 rfl (hM.g_vkd (by omega)) ?_
  refine T_cS1 (c_X13_isOf hX _) hX k13_73 (by omega) (Nat.le_of_ble_eq_true rfl) dX13_isValue_92 rfl ?_
  rintro _ _ _ _ ⟨rfl, rfl, rfl, rfl⟩
  rw [k0, kc_of _ hk.1 hk.2, if_pos (by omega)]
  refine T_if_eq_f 127 98 dX13_isValue_95 (by decide) rfl (by decide) ?_
  refine T_aload0 dX13_isValue_98 rfl ?_
  refine T_aload0 dX13_isValue_99 rfl ?_
  refine T_iconst (3) dX13_isValue_100 rfl rfl ?_
  refine T_cV1 (c_X13_is hX hM (by omega) _) hX k13_127 (Or.inl ⟨_, _, _, _, (hM.t_m), by decide, rfl⟩) (by omega) (Nat.le_of_ble_eq_true rfl) dX13_isValue_101 rfl ?_
  rintro _ _ _ _ ⟨rfl, rfl, rfl, rfl⟩
  rw [k0]
  refine T_if_ne 116 107 dX13_isValue_104 (by decide) rfl (fun c104 => ?_) (fun c104 => ?_)
  ·
    refine T_bipush (18) dX13_isValue_116 rfl rfl ?_
    refine T_goto 123 dX13_isValue_118 (by decide) ?_
    refine T_cV1 (c_X13_isNamed hX hM (by omega) hV hmz (by omega) (by omega) (by omega) _) hX k13_222 (Or.inl ⟨_, _, _, _, (hM.t_m), by decide, rfl⟩) (by omega) (Nat.le_of_ble_eq_true rfl) dX13_isValue_123 rfl ?_
    rintro _ _ _ M8 ⟨rfl, rfl, rfl, hM, hV, hF9⟩
    rw [k1, if_pos ((kc_40 _ hk1.1 hk1.2).mpr h43)]
    rw [k1, if_pos ((kc_40 _ hk1.1 hk1.2).mpr h43)] at hM
    have hF := hF.tr (show FMZ m z _ _ from hF9)
    refine T_iret rfl rfl dX13_isValue_126 ?_
    have hwd : wdF (K s.1) = 2 := by unfold wdF; rw [if_pos (by omega)]
    have hnm : nmB (K s.1) = true := (show ∀ o, o < 48 → (o = 20 ∨ o = 21 ∨ o = 6) ∨ (o = 3 ∨ o = 22) → nmB o = true from by decide +kernel) _ hk.1 (by omega)
    have hmk : nI (kkF (K s.1)) = nI (mkF (K s.1)) := (show ∀ o, o < 48 → (o = 20 ∨ o = 21 ∨ o = 6) ∨ (o = 3 ∨ o = 22) → nI (kkF o) = nI (mkF o) from by decide +kernel) _ hk.1 (by omega)
    have e1 : psF (u1 s.2.2.1 s.2.1 (K s.1)) (s.2.1 + 1) = psF s.2.2.1 s.2.1 + 1 + 1 := by rw [psF_u, hwd]
    have e2 : cnF (u1 s.2.2.1 s.2.1 (K s.1)) (s.2.1 + 1) = cnF s.2.2.1 s.2.1 + 1 := by rw [cnF_u, hnm]; rfl
    refine ⟨⟨rfl, MQQ.t rfl ⟨_, _, hM, (by rw [← e1, ← e2] at hV; exact hV), fun f i h1 => by rw [u2_f h1]; exact hω f i h1, fun i hi => ?_, fun f i h1 h2 => ?_, (show GPw _ (stp s (K s.1) (nI (s.1 + 1))) from GPw.st hG (fun i hi => ?_) (fun i hi => ?_) ?_ (fun z => ?_) (fun z => ?_)), ?_, ?_, fun i hi => ?_⟩⟩, rfl, rfl, hF⟩
    · show u2 ω 83 (s.1 + 1) 18 83 i = uI s.2.2.2.2 (s.1 + 1) 18 i
      by_cases e : i = s.1 + 1
      · subst e; rw [u2_s, uI_s]
      · rw [u2_i e, uI_i e]; exact hrl i hi
    · rw [u2_f h1, u2_f h2, u2_f h1]; exact hw f i h1 h2
    · rw [u2_i (by omega), u2_f (by decide), u2_i (by omega)]
    · rw [u2_f (by decide), u2_i (by omega), u2_f (by decide)]
    · rw [u2_i (by omega), u2_f (by decide), u2_s, k0, hmk]
    · rw [u2_s]
    · rw [u2_f (by decide), u2_s]
    · show s.2.1 + 1 + ez ≤ s.1 + 1 + 1; omega
    · show s.1 + 2 ≤ lt
      have h9 : ¬ s.1 + 1 = lt := fun e => by have h9 := hTK.1.2; rw [← e] at h9; omega
      omega
    · show uI s.2.2.2.2 (s.1 + 1) 18 i = 0
      have h9 : s.1 + 2 ≤ i := hi
      rw [uI_i (by omega)]; exact hz i (by omega)
  ·
    refine T_aload0 dX13_isValue_107 rfl ?_
    refine T_bipush (22) dX13_isValue_108 rfl rfl ?_
    refine T_cV1 (c_X13_is hX hM (by omega) _) hX k13_127 (Or.inl ⟨_, _, _, _, (hM.t_m), by decide, rfl⟩) (by omega) (Nat.le_of_ble_eq_true rfl) dX13_isValue_110 rfl ?_
    rintro _ _ _ _ ⟨rfl, rfl, rfl, rfl⟩
    rw [k0]
    refine T_if_eq 121 116 dX13_isValue_113 (by decide) rfl (fun c113 => ?_) (fun c113 => ?_)
    ·
      exfalso
      rcases hq with hq | hq
      · exact absurd ((kc_3 _ hk.1 hk.2).mpr hq) (ifz0 c104)
      · exact absurd ((kc_22 _ hk.1 hk.2).mpr hq) (ifz0 c113)
    ·
      refine T_bipush (18) dX13_isValue_116 rfl rfl ?_
      refine T_goto 123 dX13_isValue_118 (by decide) ?_
      refine T_cV1 (c_X13_isNamed hX hM (by omega) hV hmz (by omega) (by omega) (by omega) _) hX k13_222 (Or.inl ⟨_, _, _, _, (hM.t_m), by decide, rfl⟩) (by omega) (Nat.le_of_ble_eq_true rfl) dX13_isValue_123 rfl ?_
      rintro _ _ _ M8 ⟨rfl, rfl, rfl, hM, hV, hF9⟩
      rw [k1, if_pos ((kc_40 _ hk1.1 hk1.2).mpr h43)]
      rw [k1, if_pos ((kc_40 _ hk1.1 hk1.2).mpr h43)] at hM
      have hF := hF.tr (show FMZ m z _ _ from hF9)
      refine T_iret rfl rfl dX13_isValue_126 ?_
      have hwd : wdF (K s.1) = 2 := by unfold wdF; rw [if_pos (by omega)]
      have hnm : nmB (K s.1) = true := (show ∀ o, o < 48 → (o = 20 ∨ o = 21 ∨ o = 6) ∨ (o = 3 ∨ o = 22) → nmB o = true from by decide +kernel) _ hk.1 (by omega)
      have hmk : nI (kkF (K s.1)) = nI (mkF (K s.1)) := (show ∀ o, o < 48 → (o = 20 ∨ o = 21 ∨ o = 6) ∨ (o = 3 ∨ o = 22) → nI (kkF o) = nI (mkF o) from by decide +kernel) _ hk.1 (by omega)
      have e1 : psF (u1 s.2.2.1 s.2.1 (K s.1)) (s.2.1 + 1) = psF s.2.2.1 s.2.1 + 1 + 1 := by rw [psF_u, hwd]
      have e2 : cnF (u1 s.2.2.1 s.2.1 (K s.1)) (s.2.1 + 1) = cnF s.2.2.1 s.2.1 + 1 := by rw [cnF_u, hnm]; rfl
      refine ⟨⟨rfl, MQQ.t rfl ⟨_, _, hM, (by rw [← e1, ← e2] at hV; exact hV), fun f i h1 => by rw [u2_f h1]; exact hω f i h1, fun i hi => ?_, fun f i h1 h2 => ?_, (show GPw _ (stp s (K s.1) (nI (s.1 + 1))) from GPw.st hG (fun i hi => ?_) (fun i hi => ?_) ?_ (fun z => ?_) (fun z => ?_)), ?_, ?_, fun i hi => ?_⟩⟩, rfl, rfl, hF⟩
      · show u2 ω 83 (s.1 + 1) 18 83 i = uI s.2.2.2.2 (s.1 + 1) 18 i
        by_cases e : i = s.1 + 1
        · subst e; rw [u2_s, uI_s]
        · rw [u2_i e, uI_i e]; exact hrl i hi
      · rw [u2_f h1, u2_f h2, u2_f h1]; exact hw f i h1 h2
      · rw [u2_i (by omega), u2_f (by decide), u2_i (by omega)]
      · rw [u2_f (by decide), u2_i (by omega), u2_f (by decide)]
      · rw [u2_i (by omega), u2_f (by decide), u2_s, k0, hmk]
      · rw [u2_s]
      · rw [u2_f (by decide), u2_s]
      · show s.2.1 + 1 + ez ≤ s.1 + 1 + 1; omega
      · show s.1 + 2 ≤ lt
        have h9 : ¬ s.1 + 1 = lt := fun e => by have h9 := hTK.1.2; rw [← e] at h9; omega
        omega
      · show uI s.2.2.2.2 (s.1 + 1) 18 i = 0
        have h9 : s.1 + 2 ≤ i := hi
        rw [uI_i (by omega)]; exact hz i (by omega)
set_option maxHeartbeats 1000000 in
theorem gm_stf {l : Launch} {D : va_G} {cA : Nat → ClassId} {n0 : Nat} {sg adK adV : Nat → Nat} {sgA smA wdA bS LS : Nat} {xs : Nat → Int32} (hX : SF n0 (XW0 sg adK adV sgA smA wdA n0 bS LS xs)) {m y z s1 s2 n8 hr wr lt : Nat} {B : Nat → Nat} {K : Nat → Nat} {S : Nat → Int32} {V : Nat → Int64} {ω0 w0 : RH} (hTK : TKF B lt K S V ω0) (hmz : m + 7 ≤ z ∨ z + 19 ≤ m) {d : Nat} {s : PS} (hd : d ≤ 8) (hq : K s.1 = 3 ∨ K s.1 = 22) (h43 : ¬ K (s.1 + 1) = 43) {sz : Nat} {τ : TY} {M : ME} {ez : Nat} (hQ : MPl τ M m y z s1 s2 n8 B ω0 w0 hr wr lt (ez) (d) (s)) : CT l D cA n0 (XW0 sg adK adV sgA smA wdA n0 bS LS xs) mX13_isValue (10 * (9 - d) + 3) 0 0 sz τ M [.ref m] (fun v' sz' τ' M' => (v' = some (.int (if ((false, adv s 1)).1 = true then 1 else 0)) ∧ MQQ τ M' m y z s1 s2 n8 B ω0 w0 hr wr lt (ez) (d) ((false, adv s 1))) ∧ sz' = sz ∧ τ' = τ ∧ FMZ m z M M') := by
  refine CT.of (ls := [.ref m, UU, UU]) (by decide) (Nat.le_of_ble_eq_true rfl) rfl ?_
  obtain ⟨ω, w, hM, hV, hω, hrl, hw, hG, hn, ht, hz⟩ := hQ
  have k0 : ω 80 s.1 = nI (kkF (K s.1)) := by rw [hω 80 _ (by decide)]; exact (hTK.2.1 s.1 ht).1
  have hk := (hTK.2.1 s.1 ht).2.1
  have hl := hTK.1.1
  have hps := (ps_le (σ := s.2.2.1) s.2.1).1
  have hcn := cnF_le (σ := s.2.2.1) s.2.1
  have hF : FMZ m z M M := FMZ.rf _ _ _
  have hlt : s.1 < lt := Nat.lt_of_le_of_ne ht (fun e => by have h9 := hTK.1.2; rw [← e] at h9; omega)
  have k1 : ω 80 (s.1 + 1) = nI (kkF (K (s.1 + 1))) := by rw [hω 80 _ (by decide)]; exact (hTK.2.1 (s.1 + 1) hlt).1
  have hk1 := (hTK.2.1 (s.1 + 1) hlt).2.1
  refine T_aload0 dX13_isValue_0 rfl ?_
  refine T_bipush (41) dX13_isValue_1 rfl rfl ?_
  refine T_cV1 (c_X13_is hX hM (by omega) _) hX k13_127 (Or.inl ⟨_, _, _, _, (hM.t_m), by decide, rfl⟩) (by omega) (Nat.le_of_ble_eq_true rfl) dX13_isValue_3 rfl ?_
  rintro _ _ _ _ ⟨rfl, rfl, rfl, rfl⟩
  rw [k0, if_neg (fun e => absurd ((kc_41 _ hk.1 hk.2).mp e) (by omega))]
  refine T_if_eq_t 39 dX13_isValue_6 (by decide) rfl ?_
  refine T_aload0 dX13_isValue_39 rfl ?_
  refine g13_17 _ rfl (hM.t_m) (hM.g_kd) dX13_isValue_40 rfl ?_
  refine T_aload0 dX13_isValue_43 rfl ?_
  refine g13_124 _ rfl (hM.t_m) (hM.g_tk) dX13_isValue_44 rfl ?_
  refine T_iald _ (hM.t_kd) rfl (by omega) (by decide) dX13_isValue_47 rfl (hM.g_vkd (by omega)) ?_
  refine T_bipush (16) dX13_isValue_48 rfl rfl ?_
  refine T_bipush (19) dX13_isValue_50 rfl rfl ?_
  refine T_cS3 (c_X13_isIn hX _ _ _) hX k13_63 (by omega) (Nat.le_of_ble_eq_true rfl) dX13_isValue_52 rfl ?_
  rintro _ _ _ _ ⟨rfl, rfl, rfl, rfl⟩
  rw [k0, kc_in _ hk.1, if_neg (by omega)]
  refine T_if_eq_t 83 dX13_isValue_55 (by decide) rfl ?_
  refine T_aload0 dX13_isValue_83 rfl ?_
  refine g13_17 _ rfl (hM.t_m) (hM.g_kd) dX13_isValue_84 rfl ?_
  refine T_aload0 dX13_isValue_87 rfl ?_
  refine g13_124 _ rfl (hM.t_m) (hM.g_tk) dX13_isValue_88 rfl ?_
  refine T_iald _ (hM.t_kd) rfl (by omega) (by decide) dX13_isValue_91 rfl (hM.g_vkd (by omega)) ?_
  refine T_cS1 (c_X13_isOf hX _) hX k13_73 (by omega) (Nat.le_of_ble_eq_true rfl) dX13_isValue_92 rfl ?_
  rintro _ _ _ _ ⟨rfl, rfl, rfl, rfl⟩
  rw [k0, kc_of _ hk.1 hk.2, if_pos (by omega)]
  refine T_if_eq_f 127 98 dX13_isValue_95 (by decide) rfl (by decide) ?_
  refine T_aload0 dX13_isValue_98 rfl ?_
  refine T_aload0 dX13_isValue_99 rfl ?_
  refine T_iconst (3) dX13_isValue_100 rfl rfl ?_
  refine T_cV1 (c_X13_is hX hM (by omega) _) hX k13_127 (Or.inl ⟨_, _, _, _, (hM.t_m), by decide, rfl⟩) (by omega) (Nat.le_of_ble_eq_true rfl) dX13_isValue_101 rfl ?_
  rintro _ _ _ _ ⟨rfl, rfl, rfl, rfl⟩
  rw [k0]
  refine T_if_ne 116 107 dX13_isValue_104 (by decide) rfl (fun c104 => ?_) (fun c104 => ?_)
  ·
    refine T_bipush (18) dX13_isValue_116 rfl rfl ?_
    refine T_goto 123 dX13_isValue_118 (by decide) ?_
    refine T_cV1 (c_X13_isNamed hX hM (by omega) hV hmz (by omega) (by omega) (by omega) _) hX k13_222 (Or.inl ⟨_, _, _, _, (hM.t_m), by decide, rfl⟩) (by omega) (Nat.le_of_ble_eq_true rfl) dX13_isValue_123 rfl ?_
    rintro _ _ _ M8 ⟨rfl, rfl, rfl, hM, hV, hF9⟩
    rw [k1, if_neg (fun e => h43 ((kc_40 _ hk1.1 hk1.2).mp e))]
    rw [k1, if_neg (fun e => h43 ((kc_40 _ hk1.1 hk1.2).mp e))] at hM
    have hF := hF.tr (show FMZ m z _ _ from hF9)
    refine T_iret rfl rfl dX13_isValue_126 ?_
    exact ⟨⟨rfl, MQQ.f (q := (false, adv s 1)) (by simp) ⟨hlt, _, _, _, _, _, _, _, _, _, _, _, _, hM, hV, fun f i h1 => by rw [u2_f h1]; exact hω f i h1⟩⟩, rfl, rfl, hF⟩
  ·
    refine T_aload0 dX13_isValue_107 rfl ?_
    refine T_bipush (22) dX13_isValue_108 rfl rfl ?_
    refine T_cV1 (c_X13_is hX hM (by omega) _) hX k13_127 (Or.inl ⟨_, _, _, _, (hM.t_m), by decide, rfl⟩) (by omega) (Nat.le_of_ble_eq_true rfl) dX13_isValue_110 rfl ?_
    rintro _ _ _ _ ⟨rfl, rfl, rfl, rfl⟩
    rw [k0]
    refine T_if_eq 121 116 dX13_isValue_113 (by decide) rfl (fun c113 => ?_) (fun c113 => ?_)
    ·
      exfalso
      rcases hq with hq | hq
      · exact absurd ((kc_3 _ hk.1 hk.2).mpr hq) (ifz0 c104)
      · exact absurd ((kc_22 _ hk.1 hk.2).mpr hq) (ifz0 c113)
    ·
      refine T_bipush (18) dX13_isValue_116 rfl rfl ?_
      refine T_goto 123 dX13_isValue_118 (by decide) ?_
      refine T_cV1 (c_X13_isNamed hX hM (by omega) hV hmz (by omega) (by omega) (by omega) _) hX k13_222 (Or.inl ⟨_, _, _, _, (hM.t_m), by decide, rfl⟩) (by omega) (Nat.le_of_ble_eq_true rfl) dX13_isValue_123 rfl ?_
      rintro _ _ _ M8 ⟨rfl, rfl, rfl, hM, hV, hF9⟩
      rw [k1, if_neg (fun e => h43 ((kc_40 _ hk1.1 hk1.2).mp e))]
      rw [k1, if_neg (fun e => h43 ((kc_40 _ hk1.1 hk1.2).mp e))] at hM
      have hF := hF.tr (show FMZ m z _ _ from hF9)
      refine T_iret rfl rfl dX13_isValue_126 ?_
      exact ⟨⟨rfl, MQQ.f (q := (false, adv s 1)) (by simp) ⟨hlt, _, _, _, _, _, _, _, _, _, _, _, _, hM, hV, fun f i h1 => by rw [u2_f h1]; exact hω f i h1⟩⟩, rfl, rfl, hF⟩
