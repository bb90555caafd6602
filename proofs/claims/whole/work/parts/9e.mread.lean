/-! the reference's reader: its small methods, exactly -/
theorem nrB {c : Prop} [Decidable c] : narrow FieldType.boolean (.int (if c then 1 else 0)) = .int (if c then 1 else 0) := by split <;> rfl
set_option maxHeartbeats 1000000 in
theorem c_X13_is {l : Launch} {D : va_G} {cA : Nat → ClassId} {n0 : Nat} {sg adK adV : Nat → Nat} {sgA smA wdA bS LS : Nat} {xs : Nat → Int32} (hX : SF n0 (XW0 sg adK adV sgA smA wdA n0 bS LS xs)) {sz : Nat} {τ : TY} {N1 M : ME} {m y z s1 s2 n8 tk dp : Nat} {B : Nat → Nat} {ω : RH} (hM : MV τ N1 M m y z s1 s2 n8 tk dp B ω) (ht : tk ≤ 400) (c : Int32) : CT l D cA n0 (XW0 sg adK adV sgA smA wdA n0 bS LS xs) mX13_is 1 0 0 sz τ M [.ref m, .int c] (ROq (.int (if ω 80 tk = c then 1 else 0)) sz τ M) := by
  refine CT.of (ls := [.ref m, .int c]) (by decide) (Nat.le_of_ble_eq_true rfl) rfl ?_
  refine T_aload0 dX13_is_0 rfl ?_
  refine g13_17 _ rfl (hM.t_m) (hM.g_kd) dX13_is_1 rfl ?_
  refine T_aload0 dX13_is_4 rfl ?_
  refine g13_124 _ rfl (hM.t_m) (hM.g_tk) dX13_is_5 rfl ?_
  refine T_iald _ (hM.t_kd) rfl (by omega) (by decide) dX13_is_8 rfl (hM.g_vkd (by omega)) ?_
  refine T_iload1 dX13_is_9 rfl ?_
  refine T_icmp_ne 17 13 dX13_is_10 (by decide) rfl (fun c10 => ?_) (fun c10 => ?_)
  ·
    refine T_iconst (0) dX13_is_17 rfl rfl ?_
    refine T_iret rfl rfl dX13_is_18 ?_
    first | (rw [if_neg c10]; exact ⟨rfl, rfl, rfl, rfl⟩) | (rw [if_pos (Decidable.not_not.mp c10)]; exact ⟨rfl, rfl, rfl, rfl⟩) | (rw [if_pos c10]; exact ⟨rfl, rfl, rfl, rfl⟩)
  ·
    refine T_iconst (1) dX13_is_13 rfl rfl ?_
    refine T_goto 18 dX13_is_14 (by decide) ?_
    refine T_iret rfl rfl dX13_is_18 ?_
    first | (rw [if_neg c10]; exact ⟨rfl, rfl, rfl, rfl⟩) | (rw [if_pos (Decidable.not_not.mp c10)]; exact ⟨rfl, rfl, rfl, rfl⟩) | (rw [if_pos c10]; exact ⟨rfl, rfl, rfl, rfl⟩)
set_option maxHeartbeats 1000000 in
theorem c_X13_isSign {l : Launch} {D : va_G} {cA : Nat → ClassId} {n0 : Nat} {sg adK adV : Nat → Nat} {sgA smA wdA bS LS : Nat} {xs : Nat → Int32} (hX : SF n0 (XW0 sg adK adV sgA smA wdA n0 bS LS xs)) {sz : Nat} {τ : TY} {N1 M : ME} {m y z s1 s2 n8 tk dp : Nat} {B : Nat → Nat} {ω : RH} (hM : MV τ N1 M m y z s1 s2 n8 tk dp B ω) (ht : tk ≤ 400) (c : Int32) : CT l D cA n0 (XW0 sg adK adV sgA smA wdA n0 bS LS xs) mX13_isSign 1 0 0 sz τ M [.ref m, .int c] (ROq (.int (if ω 80 tk = 50 + c then 1 else 0)) sz τ M) := by
  refine CT.of (ls := [.ref m, .int c]) (by decide) (Nat.le_of_ble_eq_true rfl) rfl ?_
  refine T_aload0 dX13_isSign_0 rfl ?_
  refine g13_17 _ rfl (hM.t_m) (hM.g_kd) dX13_isSign_1 rfl ?_
  refine T_aload0 dX13_isSign_4 rfl ?_
  refine g13_124 _ rfl (hM.t_m) (hM.g_tk) dX13_isSign_5 rfl ?_
  refine T_iald _ (hM.t_kd) rfl (by omega) (by decide) dX13_isSign_8 rfl (hM.g_vkd (by omega)) ?_
  refine T_bipush (50) dX13_isSign_9 rfl rfl ?_
  refine T_iload1 dX13_isSign_11 rfl ?_
  refine T_iadd dX13_isSign_12 rfl ?_
  refine T_icmp_ne 20 16 dX13_isSign_13 (by decide) rfl (fun c10 => ?_) (fun c10 => ?_)
  ·
    refine T_iconst (0) dX13_isSign_20 rfl rfl ?_
    refine T_iret rfl rfl dX13_isSign_21 ?_
    first | (rw [if_neg c10]; exact ⟨rfl, rfl, rfl, rfl⟩) | (rw [if_pos (Decidable.not_not.mp c10)]; exact ⟨rfl, rfl, rfl, rfl⟩) | (rw [if_pos c10]; exact ⟨rfl, rfl, rfl, rfl⟩)
  ·
    refine T_iconst (1) dX13_isSign_16 rfl rfl ?_
    refine T_goto 21 dX13_isSign_17 (by decide) ?_
    refine T_iret rfl rfl dX13_isSign_21 ?_
    first | (rw [if_neg c10]; exact ⟨rfl, rfl, rfl, rfl⟩) | (rw [if_pos (Decidable.not_not.mp c10)]; exact ⟨rfl, rfl, rfl, rfl⟩) | (rw [if_pos c10]; exact ⟨rfl, rfl, rfl, rfl⟩)
set_option maxHeartbeats 1000000 in
theorem c_X13_eat {l : Launch} {D : va_G} {cA : Nat → ClassId} {n0 : Nat} {sg adK adV : Nat → Nat} {sgA smA wdA bS LS : Nat} {xs : Nat → Int32} (hX : SF n0 (XW0 sg adK adV sgA smA wdA n0 bS LS xs)) {sz : Nat} {τ : TY} {N1 M : ME} {m y z s1 s2 n8 tk dp : Nat} {B : Nat → Nat} {ω : RH} (hM : MV τ N1 M m y z s1 s2 n8 tk dp B ω) (ht : tk ≤ 400) (c : Int32) : CT l D cA n0 (XW0 sg adK adV sgA smA wdA n0 bS LS xs) mX13_eat 2 0 0 sz τ M [.ref m, .int c] (MUq (some (.int (if ω 80 tk = c then 1 else 0))) sz τ (fun M' => MV τ M M' m y z s1 s2 n8 (if ω 80 tk = c then tk + 1 else tk) (dp) B (ω))) := by
  refine CT.of (ls := [.ref m, .int c]) (by decide) (Nat.le_of_ble_eq_true rfl) rfl ?_
  have hM := hM.rf
  refine T_aload0 dX13_eat_0 rfl ?_
  refine T_iload1 dX13_eat_1 rfl ?_
  refine T_cV1 (c_X13_is hX hM (by omega) _) hX k13_127 (Or.inl ⟨_, _, _, _, (hM.t_m), by decide, rfl⟩) (by decide) (Nat.le_of_ble_eq_true rfl) dX13_eat_2 rfl ?_
  rintro _ _ _ _ ⟨rfl, rfl, rfl, rfl⟩
  refine T_if_ne 10 8 dX13_eat_5 (by decide) rfl (fun c5 => ?_) (fun c5 => ?_)
  ·
    refine T_aload0 dX13_eat_10 rfl ?_
    refine T_dup dX13_eat_11 rfl rfl ?_
    refine g13_124 _ rfl (hM.t_m) (hM.g_tk) dX13_eat_12 rfl ?_
    refine T_iconst (1) dX13_eat_15 rfl rfl ?_
    refine T_iadd dX13_eat_16 rfl ?_
    refine p13_124 rfl (hM.t_m) dX13_eat_17 rfl ?_
    refine T_nm (fun M1 e1 => ?_)
    have hM := MV.mv (hM.p_tk (n := tk + 1) (nI_1 tk)) e1
    refine T_iconst (1) dX13_eat_20 rfl rfl ?_
    refine T_iret rfl rfl dX13_eat_21 ?_
    by_cases e5 : ω 80 tk = c
    · first | (rw [if_pos e5] at c5; exact absurd c5 (by decide)) | (rw [if_pos e5, if_pos e5]; exact ⟨rfl, rfl, rfl, hM⟩)
    · first | (rw [if_neg e5] at c5; exact absurd rfl c5) | (rw [if_neg e5, if_neg e5]; exact ⟨rfl, rfl, rfl, hM⟩)
  ·
    refine T_iconst (0) dX13_eat_8 rfl rfl ?_
    refine T_iret rfl rfl dX13_eat_9 ?_
    by_cases e5 : ω 80 tk = c
    · first | (rw [if_pos e5] at c5; exact absurd c5 (by decide)) | (rw [if_pos e5, if_pos e5]; exact ⟨rfl, rfl, rfl, hM⟩)
    · first | (rw [if_neg e5] at c5; exact absurd rfl c5) | (rw [if_neg e5, if_neg e5]; exact ⟨rfl, rfl, rfl, hM⟩)
set_option maxHeartbeats 1000000 in
theorem c_X13_eatSign {l : Launch} {D : va_G} {cA : Nat → ClassId} {n0 : Nat} {sg adK adV : Nat → Nat} {sgA smA wdA bS LS : Nat} {xs : Nat → Int32} (hX : SF n0 (XW0 sg adK adV sgA smA wdA n0 bS LS xs)) {sz : Nat} {τ : TY} {N1 M : ME} {m y z s1 s2 n8 tk dp : Nat} {B : Nat → Nat} {ω : RH} (hM : MV τ N1 M m y z s1 s2 n8 tk dp B ω) (ht : tk ≤ 400) (c : Int32) : CT l D cA n0 (XW0 sg adK adV sgA smA wdA n0 bS LS xs) mX13_eatSign 3 0 0 sz τ M [.ref m, .int c] (MUq (some (.int (if ω 80 tk = 50 + c then 1 else 0))) sz τ (fun M' => MV τ M M' m y z s1 s2 n8 (if ω 80 tk = 50 + c then tk + 1 else tk) (dp) B (ω))) := by
  refine CT.of (ls := [.ref m, .int c]) (by decide) (Nat.le_of_ble_eq_true rfl) rfl ?_
  refine T_aload0 dX13_eatSign_0 rfl ?_
  refine T_bipush (50) dX13_eatSign_1 rfl rfl ?_
  refine T_iload1 dX13_eatSign_3 rfl ?_
  refine T_iadd dX13_eatSign_4 rfl ?_
  refine T_cV1 (c_X13_eat hX hM ht _) hX k13_130 (Or.inl ⟨_, _, _, _, (hM.t_m), by decide, rfl⟩) (by decide) (Nat.le_of_ble_eq_true rfl) dX13_eatSign_5 rfl ?_
  rintro _ _ _ M9 ⟨rfl, rfl, rfl, hM9⟩
  refine T_iret rfl nrB dX13_eatSign_8 ?_
  exact ⟨rfl, rfl, rfl, hM9⟩
set_option maxHeartbeats 1000000 in
theorem c_X13_eatAs {l : Launch} {D : va_G} {cA : Nat → ClassId} {n0 : Nat} {sg adK adV : Nat → Nat} {sgA smA wdA bS LS : Nat} {xs : Nat → Int32} (hX : SF n0 (XW0 sg adK adV sgA smA wdA n0 bS LS xs)) {sz : Nat} {τ : TY} {N1 M : ME} {m y z s1 s2 n8 tk dp : Nat} {B : Nat → Nat} {ω : RH} (hM : MV τ N1 M m y z s1 s2 n8 tk dp B ω) (ht : tk ≤ 400) (c x : Int32) : CT l D cA n0 (XW0 sg adK adV sgA smA wdA n0 bS LS xs) mX13_eatAs 3 0 0 sz τ M [.ref m, .int c, .int x] (MUq (some (.int (if ω 80 tk = c then 1 else 0))) sz τ (fun M' => MV τ M M' m y z s1 s2 n8 (if ω 80 tk = c then tk + 1 else tk) (dp) B (u2 ω 83 tk x))) := by
  refine CT.of (ls := [.ref m, .int c, .int x]) (by decide) (Nat.le_of_ble_eq_true rfl) rfl ?_
  have hM := hM.rf
  refine T_aload0 dX13_eatAs_0 rfl ?_
  refine g13_26 _ rfl (hM.t_m) (hM.g_ro) dX13_eatAs_1 rfl ?_
  refine T_aload0 dX13_eatAs_4 rfl ?_
  refine g13_124 _ rfl (hM.t_m) (hM.g_tk) dX13_eatAs_5 rfl ?_
  refine T_iload2 dX13_eatAs_8 rfl ?_
  refine T_iast _ (hM.t_ro) rfl (by omega) (by decide) dX13_eatAs_9 rfl ?_
  refine T_nm (fun M1 e1 => ?_)
  have hM := MV.mv (hM.p_vro (by omega)) e1
  refine T_aload0 dX13_eatAs_10 rfl ?_
  refine T_iload1 dX13_eatAs_11 rfl ?_
  refine T_cV1 (c_X13_eat hX hM ht _) hX k13_130 (Or.inl ⟨_, _, _, _, (hM.t_m), by decide, rfl⟩) (by decide) (Nat.le_of_ble_eq_true rfl) dX13_eatAs_12 rfl ?_
  rintro _ _ _ M9 ⟨rfl, rfl, rfl, hM9⟩
  rw [u2_f (by decide)] at hM9 ⊢
  replace hM9 := hM9.bs hM.frame
  refine T_iret rfl nrB dX13_eatAs_15 ?_
  exact ⟨rfl, rfl, rfl, hM9⟩
set_option maxHeartbeats 1000000 in
theorem c_X13_put {l : Launch} {D : va_G} {cA : Nat → ClassId} {n0 : Nat} {sg adK adV : Nat → Nat} {sgA smA wdA bS LS : Nat} {xs : Nat → Int32} (hX : SF n0 (XW0 sg adK adV sgA smA wdA n0 bS LS xs)) {sz : Nat} {τ : TY} {N1 M : ME} {m y z s1 s2 n8 tk dp : Nat} {B : Nat → Nat} {ω : RH} (hM : MV τ N1 M m y z s1 s2 n8 tk dp B ω) (ht : tk ≤ 400) {N2 : ME} {sa sb sc hc hr wc wr cs os : Nat} {w : RH} (hV : PV τ N2 M z sa sb sc hc hr wc wr cs os w) (hmz : m + 7 ≤ z ∨ z + 19 ≤ m) (hcs : cs < 800) (c : Int32) : CT l D cA n0 (XW0 sg adK adV sgA smA wdA n0 bS LS xs) mX13_put 1 0 0 sz τ M [.ref m, .int c] (MUq none sz τ (fun M' => PV τ M M' z sa sb sc hc (hr) wc (wr) (cs + 1) (os) (u2 w 71 cs c))) := by
  refine CT.of (ls := [.ref m, .int c]) (by decide) (Nat.le_of_ble_eq_true rfl) rfl ?_
  have hV := hV.rf
  refine T_aload0 dX13_put_0 rfl ?_
  refine g13_39 _ rfl (hM.t_m) (hM.g_z) dX13_put_1 rfl ?_
  refine g13_133 _ rfl (hV.t_q) (hV.g_code) dX13_put_4 rfl ?_
  refine T_aload0 dX13_put_7 rfl ?_
  refine g13_39 _ rfl (hM.t_m) (hM.g_z) dX13_put_8 rfl ?_
  refine g13_136 _ rfl (hV.t_q) (hV.g_size) dX13_put_11 rfl ?_
  refine T_iload1 dX13_put_14 rfl ?_
  refine T_iast _ (hV.t_code) rfl (by omega) (by decide) dX13_put_15 rfl ?_
  refine T_nm (fun M1 e1 => ?_)
  have hM := hM.frU e1 (by omega)
  have hV := PV.mv (hV.p_vcode (by omega)) e1
  refine T_aload0 dX13_put_16 rfl ?_
  refine g13_39 _ rfl (hM.t_m) (hM.g_z) dX13_put_17 rfl ?_
  refine T_dup dX13_put_20 rfl rfl ?_
  refine g13_136 _ rfl (hV.t_q) (hV.g_size) dX13_put_21 rfl ?_
  refine T_iconst (1) dX13_put_24 rfl rfl ?_
  refine T_iadd dX13_put_25 rfl ?_
  refine p13_136 rfl (hV.t_q) dX13_put_26 rfl ?_
  refine T_nm (fun M2 e2 => ?_)
  have hM := hM.frU e2 (by omega)
  have hV := PV.mv (hV.p_size (n := cs + 1) (nI_1 cs)) e2
  refine T_vret rfl dX13_put_29 ?_
  exact ⟨rfl, rfl, rfl, hV⟩
set_option maxHeartbeats 1000000 in
theorem c_X13_isDeeper {l : Launch} {D : va_G} {cA : Nat → ClassId} {n0 : Nat} {sg adK adV : Nat → Nat} {sgA smA wdA bS LS : Nat} {xs : Nat → Int32} (hX : SF n0 (XW0 sg adK adV sgA smA wdA n0 bS LS xs)) {sz : Nat} {τ : TY} {N1 M : ME} {m y z s1 s2 n8 tk dp : Nat} {B : Nat → Nat} {ω : RH} (hM : MV τ N1 M m y z s1 s2 n8 tk dp B ω) (ht : tk ≤ 400) (hd : dp ≤ 8) : CT l D cA n0 (XW0 sg adK adV sgA smA wdA n0 bS LS xs) mX13_isDeeper 1 0 0 sz τ M [.ref m] (MUq (some (.int (if dp < 8 then 1 else 0))) sz τ (fun M' => MV τ M M' m y z s1 s2 n8 (if dp < 8 then tk + 1 else tk) (if dp < 8 then dp + 1 else dp) B (ω))) := by
  refine CT.of (ls := [.ref m]) (by decide) (Nat.le_of_ble_eq_true rfl) rfl ?_
  have hM := hM.rf
  refine T_aload0 dX13_isDeeper_0 rfl ?_
  refine g13_198 _ rfl (hM.t_m) (hM.g_dp) dX13_isDeeper_1 rfl ?_
  refine T_bipush (8) dX13_isDeeper_4 rfl rfl ?_
  refine T_icmp_ne 11 9 dX13_isDeeper_6 (by decide) rfl (fun c6 => ?_) (fun c6 => ?_)
  ·
    have c6 : dp < 8 := Nat.lt_of_le_of_ne hd (fun e => c6 (by rw [e]; rfl))
    refine T_aload0 dX13_isDeeper_11 rfl ?_
    refine T_dup dX13_isDeeper_12 rfl rfl ?_
    refine g13_198 _ rfl (hM.t_m) (hM.g_dp) dX13_isDeeper_13 rfl ?_
    refine T_iconst (1) dX13_isDeeper_16 rfl rfl ?_
    refine T_iadd dX13_isDeeper_17 rfl ?_
    refine p13_198 rfl (hM.t_m) dX13_isDeeper_18 rfl ?_
    refine T_nm (fun M1 e1 => ?_)
    have hM := MV.mv (hM.p_dp (n := dp + 1) (nI_1 dp)) e1
    refine T_aload0 dX13_isDeeper_21 rfl ?_
    refine T_dup dX13_isDeeper_22 rfl rfl ?_
    refine g13_124 _ rfl (hM.t_m) (hM.g_tk) dX13_isDeeper_23 rfl ?_
    refine T_iconst (1) dX13_isDeeper_26 rfl rfl ?_
    refine T_iadd dX13_isDeeper_27 rfl ?_
    refine p13_124 rfl (hM.t_m) dX13_isDeeper_28 rfl ?_
    refine T_nm (fun M2 e2 => ?_)
    have hM := MV.mv (hM.p_tk (n := tk + 1) (nI_1 tk)) e2
    refine T_iconst (1) dX13_isDeeper_31 rfl rfl ?_
    refine T_iret rfl rfl dX13_isDeeper_32 ?_
    first | (rw [if_pos c6, if_pos c6, if_pos c6]; exact ⟨rfl, rfl, rfl, hM⟩) | (rw [if_neg c6, if_neg c6, if_neg c6]; exact ⟨rfl, rfl, rfl, hM⟩)
  ·
    have c6 : ¬ dp < 8 := by have h9 := (nI_eq (a := dp) (b := 8) (by omega) (by omega)).mp (by first | exact c6 | exact Decidable.not_not.mp c6); omega
    refine T_iconst (0) dX13_isDeeper_9 rfl rfl ?_
    refine T_iret rfl rfl dX13_isDeeper_10 ?_
    first | (rw [if_pos c6, if_pos c6, if_pos c6]; exact ⟨rfl, rfl, rfl, hM⟩) | (rw [if_neg c6, if_neg c6, if_neg c6]; exact ⟨rfl, rfl, rfl, hM⟩)
set_option maxHeartbeats 1000000 in
theorem c_X13_isNamed {l : Launch} {D : va_G} {cA : Nat → ClassId} {n0 : Nat} {sg adK adV : Nat → Nat} {sgA smA wdA bS LS : Nat} {xs : Nat → Int32} (hX : SF n0 (XW0 sg adK adV sgA smA wdA n0 bS LS xs)) {sz : Nat} {τ : TY} {N1 M : ME} {m y z s1 s2 n8 tk dp : Nat} {B : Nat → Nat} {ω : RH} (hM : MV τ N1 M m y z s1 s2 n8 tk dp B ω) (ht : tk ≤ 400) {N2 : ME} {sa sb sc hc hr wc wr cs os : Nat} {w : RH} (hV : PV τ N2 M z sa sb sc hc hr wc wr cs os w) (hmz : m + 7 ≤ z ∨ z + 19 ≤ m) (ht2 : tk < 400) (hcs : cs + 2 ≤ 800) (hos : os < 400) (x : Int32) : CT l D cA n0 (XW0 sg adK adV sgA smA wdA n0 bS LS xs) mX13_isNamed 4 0 0 sz τ M [.ref m, .int x] (fun v' sz' τ' M' => v' = some (.int (if ω 80 (tk + 1) = 40 then 1 else 0)) ∧ sz' = sz ∧ τ' = τ ∧ MV τ M' M' m y z s1 s2 n8 (if ω 80 (tk + 1) = 40 then tk + 1 + 1 else tk + 1) dp B (u2 ω 83 (tk + 1) x) ∧ PV τ M' M' z sa sb sc hc hr wc wr (cs + 1 + 1) (os + 1) (u2 (u2 (u2 w 71 cs (ω 80 tk)) 72 os (nI (cs + 1))) 71 (cs + 1) (nI (tk + 1))) ∧ (∀ q, ¬ (m ≤ q ∧ q < m + 7) → ¬ (z ≤ q ∧ q < z + 19) → M' q = M q)) := by
  refine CT.of (ls := [.ref m, .int x]) (by decide) (Nat.le_of_ble_eq_true rfl) rfl ?_
  have hM := hM.rf
  have hV := hV.rf
  have hF : ∀ q, ¬ (m ≤ q ∧ q < m + 7) → ¬ (z ≤ q ∧ q < z + 19) → M q = M q := fun _ _ _ => rfl
  refine T_aload0 dX13_isNamed_0 rfl ?_
  refine T_aload0 dX13_isNamed_1 rfl ?_
  refine g13_17 _ rfl (hM.t_m) (hM.g_kd) dX13_isNamed_2 rfl ?_
  refine T_aload0 dX13_isNamed_5 rfl ?_
  refine g13_124 _ rfl (hM.t_m) (hM.g_tk) dX13_isNamed_6 rfl ?_
  refine T_iald _ (hM.t_kd) rfl (by omega) (by decide) dX13_isNamed_9 rfl (hM.g_vkd (by omega)) ?_
  refine T_cV1 (c_X13_put hX hM ht hV hmz (by omega) _) hX k13_191 (Or.inl ⟨_, _, _, _, (hM.t_m), by decide, rfl⟩) (by decide) (Nat.le_of_ble_eq_true rfl) dX13_isNamed_10 rfl ?_
  rintro _ _ _ M9 ⟨rfl, rfl, rfl, hV9⟩
  have hM := (hM.nx hV9.frame (by omega)).rf
  have hF : ∀ q, ¬ (m ≤ q ∧ q < m + 7) → ¬ (z ≤ q ∧ q < z + 19) → M9 q = M q := fun q g1 g2 => (hV9.frame q (by omega)).trans (hF q g1 g2)
  have hV := hV9.rf
  refine T_aload0 dX13_isNamed_13 rfl ?_
  refine T_dup dX13_isNamed_14 rfl rfl ?_
  refine g13_124 _ rfl (hM.t_m) (hM.g_tk) dX13_isNamed_15 rfl ?_
  refine T_iconst (1) dX13_isNamed_18 rfl rfl ?_
  refine T_iadd dX13_isNamed_19 rfl ?_
  refine p13_124 rfl (hM.t_m) dX13_isNamed_20 rfl ?_
  refine T_nm (fun M1 e1 => ?_)
  have hM := MV.mv (hM.p_tk (n := tk + 1) (nI_1 tk)) e1
  have hV := hV.frU e1 (by omega)
  have hF : ∀ q, ¬ (m ≤ q ∧ q < m + 7) → ¬ (z ≤ q ∧ q < z + 19) → M1 q = M q := fun q g1 g2 => (by rw [e1]; exact (up_a (by omega)).trans (hF q g1 g2))
  refine T_aload0 dX13_isNamed_23 rfl ?_
  refine g13_39 _ rfl (hM.t_m) (hM.g_z) dX13_isNamed_24 rfl ?_
  refine g13_201 _ rfl (hV.t_q) (hV.g_open) dX13_isNamed_27 rfl ?_
  refine T_aload0 dX13_isNamed_30 rfl ?_
  refine g13_39 _ rfl (hM.t_m) (hM.g_z) dX13_isNamed_31 rfl ?_
  refine g13_204 _ rfl (hV.t_q) (hV.g_opens) dX13_isNamed_34 rfl ?_
  refine T_aload0 dX13_isNamed_37 rfl ?_
  refine g13_39 _ rfl (hM.t_m) (hM.g_z) dX13_isNamed_38 rfl ?_
  refine g13_136 _ rfl (hV.t_q) (hV.g_size) dX13_isNamed_41 rfl ?_
  refine T_iast _ (hV.t_open) rfl (by omega) (by decide) dX13_isNamed_44 rfl ?_
  refine T_nm (fun M2 e2 => ?_)
  have hM := hM.frU e2 (by omega)
  have hV := PV.mv (hV.p_vopen (by omega)) e2
  have hF : ∀ q, ¬ (m ≤ q ∧ q < m + 7) → ¬ (z ≤ q ∧ q < z + 19) → M2 q = M q := fun q g1 g2 => (by rw [e2]; exact (up_a (by omega)).trans (hF q g1 g2))
  refine T_aload0 dX13_isNamed_45 rfl ?_
  refine g13_39 _ rfl (hM.t_m) (hM.g_z) dX13_isNamed_46 rfl ?_
  refine T_dup dX13_isNamed_49 rfl rfl ?_
  refine g13_204 _ rfl (hV.t_q) (hV.g_opens) dX13_isNamed_50 rfl ?_
  refine T_iconst (1) dX13_isNamed_53 rfl rfl ?_
  refine T_iadd dX13_isNamed_54 rfl ?_
  refine p13_204 rfl (hV.t_q) dX13_isNamed_55 rfl ?_
  refine T_nm (fun M3 e3 => ?_)
  have hM := hM.frU e3 (by omega)
  have hV := PV.mv (hV.p_opens (n := os + 1) (nI_1 os)) e3
  have hF : ∀ q, ¬ (m ≤ q ∧ q < m + 7) → ¬ (z ≤ q ∧ q < z + 19) → M3 q = M q := fun q g1 g2 => (by rw [e3]; exact (up_a (by omega)).trans (hF q g1 g2))
  refine T_aload0 dX13_isNamed_58 rfl ?_
  refine T_aload0 dX13_isNamed_59 rfl ?_
  refine g13_124 _ rfl (hM.t_m) (hM.g_tk) dX13_isNamed_60 rfl ?_
  refine T_cV1 (c_X13_put hX hM (by omega) hV hmz (by omega) _) hX k13_191 (Or.inl ⟨_, _, _, _, (hM.t_m), by decide, rfl⟩) (by decide) (Nat.le_of_ble_eq_true rfl) dX13_isNamed_63 rfl ?_
  rintro _ _ _ M9 ⟨rfl, rfl, rfl, hV9⟩
  have hM := (hM.nx hV9.frame (by omega)).rf
  have hF : ∀ q, ¬ (m ≤ q ∧ q < m + 7) → ¬ (z ≤ q ∧ q < z + 19) → M9 q = M q := fun q g1 g2 => (hV9.frame q (by omega)).trans (hF q g1 g2)
  have hV := hV9.rf
  refine T_aload0 dX13_isNamed_66 rfl ?_
  refine T_bipush (40) dX13_isNamed_67 rfl rfl ?_
  refine T_iload1 dX13_isNamed_69 rfl ?_
  refine T_cV2 (c_X13_eatAs hX hM (by omega) _ _) hX k13_157 (Or.inl ⟨_, _, _, _, (hM.t_m), by decide, rfl⟩) (by decide) (Nat.le_of_ble_eq_true rfl) dX13_isNamed_70 rfl ?_
  rintro _ _ _ M8 ⟨rfl, rfl, rfl, hM9⟩
  have hV := (hV.nx hM9.frame (by omega)).rf
  have hF : ∀ q, ¬ (m ≤ q ∧ q < m + 7) → ¬ (z ≤ q ∧ q < z + 19) → M8 q = M q := fun q g1 g2 => (hM9.frame q (by omega)).trans (hF q g1 g2)
  have hM := hM9.rf
  refine T_iret rfl nrB dX13_isNamed_73 ?_
  exact ⟨rfl, rfl, rfl, hM, hV, hF⟩
