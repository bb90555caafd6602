/-! the reference reads by the rules: products, sums, tests -/
set_option maxHeartbeats 1000000 in
theorem gm_prd {l : Launch} {D : va_G} {cA : Nat → ClassId} {n0 : Nat} {sg adK adV : Nat → Nat} {sgA smA wdA bS LS : Nat} {xs : Nat → Int32} (hX : SF n0 (XW0 sg adK adV sgA smA wdA n0 bS LS xs)) {m y z s1 s2 n8 hr wr lt : Nat} {B : Nat → Nat} {K : Nat → Nat} {S : Nat → Int32} {V : Nat → Int64} {ω0 w0 : RH} (hTK : TKF B lt K S V ω0) (hmz : m + 7 ≤ z ∨ z + 19 ≤ m) {d : Nat} {s : PS} (hd : d ≤ 8) {q q2 : PQ} (hS1 : ∀ (sz : Nat) (τ : TY) (M : ME) (ez : Nat), MPl τ M m y z s1 s2 n8 B ω0 w0 hr wr lt (ez) (d) (s) → CT l D cA n0 (XW0 sg adK adV sgA smA wdA n0 bS LS xs) mX13_isValue (10 * (9 - (d)) + 3) 0 0 sz τ M [.ref m] (fun v' sz' τ' M' => (v' = some (.int (if (q).1 = true then 1 else 0)) ∧ MQQ τ M' m y z s1 s2 n8 B ω0 w0 hr wr lt (ez) (d) (q)) ∧ sz' = sz ∧ τ' = τ ∧ FMZ m z M M')) (hLf : q.1 = false → q2 = q) (hL : q.1 = true → ∀ (sz : Nat) (τ : TY) (M : ME) (ez : Nat) (u : Value), MPl τ M m y z s1 s2 n8 B ω0 w0 hr wr lt (ez) (d) (q.2) → ∀ M0 : ME, FMZ m z M0 M → T l D cA n0 (XW0 sg adK adV sgA smA wdA n0 bS LS xs) mX13_isProduct (10 * (9 - (d)) + 4) 0 0 sz τ M 9 [.ref m, u] [] (fun v' sz' τ' M' => (v' = some (.int (if (q2).1 = true then 1 else 0)) ∧ MQQ τ M' m y z s1 s2 n8 B ω0 w0 hr wr lt (ez) (d) (q2)) ∧ sz' = sz ∧ τ' = τ ∧ FMZ m z M0 M') (fun _ _ _ _ => False)) {sz : Nat} {τ : TY} {M : ME} {ez : Nat} (hQ : MPl τ M m y z s1 s2 n8 B ω0 w0 hr wr lt (ez) (d) (s)) : CT l D cA n0 (XW0 sg adK adV sgA smA wdA n0 bS LS xs) mX13_isProduct (10 * (9 - d) + 4) 0 0 sz τ M [.ref m] (fun v' sz' τ' M' => (v' = some (.int (if (q2).1 = true then 1 else 0)) ∧ MQQ τ M' m y z s1 s2 n8 B ω0 w0 hr wr lt (ez) (d) (q2)) ∧ sz' = sz ∧ τ' = τ ∧ FMZ m z M M') := by
  refine CT.of (ls := [.ref m, UU]) (by decide) (Nat.le_of_ble_eq_true rfl) rfl ?_
  obtain ⟨ω, w, hM, hV, hω, hrl, hw, hG, hn, ht, hz⟩ := hQ
  have k0 : ω 80 s.1 = nI (kkF (K s.1)) := by rw [hω 80 _ (by decide)]; exact (hTK.2.1 s.1 ht).1
  have hk := (hTK.2.1 s.1 ht).2.1
  have hl := hTK.1.1
  have hps := (ps_le (σ := s.2.2.1) s.2.1).1
  have hcn := cnF_le (σ := s.2.2.1) s.2.1
  have hF : FMZ m z M M := FMZ.rf _ _ _
  refine T_aload0 dX13_isProduct_0 rfl ?_
  refine T_cV0 (hS1 _ _ _ (ez) ⟨ω, w, hM.rf, hV.rf, hω, hrl, hw, hG, hn, ht, hz⟩) hX k13_216 (Or.inl ⟨_, _, _, _, (hM.t_m), by decide, rfl⟩) (by omega) (Nat.le_of_ble_eq_true rfl) dX13_isProduct_1 rfl ?_
  rintro _ _ _ M8 ⟨⟨rfl, hQ9⟩, rfl, rfl, hF9⟩
  have hF := hF.tr hF9
  refine T_if_ne 9 7 dX13_isProduct_4 (by decide) rfl (fun c4 => ?_) (fun c4 => ?_)
  ·
    have z9 := ifz1 c4
    
    exact hL z9 _ _ _ _ _ (hQ9.1 z9) _ hF
  ·
    have z9 := ifz0 (by first | exact c4 | exact Decidable.not_not.mp c4)
    refine T_iconst (0) dX13_isProduct_7 rfl rfl ?_
    refine T_iret rfl rfl dX13_isProduct_8 ?_
    obtain rfl := hLf (fls z9)
    exact ⟨⟨by rw [if_neg (show ¬ (q2).1 = true from z9)], MQQ.f (q := q2) z9 (hQ9.2 (fls z9))⟩, rfl, rfl, hF⟩
set_option maxHeartbeats 1000000 in
theorem gm_prl36 {l : Launch} {D : va_G} {cA : Nat → ClassId} {n0 : Nat} {sg adK adV : Nat → Nat} {sgA smA wdA bS LS : Nat} {xs : Nat → Int32} (hX : SF n0 (XW0 sg adK adV sgA smA wdA n0 bS LS xs)) {m y z s1 s2 n8 hr wr lt : Nat} {B : Nat → Nat} {K : Nat → Nat} {S : Nat → Int32} {V : Nat → Int64} {ω0 w0 : RH} (hTK : TKF B lt K S V ω0) (hmz : m + 7 ≤ z ∨ z + 19 ≤ m) {d : Nat} {s : PS} (hd : d ≤ 8) {q q2 : PQ} (hq : K s.1 = 36) (hS1 : ∀ (sz : Nat) (τ : TY) (M : ME) (ez : Nat), MPl τ M m y z s1 s2 n8 B ω0 w0 hr wr lt (ez) (d) (adv s 1) → CT l D cA n0 (XW0 sg adK adV sgA smA wdA n0 bS LS xs) mX13_isValue (10 * (9 - (d)) + 3) 0 0 sz τ M [.ref m] (fun v' sz' τ' M' => (v' = some (.int (if (q).1 = true then 1 else 0)) ∧ MQQ τ M' m y z s1 s2 n8 B ω0 w0 hr wr lt (ez) (d) (q)) ∧ sz' = sz ∧ τ' = τ ∧ FMZ m z M M')) (hLf : q.1 = false → q2 = adQ q (K s.1)) (hL : q.1 = true → ∀ (sz : Nat) (τ : TY) (M : ME) (ez : Nat) (u : Value), MPl τ M m y z s1 s2 n8 B ω0 w0 hr wr lt (ez) (d) (stp q.2 (K s.1) 0) → ∀ M0 : ME, FMZ m z M0 M → T l D cA n0 (XW0 sg adK adV sgA smA wdA n0 bS LS xs) mX13_isProduct (10 * (9 - (d)) + 4) 0 0 sz τ M 9 [.ref m, u] [] (fun v' sz' τ' M' => (v' = some (.int (if (q2).1 = true then 1 else 0)) ∧ MQQ τ M' m y z s1 s2 n8 B ω0 w0 hr wr lt (ez) (d) (q2)) ∧ sz' = sz ∧ τ' = τ ∧ FMZ m z M0 M') (fun _ _ _ _ => False)) {sz : Nat} {τ : TY} {M M0 : ME} {ez : Nat} {u : Value} (hQ : MPl τ M m y z s1 s2 n8 B ω0 w0 hr wr lt (ez) (d) (s)) (hF : FMZ m z M0 M) : T l D cA n0 (XW0 sg adK adV sgA smA wdA n0 bS LS xs) mX13_isProduct (10 * (9 - d) + 4) 0 0 sz τ M 9 [.ref m, u] [] (fun v' sz' τ' M' => (v' = some (.int (if (q2).1 = true then 1 else 0)) ∧ MQQ τ M' m y z s1 s2 n8 B ω0 w0 hr wr lt (ez) (d) (q2)) ∧ sz' = sz ∧ τ' = τ ∧ FMZ m z M0 M') (fun _ _ _ _ => False) := by
  obtain ⟨ω, w, hM, hV, hω, hrl, hw, hG, hn, ht, hz⟩ := hQ
  have k0 : ω 80 s.1 = nI (kkF (K s.1)) := by rw [hω 80 _ (by decide)]; exact (hTK.2.1 s.1 ht).1
  have hk := (hTK.2.1 s.1 ht).2.1
  have hl := hTK.1.1
  have hps := (ps_le (σ := s.2.2.1) s.2.1).1
  have hcn := cnF_le (σ := s.2.2.1) s.2.1
  have hlt : s.1 < lt := Nat.lt_of_le_of_ne ht (fun e => by have h9 := hTK.1.2; rw [← e] at h9; omega)
  refine T_aload0 dX13_isProduct_9 rfl ?_
  refine T_bipush (42) dX13_isProduct_10 rfl rfl ?_
  refine T_cV1 (c_X13_isSign hX hM (by omega) _) hX k13_210 (Or.inl ⟨_, _, _, _, (hM.t_m), by decide, rfl⟩) (by omega) (Nat.le_of_ble_eq_true rfl) dX13_isProduct_12 rfl ?_
  rintro _ _ _ _ ⟨rfl, rfl, rfl, rfl⟩
  rw [k0, show (50 : Int32) + 42 = 92 from by decide, if_pos ((kc_92 _ hk.1 hk.2).mpr hq)]
  refine T_if_ne_t 27 dX13_isProduct_15 (by decide) (by decide) ?_
  refine T_aload0 dX13_isProduct_27 rfl ?_
  refine T_bipush (42) dX13_isProduct_28 rfl rfl ?_
  refine T_cV1 (c_X13_isSign hX hM (by omega) _) hX k13_210 (Or.inl ⟨_, _, _, _, (hM.t_m), by decide, rfl⟩) (by omega) (Nat.le_of_ble_eq_true rfl) dX13_isProduct_30 rfl ?_
  rintro _ _ _ _ ⟨rfl, rfl, rfl, rfl⟩
  rw [k0, show (50 : Int32) + 42 = 92 from by decide, if_pos ((kc_92 _ hk.1 hk.2).mpr hq)]
  refine T_if_eq_f 41 36 dX13_isProduct_33 (by decide) rfl (by decide) ?_
  refine T_bipush (34) dX13_isProduct_36 rfl rfl ?_
  refine T_goto 43 dX13_isProduct_38 (by decide) ?_
  refine T_istore1 rfl (by decide) dX13_isProduct_43 rfl ?_
  refine T_aload0 dX13_isProduct_44 rfl ?_
  refine T_dup dX13_isProduct_45 rfl rfl ?_
  refine g13_124 _ rfl (hM.t_m) (hM.g_tk) dX13_isProduct_46 rfl ?_
  refine T_iconst (1) dX13_isProduct_49 rfl rfl ?_
  refine T_iadd dX13_isProduct_50 rfl ?_
  refine p13_124 rfl (hM.t_m) dX13_isProduct_51 rfl ?_
  refine T_nm (fun M1 e1 => ?_)
  have hM := MV.mv (hM.p_tk (n := s.1 + 1) (nI_1 _)) e1
  have hV := hV.frU e1 (by omega)
  have hF := hF.up e1 (by omega)
  refine T_aload0 dX13_isProduct_54 rfl ?_
  refine T_cV0 (hS1 _ _ _ (ez + 1) ⟨ω, w, hM.rf, hV.rf, hω, hrl, hw, hG, (by show s.2.1 + (ez + 1) ≤ s.1 + 1; omega), hlt, (fun i hi => hz i (Nat.le_trans (Nat.le_succ _) hi))⟩) hX k13_216 (Or.inl ⟨_, _, _, _, (hM.t_m), by decide, rfl⟩) (by omega) (Nat.le_of_ble_eq_true rfl) dX13_isProduct_55 rfl ?_
  rintro _ _ _ M8 ⟨⟨rfl, hQ9⟩, rfl, rfl, hF9⟩
  have hF := hF.tr hF9
  refine T_if_ne 63 61 dX13_isProduct_58 (by decide) rfl (fun c58 => ?_) (fun c58 => ?_)
  ·
    have z9 := ifz1 c58
    obtain ⟨ω, w, hM, hV, hω, hrl, hw, hG, hn, ht, hz⟩ := hQ9.1 z9
    have k0 : ω 80 q.2.1 = nI (kkF (K q.2.1)) := by rw [hω 80 _ (by decide)]; exact (hTK.2.1 q.2.1 ht).1
    have hk := (hTK.2.1 q.2.1 ht).2.1
    have hps := (ps_le (σ := q.2.2.2.1) q.2.2.1).1
    have hcn := cnF_le (σ := q.2.2.2.1) q.2.2.1
    refine T_aload0 dX13_isProduct_63 rfl ?_
    refine T_iload1 dX13_isProduct_64 rfl ?_
    refine T_cV1 (c_X13_put hX hM (by omega) hV hmz (by omega) _) hX k13_191 (Or.inl ⟨_, _, _, _, (hM.t_m), by decide, rfl⟩) (by omega) (Nat.le_of_ble_eq_true rfl) dX13_isProduct_65 rfl ?_
    rintro _ _ _ M9 ⟨rfl, rfl, rfl, hV9⟩
    have hM := (hM.nx hV9.frame (by omega)).rf
    have hF := hF.fz hV9.frame
    have hV := hV9.rf
    refine T_goto 9 dX13_isProduct_68 (by decide) ?_
    have hw1 : wdF (K s.1) = 1 := by rw [hq]; rfl
    have hn1 : nmB (K s.1) = false := by rw [hq]; rfl
    exact hL z9 _ _ _ _ _ (MPl.ad (o := K s.1) hw1 hn1 (by rw [hq]; rfl) hM hV hω hrl hw hG hn ht hz) _ hF
  ·
    have z9 := ifz0 (by first | exact c58 | exact Decidable.not_not.mp c58)
    refine T_iconst (0) dX13_isProduct_61 rfl rfl ?_
    refine T_iret rfl rfl dX13_isProduct_62 ?_
    obtain rfl := hLf (fls z9)
    exact ⟨⟨by rw [if_neg (show ¬ (adQ q (K s.1)).1 = true from z9)], MQQ.f (q := adQ q (K s.1)) z9 (hQ9.2 (fls z9))⟩, rfl, rfl, hF⟩
set_option maxHeartbeats 1000000 in
theorem gm_prl37 {l : Launch} {D : va_G} {cA : Nat → ClassId} {n0 : Nat} {sg adK adV : Nat → Nat} {sgA smA wdA bS LS : Nat} {xs : Nat → Int32} (hX : SF n0 (XW0 sg adK adV sgA smA wdA n0 bS LS xs)) {m y z s1 s2 n8 hr wr lt : Nat} {B : Nat → Nat} {K : Nat → Nat} {S : Nat → Int32} {V : Nat → Int64} {ω0 w0 : RH} (hTK : TKF B lt K S V ω0) (hmz : m + 7 ≤ z ∨ z + 19 ≤ m) {d : Nat} {s : PS} (hd : d ≤ 8) {q q2 : PQ} (hq : K s.1 = 37) (hS1 : ∀ (sz : Nat) (τ : TY) (M : ME) (ez : Nat), MPl τ M m y z s1 s2 n8 B ω0 w0 hr wr lt (ez) (d) (adv s 1) → CT l D cA n0 (XW0 sg adK adV sgA smA wdA n0 bS LS xs) mX13_isValue (10 * (9 - (d)) + 3) 0 0 sz τ M [.ref m] (fun v' sz' τ' M' => (v' = some (.int (if (q).1 = true then 1 else 0)) ∧ MQQ τ M' m y z s1 s2 n8 B ω0 w0 hr wr lt (ez) (d) (q)) ∧ sz' = sz ∧ τ' = τ ∧ FMZ m z M M')) (hLf : q.1 = false → q2 = adQ q (K s.1)) (hL : q.1 = true → ∀ (sz : Nat) (τ : TY) (M : ME) (ez : Nat) (u : Value), MPl τ M m y z s1 s2 n8 B ω0 w0 hr wr lt (ez) (d) (stp q.2 (K s.1) 0) → ∀ M0 : ME, FMZ m z M0 M → T l D cA n0 (XW0 sg adK adV sgA smA wdA n0 bS LS xs) mX13_isProduct (10 * (9 - (d)) + 4) 0 0 sz τ M 9 [.ref m, u] [] (fun v' sz' τ' M' => (v' = some (.int (if (q2).1 = true then 1 else 0)) ∧ MQQ τ M' m y z s1 s2 n8 B ω0 w0 hr wr lt (ez) (d) (q2)) ∧ sz' = sz ∧ τ' = τ ∧ FMZ m z M0 M') (fun _ _ _ _ => False)) {sz : Nat} {τ : TY} {M M0 : ME} {ez : Nat} {u : Value} (hQ : MPl τ M m y z s1 s2 n8 B ω0 w0 hr wr lt (ez) (d) (s)) (hF : FMZ m z M0 M) : T l D cA n0 (XW0 sg adK adV sgA smA wdA n0 bS LS xs) mX13_isProduct (10 * (9 - d) + 4) 0 0 sz τ M 9 [.ref m, u] [] (fun v' sz' τ' M' => (v' = some (.int (if (q2).1 = true then 1 else 0)) ∧ MQQ τ M' m y z s1 s2 n8 B ω0 w0 hr wr lt (ez) (d) (q2)) ∧ sz' = sz ∧ τ' = τ ∧ FMZ m z M0 M') (fun _ _ _ _ => False) := by
  obtain ⟨ω, w, hM, hV, hω, hrl, hw, hG, hn, ht, hz⟩ := hQ
  have k0 : ω 80 s.1 = nI (kkF (K s.1)) := by rw [hω 80 _ (by decide)]; exact (hTK.2.1 s.1 ht).1
  have hk := (hTK.2.1 s.1 ht).2.1
  have hl := hTK.1.1
  have hps := (ps_le (σ := s.2.2.1) s.2.1).1
  have hcn := cnF_le (σ := s.2.2.1) s.2.1
  have hlt : s.1 < lt := Nat.lt_of_le_of_ne ht (fun e => by have h9 := hTK.1.2; rw [← e] at h9; omega)
  refine T_aload0 dX13_isProduct_9 rfl ?_
  refine T_bipush (42) dX13_isProduct_10 rfl rfl ?_
  refine T_cV1 (c_X13_isSign hX hM (by omega) _) hX k13_210 (Or.inl ⟨_, _, _, _, (hM.t_m), by decide, rfl⟩) (by omega) (Nat.le_of_ble_eq_true rfl) dX13_isProduct_12 rfl ?_
  rintro _ _ _ _ ⟨rfl, rfl, rfl, rfl⟩
  rw [k0, show (50 : Int32) + 42 = 92 from by decide, if_neg (fun e => absurd ((kc_92 _ hk.1 hk.2).mp e) (by omega))]
  refine T_if_ne_f 27 18 dX13_isProduct_15 (by decide) rfl rfl ?_
  refine T_aload0 dX13_isProduct_18 rfl ?_
  refine T_bipush (47) dX13_isProduct_19 rfl rfl ?_
  refine T_cV1 (c_X13_isSign hX hM (by omega) _) hX k13_210 (Or.inl ⟨_, _, _, _, (hM.t_m), by decide, rfl⟩) (by omega) (Nat.le_of_ble_eq_true rfl) dX13_isProduct_21 rfl ?_
  rintro _ _ _ _ ⟨rfl, rfl, rfl, rfl⟩
  rw [k0, show (50 : Int32) + 47 = 97 from by decide, if_pos ((kc_97 _ hk.1 hk.2).mpr hq)]
  refine T_if_eq_f 71 27 dX13_isProduct_24 (by decide) rfl (by decide) ?_
  refine T_aload0 dX13_isProduct_27 rfl ?_
  refine T_bipush (42) dX13_isProduct_28 rfl rfl ?_
  refine T_cV1 (c_X13_isSign hX hM (by omega) _) hX k13_210 (Or.inl ⟨_, _, _, _, (hM.t_m), by decide, rfl⟩) (by omega) (Nat.le_of_ble_eq_true rfl) dX13_isProduct_30 rfl ?_
  rintro _ _ _ _ ⟨rfl, rfl, rfl, rfl⟩
  rw [k0, show (50 : Int32) + 42 = 92 from by decide, if_neg (fun e => absurd ((kc_92 _ hk.1 hk.2).mp e) (by omega))]
  refine T_if_eq_t 41 dX13_isProduct_33 (by decide) rfl ?_
  refine T_bipush (35) dX13_isProduct_41 rfl rfl ?_
  refine T_istore1 rfl (by decide) dX13_isProduct_43 rfl ?_
  refine T_aload0 dX13_isProduct_44 rfl ?_
  refine T_dup dX13_isProduct_45 rfl rfl ?_
  refine g13_124 _ rfl (hM.t_m) (hM.g_tk) dX13_isProduct_46 rfl ?_
  refine T_iconst (1) dX13_isProduct_49 rfl rfl ?_
  refine T_iadd dX13_isProduct_50 rfl ?_
  refine p13_124 rfl (hM.t_m) dX13_isProduct_51 rfl ?_
  refine T_nm (fun M1 e1 => ?_)
  have hM := MV.mv (hM.p_tk (n := s.1 + 1) (nI_1 _)) e1
  have hV := hV.frU e1 (by omega)
  have hF := hF.up e1 (by omega)
  refine T_aload0 dX13_isProduct_54 rfl ?_
  refine T_cV0 (hS1 _ _ _ (ez + 1) ⟨ω, w, hM.rf, hV.rf, hω, hrl, hw, hG, (by show s.2.1 + (ez + 1) ≤ s.1 + 1; omega), hlt, (fun i hi => hz i (Nat.le_trans (Nat.le_succ _) hi))⟩) hX k13_216 (Or.inl ⟨_, _, _, _, (hM.t_m), by decide, rfl⟩) (by omega) (Nat.le_of_ble_eq_true rfl) dX13_isProduct_55 rfl ?_
  rintro _ _ _ M8 ⟨⟨rfl, hQ9⟩, rfl, rfl, hF9⟩
  have hF := hF.tr hF9
  refine T_if_ne 63 61 dX13_isProduct_58 (by decide) rfl (fun c58 => ?_) (fun c58 => ?_)
  ·
    have z9 := ifz1 c58
    obtain ⟨ω, w, hM, hV, hω, hrl, hw, hG, hn, ht, hz⟩ := hQ9.1 z9
    have k0 : ω 80 q.2.1 = nI (kkF (K q.2.1)) := by rw [hω 80 _ (by decide)]; exact (hTK.2.1 q.2.1 ht).1
    have hk := (hTK.2.1 q.2.1 ht).2.1
    have hps := (ps_le (σ := q.2.2.2.1) q.2.2.1).1
    have hcn := cnF_le (σ := q.2.2.2.1) q.2.2.1
    refine T_aload0 dX13_isProduct_63 rfl ?_
    refine T_iload1 dX13_isProduct_64 rfl ?_
    refine T_cV1 (c_X13_put hX hM (by omega) hV hmz (by omega) _) hX k13_191 (Or.inl ⟨_, _, _, _, (hM.t_m), by decide, rfl⟩) (by omega) (Nat.le_of_ble_eq_true rfl) dX13_isProduct_65 rfl ?_
    rintro _ _ _ M9 ⟨rfl, rfl, rfl, hV9⟩
    have hM := (hM.nx hV9.frame (by omega)).rf
    have hF := hF.fz hV9.frame
    have hV := hV9.rf
    refine T_goto 9 dX13_isProduct_68 (by decide) ?_
    have hw1 : wdF (K s.1) = 1 := by rw [hq]; rfl
    have hn1 : nmB (K s.1) = false := by rw [hq]; rfl
    exact hL z9 _ _ _ _ _ (MPl.ad (o := K s.1) hw1 hn1 (by rw [hq]; rfl) hM hV hω hrl hw hG hn ht hz) _ hF
  ·
    have z9 := ifz0 (by first | exact c58 | exact Decidable.not_not.mp c58)
    refine T_iconst (0) dX13_isProduct_61 rfl rfl ?_
    refine T_iret rfl rfl dX13_isProduct_62 ?_
    obtain rfl := hLf (fls z9)
    exact ⟨⟨by rw [if_neg (show ¬ (adQ q (K s.1)).1 = true from z9)], MQQ.f (q := adQ q (K s.1)) z9 (hQ9.2 (fls z9))⟩, rfl, rfl, hF⟩
set_option maxHeartbeats 1000000 in
theorem gm_pre {l : Launch} {D : va_G} {cA : Nat → ClassId} {n0 : Nat} {sg adK adV : Nat → Nat} {sgA smA wdA bS LS : Nat} {xs : Nat → Int32} (hX : SF n0 (XW0 sg adK adV sgA smA wdA n0 bS LS xs)) {m y z s1 s2 n8 hr wr lt : Nat} {B : Nat → Nat} {K : Nat → Nat} {S : Nat → Int32} {V : Nat → Int64} {ω0 w0 : RH} (hTK : TKF B lt K S V ω0) (hmz : m + 7 ≤ z ∨ z + 19 ≤ m) {d : Nat} {s : PS} (hd : d ≤ 8) (hq : ¬ (K s.1 = 36 ∨ K s.1 = 37)) {sz : Nat} {τ : TY} {M M0 : ME} {ez : Nat} {u : Value} (hQ : MPl τ M m y z s1 s2 n8 B ω0 w0 hr wr lt (ez) (d) (s)) (hF : FMZ m z M0 M) : T l D cA n0 (XW0 sg adK adV sgA smA wdA n0 bS LS xs) mX13_isProduct (10 * (9 - d) + 4) 0 0 sz τ M 9 [.ref m, u] [] (fun v' sz' τ' M' => (v' = some (.int (if ((true, s)).1 = true then 1 else 0)) ∧ MQQ τ M' m y z s1 s2 n8 B ω0 w0 hr wr lt (ez) (d) ((true, s))) ∧ sz' = sz ∧ τ' = τ ∧ FMZ m z M0 M') (fun _ _ _ _ => False) := by
  obtain ⟨ω, w, hM, hV, hω, hrl, hw, hG, hn, ht, hz⟩ := hQ
  have k0 : ω 80 s.1 = nI (kkF (K s.1)) := by rw [hω 80 _ (by decide)]; exact (hTK.2.1 s.1 ht).1
  have hk := (hTK.2.1 s.1 ht).2.1
  have hl := hTK.1.1
  have hps := (ps_le (σ := s.2.2.1) s.2.1).1
  have hcn := cnF_le (σ := s.2.2.1) s.2.1
  refine T_aload0 dX13_isProduct_9 rfl ?_
  refine T_bipush (42) dX13_isProduct_10 rfl rfl ?_
  refine T_cV1 (c_X13_isSign hX hM (by omega) _) hX k13_210 (Or.inl ⟨_, _, _, _, (hM.t_m), by decide, rfl⟩) (by omega) (Nat.le_of_ble_eq_true rfl) dX13_isProduct_12 rfl ?_
  rintro _ _ _ _ ⟨rfl, rfl, rfl, rfl⟩
  rw [k0, show (50 : Int32) + 42 = 92 from by decide, if_neg (fun e => absurd ((kc_92 _ hk.1 hk.2).mp e) (by omega))]
  refine T_if_ne_f 27 18 dX13_isProduct_15 (by decide) rfl rfl ?_
  refine T_aload0 dX13_isProduct_18 rfl ?_
  refine T_bipush (47) dX13_isProduct_19 rfl rfl ?_
  refine T_cV1 (c_X13_isSign hX hM (by omega) _) hX k13_210 (Or.inl ⟨_, _, _, _, (hM.t_m), by decide, rfl⟩) (by omega) (Nat.le_of_ble_eq_true rfl) dX13_isProduct_21 rfl ?_
  rintro _ _ _ _ ⟨rfl, rfl, rfl, rfl⟩
  rw [k0, show (50 : Int32) + 47 = 97 from by decide, if_neg (fun e => absurd ((kc_97 _ hk.1 hk.2).mp e) (by omega))]
  refine T_if_eq_t 71 dX13_isProduct_24 (by decide) rfl ?_
  refine T_iconst (1) dX13_isProduct_71 rfl rfl ?_
  refine T_iret rfl rfl dX13_isProduct_72 ?_
  exact ⟨⟨rfl, MQQ.t rfl ⟨ω, w, hM.rf, hV.rf, hω, hrl, hw, hG, hn, ht, hz⟩⟩, rfl, rfl, hF⟩
set_option maxHeartbeats 1000000 in
theorem gm_sum {l : Launch} {D : va_G} {cA : Nat → ClassId} {n0 : Nat} {sg adK adV : Nat → Nat} {sgA smA wdA bS LS : Nat} {xs : Nat → Int32} (hX : SF n0 (XW0 sg adK adV sgA smA wdA n0 bS LS xs)) {m y z s1 s2 n8 hr wr lt : Nat} {B : Nat → Nat} {K : Nat → Nat} {S : Nat → Int32} {V : Nat → Int64} {ω0 w0 : RH} (hTK : TKF B lt K S V ω0) (hmz : m + 7 ≤ z ∨ z + 19 ≤ m) {d : Nat} {s : PS} (hd : d ≤ 8) {q q2 : PQ} (hS1 : ∀ (sz : Nat) (τ : TY) (M : ME) (ez : Nat), MPl τ M m y z s1 s2 n8 B ω0 w0 hr wr lt (ez) (d) (s) → CT l D cA n0 (XW0 sg adK adV sgA smA wdA n0 bS LS xs) mX13_isProduct (10 * (9 - (d)) + 4) 0 0 sz τ M [.ref m] (fun v' sz' τ' M' => (v' = some (.int (if (q).1 = true then 1 else 0)) ∧ MQQ τ M' m y z s1 s2 n8 B ω0 w0 hr wr lt (ez) (d) (q)) ∧ sz' = sz ∧ τ' = τ ∧ FMZ m z M M')) (hLf : q.1 = false → q2 = q) (hL : q.1 = true → ∀ (sz : Nat) (τ : TY) (M : ME) (ez : Nat) (u : Value), MPl τ M m y z s1 s2 n8 B ω0 w0 hr wr lt (ez) (d) (q.2) → ∀ M0 : ME, FMZ m z M0 M → T l D cA n0 (XW0 sg adK adV sgA smA wdA n0 bS LS xs) mX13_isSum (10 * (9 - (d)) + 5) 0 0 sz τ M 9 [.ref m, u] [] (fun v' sz' τ' M' => (v' = some (.int (if (q2).1 = true then 1 else 0)) ∧ MQQ τ M' m y z s1 s2 n8 B ω0 w0 hr wr lt (ez) (d) (q2)) ∧ sz' = sz ∧ τ' = τ ∧ FMZ m z M0 M') (fun _ _ _ _ => False)) {sz : Nat} {τ : TY} {M : ME} {ez : Nat} (hQ : MPl τ M m y z s1 s2 n8 B ω0 w0 hr wr lt (ez) (d) (s)) : CT l D cA n0 (XW0 sg adK adV sgA smA wdA n0 bS LS xs) mX13_isSum (10 * (9 - d) + 5) 0 0 sz τ M [.ref m] (fun v' sz' τ' M' => (v' = some (.int (if (q2).1 = true then 1 else 0)) ∧ MQQ τ M' m y z s1 s2 n8 B ω0 w0 hr wr lt (ez) (d) (q2)) ∧ sz' = sz ∧ τ' = τ ∧ FMZ m z M M') := by
  refine CT.of (ls := [.ref m, UU]) (by decide) (Nat.le_of_ble_eq_true rfl) rfl ?_
  obtain ⟨ω, w, hM, hV, hω, hrl, hw, hG, hn, ht, hz⟩ := hQ
  have k0 : ω 80 s.1 = nI (kkF (K s.1)) := by rw [hω 80 _ (by decide)]; exact (hTK.2.1 s.1 ht).1
  have hk := (hTK.2.1 s.1 ht).2.1
  have hl := hTK.1.1
  have hps := (ps_le (σ := s.2.2.1) s.2.1).1
  have hcn := cnF_le (σ := s.2.2.1) s.2.1
  have hF : FMZ m z M M := FMZ.rf _ _ _
  refine T_aload0 dX13_isSum_0 rfl ?_
  refine T_cV0 (hS1 _ _ _ (ez) ⟨ω, w, hM.rf, hV.rf, hω, hrl, hw, hG, hn, ht, hz⟩) hX k13_213 (Or.inl ⟨_, _, _, _, (hM.t_m), by decide, rfl⟩) (by omega) (Nat.le_of_ble_eq_true rfl) dX13_isSum_1 rfl ?_
  rintro _ _ _ M8 ⟨⟨rfl, hQ9⟩, rfl, rfl, hF9⟩
  have hF := hF.tr hF9
  refine T_if_ne 9 7 dX13_isSum_4 (by decide) rfl (fun c4 => ?_) (fun c4 => ?_)
  ·
    have z9 := ifz1 c4
    
    exact hL z9 _ _ _ _ _ (hQ9.1 z9) _ hF
  ·
    have z9 := ifz0 (by first | exact c4 | exact Decidable.not_not.mp c4)
    refine T_iconst (0) dX13_isSum_7 rfl rfl ?_
    refine T_iret rfl rfl dX13_isSum_8 ?_
    obtain rfl := hLf (fls z9)
    exact ⟨⟨by rw [if_neg (show ¬ (q2).1 = true from z9)], MQQ.f (q := q2) z9 (hQ9.2 (fls z9))⟩, rfl, rfl, hF⟩
set_option maxHeartbeats 1000000 in
theorem gm_sul34 {l : Launch} {D : va_G} {cA : Nat → ClassId} {n0 : Nat} {sg adK adV : Nat → Nat} {sgA smA wdA bS LS : Nat} {xs : Nat → Int32} (hX : SF n0 (XW0 sg adK adV sgA smA wdA n0 bS LS xs)) {m y z s1 s2 n8 hr wr lt : Nat} {B : Nat → Nat} {K : Nat → Nat} {S : Nat → Int32} {V : Nat → Int64} {ω0 w0 : RH} (hTK : TKF B lt K S V ω0) (hmz : m + 7 ≤ z ∨ z + 19 ≤ m) {d : Nat} {s : PS} (hd : d ≤ 8) {q q2 : PQ} (hq : K s.1 = 34) (hS1 : ∀ (sz : Nat) (τ : TY) (M : ME) (ez : Nat), MPl τ M m y z s1 s2 n8 B ω0 w0 hr wr lt (ez) (d) (adv s 1) → CT l D cA n0 (XW0 sg adK adV sgA smA wdA n0 bS LS xs) mX13_isProduct (10 * (9 - (d)) + 4) 0 0 sz τ M [.ref m] (fun v' sz' τ' M' => (v' = some (.int (if (q).1 = true then 1 else 0)) ∧ MQQ τ M' m y z s1 s2 n8 B ω0 w0 hr wr lt (ez) (d) (q)) ∧ sz' = sz ∧ τ' = τ ∧ FMZ m z M M')) (hLf : q.1 = false → q2 = adQ q (K s.1)) (hL : q.1 = true → ∀ (sz : Nat) (τ : TY) (M : ME) (ez : Nat) (u : Value), MPl τ M m y z s1 s2 n8 B ω0 w0 hr wr lt (ez) (d) (stp q.2 (K s.1) 0) → ∀ M0 : ME, FMZ m z M0 M → T l D cA n0 (XW0 sg adK adV sgA smA wdA n0 bS LS xs) mX13_isSum (10 * (9 - (d)) + 5) 0 0 sz τ M 9 [.ref m, u] [] (fun v' sz' τ' M' => (v' = some (.int (if (q2).1 = true then 1 else 0)) ∧ MQQ τ M' m y z s1 s2 n8 B ω0 w0 hr wr lt (ez) (d) (q2)) ∧ sz' = sz ∧ τ' = τ ∧ FMZ m z M0 M') (fun _ _ _ _ => False)) {sz : Nat} {τ : TY} {M M0 : ME} {ez : Nat} {u : Value} (hQ : MPl τ M m y z s1 s2 n8 B ω0 w0 hr wr lt (ez) (d) (s)) (hF : FMZ m z M0 M) : T l D cA n0 (XW0 sg adK adV sgA smA wdA n0 bS LS xs) mX13_isSum (10 * (9 - d) + 5) 0 0 sz τ M 9 [.ref m, u] [] (fun v' sz' τ' M' => (v' = some (.int (if (q2).1 = true then 1 else 0)) ∧ MQQ τ M' m y z s1 s2 n8 B ω0 w0 hr wr lt (ez) (d) (q2)) ∧ sz' = sz ∧ τ' = τ ∧ FMZ m z M0 M') (fun _ _ _ _ => False) := by
  obtain ⟨ω, w, hM, hV, hω, hrl, hw, hG, hn, ht, hz⟩ := hQ
  have k0 : ω 80 s.1 = nI (kkF (K s.1)) := by rw [hω 80 _ (by decide)]; exact (hTK.2.1 s.1 ht).1
  have hk := (hTK.2.1 s.1 ht).2.1
  have hl := hTK.1.1
  have hps := (ps_le (σ := s.2.2.1) s.2.1).1
  have hcn := cnF_le (σ := s.2.2.1) s.2.1
  have hlt : s.1 < lt := Nat.lt_of_le_of_ne ht (fun e => by have h9 := hTK.1.2; rw [← e] at h9; omega)
  refine T_aload0 dX13_isSum_9 rfl ?_
  refine T_bipush (43) dX13_isSum_10 rfl rfl ?_
  refine T_cV1 (c_X13_isSign hX hM (by omega) _) hX k13_210 (Or.inl ⟨_, _, _, _, (hM.t_m), by decide, rfl⟩) (by omega) (Nat.le_of_ble_eq_true rfl) dX13_isSum_12 rfl ?_
  rintro _ _ _ _ ⟨rfl, rfl, rfl, rfl⟩
  rw [k0, show (50 : Int32) + 43 = 93 from by decide, if_pos ((kc_93 _ hk.1 hk.2).mpr hq)]
  refine T_if_ne_t 27 dX13_isSum_15 (by decide) (by decide) ?_
  refine T_aload0 dX13_isSum_27 rfl ?_
  refine T_bipush (43) dX13_isSum_28 rfl rfl ?_
  refine T_cV1 (c_X13_isSign hX hM (by omega) _) hX k13_210 (Or.inl ⟨_, _, _, _, (hM.t_m), by decide, rfl⟩) (by omega) (Nat.le_of_ble_eq_true rfl) dX13_isSum_30 rfl ?_
  rintro _ _ _ _ ⟨rfl, rfl, rfl, rfl⟩
  rw [k0, show (50 : Int32) + 43 = 93 from by decide, if_pos ((kc_93 _ hk.1 hk.2).mpr hq)]
  refine T_if_eq_f 41 36 dX13_isSum_33 (by decide) rfl (by decide) ?_
  refine T_bipush (32) dX13_isSum_36 rfl rfl ?_
  refine T_goto 43 dX13_isSum_38 (by decide) ?_
  refine T_istore1 rfl (by decide) dX13_isSum_43 rfl ?_
  refine T_aload0 dX13_isSum_44 rfl ?_
  refine T_dup dX13_isSum_45 rfl rfl ?_
  refine g13_124 _ rfl (hM.t_m) (hM.g_tk) dX13_isSum_46 rfl ?_
  refine T_iconst (1) dX13_isSum_49 rfl rfl ?_
  refine T_iadd dX13_isSum_50 rfl ?_
  refine p13_124 rfl (hM.t_m) dX13_isSum_51 rfl ?_
  refine T_nm (fun M1 e1 => ?_)
  have hM := MV.mv (hM.p_tk (n := s.1 + 1) (nI_1 _)) e1
  have hV := hV.frU e1 (by omega)
  have hF := hF.up e1 (by omega)
  refine T_aload0 dX13_isSum_54 rfl ?_
  refine T_cV0 (hS1 _ _ _ (ez + 1) ⟨ω, w, hM.rf, hV.rf, hω, hrl, hw, hG, (by show s.2.1 + (ez + 1) ≤ s.1 + 1; omega), hlt, (fun i hi => hz i (Nat.le_trans (Nat.le_succ _) hi))⟩) hX k13_213 (Or.inl ⟨_, _, _, _, (hM.t_m), by decide, rfl⟩) (by omega) (Nat.le_of_ble_eq_true rfl) dX13_isSum_55 rfl ?_
  rintro _ _ _ M8 ⟨⟨rfl, hQ9⟩, rfl, rfl, hF9⟩
  have hF := hF.tr hF9
  refine T_if_ne 63 61 dX13_isSum_58 (by decide) rfl (fun c58 => ?_) (fun c58 => ?_)
  ·
    have z9 := ifz1 c58
    obtain ⟨ω, w, hM, hV, hω, hrl, hw, hG, hn, ht, hz⟩ := hQ9.1 z9
    have k0 : ω 80 q.2.1 = nI (kkF (K q.2.1)) := by rw [hω 80 _ (by decide)]; exact (hTK.2.1 q.2.1 ht).1
    have hk := (hTK.2.1 q.2.1 ht).2.1
    have hps := (ps_le (σ := q.2.2.2.1) q.2.2.1).1
    have hcn := cnF_le (σ := q.2.2.2.1) q.2.2.1
    refine T_aload0 dX13_isSum_63 rfl ?_
    refine T_iload1 dX13_isSum_64 rfl ?_
    refine T_cV1 (c_X13_put hX hM (by omega) hV hmz (by omega) _) hX k13_191 (Or.inl ⟨_, _, _, _, (hM.t_m), by decide, rfl⟩) (by omega) (Nat.le_of_ble_eq_true rfl) dX13_isSum_65 rfl ?_
    rintro _ _ _ M9 ⟨rfl, rfl, rfl, hV9⟩
    have hM := (hM.nx hV9.frame (by omega)).rf
    have hF := hF.fz hV9.frame
    have hV := hV9.rf
    refine T_goto 9 dX13_isSum_68 (by decide) ?_
    have hw1 : wdF (K s.1) = 1 := by rw [hq]; rfl
    have hn1 : nmB (K s.1) = false := by rw [hq]; rfl
    exact hL z9 _ _ _ _ _ (MPl.ad (o := K s.1) hw1 hn1 (by rw [hq]; rfl) hM hV hω hrl hw hG hn ht hz) _ hF
  ·
    have z9 := ifz0 (by first | exact c58 | exact Decidable.not_not.mp c58)
    refine T_iconst (0) dX13_isSum_61 rfl rfl ?_
    refine T_iret rfl rfl dX13_isSum_62 ?_
    obtain rfl := hLf (fls z9)
    exact ⟨⟨by rw [if_neg (show ¬ (adQ q (K s.1)).1 = true from z9)], MQQ.f (q := adQ q (K s.1)) z9 (hQ9.2 (fls z9))⟩, rfl, rfl, hF⟩
set_option maxHeartbeats 1000000 in
theorem gm_sul35 {l : Launch} {D : va_G} {cA : Nat → ClassId} {n0 : Nat} {sg adK adV : Nat → Nat} {sgA smA wdA bS LS : Nat} {xs : Nat → Int32} (hX : SF n0 (XW0 sg adK adV sgA smA wdA n0 bS LS xs)) {m y z s1 s2 n8 hr wr lt : Nat} {B : Nat → Nat} {K : Nat → Nat} {S : Nat → Int32} {V : Nat → Int64} {ω0 w0 : RH} (hTK : TKF B lt K S V ω0) (hmz : m + 7 ≤ z ∨ z + 19 ≤ m) {d : Nat} {s : PS} (hd : d ≤ 8) {q q2 : PQ} (hq : K s.1 = 35) (hS1 : ∀ (sz : Nat) (τ : TY) (M : ME) (ez : Nat), MPl τ M m y z s1 s2 n8 B ω0 w0 hr wr lt (ez) (d) (adv s 1) → CT l D cA n0 (XW0 sg adK adV sgA smA wdA n0 bS LS xs) mX13_isProduct (10 * (9 - (d)) + 4) 0 0 sz τ M [.ref m] (fun v' sz' τ' M' => (v' = some (.int (if (q).1 = true then 1 else 0)) ∧ MQQ τ M' m y z s1 s2 n8 B ω0 w0 hr wr lt (ez) (d) (q)) ∧ sz' = sz ∧ τ' = τ ∧ FMZ m z M M')) (hLf : q.1 = false → q2 = adQ q (K s.1)) (hL : q.1 = true → ∀ (sz : Nat) (τ : TY) (M : ME) (ez : Nat) (u : Value), MPl τ M m y z s1 s2 n8 B ω0 w0 hr wr lt (ez) (d) (stp q.2 (K s.1) 0) → ∀ M0 : ME, FMZ m z M0 M → T l D cA n0 (XW0 sg adK adV sgA smA wdA n0 bS LS xs) mX13_isSum (10 * (9 - (d)) + 5) 0 0 sz τ M 9 [.ref m, u] [] (fun v' sz' τ' M' => (v' = some (.int (if (q2).1 = true then 1 else 0)) ∧ MQQ τ M' m y z s1 s2 n8 B ω0 w0 hr wr lt (ez) (d) (q2)) ∧ sz' = sz ∧ τ' = τ ∧ FMZ m z M0 M') (fun _ _ _ _ => False)) {sz : Nat} {τ : TY} {M M0 : ME} {ez : Nat} {u : Value} (hQ : MPl τ M m y z s1 s2 n8 B ω0 w0 hr wr lt (ez) (d) (s)) (hF : FMZ m z M0 M) : T l D cA n0 (XW0 sg adK adV sgA smA wdA n0 bS LS xs) mX13_isSum (10 * (9 - d) + 5) 0 0 sz τ M 9 [.ref m, u] [] (fun v' sz' τ' M' => (v' = some (.int (if (q2).1 = true then 1 else 0)) ∧ MQQ τ M' m y z s1 s2 n8 B ω0 w0 hr wr lt (ez) (d) (q2)) ∧ sz' = sz ∧ τ' = τ ∧ FMZ m z M0 M') (fun _ _ _ _ => False) := by
  obtain ⟨ω, w, hM, hV, hω, hrl, hw, hG, hn, ht, hz⟩ := hQ
  have k0 : ω 80 s.1 = nI (kkF (K s.1)) := by rw [hω 80 _ (by decide)]; exact (hTK.2.1 s.1 ht).1
  have hk := (hTK.2.1 s.1 ht).2.1
  have hl := hTK.1.1
  have hps := (ps_le (σ := s.2.2.1) s.2.1).1
  have hcn := cnF_le (σ := s.2.2.1) s.2.1
  have hlt : s.1 < lt := Nat.lt_of_le_of_ne ht (fun e => by have h9 := hTK.1.2; rw [← e] at h9; omega)
  refine T_aload0 dX13_isSum_9 rfl ?_
  refine T_bipush (43) dX13_isSum_10 rfl rfl ?_
  refine T_cV1 (c_X13_isSign hX hM (by omega) _) hX k13_210 (Or.inl ⟨_, _, _, _, (hM.t_m), by decide, rfl⟩) (by omega) (Nat.le_of_ble_eq_true rfl) dX13_isSum_12 rfl ?_
  rintro _ _ _ _ ⟨rfl, rfl, rfl, rfl⟩
  rw [k0, show (50 : Int32) + 43 = 93 from by decide, if_neg (fun e => absurd ((kc_93 _ hk.1 hk.2).mp e) (by omega))]
  refine T_if_ne_f 27 18 dX13_isSum_15 (by decide) rfl rfl ?_
  refine T_aload0 dX13_isSum_18 rfl ?_
  refine T_bipush (45) dX13_isSum_19 rfl rfl ?_
  refine T_cV1 (c_X13_isSign hX hM (by omega) _) hX k13_210 (Or.inl ⟨_, _, _, _, (hM.t_m), by decide, rfl⟩) (by omega) (Nat.le_of_ble_eq_true rfl) dX13_isSum_21 rfl ?_
  rintro _ _ _ _ ⟨rfl, rfl, rfl, rfl⟩
  rw [k0, show (50 : Int32) + 45 = 95 from by decide, if_pos ((kc_95 _ hk.1 hk.2).mpr hq)]
  refine T_if_eq_f 71 27 dX13_isSum_24 (by decide) rfl (by decide) ?_
  refine T_aload0 dX13_isSum_27 rfl ?_
  refine T_bipush (43) dX13_isSum_28 rfl rfl ?_
  refine T_cV1 (c_X13_isSign hX hM (by omega) _) hX k13_210 (Or.inl ⟨_, _, _, _, (hM.t_m), by decide, rfl⟩) (by omega) (Nat.le_of_ble_eq_true rfl) dX13_isSum_30 rfl ?_
  rintro _ _ _ _ ⟨rfl, rfl, rfl, rfl⟩
  rw [k0, show (50 : Int32) + 43 = 93 from by decide, if_neg (fun e => absurd ((kc_93 _ hk.1 hk.2).mp e) (by omega))]
  refine T_if_eq_t 41 dX13_isSum_33 (by decide) rfl ?_
  refine T_bipush (33) dX13_isSum_41 rfl rfl ?_
  refine T_istore1 rfl (by decide) dX13_isSum_43 rfl ?_
  refine T_aload0 dX13_isSum_44 rfl ?_
  refine T_dup dX13_isSum_45 rfl rfl ?_
  refine g13_124 _ rfl (hM.t_m) (hM.g_tk) dX13_isSum_46 rfl ?_
  refine T_iconst (1) dX13_isSum_49 rfl rfl ?_
  refine T_iadd dX13_isSum_50 rfl ?_
  refine p13_124 rfl (hM.t_m) dX13_isSum_51 rfl ?_
  refine T_nm (fun M1 e1 => ?_)
  have hM := MV.mv (hM.p_tk (n := s.1 + 1) (nI_1 _)) e1
  have hV := hV.frU e1 (by omega)
  have hF := hF.up e1 (by omega)
  refine T_aload0 dX13_isSum_54 rfl ?_
  refine T_cV0 (hS1 _ _ _ (ez + 1) ⟨ω, w, hM.rf, hV.rf, hω, hrl, hw, hG, (by show s.2.1 + (ez + 1) ≤ s.1 + 1; omega), hlt, (fun i hi => hz i (Nat.le_trans (Nat.le_succ _) hi))⟩) hX k13_213 (Or.inl ⟨_, _, _, _, (hM.t_m), by decide, rfl⟩) (by omega) (Nat.le_of_ble_eq_true rfl) dX13_isSum_55 rfl ?_
  rintro _ _ _ M8 ⟨⟨rfl, hQ9⟩, rfl, rfl, hF9⟩
  have hF := hF.tr hF9
  refine T_if_ne 63 61 dX13_isSum_58 (by decide) rfl (fun c58 => ?_) (fun c58 => ?_)
  ·
    have z9 := ifz1 c58
    obtain ⟨ω, w, hM, hV, hω, hrl, hw, hG, hn, ht, hz⟩ := hQ9.1 z9
    have k0 : ω 80 q.2.1 = nI (kkF (K q.2.1)) := by rw [hω 80 _ (by decide)]; exact (hTK.2.1 q.2.1 ht).1
    have hk := (hTK.2.1 q.2.1 ht).2.1
    have hps := (ps_le (σ := q.2.2.2.1) q.2.2.1).1
    have hcn := cnF_le (σ := q.2.2.2.1) q.2.2.1
    refine T_aload0 dX13_isSum_63 rfl ?_
    refine T_iload1 dX13_isSum_64 rfl ?_
    refine T_cV1 (c_X13_put hX hM (by omega) hV hmz (by omega) _) hX k13_191 (Or.inl ⟨_, _, _, _, (hM.t_m), by decide, rfl⟩) (by omega) (Nat.le_of_ble_eq_true rfl) dX13_isSum_65 rfl ?_
    rintro _ _ _ M9 ⟨rfl, rfl, rfl, hV9⟩
    have hM := (hM.nx hV9.frame (by omega)).rf
    have hF := hF.fz hV9.frame
    have hV := hV9.rf
    refine T_goto 9 dX13_isSum_68 (by decide) ?_
    have hw1 : wdF (K s.1) = 1 := by rw [hq]; rfl
    have hn1 : nmB (K s.1) = false := by rw [hq]; rfl
    exact hL z9 _ _ _ _ _ (MPl.ad (o := K s.1) hw1 hn1 (by rw [hq]; rfl) hM hV hω hrl hw hG hn ht hz) _ hF
  ·
    have z9 := ifz0 (by first | exact c58 | exact Decidable.not_not.mp c58)
    refine T_iconst (0) dX13_isSum_61 rfl rfl ?_
    refine T_iret rfl rfl dX13_isSum_62 ?_
    obtain rfl := hLf (fls z9)
    exact ⟨⟨by rw [if_neg (show ¬ (adQ q (K s.1)).1 = true from z9)], MQQ.f (q := adQ q (K s.1)) z9 (hQ9.2 (fls z9))⟩, rfl, rfl, hF⟩
set_option maxHeartbeats 1000000 in
theorem gm_sue {l : Launch} {D : va_G} {cA : Nat → ClassId} {n0 : Nat} {sg adK adV : Nat → Nat} {sgA smA wdA bS LS : Nat} {xs : Nat → Int32} (hX : SF n0 (XW0 sg adK adV sgA smA wdA n0 bS LS xs)) {m y z s1 s2 n8 hr wr lt : Nat} {B : Nat → Nat} {K : Nat → Nat} {S : Nat → Int32} {V : Nat → Int64} {ω0 w0 : RH} (hTK : TKF B lt K S V ω0) (hmz : m + 7 ≤ z ∨ z + 19 ≤ m) {d : Nat} {s : PS} (hd : d ≤ 8) (hq : ¬ (K s.1 = 34 ∨ K s.1 = 35)) {sz : Nat} {τ : TY} {M M0 : ME} {ez : Nat} {u : Value} (hQ : MPl τ M m y z s1 s2 n8 B ω0 w0 hr wr lt (ez) (d) (s)) (hF : FMZ m z M0 M) : T l D cA n0 (XW0 sg adK adV sgA smA wdA n0 bS LS xs) mX13_isSum (10 * (9 - d) + 5) 0 0 sz τ M 9 [.ref m, u] [] (fun v' sz' τ' M' => (v' = some (.int (if ((true, s)).1 = true then 1 else 0)) ∧ MQQ τ M' m y z s1 s2 n8 B ω0 w0 hr wr lt (ez) (d) ((true, s))) ∧ sz' = sz ∧ τ' = τ ∧ FMZ m z M0 M') (fun _ _ _ _ => False) := by
  obtain ⟨ω, w, hM, hV, hω, hrl, hw, hG, hn, ht, hz⟩ := hQ
  have k0 : ω 80 s.1 = nI (kkF (K s.1)) := by rw [hω 80 _ (by decide)]; exact (hTK.2.1 s.1 ht).1
  have hk := (hTK.2.1 s.1 ht).2.1
  have hl := hTK.1.1
  have hps := (ps_le (σ := s.2.2.1) s.2.1).1
  have hcn := cnF_le (σ := s.2.2.1) s.2.1
  refine T_aload0 dX13_isSum_9 rfl ?_
  refine T_bipush (43) dX13_isSum_10 rfl rfl ?_
  refine T_cV1 (c_X13_isSign hX hM (by omega) _) hX k13_210 (Or.inl ⟨_, _, _, _, (hM.t_m), by decide, rfl⟩) (by omega) (Nat.le_of_ble_eq_true rfl) dX13_isSum_12 rfl ?_
  rintro _ _ _ _ ⟨rfl, rfl, rfl, rfl⟩
  rw [k0, show (50 : Int32) + 43 = 93 from by decide, if_neg (fun e => absurd ((kc_93 _ hk.1 hk.2).mp e) (by omega))]
  refine T_if_ne_f 27 18 dX13_isSum_15 (by decide) rfl rfl ?_
  refine T_aload0 dX13_isSum_18 rfl ?_
  refine T_bipush (45) dX13_isSum_19 rfl rfl ?_
  refine T_cV1 (c_X13_isSign hX hM (by omega) _) hX k13_210 (Or.inl ⟨_, _, _, _, (hM.t_m), by decide, rfl⟩) (by omega) (Nat.le_of_ble_eq_true rfl) dX13_isSum_21 rfl ?_
  rintro _ _ _ _ ⟨rfl, rfl, rfl, rfl⟩
  rw [k0, show (50 : Int32) + 45 = 95 from by decide, if_neg (fun e => absurd ((kc_95 _ hk.1 hk.2).mp e) (by omega))]
  refine T_if_eq_t 71 dX13_isSum_24 (by decide) rfl ?_
  refine T_iconst (1) dX13_isSum_71 rfl rfl ?_
  refine T_iret rfl rfl dX13_isSum_72 ?_
  exact ⟨⟨rfl, MQQ.t rfl ⟨ω, w, hM.rf, hV.rf, hω, hrl, hw, hG, hn, ht, hz⟩⟩, rfl, rfl, hF⟩
set_option maxHeartbeats 1000000 in
theorem gm_bth {l : Launch} {D : va_G} {cA : Nat → ClassId} {n0 : Nat} {sg adK adV : Nat → Nat} {sgA smA wdA bS LS : Nat} {xs : Nat → Int32} (hX : SF n0 (XW0 sg adK adV sgA smA wdA n0 bS LS xs)) {m y z s1 s2 n8 hr wr lt : Nat} {B : Nat → Nat} {K : Nat → Nat} {S : Nat → Int32} {V : Nat → Int64} {ω0 w0 : RH} (hTK : TKF B lt K S V ω0) (hmz : m + 7 ≤ z ∨ z + 19 ≤ m) {d : Nat} {s : PS} (hd : d ≤ 8) {q q2 : PQ} (hS1 : ∀ (sz : Nat) (τ : TY) (M : ME) (ez : Nat), MPl τ M m y z s1 s2 n8 B ω0 w0 hr wr lt (ez) (d) (s) → CT l D cA n0 (XW0 sg adK adV sgA smA wdA n0 bS LS xs) mX13_isSingle (10 * (9 - (d)) + 6) 0 0 sz τ M [.ref m] (fun v' sz' τ' M' => (v' = some (.int (if (q).1 = true then 1 else 0)) ∧ MQQ τ M' m y z s1 s2 n8 B ω0 w0 hr wr lt (ez) (d) (q)) ∧ sz' = sz ∧ τ' = τ ∧ FMZ m z M M')) (hLf : q.1 = false → q2 = q) (hL : q.1 = true → ∀ (sz : Nat) (τ : TY) (M : ME) (ez : Nat), MPl τ M m y z s1 s2 n8 B ω0 w0 hr wr lt (ez) (d) (q.2) → ∀ M0 : ME, FMZ m z M0 M → T l D cA n0 (XW0 sg adK adV sgA smA wdA n0 bS LS xs) mX13_isBoth (10 * (9 - (d)) + 7) 0 0 sz τ M 9 [.ref m] [] (fun v' sz' τ' M' => (v' = some (.int (if (q2).1 = true then 1 else 0)) ∧ MQQ τ M' m y z s1 s2 n8 B ω0 w0 hr wr lt (ez) (d) (q2)) ∧ sz' = sz ∧ τ' = τ ∧ FMZ m z M0 M') (fun _ _ _ _ => False)) {sz : Nat} {τ : TY} {M : ME} {ez : Nat} (hQ : MPl τ M m y z s1 s2 n8 B ω0 w0 hr wr lt (ez) (d) (s)) : CT l D cA n0 (XW0 sg adK adV sgA smA wdA n0 bS LS xs) mX13_isBoth (10 * (9 - d) + 7) 0 0 sz τ M [.ref m] (fun v' sz' τ' M' => (v' = some (.int (if (q2).1 = true then 1 else 0)) ∧ MQQ τ M' m y z s1 s2 n8 B ω0 w0 hr wr lt (ez) (d) (q2)) ∧ sz' = sz ∧ τ' = τ ∧ FMZ m z M M') := by
  refine CT.of (ls := [.ref m]) (by decide) (Nat.le_of_ble_eq_true rfl) rfl ?_
  obtain ⟨ω, w, hM, hV, hω, hrl, hw, hG, hn, ht, hz⟩ := hQ
  have k0 : ω 80 s.1 = nI (kkF (K s.1)) := by rw [hω 80 _ (by decide)]; exact (hTK.2.1 s.1 ht).1
  have hk := (hTK.2.1 s.1 ht).2.1
  have hl := hTK.1.1
  have hps := (ps_le (σ := s.2.2.1) s.2.1).1
  have hcn := cnF_le (σ := s.2.2.1) s.2.1
  have hF : FMZ m z M M := FMZ.rf _ _ _
  refine T_aload0 dX13_isBoth_0 rfl ?_
  refine T_cV0 (hS1 _ _ _ (ez) ⟨ω, w, hM.rf, hV.rf, hω, hrl, hw, hG, hn, ht, hz⟩) hX k13_195 (Or.inl ⟨_, _, _, _, (hM.t_m), by decide, rfl⟩) (by omega) (Nat.le_of_ble_eq_true rfl) dX13_isBoth_1 rfl ?_
  rintro _ _ _ M8 ⟨⟨rfl, hQ9⟩, rfl, rfl, hF9⟩
  have hF := hF.tr hF9
  refine T_if_ne 9 7 dX13_isBoth_4 (by decide) rfl (fun c4 => ?_) (fun c4 => ?_)
  ·
    have z9 := ifz1 c4
    
    exact hL z9 _ _ _ _ (hQ9.1 z9) _ hF
  ·
    have z9 := ifz0 (by first | exact c4 | exact Decidable.not_not.mp c4)
    refine T_iconst (0) dX13_isBoth_7 rfl rfl ?_
    refine T_iret rfl rfl dX13_isBoth_8 ?_
    obtain rfl := hLf (fls z9)
    exact ⟨⟨by rw [if_neg (show ¬ (q2).1 = true from z9)], MQQ.f (q := q2) z9 (hQ9.2 (fls z9))⟩, rfl, rfl, hF⟩
set_option maxHeartbeats 1000000 in
theorem gm_btl {l : Launch} {D : va_G} {cA : Nat → ClassId} {n0 : Nat} {sg adK adV : Nat → Nat} {sgA smA wdA bS LS : Nat} {xs : Nat → Int32} (hX : SF n0 (XW0 sg adK adV sgA smA wdA n0 bS LS xs)) {m y z s1 s2 n8 hr wr lt : Nat} {B : Nat → Nat} {K : Nat → Nat} {S : Nat → Int32} {V : Nat → Int64} {ω0 w0 : RH} (hTK : TKF B lt K S V ω0) (hmz : m + 7 ≤ z ∨ z + 19 ≤ m) {d : Nat} {s : PS} (hd : d ≤ 8) {q q2 : PQ} (hq : K s.1 = 24) (hS1 : ∀ (sz : Nat) (τ : TY) (M : ME) (ez : Nat), MPl τ M m y z s1 s2 n8 B ω0 w0 hr wr lt (ez) (d) (adv s 1) → CT l D cA n0 (XW0 sg adK adV sgA smA wdA n0 bS LS xs) mX13_isSingle (10 * (9 - (d)) + 6) 0 0 sz τ M [.ref m] (fun v' sz' τ' M' => (v' = some (.int (if (q).1 = true then 1 else 0)) ∧ MQQ τ M' m y z s1 s2 n8 B ω0 w0 hr wr lt (ez) (d) (q)) ∧ sz' = sz ∧ τ' = τ ∧ FMZ m z M M')) (hLf : q.1 = false → q2 = adQ q 24) (hL : q.1 = true → ∀ (sz : Nat) (τ : TY) (M : ME) (ez : Nat), MPl τ M m y z s1 s2 n8 B ω0 w0 hr wr lt (ez) (d) (stp q.2 24 0) → ∀ M0 : ME, FMZ m z M0 M → T l D cA n0 (XW0 sg adK adV sgA smA wdA n0 bS LS xs) mX13_isBoth (10 * (9 - (d)) + 7) 0 0 sz τ M 9 [.ref m] [] (fun v' sz' τ' M' => (v' = some (.int (if (q2).1 = true then 1 else 0)) ∧ MQQ τ M' m y z s1 s2 n8 B ω0 w0 hr wr lt (ez) (d) (q2)) ∧ sz' = sz ∧ τ' = τ ∧ FMZ m z M0 M') (fun _ _ _ _ => False)) {sz : Nat} {τ : TY} {M M0 : ME} {ez : Nat} (hQ : MPl τ M m y z s1 s2 n8 B ω0 w0 hr wr lt (ez) (d) (s)) (hF : FMZ m z M0 M) : T l D cA n0 (XW0 sg adK adV sgA smA wdA n0 bS LS xs) mX13_isBoth (10 * (9 - d) + 7) 0 0 sz τ M 9 [.ref m] [] (fun v' sz' τ' M' => (v' = some (.int (if (q2).1 = true then 1 else 0)) ∧ MQQ τ M' m y z s1 s2 n8 B ω0 w0 hr wr lt (ez) (d) (q2)) ∧ sz' = sz ∧ τ' = τ ∧ FMZ m z M0 M') (fun _ _ _ _ => False) := by
  obtain ⟨ω, w, hM, hV, hω, hrl, hw, hG, hn, ht, hz⟩ := hQ
  have k0 : ω 80 s.1 = nI (kkF (K s.1)) := by rw [hω 80 _ (by decide)]; exact (hTK.2.1 s.1 ht).1
  have hk := (hTK.2.1 s.1 ht).2.1
  have hl := hTK.1.1
  have hps := (ps_le (σ := s.2.2.1) s.2.1).1
  have hcn := cnF_le (σ := s.2.2.1) s.2.1
  have hlt : s.1 < lt := Nat.lt_of_le_of_ne ht (fun e => by have h9 := hTK.1.2; rw [← e] at h9; omega)
  refine T_aload0 dX13_isBoth_9 rfl ?_
  refine T_bipush (24) dX13_isBoth_10 rfl rfl ?_
  refine T_cV1 (c_X13_eat hX hM (by omega) _) hX k13_130 (Or.inl ⟨_, _, _, _, (hM.t_m), by decide, rfl⟩) (by omega) (Nat.le_of_ble_eq_true rfl) dX13_isBoth_12 rfl ?_
  rintro _ _ _ M9 ⟨rfl, rfl, rfl, hM9⟩
  rw [k0, if_pos ((kc_24 _ hk.1 hk.2).mpr hq)]
  rw [k0, if_pos ((kc_24 _ hk.1 hk.2).mpr hq)] at hM9
  have hV := (hV.nx hM9.frame (by omega)).rf
  have hF := hF.fm hM9.frame
  have hM := hM9.rf
  refine T_if_eq_f 36 18 dX13_isBoth_15 (by decide) rfl (by decide) ?_
  refine T_aload0 dX13_isBoth_18 rfl ?_
  refine T_cV0 (hS1 _ _ _ (ez + 1) ⟨ω, w, hM.rf, hV.rf, hω, hrl, hw, hG, (by show s.2.1 + (ez + 1) ≤ s.1 + 1; omega), hlt, (fun i hi => hz i (Nat.le_trans (Nat.le_succ _) hi))⟩) hX k13_195 (Or.inl ⟨_, _, _, _, (hM.t_m), by decide, rfl⟩) (by omega) (Nat.le_of_ble_eq_true rfl) dX13_isBoth_19 rfl ?_
  rintro _ _ _ M8 ⟨⟨rfl, hQ9⟩, rfl, rfl, hF9⟩
  have hF := hF.tr hF9
  refine T_if_ne 27 25 dX13_isBoth_22 (by decide) rfl (fun c22 => ?_) (fun c22 => ?_)
  ·
    have z9 := ifz1 c22
    obtain ⟨ω, w, hM, hV, hω, hrl, hw, hG, hn, ht, hz⟩ := hQ9.1 z9
    have k0 : ω 80 q.2.1 = nI (kkF (K q.2.1)) := by rw [hω 80 _ (by decide)]; exact (hTK.2.1 q.2.1 ht).1
    have hk := (hTK.2.1 q.2.1 ht).2.1
    have hps := (ps_le (σ := q.2.2.2.1) q.2.2.1).1
    have hcn := cnF_le (σ := q.2.2.2.1) q.2.2.1
    refine T_aload0 dX13_isBoth_27 rfl ?_
    refine T_bipush (24) dX13_isBoth_28 rfl rfl ?_
    refine T_cV1 (c_X13_put hX hM (by omega) hV hmz (by omega) _) hX k13_191 (Or.inl ⟨_, _, _, _, (hM.t_m), by decide, rfl⟩) (by omega) (Nat.le_of_ble_eq_true rfl) dX13_isBoth_30 rfl ?_
    rintro _ _ _ M9 ⟨rfl, rfl, rfl, hV9⟩
    have hM := (hM.nx hV9.frame (by omega)).rf
    have hF := hF.fz hV9.frame
    have hV := hV9.rf
    refine T_goto 9 dX13_isBoth_33 (by decide) ?_
    exact hL z9 _ _ _ _ (MPl.ad (o := 24) rfl rfl rfl hM hV hω hrl hw hG hn ht hz) _ hF
  ·
    have z9 := ifz0 (by first | exact c22 | exact Decidable.not_not.mp c22)
    refine T_iconst (0) dX13_isBoth_25 rfl rfl ?_
    refine T_iret rfl rfl dX13_isBoth_26 ?_
    obtain rfl := hLf (fls z9)
    exact ⟨⟨by rw [if_neg (show ¬ (adQ q 24).1 = true from z9)], MQQ.f (q := adQ q 24) z9 (hQ9.2 (fls z9))⟩, rfl, rfl, hF⟩
set_option maxHeartbeats 1000000 in
theorem gm_bte {l : Launch} {D : va_G} {cA : Nat → ClassId} {n0 : Nat} {sg adK adV : Nat → Nat} {sgA smA wdA bS LS : Nat} {xs : Nat → Int32} (hX : SF n0 (XW0 sg adK adV sgA smA wdA n0 bS LS xs)) {m y z s1 s2 n8 hr wr lt : Nat} {B : Nat → Nat} {K : Nat → Nat} {S : Nat → Int32} {V : Nat → Int64} {ω0 w0 : RH} (hTK : TKF B lt K S V ω0) (hmz : m + 7 ≤ z ∨ z + 19 ≤ m) {d : Nat} {s : PS} (hd : d ≤ 8) (hq : ¬ K s.1 = 24) {sz : Nat} {τ : TY} {M M0 : ME} {ez : Nat} (hQ : MPl τ M m y z s1 s2 n8 B ω0 w0 hr wr lt (ez) (d) (s)) (hF : FMZ m z M0 M) : T l D cA n0 (XW0 sg adK adV sgA smA wdA n0 bS LS xs) mX13_isBoth (10 * (9 - d) + 7) 0 0 sz τ M 9 [.ref m] [] (fun v' sz' τ' M' => (v' = some (.int (if ((true, s)).1 = true then 1 else 0)) ∧ MQQ τ M' m y z s1 s2 n8 B ω0 w0 hr wr lt (ez) (d) ((true, s))) ∧ sz' = sz ∧ τ' = τ ∧ FMZ m z M0 M') (fun _ _ _ _ => False) := by
  obtain ⟨ω, w, hM, hV, hω, hrl, hw, hG, hn, ht, hz⟩ := hQ
  have k0 : ω 80 s.1 = nI (kkF (K s.1)) := by rw [hω 80 _ (by decide)]; exact (hTK.2.1 s.1 ht).1
  have hk := (hTK.2.1 s.1 ht).2.1
  have hl := hTK.1.1
  have hps := (ps_le (σ := s.2.2.1) s.2.1).1
  have hcn := cnF_le (σ := s.2.2.1) s.2.1
  refine T_aload0 dX13_isBoth_9 rfl ?_
  refine T_bipush (24) dX13_isBoth_10 rfl rfl ?_
  refine T_cV1 (c_X13_eat hX hM (by omega) _) hX k13_130 (Or.inl ⟨_, _, _, _, (hM.t_m), by decide, rfl⟩) (by omega) (Nat.le_of_ble_eq_true rfl) dX13_isBoth_12 rfl ?_
  rintro _ _ _ M9 ⟨rfl, rfl, rfl, hM9⟩
  rw [k0, if_neg (fun e => absurd ((kc_24 _ hk.1 hk.2).mp e) hq)]
  rw [k0, if_neg (fun e => absurd ((kc_24 _ hk.1 hk.2).mp e) hq)] at hM9
  have hV := (hV.nx hM9.frame (by omega)).rf
  have hF := hF.fm hM9.frame
  have hM := hM9.rf
  refine T_if_eq_t 36 dX13_isBoth_15 (by decide) rfl ?_
  refine T_iconst (1) dX13_isBoth_36 rfl rfl ?_
  refine T_iret rfl rfl dX13_isBoth_37 ?_
  exact ⟨⟨rfl, MQQ.t rfl ⟨ω, w, hM.rf, hV.rf, hω, hrl, hw, hG, hn, ht, hz⟩⟩, rfl, rfl, hF⟩
set_option maxHeartbeats 1000000 in
theorem gm_tst {l : Launch} {D : va_G} {cA : Nat → ClassId} {n0 : Nat} {sg adK adV : Nat → Nat} {sgA smA wdA bS LS : Nat} {xs : Nat → Int32} (hX : SF n0 (XW0 sg adK adV sgA smA wdA n0 bS LS xs)) {m y z s1 s2 n8 hr wr lt : Nat} {B : Nat → Nat} {K : Nat → Nat} {S : Nat → Int32} {V : Nat → Int64} {ω0 w0 : RH} (hTK : TKF B lt K S V ω0) (hmz : m + 7 ≤ z ∨ z + 19 ≤ m) {d : Nat} {s : PS} (hd : d ≤ 8) {q q2 : PQ} (hS1 : ∀ (sz : Nat) (τ : TY) (M : ME) (ez : Nat), MPl τ M m y z s1 s2 n8 B ω0 w0 hr wr lt (ez) (d) (s) → CT l D cA n0 (XW0 sg adK adV sgA smA wdA n0 bS LS xs) mX13_isBoth (10 * (9 - (d)) + 7) 0 0 sz τ M [.ref m] (fun v' sz' τ' M' => (v' = some (.int (if (q).1 = true then 1 else 0)) ∧ MQQ τ M' m y z s1 s2 n8 B ω0 w0 hr wr lt (ez) (d) (q)) ∧ sz' = sz ∧ τ' = τ ∧ FMZ m z M M')) (hLf : q.1 = false → q2 = q) (hL : q.1 = true → ∀ (sz : Nat) (τ : TY) (M : ME) (ez : Nat), MPl τ M m y z s1 s2 n8 B ω0 w0 hr wr lt (ez) (d) (q.2) → ∀ M0 : ME, FMZ m z M0 M → T l D cA n0 (XW0 sg adK adV sgA smA wdA n0 bS LS xs) mX13_isTest (10 * (9 - (d)) + 8) 0 0 sz τ M 9 [.ref m] [] (fun v' sz' τ' M' => (v' = some (.int (if (q2).1 = true then 1 else 0)) ∧ MQQ τ M' m y z s1 s2 n8 B ω0 w0 hr wr lt (ez) (d) (q2)) ∧ sz' = sz ∧ τ' = τ ∧ FMZ m z M0 M') (fun _ _ _ _ => False)) {sz : Nat} {τ : TY} {M : ME} {ez : Nat} (hQ : MPl τ M m y z s1 s2 n8 B ω0 w0 hr wr lt (ez) (d) (s)) : CT l D cA n0 (XW0 sg adK adV sgA smA wdA n0 bS LS xs) mX13_isTest (10 * (9 - d) + 8) 0 0 sz τ M [.ref m] (fun v' sz' τ' M' => (v' = some (.int (if (q2).1 = true then 1 else 0)) ∧ MQQ τ M' m y z s1 s2 n8 B ω0 w0 hr wr lt (ez) (d) (q2)) ∧ sz' = sz ∧ τ' = τ ∧ FMZ m z M M') := by
  refine CT.of (ls := [.ref m]) (by decide) (Nat.le_of_ble_eq_true rfl) rfl ?_
  obtain ⟨ω, w, hM, hV, hω, hrl, hw, hG, hn, ht, hz⟩ := hQ
  have k0 : ω 80 s.1 = nI (kkF (K s.1)) := by rw [hω 80 _ (by decide)]; exact (hTK.2.1 s.1 ht).1
  have hk := (hTK.2.1 s.1 ht).2.1
  have hl := hTK.1.1
  have hps := (ps_le (σ := s.2.2.1) s.2.1).1
  have hcn := cnF_le (σ := s.2.2.1) s.2.1
  have hF : FMZ m z M M := FMZ.rf _ _ _
  refine T_aload0 dX13_isTest_0 rfl ?_
  refine T_cV0 (hS1 _ _ _ (ez) ⟨ω, w, hM.rf, hV.rf, hω, hrl, hw, hG, hn, ht, hz⟩) hX k13_188 (Or.inl ⟨_, _, _, _, (hM.t_m), by decide, rfl⟩) (by omega) (Nat.le_of_ble_eq_true rfl) dX13_isTest_1 rfl ?_
  rintro _ _ _ M8 ⟨⟨rfl, hQ9⟩, rfl, rfl, hF9⟩
  have hF := hF.tr hF9
  refine T_if_ne 9 7 dX13_isTest_4 (by decide) rfl (fun c4 => ?_) (fun c4 => ?_)
  ·
    have z9 := ifz1 c4
    
    exact hL z9 _ _ _ _ (hQ9.1 z9) _ hF
  ·
    have z9 := ifz0 (by first | exact c4 | exact Decidable.not_not.mp c4)
    refine T_iconst (0) dX13_isTest_7 rfl rfl ?_
    refine T_iret rfl rfl dX13_isTest_8 ?_
    obtain rfl := hLf (fls z9)
    exact ⟨⟨by rw [if_neg (show ¬ (q2).1 = true from z9)], MQQ.f (q := q2) z9 (hQ9.2 (fls z9))⟩, rfl, rfl, hF⟩
set_option maxHeartbeats 1000000 in
theorem gm_tsl {l : Launch} {D : va_G} {cA : Nat → ClassId} {n0 : Nat} {sg adK adV : Nat → Nat} {sgA smA wdA bS LS : Nat} {xs : Nat → Int32} (hX : SF n0 (XW0 sg adK adV sgA smA wdA n0 bS LS xs)) {m y z s1 s2 n8 hr wr lt : Nat} {B : Nat → Nat} {K : Nat → Nat} {S : Nat → Int32} {V : Nat → Int64} {ω0 w0 : RH} (hTK : TKF B lt K S V ω0) (hmz : m + 7 ≤ z ∨ z + 19 ≤ m) {d : Nat} {s : PS} (hd : d ≤ 8) {q q2 : PQ} (hq : K s.1 = 25) (hS1 : ∀ (sz : Nat) (τ : TY) (M : ME) (ez : Nat), MPl τ M m y z s1 s2 n8 B ω0 w0 hr wr lt (ez) (d) (adv s 1) → CT l D cA n0 (XW0 sg adK adV sgA smA wdA n0 bS LS xs) mX13_isBoth (10 * (9 - (d)) + 7) 0 0 sz τ M [.ref m] (fun v' sz' τ' M' => (v' = some (.int (if (q).1 = true then 1 else 0)) ∧ MQQ τ M' m y z s1 s2 n8 B ω0 w0 hr wr lt (ez) (d) (q)) ∧ sz' = sz ∧ τ' = τ ∧ FMZ m z M M')) (hLf : q.1 = false → q2 = adQ q 25) (hL : q.1 = true → ∀ (sz : Nat) (τ : TY) (M : ME) (ez : Nat), MPl τ M m y z s1 s2 n8 B ω0 w0 hr wr lt (ez) (d) (stp q.2 25 0) → ∀ M0 : ME, FMZ m z M0 M → T l D cA n0 (XW0 sg adK adV sgA smA wdA n0 bS LS xs) mX13_isTest (10 * (9 - (d)) + 8) 0 0 sz τ M 9 [.ref m] [] (fun v' sz' τ' M' => (v' = some (.int (if (q2).1 = true then 1 else 0)) ∧ MQQ τ M' m y z s1 s2 n8 B ω0 w0 hr wr lt (ez) (d) (q2)) ∧ sz' = sz ∧ τ' = τ ∧ FMZ m z M0 M') (fun _ _ _ _ => False)) {sz : Nat} {τ : TY} {M M0 : ME} {ez : Nat} (hQ : MPl τ M m y z s1 s2 n8 B ω0 w0 hr wr lt (ez) (d) (s)) (hF : FMZ m z M0 M) : T l D cA n0 (XW0 sg adK adV sgA smA wdA n0 bS LS xs) mX13_isTest (10 * (9 - d) + 8) 0 0 sz τ M 9 [.ref m] [] (fun v' sz' τ' M' => (v' = some (.int (if (q2).1 = true then 1 else 0)) ∧ MQQ τ M' m y z s1 s2 n8 B ω0 w0 hr wr lt (ez) (d) (q2)) ∧ sz' = sz ∧ τ' = τ ∧ FMZ m z M0 M') (fun _ _ _ _ => False) := by
  obtain ⟨ω, w, hM, hV, hω, hrl, hw, hG, hn, ht, hz⟩ := hQ
  have k0 : ω 80 s.1 = nI (kkF (K s.1)) := by rw [hω 80 _ (by decide)]; exact (hTK.2.1 s.1 ht).1
  have hk := (hTK.2.1 s.1 ht).2.1
  have hl := hTK.1.1
  have hps := (ps_le (σ := s.2.2.1) s.2.1).1
  have hcn := cnF_le (σ := s.2.2.1) s.2.1
  have hlt : s.1 < lt := Nat.lt_of_le_of_ne ht (fun e => by have h9 := hTK.1.2; rw [← e] at h9; omega)
  refine T_aload0 dX13_isTest_9 rfl ?_
  refine T_bipush (25) dX13_isTest_10 rfl rfl ?_
  refine T_cV1 (c_X13_eat hX hM (by omega) _) hX k13_130 (Or.inl ⟨_, _, _, _, (hM.t_m), by decide, rfl⟩) (by omega) (Nat.le_of_ble_eq_true rfl) dX13_isTest_12 rfl ?_
  rintro _ _ _ M9 ⟨rfl, rfl, rfl, hM9⟩
  rw [k0, if_pos ((kc_25 _ hk.1 hk.2).mpr hq)]
  rw [k0, if_pos ((kc_25 _ hk.1 hk.2).mpr hq)] at hM9
  have hV := (hV.nx hM9.frame (by omega)).rf
  have hF := hF.fm hM9.frame
  have hM := hM9.rf
  refine T_if_eq_f 36 18 dX13_isTest_15 (by decide) rfl (by decide) ?_
  refine T_aload0 dX13_isTest_18 rfl ?_
  refine T_cV0 (hS1 _ _ _ (ez + 1) ⟨ω, w, hM.rf, hV.rf, hω, hrl, hw, hG, (by show s.2.1 + (ez + 1) ≤ s.1 + 1; omega), hlt, (fun i hi => hz i (Nat.le_trans (Nat.le_succ _) hi))⟩) hX k13_188 (Or.inl ⟨_, _, _, _, (hM.t_m), by decide, rfl⟩) (by omega) (Nat.le_of_ble_eq_true rfl) dX13_isTest_19 rfl ?_
  rintro _ _ _ M8 ⟨⟨rfl, hQ9⟩, rfl, rfl, hF9⟩
  have hF := hF.tr hF9
  refine T_if_ne 27 25 dX13_isTest_22 (by decide) rfl (fun c22 => ?_) (fun c22 => ?_)
  ·
    have z9 := ifz1 c22
    obtain ⟨ω, w, hM, hV, hω, hrl, hw, hG, hn, ht, hz⟩ := hQ9.1 z9
    have k0 : ω 80 q.2.1 = nI (kkF (K q.2.1)) := by rw [hω 80 _ (by decide)]; exact (hTK.2.1 q.2.1 ht).1
    have hk := (hTK.2.1 q.2.1 ht).2.1
    have hps := (ps_le (σ := q.2.2.2.1) q.2.2.1).1
    have hcn := cnF_le (σ := q.2.2.2.1) q.2.2.1
    refine T_aload0 dX13_isTest_27 rfl ?_
    refine T_bipush (25) dX13_isTest_28 rfl rfl ?_
    refine T_cV1 (c_X13_put hX hM (by omega) hV hmz (by omega) _) hX k13_191 (Or.inl ⟨_, _, _, _, (hM.t_m), by decide, rfl⟩) (by omega) (Nat.le_of_ble_eq_true rfl) dX13_isTest_30 rfl ?_
    rintro _ _ _ M9 ⟨rfl, rfl, rfl, hV9⟩
    have hM := (hM.nx hV9.frame (by omega)).rf
    have hF := hF.fz hV9.frame
    have hV := hV9.rf
    refine T_goto 9 dX13_isTest_33 (by decide) ?_
    exact hL z9 _ _ _ _ (MPl.ad (o := 25) rfl rfl rfl hM hV hω hrl hw hG hn ht hz) _ hF
  ·
    have z9 := ifz0 (by first | exact c22 | exact Decidable.not_not.mp c22)
    refine T_iconst (0) dX13_isTest_25 rfl rfl ?_
    refine T_iret rfl rfl dX13_isTest_26 ?_
    obtain rfl := hLf (fls z9)
    exact ⟨⟨by rw [if_neg (show ¬ (adQ q 25).1 = true from z9)], MQQ.f (q := adQ q 25) z9 (hQ9.2 (fls z9))⟩, rfl, rfl, hF⟩
set_option maxHeartbeats 1000000 in
theorem gm_tse {l : Launch} {D : va_G} {cA : Nat → ClassId} {n0 : Nat} {sg adK adV : Nat → Nat} {sgA smA wdA bS LS : Nat} {xs : Nat → Int32} (hX : SF n0 (XW0 sg adK adV sgA smA wdA n0 bS LS xs)) {m y z s1 s2 n8 hr wr lt : Nat} {B : Nat → Nat} {K : Nat → Nat} {S : Nat → Int32} {V : Nat → Int64} {ω0 w0 : RH} (hTK : TKF B lt K S V ω0) (hmz : m + 7 ≤ z ∨ z + 19 ≤ m) {d : Nat} {s : PS} (hd : d ≤ 8) (hq : ¬ K s.1 = 25) {sz : Nat} {τ : TY} {M M0 : ME} {ez : Nat} (hQ : MPl τ M m y z s1 s2 n8 B ω0 w0 hr wr lt (ez) (d) (s)) (hF : FMZ m z M0 M) : T l D cA n0 (XW0 sg adK adV sgA smA wdA n0 bS LS xs) mX13_isTest (10 * (9 - d) + 8) 0 0 sz τ M 9 [.ref m] [] (fun v' sz' τ' M' => (v' = some (.int (if ((true, s)).1 = true then 1 else 0)) ∧ MQQ τ M' m y z s1 s2 n8 B ω0 w0 hr wr lt (ez) (d) ((true, s))) ∧ sz' = sz ∧ τ' = τ ∧ FMZ m z M0 M') (fun _ _ _ _ => False) := by
  obtain ⟨ω, w, hM, hV, hω, hrl, hw, hG, hn, ht, hz⟩ := hQ
  have k0 : ω 80 s.1 = nI (kkF (K s.1)) := by rw [hω 80 _ (by decide)]; exact (hTK.2.1 s.1 ht).1
  have hk := (hTK.2.1 s.1 ht).2.1
  have hl := hTK.1.1
  have hps := (ps_le (σ := s.2.2.1) s.2.1).1
  have hcn := cnF_le (σ := s.2.2.1) s.2.1
  refine T_aload0 dX13_isTest_9 rfl ?_
  refine T_bipush (25) dX13_isTest_10 rfl rfl ?_
  refine T_cV1 (c_X13_eat hX hM (by omega) _) hX k13_130 (Or.inl ⟨_, _, _, _, (hM.t_m), by decide, rfl⟩) (by omega) (Nat.le_of_ble_eq_true rfl) dX13_isTest_12 rfl ?_
  rintro _ _ _ M9 ⟨rfl, rfl, rfl, hM9⟩
  rw [k0, if_neg (fun e => absurd ((kc_25 _ hk.1 hk.2).mp e) hq)]
  rw [k0, if_neg (fun e => absurd ((kc_25 _ hk.1 hk.2).mp e) hq)] at hM9
  have hV := (hV.nx hM9.frame (by omega)).rf
  have hF := hF.fm hM9.frame
  have hM := hM9.rf
  refine T_if_eq_t 36 dX13_isTest_15 (by decide) rfl ?_
  refine T_iconst (1) dX13_isTest_36 rfl rfl ?_
  refine T_iret rfl rfl dX13_isTest_37 ?_
  exact ⟨⟨rfl, MQQ.t rfl ⟨ω, w, hM.rf, hV.rf, hω, hrl, hw, hG, hn, ht, hz⟩⟩, rfl, rfl, hF⟩
