/-! the reference's errors -/
section ERV
variable {V : Nat → Int64} {S : Nat → Int32} {rl : Nat → Int32} {t : Nat}
theorem erF_v1 (h : rl t = 1) : erF V rl t = if tdR V rl 1 (V t) t = -1 then (if cntR rl 1 t = 8 then 4 else 0) else 2 := by unfold erF; rw [h, if_pos rfl]
theorem erF_v2 (h : rl t = 2) : erF V rl t = if tdR V rl 2 (V t) t = -1 then (if cntR rl 2 t = 6 then 4 else 0) else 2 := by unfold erF; rw [h, if_neg (by decide), if_pos rfl]
theorem erF_v3 (h : rl t = 3) : erF V rl t = if tdR V rl 3 (V t) t = -1 then (if cntR rl 3 t = 20 then 4 else 0) else 2 := by unfold erF; rw [h, if_neg (by decide), if_neg (by decide), if_pos rfl]
theorem erF_v4 (h : rl t = 4) : erF V rl t = if cntR rl 4 t = 12 then 4 else 0 := by unfold erF; rw [h, if_neg (by decide), if_neg (by decide), if_neg (by decide), if_pos rfl]
theorem erF_v5 (h : rl t = 5) : erF V rl t = if cntR rl 5 t = 12 then 4 else 0 := by unfold erF; rw [h, if_neg (by decide), if_neg (by decide), if_neg (by decide), if_neg (by decide), if_pos rfl]
theorem erF_v14 (h : rl t = 14) : erF V rl t = ngE (tdR V rl 2 (V t) t) := by unfold erF; rw [h, if_neg (by decide), if_neg (by decide), if_neg (by decide), if_neg (by decide), if_neg (by decide), if_pos (by decide)]
theorem erF_v15 (h : rl t = 15) : erF V rl t = ngE (tdR V rl 2 (V t) t) := by unfold erF; rw [h, if_neg (by decide), if_neg (by decide), if_neg (by decide), if_neg (by decide), if_neg (by decide), if_pos (by decide)]
theorem erF_v17 (h : rl t = 17) : erF V rl t = ngE (tdR V rl 2 (V t) t) := by unfold erF; rw [h, if_neg (by decide), if_neg (by decide), if_neg (by decide), if_neg (by decide), if_neg (by decide), if_pos (by decide)]
theorem erF_v16 (h : rl t = 16) : erF V rl t = ngE (tdR V rl 1 (V t) t) := by unfold erF; rw [h, if_neg (by decide), if_neg (by decide), if_neg (by decide), if_neg (by decide), if_neg (by decide), if_neg (by decide), if_pos (by decide)]
theorem erF_v18 (h : rl t = 18) : erF V rl t = ngE (tdR V rl 1 (V t) t) := by unfold erF; rw [h, if_neg (by decide), if_neg (by decide), if_neg (by decide), if_neg (by decide), if_neg (by decide), if_neg (by decide), if_pos (by decide)]
theorem cnt_ok (h : (flF V S rl t).1 = 0) : cntR rl 1 t ≤ 8 ∧ cntR rl 2 t ≤ 6 ∧ cntR rl 3 t ≤ 20 ∧ cntR rl 4 t ≤ 12 ∧ cntR rl 5 t ≤ 12 := by
  induction t with
  | zero => exact ⟨Nat.zero_le _, Nat.zero_le _, Nat.zero_le _, Nat.zero_le _, Nat.zero_le _⟩
  | succ t ih =>
    obtain ⟨h1, h2⟩ := nfE_z h
    obtain ⟨a1, a2, a3, a4, a5⟩ := ih h1
    refine ⟨?_, ?_, ?_, ?_, ?_⟩
    · by_cases e : rl t = 1
      · have h4 := nw_0 ((erF_v1 (V := V) e).symm.trans h2)
        rw [cntR_y e]; omega
      · rw [cntR_n e]; exact a1
    · by_cases e : rl t = 2
      · have h4 := nw_0 ((erF_v2 (V := V) e).symm.trans h2)
        rw [cntR_y e]; omega
      · rw [cntR_n e]; exact a2
    · by_cases e : rl t = 3
      · have h4 := nw_0 ((erF_v3 (V := V) e).symm.trans h2)
        rw [cntR_y e]; omega
      · rw [cntR_n e]; exact a3
    · by_cases e : rl t = 4
      · have h3 := erF_v4 (V := V) e
        rw [h2] at h3
        have h4 : ¬ cntR rl 4 t = 12 := fun q => by
          rw [if_pos q] at h3; exact absurd h3 (by decide)
        rw [cntR_y e]; omega
      · rw [cntR_n e]; exact a4
    · by_cases e : rl t = 5
      · have h3 := erF_v5 (V := V) e
        rw [h2] at h3
        have h4 : ¬ cntR rl 5 t = 12 := fun q => by
          rw [if_pos q] at h3; exact absurd h3 (by decide)
        rw [cntR_y e]; omega
      · rw [cntR_n e]; exact a5
theorem flF_stay (h : ¬ (flF V S rl t).1 = 0) : ∀ n, flF V S rl (t + n) = flF V S rl t
  | 0 => rfl
  | n + 1 => by
    have ih := flF_stay h n
    show (nfE (flF V S rl (t + n)).1 _, nfA (flF V S rl (t + n)).1 (flF V S rl (t + n)).2 _ _) = _
    rw [ih]
    unfold nfE nfA
    rw [if_neg h, if_neg (fun q => h q.1)]
theorem flF_hit (h : (flF V S rl t).1 = 0) (he : ¬ erF V rl t = 0) {k : Nat} (hk : t < k) : flF V S rl k = (erF V rl t, S t) := by
  have h1 : flF V S rl (t + 1) = (erF V rl t, S t) := by
    show (nfE (flF V S rl t).1 _, nfA (flF V S rl t).1 (flF V S rl t).2 _ _) = _
    unfold nfE nfA
    rw [if_pos h, if_pos ⟨h, he⟩]
  have h2 := flF_stay (V := V) (S := S) (rl := rl) (t := t + 1) (by rw [h1]; exact he) (k - (t + 1))
  rw [show t + 1 + (k - (t + 1)) = k by omega] at h2
  rw [h2, h1]
theorem flF_go (h : (flF V S rl t).1 = 0) (he : erF V rl t = 0) : (flF V S rl (t + 1)).1 = 0 := by
  show nfE (flF V S rl t).1 (erF V rl t) = 0
  unfold nfE; rw [if_pos h]; exact he
end ERV
set_option maxHeartbeats 1000000 in
theorem er_0 {l : Launch} {D : va_G} {cA : Nat → ClassId} {n0 : Nat} {sg adK adV : Nat → Nat} {sgA smA wdA bS LS : Nat} {xs : Nat → Int32} (hX : SF n0 (XW0 sg adK adV sgA smA wdA n0 bS LS xs)) {m y z s1 s2 n8 dp hr wr cs os lt t : Nat} {B : Nat → Nat} {K : Nat → Nat} {S : Nat → Int32} {V : Nat → Int64} {rl : Nat → Int32} {ω0 w0 : RH} (hmz : m + 7 ≤ z ∨ z + 19 ≤ m) (h8 : ∀ i, B i < 256) (hTK : TKF B lt K S V ω0) (hrl0 : ∀ i, i ≤ lt → ω0 83 i = rl i) (hNm : ∀ i, i < lt → K i = 44 → ∃ c, c < 1000000 ∧ V i = Int64.ofNat c) (ht : t < lt) (hRG : ∀ i, RGi K rl i) (hcn : cntR rl 1 t ≤ 8 ∧ cntR rl 2 t ≤ 6 ∧ cntR rl 3 t ≤ 20 ∧ cntR rl 4 t ≤ 12 ∧ cntR rl 5 t ≤ 12) (hr9 : rl t = 0) {sz : Nat} {τ : TY} {M : ME} (hQ : EI τ M m y z s1 s2 n8 dp hr wr cs os B V rl ω0 w0 (t) (t)) : CT l D cA n0 (XW0 sg adK adV sgA smA wdA n0 bS LS xs) mX13_errorOf 6 0 0 sz τ M [.ref m, .int (nI t)] (fun v' sz' τ' M' => v' = some (.int (erF V rl t)) ∧ sz' = sz ∧ τ' = τ ∧ ((erF V rl t = 0 → EI τ M' m y z s1 s2 n8 dp hr wr cs os B V rl ω0 w0 (t) (t + 1)) ∧ EE τ M' m y z s1 s2 n8 dp B ω0 t) ∧ FMZ m z M M') := by
  refine CT.of (ls := [.ref m, .int (nI t), UU, UU]) (by decide) (Nat.le_of_ble_eq_true rfl) rfl ?_
  have hQ0 := hQ
  obtain ⟨ω, w, hM, hV, hω, hmt, hD⟩ := hQ
  have hl := hTK.1.1
  have hTKn := hTK
  replace hTK := hTK.of hω
  have hrl : ∀ i, i ≤ lt → ω 83 i = rl i := fun i hi => by rw [hω 83 _ (by decide)]; exact hrl0 i hi
  obtain ⟨rg0, rg1, rg2, rg3, rg4, rg5, rg6, rg7⟩ := hRG t
  have hF : FMZ m z M M := FMZ.rf _ _ _
  refine T_aload0 dX13_errorOf_0 rfl ?_
  refine g13_39 _ rfl (hM.t_m) (hM.g_z) dX13_errorOf_1 rfl ?_
  refine T_astore2 rfl (by decide) dX13_errorOf_4 rfl ?_
  refine T_iconst (0) dX13_errorOf_5 rfl rfl ?_
  refine T_istore3 rfl (by decide) dX13_errorOf_6 rfl ?_
  refine T_aload0 dX13_errorOf_7 rfl ?_
  refine g13_26 _ rfl (hM.t_m) (hM.g_ro) dX13_errorOf_8 rfl ?_
  refine T_iload1 dX13_errorOf_11 rfl ?_
  refine T_iald _ (hM.t_ro) rfl (by omega) (by decide) dX13_errorOf_12 rfl (hM.g_vro (by omega)) ?_
  rw [hrl t (by omega), hr9]
  refine T_tout 334 dX13_errorOf_13 (by decide +kernel) (by decide) ?_
  refine T_aload0 dX13_errorOf_334 rfl ?_
  refine T_iload1 dX13_errorOf_335 rfl ?_
  refine T_cV1 (en_0 hX hmz h8 hTKn hrl0 hNm ht hRG hcn hr9 hQ0) hX k13_253 (Or.inl ⟨_, _, _, _, (hM.t_m), by decide, rfl⟩) (by decide) (Nat.le_of_ble_eq_true rfl) dX13_errorOf_336 rfl ?_
  rintro _ _ _ M9 ⟨rfl, rfl, rfl, ⟨hI, hE⟩, hF9⟩
  refine T_iret rfl rfl dX13_errorOf_339 ?_
  exact ⟨rfl, rfl, rfl, ⟨hI, hE⟩, hF.tr hF9⟩
set_option maxHeartbeats 1000000 in
theorem er_1 {l : Launch} {D : va_G} {cA : Nat → ClassId} {n0 : Nat} {sg adK adV : Nat → Nat} {sgA smA wdA bS LS : Nat} {xs : Nat → Int32} (hX : SF n0 (XW0 sg adK adV sgA smA wdA n0 bS LS xs)) {m y z s1 s2 n8 dp hr wr cs os lt t : Nat} {B : Nat → Nat} {K : Nat → Nat} {S : Nat → Int32} {V : Nat → Int64} {rl : Nat → Int32} {ω0 w0 : RH} (hmz : m + 7 ≤ z ∨ z + 19 ≤ m) (h8 : ∀ i, B i < 256) (hTK : TKF B lt K S V ω0) (hrl0 : ∀ i, i ≤ lt → ω0 83 i = rl i) (hNm : ∀ i, i < lt → K i = 44 → ∃ c, c < 1000000 ∧ V i = Int64.ofNat c) (ht : t < lt) (hRG : ∀ i, RGi K rl i) (hcn : cntR rl 1 t ≤ 8 ∧ cntR rl 2 t ≤ 6 ∧ cntR rl 3 t ≤ 20 ∧ cntR rl 4 t ≤ 12 ∧ cntR rl 5 t ≤ 12) (hr9 : rl t = 1) {sz : Nat} {τ : TY} {M : ME} (hQ : EI τ M m y z s1 s2 n8 dp hr wr cs os B V rl ω0 w0 (t) (t)) : CT l D cA n0 (XW0 sg adK adV sgA smA wdA n0 bS LS xs) mX13_errorOf 6 0 0 sz τ M [.ref m, .int (nI t)] (fun v' sz' τ' M' => v' = some (.int (erF V rl t)) ∧ sz' = sz ∧ τ' = τ ∧ ((erF V rl t = 0 → EI τ M' m y z s1 s2 n8 dp hr wr cs os B V rl ω0 w0 (t) (t + 1)) ∧ EE τ M' m y z s1 s2 n8 dp B ω0 t) ∧ FMZ m z M M') := by
  refine CT.of (ls := [.ref m, .int (nI t), UU, UU]) (by decide) (Nat.le_of_ble_eq_true rfl) rfl ?_
  have hQ0 := hQ
  obtain ⟨ω, w, hM, hV, hω, hmt, hD⟩ := hQ
  have hl := hTK.1.1
  have hTKn := hTK
  replace hTK := hTK.of hω
  have hrl : ∀ i, i ≤ lt → ω 83 i = rl i := fun i hi => by rw [hω 83 _ (by decide)]; exact hrl0 i hi
  obtain ⟨rg0, rg1, rg2, rg3, rg4, rg5, rg6, rg7⟩ := hRG t
  have hF : FMZ m z M M := FMZ.rf _ _ _
  have k43 := rg1 (by rw [hr9]; decide)
  obtain ⟨cn1, cn2, cn3, cn4, cn5⟩ := hcn
  have e9 := erF_v1 (V := V) hr9
  refine T_aload0 dX13_errorOf_0 rfl ?_
  refine g13_39 _ rfl (hM.t_m) (hM.g_z) dX13_errorOf_1 rfl ?_
  refine T_astore2 rfl (by decide) dX13_errorOf_4 rfl ?_
  refine T_iconst (0) dX13_errorOf_5 rfl rfl ?_
  refine T_istore3 rfl (by decide) dX13_errorOf_6 rfl ?_
  refine T_aload0 dX13_errorOf_7 rfl ?_
  refine g13_26 _ rfl (hM.t_m) (hM.g_ro) dX13_errorOf_8 rfl ?_
  refine T_iload1 dX13_errorOf_11 rfl ?_
  refine T_iald _ (hM.t_ro) rfl (by omega) (by decide) dX13_errorOf_12 rfl (hM.g_vro (by omega)) ?_
  rw [hrl t (by omega), hr9]
  refine T_tin (off := 87) 100 dX13_errorOf_13 (by decide +kernel) (by decide +kernel) (by decide +kernel) (by decide) ?_
  refine T_aload0 dX13_errorOf_100 rfl ?_
  refine T_iload1 dX13_errorOf_101 rfl ?_
  refine T_aload2 dX13_errorOf_102 rfl ?_
  refine g13_60 _ rfl (hV.t_q) (hV.g_stretches) dX13_errorOf_103 rfl ?_
  refine T_bipush (8) dX13_errorOf_106 rfl rfl ?_
  refine T_cV3 (c_X13_isNew hX hM h8 hTK hrl ht k43 (fun i hi e => (hRG i).2.1 (by rw [e, hr9]; decide)) (a := cntR rl 1 t) (c := 8) (by omega) (by decide)) hX k13_231 (Or.inl ⟨_, _, _, _, (hM.t_m), by decide, rfl⟩) (by decide) (Nat.le_of_ble_eq_true rfl) dX13_errorOf_108 rfl ?_
  rintro _ _ _ _ ⟨rfl, rfl, rfl, rfl⟩
  rw [hr9]
  refine T_istore3 rfl (by decide) dX13_errorOf_111 rfl ?_
  refine T_aload2 dX13_errorOf_112 rfl ?_
  refine T_dup dX13_errorOf_113 rfl rfl ?_
  refine g13_60 _ rfl (hV.t_q) (hV.g_stretches) dX13_errorOf_114 rfl ?_
  refine T_iload3 dX13_errorOf_117 rfl ?_
  refine T_if_ne 125 121 dX13_errorOf_118 (by decide) rfl (fun c9 => ?_) (fun c9 => ?_)
  ·
    refine T_iconst (0) dX13_errorOf_125 rfl rfl ?_
    refine T_iadd dX13_errorOf_126 rfl ?_
    refine p13_60 rfl (hV.t_q) dX13_errorOf_127 rfl ?_
    refine T_nm (fun M1 e1 => ?_)
    have hM := hM.frU e1 (by omega)
    have hV := PV.mv (hV.p_stretches (by first | exact nI_1 _ | exact (Int32.add_zero _ : nI (cntR rl 1 t) + 0 = nI (cntR rl 1 t)))) e1
    have hF := hF.up e1 (by omega)
    refine T_iload3 dX13_errorOf_130 rfl ?_
    refine T_iret rfl rfl dX13_errorOf_131 ?_
    first
      | exact ⟨by rw [e9], rfl, rfl, ⟨fun q => absurd (e9.symm.trans q) c9, ⟨ω, hM.rf, hω⟩⟩, hF⟩
      | (have hI : EI _ _ m y z s1 s2 n8 dp hr wr cs os B V rl ω0 w0 (t) (t + 1) := EI.st hM hV hω (hmt.nn (by rw [hr9]; decide) (by rw [hr9]; decide)) hD (cntR_y hr9) (cntR_n (by rw [hr9]; decide)) (cntR_n (by rw [hr9]; decide)) (cntR_n (by rw [hr9]; decide)) (cntR_n (by rw [hr9]; decide)) (dtF_n (by rw [hr9]; decide))
         exact ⟨by rw [e9], rfl, rfl, ⟨fun _ => hI, hI.ee⟩, hF⟩)
  ·
    refine T_iconst (1) dX13_errorOf_121 rfl rfl ?_
    refine T_goto 126 dX13_errorOf_122 (by decide) ?_
    refine T_iadd dX13_errorOf_126 rfl ?_
    refine p13_60 rfl (hV.t_q) dX13_errorOf_127 rfl ?_
    refine T_nm (fun M2 e2 => ?_)
    have hM := hM.frU e2 (by omega)
    have hV := PV.mv (hV.p_stretches (by first | exact nI_1 _ | exact (Int32.add_zero _ : nI (cntR rl 1 t) + 0 = nI (cntR rl 1 t)))) e2
    have hF := hF.up e2 (by omega)
    refine T_iload3 dX13_errorOf_130 rfl ?_
    refine T_iret rfl rfl dX13_errorOf_131 ?_
    first
      | exact ⟨by rw [e9], rfl, rfl, ⟨fun q => absurd (e9.symm.trans q) c9, ⟨ω, hM.rf, hω⟩⟩, hF⟩
      | (have hI : EI _ _ m y z s1 s2 n8 dp hr wr cs os B V rl ω0 w0 (t) (t + 1) := EI.st hM hV hω (hmt.nn (by rw [hr9]; decide) (by rw [hr9]; decide)) hD (cntR_y hr9) (cntR_n (by rw [hr9]; decide)) (cntR_n (by rw [hr9]; decide)) (cntR_n (by rw [hr9]; decide)) (cntR_n (by rw [hr9]; decide)) (dtF_n (by rw [hr9]; decide))
         exact ⟨by rw [e9], rfl, rfl, ⟨fun _ => hI, hI.ee⟩, hF⟩)
set_option maxHeartbeats 1000000 in
theorem er_2 {l : Launch} {D : va_G} {cA : Nat → ClassId} {n0 : Nat} {sg adK adV : Nat → Nat} {sgA smA wdA bS LS : Nat} {xs : Nat → Int32} (hX : SF n0 (XW0 sg adK adV sgA smA wdA n0 bS LS xs)) {m y z s1 s2 n8 dp hr wr cs os lt t : Nat} {B : Nat → Nat} {K : Nat → Nat} {S : Nat → Int32} {V : Nat → Int64} {rl : Nat → Int32} {ω0 w0 : RH} (hmz : m + 7 ≤ z ∨ z + 19 ≤ m) (h8 : ∀ i, B i < 256) (hTK : TKF B lt K S V ω0) (hrl0 : ∀ i, i ≤ lt → ω0 83 i = rl i) (hNm : ∀ i, i < lt → K i = 44 → ∃ c, c < 1000000 ∧ V i = Int64.ofNat c) (ht : t < lt) (hRG : ∀ i, RGi K rl i) (hcn : cntR rl 1 t ≤ 8 ∧ cntR rl 2 t ≤ 6 ∧ cntR rl 3 t ≤ 20 ∧ cntR rl 4 t ≤ 12 ∧ cntR rl 5 t ≤ 12) (hr9 : rl t = 2) {sz : Nat} {τ : TY} {M : ME} (hQ : EI τ M m y z s1 s2 n8 dp hr wr cs os B V rl ω0 w0 (t) (t)) : CT l D cA n0 (XW0 sg adK adV sgA smA wdA n0 bS LS xs) mX13_errorOf 6 0 0 sz τ M [.ref m, .int (nI t)] (fun v' sz' τ' M' => v' = some (.int (erF V rl t)) ∧ sz' = sz ∧ τ' = τ ∧ ((erF V rl t = 0 → EI τ M' m y z s1 s2 n8 dp hr wr cs os B V rl ω0 w0 (t) (t + 1)) ∧ EE τ M' m y z s1 s2 n8 dp B ω0 t) ∧ FMZ m z M M') := by
  refine CT.of (ls := [.ref m, .int (nI t), UU, UU]) (by decide) (Nat.le_of_ble_eq_true rfl) rfl ?_
  have hQ0 := hQ
  obtain ⟨ω, w, hM, hV, hω, hmt, hD⟩ := hQ
  have hl := hTK.1.1
  have hTKn := hTK
  replace hTK := hTK.of hω
  have hrl : ∀ i, i ≤ lt → ω 83 i = rl i := fun i hi => by rw [hω 83 _ (by decide)]; exact hrl0 i hi
  obtain ⟨rg0, rg1, rg2, rg3, rg4, rg5, rg6, rg7⟩ := hRG t
  have hF : FMZ m z M M := FMZ.rf _ _ _
  have k43 := rg1 (by rw [hr9]; decide)
  obtain ⟨cn1, cn2, cn3, cn4, cn5⟩ := hcn
  have e9 := erF_v2 (V := V) hr9
  refine T_aload0 dX13_errorOf_0 rfl ?_
  refine g13_39 _ rfl (hM.t_m) (hM.g_z) dX13_errorOf_1 rfl ?_
  refine T_astore2 rfl (by decide) dX13_errorOf_4 rfl ?_
  refine T_iconst (0) dX13_errorOf_5 rfl rfl ?_
  refine T_istore3 rfl (by decide) dX13_errorOf_6 rfl ?_
  refine T_aload0 dX13_errorOf_7 rfl ?_
  refine g13_26 _ rfl (hM.t_m) (hM.g_ro) dX13_errorOf_8 rfl ?_
  refine T_iload1 dX13_errorOf_11 rfl ?_
  refine T_iald _ (hM.t_ro) rfl (by omega) (by decide) dX13_errorOf_12 rfl (hM.g_vro (by omega)) ?_
  rw [hrl t (by omega), hr9]
  refine T_tin (off := 119) 132 dX13_errorOf_13 (by decide +kernel) (by decide +kernel) (by decide +kernel) (by decide) ?_
  refine T_aload0 dX13_errorOf_132 rfl ?_
  refine T_iload1 dX13_errorOf_133 rfl ?_
  refine T_aload2 dX13_errorOf_134 rfl ?_
  refine g13_67 _ rfl (hV.t_q) (hV.g_horses) dX13_errorOf_135 rfl ?_
  refine T_bipush (6) dX13_errorOf_138 rfl rfl ?_
  refine T_cV3 (c_X13_isNew hX hM h8 hTK hrl ht k43 (fun i hi e => (hRG i).2.1 (by rw [e, hr9]; decide)) (a := cntR rl 2 t) (c := 6) (by omega) (by decide)) hX k13_231 (Or.inl ⟨_, _, _, _, (hM.t_m), by decide, rfl⟩) (by decide) (Nat.le_of_ble_eq_true rfl) dX13_errorOf_140 rfl ?_
  rintro _ _ _ _ ⟨rfl, rfl, rfl, rfl⟩
  rw [hr9]
  refine T_istore3 rfl (by decide) dX13_errorOf_143 rfl ?_
  refine T_aload2 dX13_errorOf_144 rfl ?_
  refine T_dup dX13_errorOf_145 rfl rfl ?_
  refine g13_67 _ rfl (hV.t_q) (hV.g_horses) dX13_errorOf_146 rfl ?_
  refine T_iload3 dX13_errorOf_149 rfl ?_
  refine T_if_ne 157 153 dX13_errorOf_150 (by decide) rfl (fun c9 => ?_) (fun c9 => ?_)
  ·
    refine T_iconst (0) dX13_errorOf_157 rfl rfl ?_
    refine T_iadd dX13_errorOf_158 rfl ?_
    refine p13_67 rfl (hV.t_q) dX13_errorOf_159 rfl ?_
    refine T_nm (fun M1 e1 => ?_)
    have hM := hM.frU e1 (by omega)
    have hV := PV.mv (hV.p_horses (by first | exact nI_1 _ | exact (Int32.add_zero _ : nI (cntR rl 2 t) + 0 = nI (cntR rl 2 t)))) e1
    have hF := hF.up e1 (by omega)
    refine T_iload3 dX13_errorOf_162 rfl ?_
    refine T_iret rfl rfl dX13_errorOf_163 ?_
    first
      | exact ⟨by rw [e9], rfl, rfl, ⟨fun q => absurd (e9.symm.trans q) c9, ⟨ω, hM.rf, hω⟩⟩, hF⟩
      | (have hI : EI _ _ m y z s1 s2 n8 dp hr wr cs os B V rl ω0 w0 (t) (t + 1) := EI.st hM hV hω (hmt.nn (by rw [hr9]; decide) (by rw [hr9]; decide)) hD (cntR_n (by rw [hr9]; decide)) (cntR_y hr9) (cntR_n (by rw [hr9]; decide)) (cntR_n (by rw [hr9]; decide)) (cntR_n (by rw [hr9]; decide)) (dtF_n (by rw [hr9]; decide))
         exact ⟨by rw [e9], rfl, rfl, ⟨fun _ => hI, hI.ee⟩, hF⟩)
  ·
    refine T_iconst (1) dX13_errorOf_153 rfl rfl ?_
    refine T_goto 158 dX13_errorOf_154 (by decide) ?_
    refine T_iadd dX13_errorOf_158 rfl ?_
    refine p13_67 rfl (hV.t_q) dX13_errorOf_159 rfl ?_
    refine T_nm (fun M2 e2 => ?_)
    have hM := hM.frU e2 (by omega)
    have hV := PV.mv (hV.p_horses (by first | exact nI_1 _ | exact (Int32.add_zero _ : nI (cntR rl 2 t) + 0 = nI (cntR rl 2 t)))) e2
    have hF := hF.up e2 (by omega)
    refine T_iload3 dX13_errorOf_162 rfl ?_
    refine T_iret rfl rfl dX13_errorOf_163 ?_
    first
      | exact ⟨by rw [e9], rfl, rfl, ⟨fun q => absurd (e9.symm.trans q) c9, ⟨ω, hM.rf, hω⟩⟩, hF⟩
      | (have hI : EI _ _ m y z s1 s2 n8 dp hr wr cs os B V rl ω0 w0 (t) (t + 1) := EI.st hM hV hω (hmt.nn (by rw [hr9]; decide) (by rw [hr9]; decide)) hD (cntR_n (by rw [hr9]; decide)) (cntR_y hr9) (cntR_n (by rw [hr9]; decide)) (cntR_n (by rw [hr9]; decide)) (cntR_n (by rw [hr9]; decide)) (dtF_n (by rw [hr9]; decide))
         exact ⟨by rw [e9], rfl, rfl, ⟨fun _ => hI, hI.ee⟩, hF⟩)
set_option maxHeartbeats 1000000 in
theorem er_3 {l : Launch} {D : va_G} {cA : Nat → ClassId} {n0 : Nat} {sg adK adV : Nat → Nat} {sgA smA wdA bS LS : Nat} {xs : Nat → Int32} (hX : SF n0 (XW0 sg adK adV sgA smA wdA n0 bS LS xs)) {m y z s1 s2 n8 dp hr wr cs os lt t : Nat} {B : Nat → Nat} {K : Nat → Nat} {S : Nat → Int32} {V : Nat → Int64} {rl : Nat → Int32} {ω0 w0 : RH} (hmz : m + 7 ≤ z ∨ z + 19 ≤ m) (h8 : ∀ i, B i < 256) (hTK : TKF B lt K S V ω0) (hrl0 : ∀ i, i ≤ lt → ω0 83 i = rl i) (hNm : ∀ i, i < lt → K i = 44 → ∃ c, c < 1000000 ∧ V i = Int64.ofNat c) (ht : t < lt) (hRG : ∀ i, RGi K rl i) (hcn : cntR rl 1 t ≤ 8 ∧ cntR rl 2 t ≤ 6 ∧ cntR rl 3 t ≤ 20 ∧ cntR rl 4 t ≤ 12 ∧ cntR rl 5 t ≤ 12) (hr9 : rl t = 3) {sz : Nat} {τ : TY} {M : ME} (hQ : EI τ M m y z s1 s2 n8 dp hr wr cs os B V rl ω0 w0 (t) (t)) : CT l D cA n0 (XW0 sg adK adV sgA smA wdA n0 bS LS xs) mX13_errorOf 6 0 0 sz τ M [.ref m, .int (nI t)] (fun v' sz' τ' M' => v' = some (.int (erF V rl t)) ∧ sz' = sz ∧ τ' = τ ∧ ((erF V rl t = 0 → EI τ M' m y z s1 s2 n8 dp hr wr cs os B V rl ω0 w0 (t) (t + 1)) ∧ EE τ M' m y z s1 s2 n8 dp B ω0 t) ∧ FMZ m z M M') := by
  refine CT.of (ls := [.ref m, .int (nI t), UU, UU]) (by decide) (Nat.le_of_ble_eq_true rfl) rfl ?_
  have hQ0 := hQ
  obtain ⟨ω, w, hM, hV, hω, hmt, hD⟩ := hQ
  have hl := hTK.1.1
  have hTKn := hTK
  replace hTK := hTK.of hω
  have hrl : ∀ i, i ≤ lt → ω 83 i = rl i := fun i hi => by rw [hω 83 _ (by decide)]; exact hrl0 i hi
  obtain ⟨rg0, rg1, rg2, rg3, rg4, rg5, rg6, rg7⟩ := hRG t
  have hF : FMZ m z M M := FMZ.rf _ _ _
  have k43 := rg1 (by rw [hr9]; decide)
  obtain ⟨cn1, cn2, cn3, cn4, cn5⟩ := hcn
  have e9 := erF_v3 (V := V) hr9
  refine T_aload0 dX13_errorOf_0 rfl ?_
  refine g13_39 _ rfl (hM.t_m) (hM.g_z) dX13_errorOf_1 rfl ?_
  refine T_astore2 rfl (by decide) dX13_errorOf_4 rfl ?_
  refine T_iconst (0) dX13_errorOf_5 rfl rfl ?_
  refine T_istore3 rfl (by decide) dX13_errorOf_6 rfl ?_
  refine T_aload0 dX13_errorOf_7 rfl ?_
  refine g13_26 _ rfl (hM.t_m) (hM.g_ro) dX13_errorOf_8 rfl ?_
  refine T_iload1 dX13_errorOf_11 rfl ?_
  refine T_iald _ (hM.t_ro) rfl (by omega) (by decide) dX13_errorOf_12 rfl (hM.g_vro (by omega)) ?_
  rw [hrl t (by omega), hr9]
  refine T_tin (off := 151) 164 dX13_errorOf_13 (by decide +kernel) (by decide +kernel) (by decide +kernel) (by decide) ?_
  refine T_aload0 dX13_errorOf_164 rfl ?_
  refine T_iload1 dX13_errorOf_165 rfl ?_
  refine T_aload2 dX13_errorOf_166 rfl ?_
  refine g13_70 _ rfl (hV.t_q) (hV.g_logs) dX13_errorOf_167 rfl ?_
  refine T_bipush (20) dX13_errorOf_170 rfl rfl ?_
  refine T_cV3 (c_X13_isNew hX hM h8 hTK hrl ht k43 (fun i hi e => (hRG i).2.1 (by rw [e, hr9]; decide)) (a := cntR rl 3 t) (c := 20) (by omega) (by decide)) hX k13_231 (Or.inl ⟨_, _, _, _, (hM.t_m), by decide, rfl⟩) (by decide) (Nat.le_of_ble_eq_true rfl) dX13_errorOf_172 rfl ?_
  rintro _ _ _ _ ⟨rfl, rfl, rfl, rfl⟩
  rw [hr9]
  refine T_istore3 rfl (by decide) dX13_errorOf_175 rfl ?_
  refine T_aload2 dX13_errorOf_176 rfl ?_
  refine T_dup dX13_errorOf_177 rfl rfl ?_
  refine g13_70 _ rfl (hV.t_q) (hV.g_logs) dX13_errorOf_178 rfl ?_
  refine T_iload3 dX13_errorOf_181 rfl ?_
  refine T_if_ne 189 185 dX13_errorOf_182 (by decide) rfl (fun c9 => ?_) (fun c9 => ?_)
  ·
    refine T_iconst (0) dX13_errorOf_189 rfl rfl ?_
    refine T_iadd dX13_errorOf_190 rfl ?_
    refine p13_70 rfl (hV.t_q) dX13_errorOf_191 rfl ?_
    refine T_nm (fun M1 e1 => ?_)
    have hM := hM.frU e1 (by omega)
    have hV := PV.mv (hV.p_logs (by first | exact nI_1 _ | exact (Int32.add_zero _ : nI (cntR rl 3 t) + 0 = nI (cntR rl 3 t)))) e1
    have hF := hF.up e1 (by omega)
    refine T_iload3 dX13_errorOf_194 rfl ?_
    refine T_iret rfl rfl dX13_errorOf_195 ?_
    first
      | exact ⟨by rw [e9], rfl, rfl, ⟨fun q => absurd (e9.symm.trans q) c9, ⟨ω, hM.rf, hω⟩⟩, hF⟩
      | (have hI : EI _ _ m y z s1 s2 n8 dp hr wr cs os B V rl ω0 w0 (t) (t + 1) := EI.st hM hV hω (hmt.nn (by rw [hr9]; decide) (by rw [hr9]; decide)) hD (cntR_n (by rw [hr9]; decide)) (cntR_n (by rw [hr9]; decide)) (cntR_y hr9) (cntR_n (by rw [hr9]; decide)) (cntR_n (by rw [hr9]; decide)) (dtF_n (by rw [hr9]; decide))
         exact ⟨by rw [e9], rfl, rfl, ⟨fun _ => hI, hI.ee⟩, hF⟩)
  ·
    refine T_iconst (1) dX13_errorOf_185 rfl rfl ?_
    refine T_goto 190 dX13_errorOf_186 (by decide) ?_
    refine T_iadd dX13_errorOf_190 rfl ?_
    refine p13_70 rfl (hV.t_q) dX13_errorOf_191 rfl ?_
    refine T_nm (fun M2 e2 => ?_)
    have hM := hM.frU e2 (by omega)
    have hV := PV.mv (hV.p_logs (by first | exact nI_1 _ | exact (Int32.add_zero _ : nI (cntR rl 3 t) + 0 = nI (cntR rl 3 t)))) e2
    have hF := hF.up e2 (by omega)
    refine T_iload3 dX13_errorOf_194 rfl ?_
    refine T_iret rfl rfl dX13_errorOf_195 ?_
    first
      | exact ⟨by rw [e9], rfl, rfl, ⟨fun q => absurd (e9.symm.trans q) c9, ⟨ω, hM.rf, hω⟩⟩, hF⟩
      | (have hI : EI _ _ m y z s1 s2 n8 dp hr wr cs os B V rl ω0 w0 (t) (t + 1) := EI.st hM hV hω (hmt.nn (by rw [hr9]; decide) (by rw [hr9]; decide)) hD (cntR_n (by rw [hr9]; decide)) (cntR_n (by rw [hr9]; decide)) (cntR_y hr9) (cntR_n (by rw [hr9]; decide)) (cntR_n (by rw [hr9]; decide)) (dtF_n (by rw [hr9]; decide))
         exact ⟨by rw [e9], rfl, rfl, ⟨fun _ => hI, hI.ee⟩, hF⟩)
set_option maxHeartbeats 1000000 in
theorem er_4 {l : Launch} {D : va_G} {cA : Nat → ClassId} {n0 : Nat} {sg adK adV : Nat → Nat} {sgA smA wdA bS LS : Nat} {xs : Nat → Int32} (hX : SF n0 (XW0 sg adK adV sgA smA wdA n0 bS LS xs)) {m y z s1 s2 n8 dp hr wr cs os lt t : Nat} {B : Nat → Nat} {K : Nat → Nat} {S : Nat → Int32} {V : Nat → Int64} {rl : Nat → Int32} {ω0 w0 : RH} (hmz : m + 7 ≤ z ∨ z + 19 ≤ m) (h8 : ∀ i, B i < 256) (hTK : TKF B lt K S V ω0) (hrl0 : ∀ i, i ≤ lt → ω0 83 i = rl i) (hNm : ∀ i, i < lt → K i = 44 → ∃ c, c < 1000000 ∧ V i = Int64.ofNat c) (ht : t < lt) (hRG : ∀ i, RGi K rl i) (hcn : cntR rl 1 t ≤ 8 ∧ cntR rl 2 t ≤ 6 ∧ cntR rl 3 t ≤ 20 ∧ cntR rl 4 t ≤ 12 ∧ cntR rl 5 t ≤ 12) (hr9 : rl t = 4) {sz : Nat} {τ : TY} {M : ME} (hQ : EI τ M m y z s1 s2 n8 dp hr wr cs os B V rl ω0 w0 (t) (t)) : CT l D cA n0 (XW0 sg adK adV sgA smA wdA n0 bS LS xs) mX13_errorOf 6 0 0 sz τ M [.ref m, .int (nI t)] (fun v' sz' τ' M' => v' = some (.int (erF V rl t)) ∧ sz' = sz ∧ τ' = τ ∧ ((erF V rl t = 0 → EI τ M' m y z s1 s2 n8 dp hr wr cs os B V rl ω0 w0 (t) (t + 1)) ∧ EE τ M' m y z s1 s2 n8 dp B ω0 t) ∧ FMZ m z M M') := by
  refine CT.of (ls := [.ref m, .int (nI t), UU, UU]) (by decide) (Nat.le_of_ble_eq_true rfl) rfl ?_
  have hQ0 := hQ
  obtain ⟨ω, w, hM, hV, hω, hmt, hD⟩ := hQ
  have hl := hTK.1.1
  have hTKn := hTK
  replace hTK := hTK.of hω
  have hrl : ∀ i, i ≤ lt → ω 83 i = rl i := fun i hi => by rw [hω 83 _ (by decide)]; exact hrl0 i hi
  obtain ⟨rg0, rg1, rg2, rg3, rg4, rg5, rg6, rg7⟩ := hRG t
  have hF : FMZ m z M M := FMZ.rf _ _ _
  obtain ⟨cn1, cn2, cn3, cn4, cn5⟩ := hcn
  have e9 := erF_v4 (V := V) hr9
  refine T_aload0 dX13_errorOf_0 rfl ?_
  refine g13_39 _ rfl (hM.t_m) (hM.g_z) dX13_errorOf_1 rfl ?_
  refine T_astore2 rfl (by decide) dX13_errorOf_4 rfl ?_
  refine T_iconst (0) dX13_errorOf_5 rfl rfl ?_
  refine T_istore3 rfl (by decide) dX13_errorOf_6 rfl ?_
  refine T_aload0 dX13_errorOf_7 rfl ?_
  refine g13_26 _ rfl (hM.t_m) (hM.g_ro) dX13_errorOf_8 rfl ?_
  refine T_iload1 dX13_errorOf_11 rfl ?_
  refine T_iald _ (hM.t_ro) rfl (by omega) (by decide) dX13_errorOf_12 rfl (hM.g_vro (by omega)) ?_
  rw [hrl t (by omega), hr9]
  refine T_tin (off := 183) 196 dX13_errorOf_13 (by decide +kernel) (by decide +kernel) (by decide +kernel) (by decide) ?_
  refine T_aload2 dX13_errorOf_196 rfl ?_
  refine g13_235 _ rfl (hV.t_q) (hV.g_hauls) dX13_errorOf_197 rfl ?_
  refine T_bipush (12) dX13_errorOf_200 rfl rfl ?_
  refine T_icmp_ne 207 205 dX13_errorOf_202 (by decide) rfl (fun c9 => ?_) (fun c9 => ?_)
  ·
    have c9 : ¬ cntR rl 4 t = 12 := fun e => c9 (by rw [e]; rfl)
    refine T_aload2 dX13_errorOf_207 rfl ?_
    refine T_dup dX13_errorOf_208 rfl rfl ?_
    refine g13_235 _ rfl (hV.t_q) (hV.g_hauls) dX13_errorOf_209 rfl ?_
    refine T_iconst (1) dX13_errorOf_212 rfl rfl ?_
    refine T_iadd dX13_errorOf_213 rfl ?_
    refine p13_235 rfl (hV.t_q) dX13_errorOf_214 rfl ?_
    refine T_nm (fun M1 e1 => ?_)
    have hM := hM.frU e1 (by omega)
    have hV := PV.mv (hV.p_hauls (n := cntR rl 4 t + 1) (nI_1 _)) e1
    have hF := hF.up e1 (by omega)
    refine T_iconst (0) dX13_errorOf_217 rfl rfl ?_
    refine T_iret rfl rfl dX13_errorOf_218 ?_
    rw [if_neg c9] at e9
    have hI : EI _ _ m y z s1 s2 n8 dp hr wr cs os B V rl ω0 w0 (t) (t + 1) := EI.st hM hV hω (hmt.nn (by rw [hr9]; decide) (by rw [hr9]; decide)) hD (cntR_n (by rw [hr9]; decide)) (cntR_n (by rw [hr9]; decide)) (cntR_n (by rw [hr9]; decide)) (cntR_y hr9) (cntR_n (by rw [hr9]; decide)) (dtF_n (by rw [hr9]; decide))
    exact ⟨by rw [e9], rfl, rfl, ⟨fun _ => hI, hI.ee⟩, hF⟩
  ·
    have c9 : cntR rl 4 t = 12 := (nI_eq (a := cntR rl 4 t) (b := 12) (by omega) (by decide)).mp (by first | exact c9 | exact Decidable.not_not.mp c9)
    refine T_iconst (4) dX13_errorOf_205 rfl rfl ?_
    refine T_iret rfl rfl dX13_errorOf_206 ?_
    rw [if_pos c9] at e9
    exact ⟨by rw [e9], rfl, rfl, ⟨fun q => by rw [e9] at q; exact absurd q (by decide), ⟨ω, hM.rf, hω⟩⟩, hF⟩
set_option maxHeartbeats 1000000 in
theorem er_5 {l : Launch} {D : va_G} {cA : Nat → ClassId} {n0 : Nat} {sg adK adV : Nat → Nat} {sgA smA wdA bS LS : Nat} {xs : Nat → Int32} (hX : SF n0 (XW0 sg adK adV sgA smA wdA n0 bS LS xs)) {m y z s1 s2 n8 dp hr wr cs os lt t : Nat} {B : Nat → Nat} {K : Nat → Nat} {S : Nat → Int32} {V : Nat → Int64} {rl : Nat → Int32} {ω0 w0 : RH} (hmz : m + 7 ≤ z ∨ z + 19 ≤ m) (h8 : ∀ i, B i < 256) (hTK : TKF B lt K S V ω0) (hrl0 : ∀ i, i ≤ lt → ω0 83 i = rl i) (hNm : ∀ i, i < lt → K i = 44 → ∃ c, c < 1000000 ∧ V i = Int64.ofNat c) (ht : t < lt) (hRG : ∀ i, RGi K rl i) (hcn : cntR rl 1 t ≤ 8 ∧ cntR rl 2 t ≤ 6 ∧ cntR rl 3 t ≤ 20 ∧ cntR rl 4 t ≤ 12 ∧ cntR rl 5 t ≤ 12) (hr9 : rl t = 5) {sz : Nat} {τ : TY} {M : ME} (hQ : EI τ M m y z s1 s2 n8 dp hr wr cs os B V rl ω0 w0 (t) (t)) : CT l D cA n0 (XW0 sg adK adV sgA smA wdA n0 bS LS xs) mX13_errorOf 6 0 0 sz τ M [.ref m, .int (nI t)] (fun v' sz' τ' M' => v' = some (.int (erF V rl t)) ∧ sz' = sz ∧ τ' = τ ∧ ((erF V rl t = 0 → EI τ M' m y z s1 s2 n8 dp hr wr cs os B V rl ω0 w0 (t) (t + 1)) ∧ EE τ M' m y z s1 s2 n8 dp B ω0 t) ∧ FMZ m z M M') := by
  refine CT.of (ls := [.ref m, .int (nI t), UU, UU]) (by decide) (Nat.le_of_ble_eq_true rfl) rfl ?_
  have hQ0 := hQ
  obtain ⟨ω, w, hM, hV, hω, hmt, hD⟩ := hQ
  have hl := hTK.1.1
  have hTKn := hTK
  replace hTK := hTK.of hω
  have hrl : ∀ i, i ≤ lt → ω 83 i = rl i := fun i hi => by rw [hω 83 _ (by decide)]; exact hrl0 i hi
  obtain ⟨rg0, rg1, rg2, rg3, rg4, rg5, rg6, rg7⟩ := hRG t
  have hF : FMZ m z M M := FMZ.rf _ _ _
  obtain ⟨cn1, cn2, cn3, cn4, cn5⟩ := hcn
  have e9 := erF_v5 (V := V) hr9
  refine T_aload0 dX13_errorOf_0 rfl ?_
  refine g13_39 _ rfl (hM.t_m) (hM.g_z) dX13_errorOf_1 rfl ?_
  refine T_astore2 rfl (by decide) dX13_errorOf_4 rfl ?_
  refine T_iconst (0) dX13_errorOf_5 rfl rfl ?_
  refine T_istore3 rfl (by decide) dX13_errorOf_6 rfl ?_
  refine T_aload0 dX13_errorOf_7 rfl ?_
  refine g13_26 _ rfl (hM.t_m) (hM.g_ro) dX13_errorOf_8 rfl ?_
  refine T_iload1 dX13_errorOf_11 rfl ?_
  refine T_iald _ (hM.t_ro) rfl (by omega) (by decide) dX13_errorOf_12 rfl (hM.g_vro (by omega)) ?_
  rw [hrl t (by omega), hr9]
  refine T_tin (off := 206) 219 dX13_errorOf_13 (by decide +kernel) (by decide +kernel) (by decide +kernel) (by decide) ?_
  refine T_aload2 dX13_errorOf_219 rfl ?_
  refine g13_238 _ rfl (hV.t_q) (hV.g_waits) dX13_errorOf_220 rfl ?_
  refine T_bipush (12) dX13_errorOf_223 rfl rfl ?_
  refine T_icmp_ne 230 228 dX13_errorOf_225 (by decide) rfl (fun c9 => ?_) (fun c9 => ?_)
  ·
    have c9 : ¬ cntR rl 5 t = 12 := fun e => c9 (by rw [e]; rfl)
    refine T_aload2 dX13_errorOf_230 rfl ?_
    refine T_dup dX13_errorOf_231 rfl rfl ?_
    refine g13_238 _ rfl (hV.t_q) (hV.g_waits) dX13_errorOf_232 rfl ?_
    refine T_iconst (1) dX13_errorOf_235 rfl rfl ?_
    refine T_iadd dX13_errorOf_236 rfl ?_
    refine p13_238 rfl (hV.t_q) dX13_errorOf_237 rfl ?_
    refine T_nm (fun M1 e1 => ?_)
    have hM := hM.frU e1 (by omega)
    have hV := PV.mv (hV.p_waits (n := cntR rl 5 t + 1) (nI_1 _)) e1
    have hF := hF.up e1 (by omega)
    refine T_iconst (0) dX13_errorOf_240 rfl rfl ?_
    refine T_iret rfl rfl dX13_errorOf_241 ?_
    rw [if_neg c9] at e9
    have hI : EI _ _ m y z s1 s2 n8 dp hr wr cs os B V rl ω0 w0 (t) (t + 1) := EI.st hM hV hω (hmt.nn (by rw [hr9]; decide) (by rw [hr9]; decide)) hD (cntR_n (by rw [hr9]; decide)) (cntR_n (by rw [hr9]; decide)) (cntR_n (by rw [hr9]; decide)) (cntR_n (by rw [hr9]; decide)) (cntR_y hr9) (dtF_n (by rw [hr9]; decide))
    exact ⟨by rw [e9], rfl, rfl, ⟨fun _ => hI, hI.ee⟩, hF⟩
  ·
    have c9 : cntR rl 5 t = 12 := (nI_eq (a := cntR rl 5 t) (b := 12) (by omega) (by decide)).mp (by first | exact c9 | exact Decidable.not_not.mp c9)
    refine T_iconst (4) dX13_errorOf_228 rfl rfl ?_
    refine T_iret rfl rfl dX13_errorOf_229 ?_
    rw [if_pos c9] at e9
    exact ⟨by rw [e9], rfl, rfl, ⟨fun q => by rw [e9] at q; exact absurd q (by decide), ⟨ω, hM.rf, hω⟩⟩, hF⟩
set_option maxHeartbeats 1000000 in
theorem er_6 {l : Launch} {D : va_G} {cA : Nat → ClassId} {n0 : Nat} {sg adK adV : Nat → Nat} {sgA smA wdA bS LS : Nat} {xs : Nat → Int32} (hX : SF n0 (XW0 sg adK adV sgA smA wdA n0 bS LS xs)) {m y z s1 s2 n8 dp hr wr cs os lt t : Nat} {B : Nat → Nat} {K : Nat → Nat} {S : Nat → Int32} {V : Nat → Int64} {rl : Nat → Int32} {ω0 w0 : RH} (hmz : m + 7 ≤ z ∨ z + 19 ≤ m) (h8 : ∀ i, B i < 256) (hTK : TKF B lt K S V ω0) (hrl0 : ∀ i, i ≤ lt → ω0 83 i = rl i) (hNm : ∀ i, i < lt → K i = 44 → ∃ c, c < 1000000 ∧ V i = Int64.ofNat c) (ht : t < lt) (hRG : ∀ i, RGi K rl i) (hcn : cntR rl 1 t ≤ 8 ∧ cntR rl 2 t ≤ 6 ∧ cntR rl 3 t ≤ 20 ∧ cntR rl 4 t ≤ 12 ∧ cntR rl 5 t ≤ 12) (hr9 : rl t = 6) {sz : Nat} {τ : TY} {M : ME} (hQ : EI τ M m y z s1 s2 n8 dp hr wr cs os B V rl ω0 w0 (t) (t)) : CT l D cA n0 (XW0 sg adK adV sgA smA wdA n0 bS LS xs) mX13_errorOf 6 0 0 sz τ M [.ref m, .int (nI t)] (fun v' sz' τ' M' => v' = some (.int (erF V rl t)) ∧ sz' = sz ∧ τ' = τ ∧ ((erF V rl t = 0 → EI τ M' m y z s1 s2 n8 dp hr wr cs os B V rl ω0 w0 (t) (t + 1)) ∧ EE τ M' m y z s1 s2 n8 dp B ω0 t) ∧ FMZ m z M M') := by
  refine CT.of (ls := [.ref m, .int (nI t), UU, UU]) (by decide) (Nat.le_of_ble_eq_true rfl) rfl ?_
  have hQ0 := hQ
  obtain ⟨ω, w, hM, hV, hω, hmt, hD⟩ := hQ
  have hl := hTK.1.1
  have hTKn := hTK
  replace hTK := hTK.of hω
  have hrl : ∀ i, i ≤ lt → ω 83 i = rl i := fun i hi => by rw [hω 83 _ (by decide)]; exact hrl0 i hi
  obtain ⟨rg0, rg1, rg2, rg3, rg4, rg5, rg6, rg7⟩ := hRG t
  have hF : FMZ m z M M := FMZ.rf _ _ _
  refine T_aload0 dX13_errorOf_0 rfl ?_
  refine g13_39 _ rfl (hM.t_m) (hM.g_z) dX13_errorOf_1 rfl ?_
  refine T_astore2 rfl (by decide) dX13_errorOf_4 rfl ?_
  refine T_iconst (0) dX13_errorOf_5 rfl rfl ?_
  refine T_istore3 rfl (by decide) dX13_errorOf_6 rfl ?_
  refine T_aload0 dX13_errorOf_7 rfl ?_
  refine g13_26 _ rfl (hM.t_m) (hM.g_ro) dX13_errorOf_8 rfl ?_
  refine T_iload1 dX13_errorOf_11 rfl ?_
  refine T_iald _ (hM.t_ro) rfl (by omega) (by decide) dX13_errorOf_12 rfl (hM.g_vro (by omega)) ?_
  rw [hrl t (by omega), hr9]
  refine T_tin (off := 321) 334 dX13_errorOf_13 (by decide +kernel) (by decide +kernel) (by decide +kernel) (by decide) ?_
  refine T_aload0 dX13_errorOf_334 rfl ?_
  refine T_iload1 dX13_errorOf_335 rfl ?_
  refine T_cV1 (en_6 hX hmz h8 hTKn hrl0 hNm ht hRG hcn hr9 hQ0) hX k13_253 (Or.inl ⟨_, _, _, _, (hM.t_m), by decide, rfl⟩) (by decide) (Nat.le_of_ble_eq_true rfl) dX13_errorOf_336 rfl ?_
  rintro _ _ _ M9 ⟨rfl, rfl, rfl, ⟨hI, hE⟩, hF9⟩
  refine T_iret rfl rfl dX13_errorOf_339 ?_
  exact ⟨rfl, rfl, rfl, ⟨hI, hE⟩, hF.tr hF9⟩
set_option maxHeartbeats 1000000 in
theorem er_7 {l : Launch} {D : va_G} {cA : Nat → ClassId} {n0 : Nat} {sg adK adV : Nat → Nat} {sgA smA wdA bS LS : Nat} {xs : Nat → Int32} (hX : SF n0 (XW0 sg adK adV sgA smA wdA n0 bS LS xs)) {m y z s1 s2 n8 dp hr wr cs os lt t : Nat} {B : Nat → Nat} {K : Nat → Nat} {S : Nat → Int32} {V : Nat → Int64} {rl : Nat → Int32} {ω0 w0 : RH} (hmz : m + 7 ≤ z ∨ z + 19 ≤ m) (h8 : ∀ i, B i < 256) (hTK : TKF B lt K S V ω0) (hrl0 : ∀ i, i ≤ lt → ω0 83 i = rl i) (hNm : ∀ i, i < lt → K i = 44 → ∃ c, c < 1000000 ∧ V i = Int64.ofNat c) (ht : t < lt) (hRG : ∀ i, RGi K rl i) (hcn : cntR rl 1 t ≤ 8 ∧ cntR rl 2 t ≤ 6 ∧ cntR rl 3 t ≤ 20 ∧ cntR rl 4 t ≤ 12 ∧ cntR rl 5 t ≤ 12) (hr9 : rl t = 7) {sz : Nat} {τ : TY} {M : ME} (hQ : EI τ M m y z s1 s2 n8 dp hr wr cs os B V rl ω0 w0 (t) (t)) : CT l D cA n0 (XW0 sg adK adV sgA smA wdA n0 bS LS xs) mX13_errorOf 6 0 0 sz τ M [.ref m, .int (nI t)] (fun v' sz' τ' M' => v' = some (.int (erF V rl t)) ∧ sz' = sz ∧ τ' = τ ∧ ((erF V rl t = 0 → EI τ M' m y z s1 s2 n8 dp hr wr cs os B V rl ω0 w0 (t) (t + 1)) ∧ EE τ M' m y z s1 s2 n8 dp B ω0 t) ∧ FMZ m z M M') := by
  refine CT.of (ls := [.ref m, .int (nI t), UU, UU]) (by decide) (Nat.le_of_ble_eq_true rfl) rfl ?_
  have hQ0 := hQ
  obtain ⟨ω, w, hM, hV, hω, hmt, hD⟩ := hQ
  have hl := hTK.1.1
  have hTKn := hTK
  replace hTK := hTK.of hω
  have hrl : ∀ i, i ≤ lt → ω 83 i = rl i := fun i hi => by rw [hω 83 _ (by decide)]; exact hrl0 i hi
  obtain ⟨rg0, rg1, rg2, rg3, rg4, rg5, rg6, rg7⟩ := hRG t
  have hF : FMZ m z M M := FMZ.rf _ _ _
  refine T_aload0 dX13_errorOf_0 rfl ?_
  refine g13_39 _ rfl (hM.t_m) (hM.g_z) dX13_errorOf_1 rfl ?_
  refine T_astore2 rfl (by decide) dX13_errorOf_4 rfl ?_
  refine T_iconst (0) dX13_errorOf_5 rfl rfl ?_
  refine T_istore3 rfl (by decide) dX13_errorOf_6 rfl ?_
  refine T_aload0 dX13_errorOf_7 rfl ?_
  refine g13_26 _ rfl (hM.t_m) (hM.g_ro) dX13_errorOf_8 rfl ?_
  refine T_iload1 dX13_errorOf_11 rfl ?_
  refine T_iald _ (hM.t_ro) rfl (by omega) (by decide) dX13_errorOf_12 rfl (hM.g_vro (by omega)) ?_
  rw [hrl t (by omega), hr9]
  refine T_tin (off := 321) 334 dX13_errorOf_13 (by decide +kernel) (by decide +kernel) (by decide +kernel) (by decide) ?_
  refine T_aload0 dX13_errorOf_334 rfl ?_
  refine T_iload1 dX13_errorOf_335 rfl ?_
  refine T_cV1 (en_7 hX hmz h8 hTKn hrl0 hNm ht hRG hcn hr9 hQ0) hX k13_253 (Or.inl ⟨_, _, _, _, (hM.t_m), by decide, rfl⟩) (by decide) (Nat.le_of_ble_eq_true rfl) dX13_errorOf_336 rfl ?_
  rintro _ _ _ M9 ⟨rfl, rfl, rfl, ⟨hI, hE⟩, hF9⟩
  refine T_iret rfl rfl dX13_errorOf_339 ?_
  exact ⟨rfl, rfl, rfl, ⟨hI, hE⟩, hF.tr hF9⟩
set_option maxHeartbeats 1000000 in
theorem er_8 {l : Launch} {D : va_G} {cA : Nat → ClassId} {n0 : Nat} {sg adK adV : Nat → Nat} {sgA smA wdA bS LS : Nat} {xs : Nat → Int32} (hX : SF n0 (XW0 sg adK adV sgA smA wdA n0 bS LS xs)) {m y z s1 s2 n8 dp hr wr cs os lt t : Nat} {B : Nat → Nat} {K : Nat → Nat} {S : Nat → Int32} {V : Nat → Int64} {rl : Nat → Int32} {ω0 w0 : RH} (hmz : m + 7 ≤ z ∨ z + 19 ≤ m) (h8 : ∀ i, B i < 256) (hTK : TKF B lt K S V ω0) (hrl0 : ∀ i, i ≤ lt → ω0 83 i = rl i) (hNm : ∀ i, i < lt → K i = 44 → ∃ c, c < 1000000 ∧ V i = Int64.ofNat c) (ht : t < lt) (hRG : ∀ i, RGi K rl i) (hcn : cntR rl 1 t ≤ 8 ∧ cntR rl 2 t ≤ 6 ∧ cntR rl 3 t ≤ 20 ∧ cntR rl 4 t ≤ 12 ∧ cntR rl 5 t ≤ 12) (hr9 : rl t = 8) {sz : Nat} {τ : TY} {M : ME} (hQ : EI τ M m y z s1 s2 n8 dp hr wr cs os B V rl ω0 w0 (t) (t)) : CT l D cA n0 (XW0 sg adK adV sgA smA wdA n0 bS LS xs) mX13_errorOf 6 0 0 sz τ M [.ref m, .int (nI t)] (fun v' sz' τ' M' => v' = some (.int (erF V rl t)) ∧ sz' = sz ∧ τ' = τ ∧ ((erF V rl t = 0 → EI τ M' m y z s1 s2 n8 dp hr wr cs os B V rl ω0 w0 (t) (t + 1)) ∧ EE τ M' m y z s1 s2 n8 dp B ω0 t) ∧ FMZ m z M M') := by
  refine CT.of (ls := [.ref m, .int (nI t), UU, UU]) (by decide) (Nat.le_of_ble_eq_true rfl) rfl ?_
  have hQ0 := hQ
  obtain ⟨ω, w, hM, hV, hω, hmt, hD⟩ := hQ
  have hl := hTK.1.1
  have hTKn := hTK
  replace hTK := hTK.of hω
  have hrl : ∀ i, i ≤ lt → ω 83 i = rl i := fun i hi => by rw [hω 83 _ (by decide)]; exact hrl0 i hi
  obtain ⟨rg0, rg1, rg2, rg3, rg4, rg5, rg6, rg7⟩ := hRG t
  have hF : FMZ m z M M := FMZ.rf _ _ _
  refine T_aload0 dX13_errorOf_0 rfl ?_
  refine g13_39 _ rfl (hM.t_m) (hM.g_z) dX13_errorOf_1 rfl ?_
  refine T_astore2 rfl (by decide) dX13_errorOf_4 rfl ?_
  refine T_iconst (0) dX13_errorOf_5 rfl rfl ?_
  refine T_istore3 rfl (by decide) dX13_errorOf_6 rfl ?_
  refine T_aload0 dX13_errorOf_7 rfl ?_
  refine g13_26 _ rfl (hM.t_m) (hM.g_ro) dX13_errorOf_8 rfl ?_
  refine T_iload1 dX13_errorOf_11 rfl ?_
  refine T_iald _ (hM.t_ro) rfl (by omega) (by decide) dX13_errorOf_12 rfl (hM.g_vro (by omega)) ?_
  rw [hrl t (by omega), hr9]
  refine T_tin (off := 321) 334 dX13_errorOf_13 (by decide +kernel) (by decide +kernel) (by decide +kernel) (by decide) ?_
  refine T_aload0 dX13_errorOf_334 rfl ?_
  refine T_iload1 dX13_errorOf_335 rfl ?_
  refine T_cV1 (en_8 hX hmz h8 hTKn hrl0 hNm ht hRG hcn hr9 hQ0) hX k13_253 (Or.inl ⟨_, _, _, _, (hM.t_m), by decide, rfl⟩) (by decide) (Nat.le_of_ble_eq_true rfl) dX13_errorOf_336 rfl ?_
  rintro _ _ _ M9 ⟨rfl, rfl, rfl, ⟨hI, hE⟩, hF9⟩
  refine T_iret rfl rfl dX13_errorOf_339 ?_
  exact ⟨rfl, rfl, rfl, ⟨hI, hE⟩, hF.tr hF9⟩
set_option maxHeartbeats 1000000 in
theorem er_9 {l : Launch} {D : va_G} {cA : Nat → ClassId} {n0 : Nat} {sg adK adV : Nat → Nat} {sgA smA wdA bS LS : Nat} {xs : Nat → Int32} (hX : SF n0 (XW0 sg adK adV sgA smA wdA n0 bS LS xs)) {m y z s1 s2 n8 dp hr wr cs os lt t : Nat} {B : Nat → Nat} {K : Nat → Nat} {S : Nat → Int32} {V : Nat → Int64} {rl : Nat → Int32} {ω0 w0 : RH} (hmz : m + 7 ≤ z ∨ z + 19 ≤ m) (h8 : ∀ i, B i < 256) (hTK : TKF B lt K S V ω0) (hrl0 : ∀ i, i ≤ lt → ω0 83 i = rl i) (hNm : ∀ i, i < lt → K i = 44 → ∃ c, c < 1000000 ∧ V i = Int64.ofNat c) (ht : t < lt) (hRG : ∀ i, RGi K rl i) (hcn : cntR rl 1 t ≤ 8 ∧ cntR rl 2 t ≤ 6 ∧ cntR rl 3 t ≤ 20 ∧ cntR rl 4 t ≤ 12 ∧ cntR rl 5 t ≤ 12) (hr9 : rl t = 9) {sz : Nat} {τ : TY} {M : ME} (hQ : EI τ M m y z s1 s2 n8 dp hr wr cs os B V rl ω0 w0 (t) (t)) : CT l D cA n0 (XW0 sg adK adV sgA smA wdA n0 bS LS xs) mX13_errorOf 6 0 0 sz τ M [.ref m, .int (nI t)] (fun v' sz' τ' M' => v' = some (.int (erF V rl t)) ∧ sz' = sz ∧ τ' = τ ∧ ((erF V rl t = 0 → EI τ M' m y z s1 s2 n8 dp hr wr cs os B V rl ω0 w0 (t) (t + 1)) ∧ EE τ M' m y z s1 s2 n8 dp B ω0 t) ∧ FMZ m z M M') := by
  refine CT.of (ls := [.ref m, .int (nI t), UU, UU]) (by decide) (Nat.le_of_ble_eq_true rfl) rfl ?_
  have hQ0 := hQ
  obtain ⟨ω, w, hM, hV, hω, hmt, hD⟩ := hQ
  have hl := hTK.1.1
  have hTKn := hTK
  replace hTK := hTK.of hω
  have hrl : ∀ i, i ≤ lt → ω 83 i = rl i := fun i hi => by rw [hω 83 _ (by decide)]; exact hrl0 i hi
  obtain ⟨rg0, rg1, rg2, rg3, rg4, rg5, rg6, rg7⟩ := hRG t
  have hF : FMZ m z M M := FMZ.rf _ _ _
  refine T_aload0 dX13_errorOf_0 rfl ?_
  refine g13_39 _ rfl (hM.t_m) (hM.g_z) dX13_errorOf_1 rfl ?_
  refine T_astore2 rfl (by decide) dX13_errorOf_4 rfl ?_
  refine T_iconst (0) dX13_errorOf_5 rfl rfl ?_
  refine T_istore3 rfl (by decide) dX13_errorOf_6 rfl ?_
  refine T_aload0 dX13_errorOf_7 rfl ?_
  refine g13_26 _ rfl (hM.t_m) (hM.g_ro) dX13_errorOf_8 rfl ?_
  refine T_iload1 dX13_errorOf_11 rfl ?_
  refine T_iald _ (hM.t_ro) rfl (by omega) (by decide) dX13_errorOf_12 rfl (hM.g_vro (by omega)) ?_
  rw [hrl t (by omega), hr9]
  refine T_tin (off := 321) 334 dX13_errorOf_13 (by decide +kernel) (by decide +kernel) (by decide +kernel) (by decide) ?_
  refine T_aload0 dX13_errorOf_334 rfl ?_
  refine T_iload1 dX13_errorOf_335 rfl ?_
  refine T_cV1 (en_9 hX hmz h8 hTKn hrl0 hNm ht hRG hcn hr9 hQ0) hX k13_253 (Or.inl ⟨_, _, _, _, (hM.t_m), by decide, rfl⟩) (by decide) (Nat.le_of_ble_eq_true rfl) dX13_errorOf_336 rfl ?_
  rintro _ _ _ M9 ⟨rfl, rfl, rfl, ⟨hI, hE⟩, hF9⟩
  refine T_iret rfl rfl dX13_errorOf_339 ?_
  exact ⟨rfl, rfl, rfl, ⟨hI, hE⟩, hF.tr hF9⟩
set_option maxHeartbeats 1000000 in
theorem er_10 {l : Launch} {D : va_G} {cA : Nat → ClassId} {n0 : Nat} {sg adK adV : Nat → Nat} {sgA smA wdA bS LS : Nat} {xs : Nat → Int32} (hX : SF n0 (XW0 sg adK adV sgA smA wdA n0 bS LS xs)) {m y z s1 s2 n8 dp hr wr cs os lt t : Nat} {B : Nat → Nat} {K : Nat → Nat} {S : Nat → Int32} {V : Nat → Int64} {rl : Nat → Int32} {ω0 w0 : RH} (hmz : m + 7 ≤ z ∨ z + 19 ≤ m) (h8 : ∀ i, B i < 256) (hTK : TKF B lt K S V ω0) (hrl0 : ∀ i, i ≤ lt → ω0 83 i = rl i) (hNm : ∀ i, i < lt → K i = 44 → ∃ c, c < 1000000 ∧ V i = Int64.ofNat c) (ht : t < lt) (hRG : ∀ i, RGi K rl i) (hcn : cntR rl 1 t ≤ 8 ∧ cntR rl 2 t ≤ 6 ∧ cntR rl 3 t ≤ 20 ∧ cntR rl 4 t ≤ 12 ∧ cntR rl 5 t ≤ 12) (hr9 : rl t = 10) {sz : Nat} {τ : TY} {M : ME} (hQ : EI τ M m y z s1 s2 n8 dp hr wr cs os B V rl ω0 w0 (t) (t)) : CT l D cA n0 (XW0 sg adK adV sgA smA wdA n0 bS LS xs) mX13_errorOf 6 0 0 sz τ M [.ref m, .int (nI t)] (fun v' sz' τ' M' => v' = some (.int (erF V rl t)) ∧ sz' = sz ∧ τ' = τ ∧ ((erF V rl t = 0 → EI τ M' m y z s1 s2 n8 dp hr wr cs os B V rl ω0 w0 (t) (t + 1)) ∧ EE τ M' m y z s1 s2 n8 dp B ω0 t) ∧ FMZ m z M M') := by
  refine CT.of (ls := [.ref m, .int (nI t), UU, UU]) (by decide) (Nat.le_of_ble_eq_true rfl) rfl ?_
  have hQ0 := hQ
  obtain ⟨ω, w, hM, hV, hω, hmt, hD⟩ := hQ
  have hl := hTK.1.1
  have hTKn := hTK
  replace hTK := hTK.of hω
  have hrl : ∀ i, i ≤ lt → ω 83 i = rl i := fun i hi => by rw [hω 83 _ (by decide)]; exact hrl0 i hi
  obtain ⟨rg0, rg1, rg2, rg3, rg4, rg5, rg6, rg7⟩ := hRG t
  have hF : FMZ m z M M := FMZ.rf _ _ _
  refine T_aload0 dX13_errorOf_0 rfl ?_
  refine g13_39 _ rfl (hM.t_m) (hM.g_z) dX13_errorOf_1 rfl ?_
  refine T_astore2 rfl (by decide) dX13_errorOf_4 rfl ?_
  refine T_iconst (0) dX13_errorOf_5 rfl rfl ?_
  refine T_istore3 rfl (by decide) dX13_errorOf_6 rfl ?_
  refine T_aload0 dX13_errorOf_7 rfl ?_
  refine g13_26 _ rfl (hM.t_m) (hM.g_ro) dX13_errorOf_8 rfl ?_
  refine T_iload1 dX13_errorOf_11 rfl ?_
  refine T_iald _ (hM.t_ro) rfl (by omega) (by decide) dX13_errorOf_12 rfl (hM.g_vro (by omega)) ?_
  rw [hrl t (by omega), hr9]
  refine T_tin (off := 321) 334 dX13_errorOf_13 (by decide +kernel) (by decide +kernel) (by decide +kernel) (by decide) ?_
  refine T_aload0 dX13_errorOf_334 rfl ?_
  refine T_iload1 dX13_errorOf_335 rfl ?_
  refine T_cV1 (en_10 hX hmz h8 hTKn hrl0 hNm ht hRG hcn hr9 hQ0) hX k13_253 (Or.inl ⟨_, _, _, _, (hM.t_m), by decide, rfl⟩) (by decide) (Nat.le_of_ble_eq_true rfl) dX13_errorOf_336 rfl ?_
  rintro _ _ _ M9 ⟨rfl, rfl, rfl, ⟨hI, hE⟩, hF9⟩
  refine T_iret rfl rfl dX13_errorOf_339 ?_
  exact ⟨rfl, rfl, rfl, ⟨hI, hE⟩, hF.tr hF9⟩
set_option maxHeartbeats 1000000 in
theorem er_11 {l : Launch} {D : va_G} {cA : Nat → ClassId} {n0 : Nat} {sg adK adV : Nat → Nat} {sgA smA wdA bS LS : Nat} {xs : Nat → Int32} (hX : SF n0 (XW0 sg adK adV sgA smA wdA n0 bS LS xs)) {m y z s1 s2 n8 dp hr wr cs os lt t : Nat} {B : Nat → Nat} {K : Nat → Nat} {S : Nat → Int32} {V : Nat → Int64} {rl : Nat → Int32} {ω0 w0 : RH} (hmz : m + 7 ≤ z ∨ z + 19 ≤ m) (h8 : ∀ i, B i < 256) (hTK : TKF B lt K S V ω0) (hrl0 : ∀ i, i ≤ lt → ω0 83 i = rl i) (hNm : ∀ i, i < lt → K i = 44 → ∃ c, c < 1000000 ∧ V i = Int64.ofNat c) (ht : t < lt) (hRG : ∀ i, RGi K rl i) (hcn : cntR rl 1 t ≤ 8 ∧ cntR rl 2 t ≤ 6 ∧ cntR rl 3 t ≤ 20 ∧ cntR rl 4 t ≤ 12 ∧ cntR rl 5 t ≤ 12) (hr9 : rl t = 11) {sz : Nat} {τ : TY} {M : ME} (hQ : EI τ M m y z s1 s2 n8 dp hr wr cs os B V rl ω0 w0 (t) (t)) : CT l D cA n0 (XW0 sg adK adV sgA smA wdA n0 bS LS xs) mX13_errorOf 6 0 0 sz τ M [.ref m, .int (nI t)] (fun v' sz' τ' M' => v' = some (.int (erF V rl t)) ∧ sz' = sz ∧ τ' = τ ∧ ((erF V rl t = 0 → EI τ M' m y z s1 s2 n8 dp hr wr cs os B V rl ω0 w0 (t) (t + 1)) ∧ EE τ M' m y z s1 s2 n8 dp B ω0 t) ∧ FMZ m z M M') := by
  refine CT.of (ls := [.ref m, .int (nI t), UU, UU]) (by decide) (Nat.le_of_ble_eq_true rfl) rfl ?_
  have hQ0 := hQ
  obtain ⟨ω, w, hM, hV, hω, hmt, hD⟩ := hQ
  have hl := hTK.1.1
  have hTKn := hTK
  replace hTK := hTK.of hω
  have hrl : ∀ i, i ≤ lt → ω 83 i = rl i := fun i hi => by rw [hω 83 _ (by decide)]; exact hrl0 i hi
  obtain ⟨rg0, rg1, rg2, rg3, rg4, rg5, rg6, rg7⟩ := hRG t
  have hF : FMZ m z M M := FMZ.rf _ _ _
  refine T_aload0 dX13_errorOf_0 rfl ?_
  refine g13_39 _ rfl (hM.t_m) (hM.g_z) dX13_errorOf_1 rfl ?_
  refine T_astore2 rfl (by decide) dX13_errorOf_4 rfl ?_
  refine T_iconst (0) dX13_errorOf_5 rfl rfl ?_
  refine T_istore3 rfl (by decide) dX13_errorOf_6 rfl ?_
  refine T_aload0 dX13_errorOf_7 rfl ?_
  refine g13_26 _ rfl (hM.t_m) (hM.g_ro) dX13_errorOf_8 rfl ?_
  refine T_iload1 dX13_errorOf_11 rfl ?_
  refine T_iald _ (hM.t_ro) rfl (by omega) (by decide) dX13_errorOf_12 rfl (hM.g_vro (by omega)) ?_
  rw [hrl t (by omega), hr9]
  refine T_tin (off := 321) 334 dX13_errorOf_13 (by decide +kernel) (by decide +kernel) (by decide +kernel) (by decide) ?_
  refine T_aload0 dX13_errorOf_334 rfl ?_
  refine T_iload1 dX13_errorOf_335 rfl ?_
  refine T_cV1 (en_11 hX hmz h8 hTKn hrl0 hNm ht hRG hcn hr9 hQ0) hX k13_253 (Or.inl ⟨_, _, _, _, (hM.t_m), by decide, rfl⟩) (by decide) (Nat.le_of_ble_eq_true rfl) dX13_errorOf_336 rfl ?_
  rintro _ _ _ M9 ⟨rfl, rfl, rfl, ⟨hI, hE⟩, hF9⟩
  refine T_iret rfl rfl dX13_errorOf_339 ?_
  exact ⟨rfl, rfl, rfl, ⟨hI, hE⟩, hF.tr hF9⟩
set_option maxHeartbeats 1000000 in
theorem er_12 {l : Launch} {D : va_G} {cA : Nat → ClassId} {n0 : Nat} {sg adK adV : Nat → Nat} {sgA smA wdA bS LS : Nat} {xs : Nat → Int32} (hX : SF n0 (XW0 sg adK adV sgA smA wdA n0 bS LS xs)) {m y z s1 s2 n8 dp hr wr cs os lt t : Nat} {B : Nat → Nat} {K : Nat → Nat} {S : Nat → Int32} {V : Nat → Int64} {rl : Nat → Int32} {ω0 w0 : RH} (hmz : m + 7 ≤ z ∨ z + 19 ≤ m) (h8 : ∀ i, B i < 256) (hTK : TKF B lt K S V ω0) (hrl0 : ∀ i, i ≤ lt → ω0 83 i = rl i) (hNm : ∀ i, i < lt → K i = 44 → ∃ c, c < 1000000 ∧ V i = Int64.ofNat c) (ht : t < lt) (hRG : ∀ i, RGi K rl i) (hcn : cntR rl 1 t ≤ 8 ∧ cntR rl 2 t ≤ 6 ∧ cntR rl 3 t ≤ 20 ∧ cntR rl 4 t ≤ 12 ∧ cntR rl 5 t ≤ 12) (hr9 : rl t = 12) {sz : Nat} {τ : TY} {M : ME} (hQ : EI τ M m y z s1 s2 n8 dp hr wr cs os B V rl ω0 w0 (t) (t)) : CT l D cA n0 (XW0 sg adK adV sgA smA wdA n0 bS LS xs) mX13_errorOf 6 0 0 sz τ M [.ref m, .int (nI t)] (fun v' sz' τ' M' => v' = some (.int (erF V rl t)) ∧ sz' = sz ∧ τ' = τ ∧ ((erF V rl t = 0 → EI τ M' m y z s1 s2 n8 dp hr wr cs os B V rl ω0 w0 (t) (t + 1)) ∧ EE τ M' m y z s1 s2 n8 dp B ω0 t) ∧ FMZ m z M M') := by
  refine CT.of (ls := [.ref m, .int (nI t), UU, UU]) (by decide) (Nat.le_of_ble_eq_true rfl) rfl ?_
  have hQ0 := hQ
  obtain ⟨ω, w, hM, hV, hω, hmt, hD⟩ := hQ
  have hl := hTK.1.1
  have hTKn := hTK
  replace hTK := hTK.of hω
  have hrl : ∀ i, i ≤ lt → ω 83 i = rl i := fun i hi => by rw [hω 83 _ (by decide)]; exact hrl0 i hi
  obtain ⟨rg0, rg1, rg2, rg3, rg4, rg5, rg6, rg7⟩ := hRG t
  have hF : FMZ m z M M := FMZ.rf _ _ _
  refine T_aload0 dX13_errorOf_0 rfl ?_
  refine g13_39 _ rfl (hM.t_m) (hM.g_z) dX13_errorOf_1 rfl ?_
  refine T_astore2 rfl (by decide) dX13_errorOf_4 rfl ?_
  refine T_iconst (0) dX13_errorOf_5 rfl rfl ?_
  refine T_istore3 rfl (by decide) dX13_errorOf_6 rfl ?_
  refine T_aload0 dX13_errorOf_7 rfl ?_
  refine g13_26 _ rfl (hM.t_m) (hM.g_ro) dX13_errorOf_8 rfl ?_
  refine T_iload1 dX13_errorOf_11 rfl ?_
  refine T_iald _ (hM.t_ro) rfl (by omega) (by decide) dX13_errorOf_12 rfl (hM.g_vro (by omega)) ?_
  rw [hrl t (by omega), hr9]
  refine T_tin (off := 321) 334 dX13_errorOf_13 (by decide +kernel) (by decide +kernel) (by decide +kernel) (by decide) ?_
  refine T_aload0 dX13_errorOf_334 rfl ?_
  refine T_iload1 dX13_errorOf_335 rfl ?_
  refine T_cV1 (en_12 hX hmz h8 hTKn hrl0 hNm ht hRG hcn hr9 hQ0) hX k13_253 (Or.inl ⟨_, _, _, _, (hM.t_m), by decide, rfl⟩) (by decide) (Nat.le_of_ble_eq_true rfl) dX13_errorOf_336 rfl ?_
  rintro _ _ _ M9 ⟨rfl, rfl, rfl, ⟨hI, hE⟩, hF9⟩
  refine T_iret rfl rfl dX13_errorOf_339 ?_
  exact ⟨rfl, rfl, rfl, ⟨hI, hE⟩, hF.tr hF9⟩
set_option maxHeartbeats 1000000 in
theorem er_13 {l : Launch} {D : va_G} {cA : Nat → ClassId} {n0 : Nat} {sg adK adV : Nat → Nat} {sgA smA wdA bS LS : Nat} {xs : Nat → Int32} (hX : SF n0 (XW0 sg adK adV sgA smA wdA n0 bS LS xs)) {m y z s1 s2 n8 dp hr wr cs os lt t : Nat} {B : Nat → Nat} {K : Nat → Nat} {S : Nat → Int32} {V : Nat → Int64} {rl : Nat → Int32} {ω0 w0 : RH} (hmz : m + 7 ≤ z ∨ z + 19 ≤ m) (h8 : ∀ i, B i < 256) (hTK : TKF B lt K S V ω0) (hrl0 : ∀ i, i ≤ lt → ω0 83 i = rl i) (hNm : ∀ i, i < lt → K i = 44 → ∃ c, c < 1000000 ∧ V i = Int64.ofNat c) (ht : t < lt) (hRG : ∀ i, RGi K rl i) (hcn : cntR rl 1 t ≤ 8 ∧ cntR rl 2 t ≤ 6 ∧ cntR rl 3 t ≤ 20 ∧ cntR rl 4 t ≤ 12 ∧ cntR rl 5 t ≤ 12) (hr9 : rl t = 13) {sz : Nat} {τ : TY} {M : ME} (hQ : EI τ M m y z s1 s2 n8 dp hr wr cs os B V rl ω0 w0 (t) (t)) : CT l D cA n0 (XW0 sg adK adV sgA smA wdA n0 bS LS xs) mX13_errorOf 6 0 0 sz τ M [.ref m, .int (nI t)] (fun v' sz' τ' M' => v' = some (.int (erF V rl t)) ∧ sz' = sz ∧ τ' = τ ∧ ((erF V rl t = 0 → EI τ M' m y z s1 s2 n8 dp hr wr cs os B V rl ω0 w0 (t) (t + 1)) ∧ EE τ M' m y z s1 s2 n8 dp B ω0 t) ∧ FMZ m z M M') := by
  refine CT.of (ls := [.ref m, .int (nI t), UU, UU]) (by decide) (Nat.le_of_ble_eq_true rfl) rfl ?_
  have hQ0 := hQ
  obtain ⟨ω, w, hM, hV, hω, hmt, hD⟩ := hQ
  have hl := hTK.1.1
  have hTKn := hTK
  replace hTK := hTK.of hω
  have hrl : ∀ i, i ≤ lt → ω 83 i = rl i := fun i hi => by rw [hω 83 _ (by decide)]; exact hrl0 i hi
  obtain ⟨rg0, rg1, rg2, rg3, rg4, rg5, rg6, rg7⟩ := hRG t
  have hF : FMZ m z M M := FMZ.rf _ _ _
  refine T_aload0 dX13_errorOf_0 rfl ?_
  refine g13_39 _ rfl (hM.t_m) (hM.g_z) dX13_errorOf_1 rfl ?_
  refine T_astore2 rfl (by decide) dX13_errorOf_4 rfl ?_
  refine T_iconst (0) dX13_errorOf_5 rfl rfl ?_
  refine T_istore3 rfl (by decide) dX13_errorOf_6 rfl ?_
  refine T_aload0 dX13_errorOf_7 rfl ?_
  refine g13_26 _ rfl (hM.t_m) (hM.g_ro) dX13_errorOf_8 rfl ?_
  refine T_iload1 dX13_errorOf_11 rfl ?_
  refine T_iald _ (hM.t_ro) rfl (by omega) (by decide) dX13_errorOf_12 rfl (hM.g_vro (by omega)) ?_
  rw [hrl t (by omega), hr9]
  refine T_tin (off := 321) 334 dX13_errorOf_13 (by decide +kernel) (by decide +kernel) (by decide +kernel) (by decide) ?_
  refine T_aload0 dX13_errorOf_334 rfl ?_
  refine T_iload1 dX13_errorOf_335 rfl ?_
  refine T_cV1 (en_13 hX hmz h8 hTKn hrl0 hNm ht hRG hcn hr9 hQ0) hX k13_253 (Or.inl ⟨_, _, _, _, (hM.t_m), by decide, rfl⟩) (by decide) (Nat.le_of_ble_eq_true rfl) dX13_errorOf_336 rfl ?_
  rintro _ _ _ M9 ⟨rfl, rfl, rfl, ⟨hI, hE⟩, hF9⟩
  refine T_iret rfl rfl dX13_errorOf_339 ?_
  exact ⟨rfl, rfl, rfl, ⟨hI, hE⟩, hF.tr hF9⟩
set_option maxHeartbeats 1000000 in
theorem er_14 {l : Launch} {D : va_G} {cA : Nat → ClassId} {n0 : Nat} {sg adK adV : Nat → Nat} {sgA smA wdA bS LS : Nat} {xs : Nat → Int32} (hX : SF n0 (XW0 sg adK adV sgA smA wdA n0 bS LS xs)) {m y z s1 s2 n8 dp hr wr cs os lt t : Nat} {B : Nat → Nat} {K : Nat → Nat} {S : Nat → Int32} {V : Nat → Int64} {rl : Nat → Int32} {ω0 w0 : RH} (hmz : m + 7 ≤ z ∨ z + 19 ≤ m) (h8 : ∀ i, B i < 256) (hTK : TKF B lt K S V ω0) (hrl0 : ∀ i, i ≤ lt → ω0 83 i = rl i) (hNm : ∀ i, i < lt → K i = 44 → ∃ c, c < 1000000 ∧ V i = Int64.ofNat c) (ht : t < lt) (hRG : ∀ i, RGi K rl i) (hcn : cntR rl 1 t ≤ 8 ∧ cntR rl 2 t ≤ 6 ∧ cntR rl 3 t ≤ 20 ∧ cntR rl 4 t ≤ 12 ∧ cntR rl 5 t ≤ 12) (hr9 : rl t = 14) {sz : Nat} {τ : TY} {M : ME} (hQ : EI τ M m y z s1 s2 n8 dp hr wr cs os B V rl ω0 w0 (t) (t)) : CT l D cA n0 (XW0 sg adK adV sgA smA wdA n0 bS LS xs) mX13_errorOf 6 0 0 sz τ M [.ref m, .int (nI t)] (fun v' sz' τ' M' => v' = some (.int (erF V rl t)) ∧ sz' = sz ∧ τ' = τ ∧ ((erF V rl t = 0 → EI τ M' m y z s1 s2 n8 dp hr wr cs os B V rl ω0 w0 (t) (t + 1)) ∧ EE τ M' m y z s1 s2 n8 dp B ω0 t) ∧ FMZ m z M M') := by
  refine CT.of (ls := [.ref m, .int (nI t), UU, UU]) (by decide) (Nat.le_of_ble_eq_true rfl) rfl ?_
  have hQ0 := hQ
  obtain ⟨ω, w, hM, hV, hω, hmt, hD⟩ := hQ
  have hl := hTK.1.1
  have hTKn := hTK
  replace hTK := hTK.of hω
  have hrl : ∀ i, i ≤ lt → ω 83 i = rl i := fun i hi => by rw [hω 83 _ (by decide)]; exact hrl0 i hi
  obtain ⟨rg0, rg1, rg2, rg3, rg4, rg5, rg6, rg7⟩ := hRG t
  have hF : FMZ m z M M := FMZ.rf _ _ _
  have k43 := rg1 (by rw [hr9]; decide)
  obtain ⟨cn1, cn2, cn3, cn4, cn5⟩ := hcn
  have e9 := erF_v14 (V := V) hr9
  have c1 := cnt_p (rg6 hr9)
  refine T_aload0 dX13_errorOf_0 rfl ?_
  refine g13_39 _ rfl (hM.t_m) (hM.g_z) dX13_errorOf_1 rfl ?_
  refine T_astore2 rfl (by decide) dX13_errorOf_4 rfl ?_
  refine T_iconst (0) dX13_errorOf_5 rfl rfl ?_
  refine T_istore3 rfl (by decide) dX13_errorOf_6 rfl ?_
  refine T_aload0 dX13_errorOf_7 rfl ?_
  refine g13_26 _ rfl (hM.t_m) (hM.g_ro) dX13_errorOf_8 rfl ?_
  refine T_iload1 dX13_errorOf_11 rfl ?_
  refine T_iald _ (hM.t_ro) rfl (by omega) (by decide) dX13_errorOf_12 rfl (hM.g_vro (by omega)) ?_
  rw [hrl t (by omega), hr9]
  refine T_tin (off := 229) 242 dX13_errorOf_13 (by decide +kernel) (by decide +kernel) (by decide +kernel) (by decide) ?_
  refine T_aload0 dX13_errorOf_242 rfl ?_
  refine T_iload1 dX13_errorOf_243 rfl ?_
  refine T_iconst (2) dX13_errorOf_244 rfl rfl ?_
  refine T_cV2 (c_X13_look hX hM h8 hTK hrl ht k43 (fun i hi e => (hRG i).2.1 (by rw [e]; decide)) (x := 2)) hX k13_241 (Or.inl ⟨_, _, _, _, (hM.t_m), by decide, rfl⟩) (by decide) (Nat.le_of_ble_eq_true rfl) dX13_errorOf_245 rfl ?_
  rintro _ _ _ M9 ⟨rfl, rfl, rfl, hM9⟩
  have hV := (hV.nx hM9.frame (by omega)).rf
  have hF := hF.fm hM9.frame
  have hM := hM9.rf
  refine T_istore3 rfl (by decide) dX13_errorOf_248 rfl ?_
  refine T_aload2 dX13_errorOf_249 rfl ?_
  refine g13_244 _ rfl (hV.t_q) (hV.g_hauler) dX13_errorOf_250 rfl ?_
  refine T_aload2 dX13_errorOf_253 rfl ?_
  refine g13_235 _ rfl (hV.t_q) (hV.g_hauls) dX13_errorOf_254 rfl ?_
  refine T_iconst (1) dX13_errorOf_257 rfl rfl ?_
  refine T_isub dX13_errorOf_258 rfl ?_
  refine T_aload0 dX13_errorOf_259 rfl ?_
  refine g13_29 _ rfl (hM.t_m) (hM.g_me) dX13_errorOf_260 rfl ?_
  refine T_iload1 dX13_errorOf_263 rfl ?_
  refine T_iald _ (hM.t_me) rfl (by omega) (by decide) dX13_errorOf_264 rfl (hM.g_vme (by omega)) ?_
  rw [u2_s]
  refine T_iast _ (hV.t_hauler) (nI_m c1 (by omega)) (by omega) (by decide) dX13_errorOf_265 rfl ?_
  refine T_nm (fun M1 e1 => ?_)
  have hM := hM.frU e1 (by omega)
  have hV := PV.mv (hV.p_vhauler (by omega)) e1
  have hF := hF.up e1 (by omega)
  refine T_iload3 dX13_errorOf_266 rfl ?_
  refine T_iret rfl rfl dX13_errorOf_267 ?_
  have hI : EI _ _ m y z s1 s2 n8 dp hr wr cs os B V rl ω0 w0 (t) (t + 1) := EI.st hM hV (fun f i q => by rw [u2_f q]; exact hω f i q) (hmt.y2 (by rw [hr9]; decide)) (hD.up rfl) (cntR_n (by rw [hr9]; decide)) (cntR_n (by rw [hr9]; decide)) (cntR_n (by rw [hr9]; decide)) (cntR_n (by rw [hr9]; decide)) (cntR_n (by rw [hr9]; decide)) (by rw [dtF, if_neg (by rw [hr9]; decide), if_neg (by rw [hr9]; decide), if_neg (by rw [hr9]; decide), if_neg (by rw [hr9]; decide), if_neg (by rw [hr9]; decide), if_neg (by rw [hr9]; decide), if_neg (by rw [hr9]; decide), if_neg (by rw [hr9]; decide), if_pos hr9])
  exact ⟨by rw [e9], rfl, rfl, ⟨fun _ => hI, hI.ee⟩, hF⟩
set_option maxHeartbeats 1000000 in
theorem er_15 {l : Launch} {D : va_G} {cA : Nat → ClassId} {n0 : Nat} {sg adK adV : Nat → Nat} {sgA smA wdA bS LS : Nat} {xs : Nat → Int32} (hX : SF n0 (XW0 sg adK adV sgA smA wdA n0 bS LS xs)) {m y z s1 s2 n8 dp hr wr cs os lt t : Nat} {B : Nat → Nat} {K : Nat → Nat} {S : Nat → Int32} {V : Nat → Int64} {rl : Nat → Int32} {ω0 w0 : RH} (hmz : m + 7 ≤ z ∨ z + 19 ≤ m) (h8 : ∀ i, B i < 256) (hTK : TKF B lt K S V ω0) (hrl0 : ∀ i, i ≤ lt → ω0 83 i = rl i) (hNm : ∀ i, i < lt → K i = 44 → ∃ c, c < 1000000 ∧ V i = Int64.ofNat c) (ht : t < lt) (hRG : ∀ i, RGi K rl i) (hcn : cntR rl 1 t ≤ 8 ∧ cntR rl 2 t ≤ 6 ∧ cntR rl 3 t ≤ 20 ∧ cntR rl 4 t ≤ 12 ∧ cntR rl 5 t ≤ 12) (hr9 : rl t = 15) {sz : Nat} {τ : TY} {M : ME} (hQ : EI τ M m y z s1 s2 n8 dp hr wr cs os B V rl ω0 w0 (t) (t)) : CT l D cA n0 (XW0 sg adK adV sgA smA wdA n0 bS LS xs) mX13_errorOf 6 0 0 sz τ M [.ref m, .int (nI t)] (fun v' sz' τ' M' => v' = some (.int (erF V rl t)) ∧ sz' = sz ∧ τ' = τ ∧ ((erF V rl t = 0 → EI τ M' m y z s1 s2 n8 dp hr wr cs os B V rl ω0 w0 (t) (t + 1)) ∧ EE τ M' m y z s1 s2 n8 dp B ω0 t) ∧ FMZ m z M M') := by
  refine CT.of (ls := [.ref m, .int (nI t), UU, UU]) (by decide) (Nat.le_of_ble_eq_true rfl) rfl ?_
  have hQ0 := hQ
  obtain ⟨ω, w, hM, hV, hω, hmt, hD⟩ := hQ
  have hl := hTK.1.1
  have hTKn := hTK
  replace hTK := hTK.of hω
  have hrl : ∀ i, i ≤ lt → ω 83 i = rl i := fun i hi => by rw [hω 83 _ (by decide)]; exact hrl0 i hi
  obtain ⟨rg0, rg1, rg2, rg3, rg4, rg5, rg6, rg7⟩ := hRG t
  have hF : FMZ m z M M := FMZ.rf _ _ _
  have k43 := rg1 (by rw [hr9]; decide)
  obtain ⟨cn1, cn2, cn3, cn4, cn5⟩ := hcn
  have e9 := erF_v15 (V := V) hr9
  have c1 := cnt_p (rg7 (Or.inl hr9))
  refine T_aload0 dX13_errorOf_0 rfl ?_
  refine g13_39 _ rfl (hM.t_m) (hM.g_z) dX13_errorOf_1 rfl ?_
  refine T_astore2 rfl (by decide) dX13_errorOf_4 rfl ?_
  refine T_iconst (0) dX13_errorOf_5 rfl rfl ?_
  refine T_istore3 rfl (by decide) dX13_errorOf_6 rfl ?_
  refine T_aload0 dX13_errorOf_7 rfl ?_
  refine g13_26 _ rfl (hM.t_m) (hM.g_ro) dX13_errorOf_8 rfl ?_
  refine T_iload1 dX13_errorOf_11 rfl ?_
  refine T_iald _ (hM.t_ro) rfl (by omega) (by decide) dX13_errorOf_12 rfl (hM.g_vro (by omega)) ?_
  rw [hrl t (by omega), hr9]
  refine T_tin (off := 255) 268 dX13_errorOf_13 (by decide +kernel) (by decide +kernel) (by decide +kernel) (by decide) ?_
  refine T_aload0 dX13_errorOf_268 rfl ?_
  refine T_iload1 dX13_errorOf_269 rfl ?_
  refine T_iconst (2) dX13_errorOf_270 rfl rfl ?_
  refine T_cV2 (c_X13_look hX hM h8 hTK hrl ht k43 (fun i hi e => (hRG i).2.1 (by rw [e]; decide)) (x := 2)) hX k13_241 (Or.inl ⟨_, _, _, _, (hM.t_m), by decide, rfl⟩) (by decide) (Nat.le_of_ble_eq_true rfl) dX13_errorOf_271 rfl ?_
  rintro _ _ _ M9 ⟨rfl, rfl, rfl, hM9⟩
  have hV := (hV.nx hM9.frame (by omega)).rf
  have hF := hF.fm hM9.frame
  have hM := hM9.rf
  refine T_istore3 rfl (by decide) dX13_errorOf_274 rfl ?_
  refine T_aload2 dX13_errorOf_275 rfl ?_
  refine g13_247 _ rfl (hV.t_q) (hV.g_waiter) dX13_errorOf_276 rfl ?_
  refine T_aload2 dX13_errorOf_279 rfl ?_
  refine g13_238 _ rfl (hV.t_q) (hV.g_waits) dX13_errorOf_280 rfl ?_
  refine T_iconst (1) dX13_errorOf_283 rfl rfl ?_
  refine T_isub dX13_errorOf_284 rfl ?_
  refine T_aload0 dX13_errorOf_285 rfl ?_
  refine g13_29 _ rfl (hM.t_m) (hM.g_me) dX13_errorOf_286 rfl ?_
  refine T_iload1 dX13_errorOf_289 rfl ?_
  refine T_iald _ (hM.t_me) rfl (by omega) (by decide) dX13_errorOf_290 rfl (hM.g_vme (by omega)) ?_
  rw [u2_s]
  refine T_iast _ (hV.t_waiter) (nI_m c1 (by omega)) (by omega) (by decide) dX13_errorOf_291 rfl ?_
  refine T_nm (fun M1 e1 => ?_)
  have hM := hM.frU e1 (by omega)
  have hV := PV.mv (hV.p_vwaiter (by omega)) e1
  have hF := hF.up e1 (by omega)
  refine T_iload3 dX13_errorOf_292 rfl ?_
  refine T_iret rfl rfl dX13_errorOf_293 ?_
  have hI : EI _ _ m y z s1 s2 n8 dp hr wr cs os B V rl ω0 w0 (t) (t + 1) := EI.st hM hV (fun f i q => by rw [u2_f q]; exact hω f i q) (hmt.y2 (by rw [hr9]; decide)) (hD.up rfl) (cntR_n (by rw [hr9]; decide)) (cntR_n (by rw [hr9]; decide)) (cntR_n (by rw [hr9]; decide)) (cntR_n (by rw [hr9]; decide)) (cntR_n (by rw [hr9]; decide)) (by rw [dtF, if_neg (by rw [hr9]; decide), if_neg (by rw [hr9]; decide), if_neg (by rw [hr9]; decide), if_neg (by rw [hr9]; decide), if_neg (by rw [hr9]; decide), if_neg (by rw [hr9]; decide), if_neg (by rw [hr9]; decide), if_neg (by rw [hr9]; decide), if_neg (by rw [hr9]; decide), if_pos hr9])
  exact ⟨by rw [e9], rfl, rfl, ⟨fun _ => hI, hI.ee⟩, hF⟩
set_option maxHeartbeats 1000000 in
theorem er_16 {l : Launch} {D : va_G} {cA : Nat → ClassId} {n0 : Nat} {sg adK adV : Nat → Nat} {sgA smA wdA bS LS : Nat} {xs : Nat → Int32} (hX : SF n0 (XW0 sg adK adV sgA smA wdA n0 bS LS xs)) {m y z s1 s2 n8 dp hr wr cs os lt t : Nat} {B : Nat → Nat} {K : Nat → Nat} {S : Nat → Int32} {V : Nat → Int64} {rl : Nat → Int32} {ω0 w0 : RH} (hmz : m + 7 ≤ z ∨ z + 19 ≤ m) (h8 : ∀ i, B i < 256) (hTK : TKF B lt K S V ω0) (hrl0 : ∀ i, i ≤ lt → ω0 83 i = rl i) (hNm : ∀ i, i < lt → K i = 44 → ∃ c, c < 1000000 ∧ V i = Int64.ofNat c) (ht : t < lt) (hRG : ∀ i, RGi K rl i) (hcn : cntR rl 1 t ≤ 8 ∧ cntR rl 2 t ≤ 6 ∧ cntR rl 3 t ≤ 20 ∧ cntR rl 4 t ≤ 12 ∧ cntR rl 5 t ≤ 12) (hr9 : rl t = 16) {sz : Nat} {τ : TY} {M : ME} (hQ : EI τ M m y z s1 s2 n8 dp hr wr cs os B V rl ω0 w0 (t) (t)) : CT l D cA n0 (XW0 sg adK adV sgA smA wdA n0 bS LS xs) mX13_errorOf 6 0 0 sz τ M [.ref m, .int (nI t)] (fun v' sz' τ' M' => v' = some (.int (erF V rl t)) ∧ sz' = sz ∧ τ' = τ ∧ ((erF V rl t = 0 → EI τ M' m y z s1 s2 n8 dp hr wr cs os B V rl ω0 w0 (t) (t + 1)) ∧ EE τ M' m y z s1 s2 n8 dp B ω0 t) ∧ FMZ m z M M') := by
  refine CT.of (ls := [.ref m, .int (nI t), UU, UU]) (by decide) (Nat.le_of_ble_eq_true rfl) rfl ?_
  have hQ0 := hQ
  obtain ⟨ω, w, hM, hV, hω, hmt, hD⟩ := hQ
  have hl := hTK.1.1
  have hTKn := hTK
  replace hTK := hTK.of hω
  have hrl : ∀ i, i ≤ lt → ω 83 i = rl i := fun i hi => by rw [hω 83 _ (by decide)]; exact hrl0 i hi
  obtain ⟨rg0, rg1, rg2, rg3, rg4, rg5, rg6, rg7⟩ := hRG t
  have hF : FMZ m z M M := FMZ.rf _ _ _
  have k43 := rg1 (by rw [hr9]; decide)
  obtain ⟨cn1, cn2, cn3, cn4, cn5⟩ := hcn
  have e9 := erF_v16 (V := V) hr9
  have c1 := cnt_p (rg7 (Or.inr hr9))
  refine T_aload0 dX13_errorOf_0 rfl ?_
  refine g13_39 _ rfl (hM.t_m) (hM.g_z) dX13_errorOf_1 rfl ?_
  refine T_astore2 rfl (by decide) dX13_errorOf_4 rfl ?_
  refine T_iconst (0) dX13_errorOf_5 rfl rfl ?_
  refine T_istore3 rfl (by decide) dX13_errorOf_6 rfl ?_
  refine T_aload0 dX13_errorOf_7 rfl ?_
  refine g13_26 _ rfl (hM.t_m) (hM.g_ro) dX13_errorOf_8 rfl ?_
  refine T_iload1 dX13_errorOf_11 rfl ?_
  refine T_iald _ (hM.t_ro) rfl (by omega) (by decide) dX13_errorOf_12 rfl (hM.g_vro (by omega)) ?_
  rw [hrl t (by omega), hr9]
  refine T_tin (off := 281) 294 dX13_errorOf_13 (by decide +kernel) (by decide +kernel) (by decide +kernel) (by decide) ?_
  refine T_aload0 dX13_errorOf_294 rfl ?_
  refine T_iload1 dX13_errorOf_295 rfl ?_
  refine T_iconst (1) dX13_errorOf_296 rfl rfl ?_
  refine T_cV2 (c_X13_look hX hM h8 hTK hrl ht k43 (fun i hi e => (hRG i).2.1 (by rw [e]; decide)) (x := 1)) hX k13_241 (Or.inl ⟨_, _, _, _, (hM.t_m), by decide, rfl⟩) (by decide) (Nat.le_of_ble_eq_true rfl) dX13_errorOf_297 rfl ?_
  rintro _ _ _ M9 ⟨rfl, rfl, rfl, hM9⟩
  have hV := (hV.nx hM9.frame (by omega)).rf
  have hF := hF.fm hM9.frame
  have hM := hM9.rf
  refine T_istore3 rfl (by decide) dX13_errorOf_300 rfl ?_
  refine T_aload2 dX13_errorOf_301 rfl ?_
  refine g13_250 _ rfl (hV.t_q) (hV.g_place) dX13_errorOf_302 rfl ?_
  refine T_aload2 dX13_errorOf_305 rfl ?_
  refine g13_238 _ rfl (hV.t_q) (hV.g_waits) dX13_errorOf_306 rfl ?_
  refine T_iconst (1) dX13_errorOf_309 rfl rfl ?_
  refine T_isub dX13_errorOf_310 rfl ?_
  refine T_aload0 dX13_errorOf_311 rfl ?_
  refine g13_29 _ rfl (hM.t_m) (hM.g_me) dX13_errorOf_312 rfl ?_
  refine T_iload1 dX13_errorOf_315 rfl ?_
  refine T_iald _ (hM.t_me) rfl (by omega) (by decide) dX13_errorOf_316 rfl (hM.g_vme (by omega)) ?_
  rw [u2_s]
  refine T_iast _ (hV.t_place) (nI_m c1 (by omega)) (by omega) (by decide) dX13_errorOf_317 rfl ?_
  refine T_nm (fun M1 e1 => ?_)
  have hM := hM.frU e1 (by omega)
  have hV := PV.mv (hV.p_vplace (by omega)) e1
  have hF := hF.up e1 (by omega)
  refine T_iload3 dX13_errorOf_318 rfl ?_
  refine T_iret rfl rfl dX13_errorOf_319 ?_
  have hI : EI _ _ m y z s1 s2 n8 dp hr wr cs os B V rl ω0 w0 (t) (t + 1) := EI.st hM hV (fun f i q => by rw [u2_f q]; exact hω f i q) (hmt.y1 (by rw [hr9]; decide)) (hD.up rfl) (cntR_n (by rw [hr9]; decide)) (cntR_n (by rw [hr9]; decide)) (cntR_n (by rw [hr9]; decide)) (cntR_n (by rw [hr9]; decide)) (cntR_n (by rw [hr9]; decide)) (by rw [dtF, if_neg (by rw [hr9]; decide), if_neg (by rw [hr9]; decide), if_neg (by rw [hr9]; decide), if_neg (by rw [hr9]; decide), if_neg (by rw [hr9]; decide), if_neg (by rw [hr9]; decide), if_neg (by rw [hr9]; decide), if_neg (by rw [hr9]; decide), if_neg (by rw [hr9]; decide), if_neg (by rw [hr9]; decide), if_pos hr9])
  exact ⟨by rw [e9], rfl, rfl, ⟨fun _ => hI, hI.ee⟩, hF⟩
set_option maxHeartbeats 1000000 in
theorem er_17 {l : Launch} {D : va_G} {cA : Nat → ClassId} {n0 : Nat} {sg adK adV : Nat → Nat} {sgA smA wdA bS LS : Nat} {xs : Nat → Int32} (hX : SF n0 (XW0 sg adK adV sgA smA wdA n0 bS LS xs)) {m y z s1 s2 n8 dp hr wr cs os lt t : Nat} {B : Nat → Nat} {K : Nat → Nat} {S : Nat → Int32} {V : Nat → Int64} {rl : Nat → Int32} {ω0 w0 : RH} (hmz : m + 7 ≤ z ∨ z + 19 ≤ m) (h8 : ∀ i, B i < 256) (hTK : TKF B lt K S V ω0) (hrl0 : ∀ i, i ≤ lt → ω0 83 i = rl i) (hNm : ∀ i, i < lt → K i = 44 → ∃ c, c < 1000000 ∧ V i = Int64.ofNat c) (ht : t < lt) (hRG : ∀ i, RGi K rl i) (hcn : cntR rl 1 t ≤ 8 ∧ cntR rl 2 t ≤ 6 ∧ cntR rl 3 t ≤ 20 ∧ cntR rl 4 t ≤ 12 ∧ cntR rl 5 t ≤ 12) (hr9 : rl t = 17) {sz : Nat} {τ : TY} {M : ME} (hQ : EI τ M m y z s1 s2 n8 dp hr wr cs os B V rl ω0 w0 (t) (t)) : CT l D cA n0 (XW0 sg adK adV sgA smA wdA n0 bS LS xs) mX13_errorOf 6 0 0 sz τ M [.ref m, .int (nI t)] (fun v' sz' τ' M' => v' = some (.int (erF V rl t)) ∧ sz' = sz ∧ τ' = τ ∧ ((erF V rl t = 0 → EI τ M' m y z s1 s2 n8 dp hr wr cs os B V rl ω0 w0 (t) (t + 1)) ∧ EE τ M' m y z s1 s2 n8 dp B ω0 t) ∧ FMZ m z M M') := by
  refine CT.of (ls := [.ref m, .int (nI t), UU, UU]) (by decide) (Nat.le_of_ble_eq_true rfl) rfl ?_
  have hQ0 := hQ
  obtain ⟨ω, w, hM, hV, hω, hmt, hD⟩ := hQ
  have hl := hTK.1.1
  have hTKn := hTK
  replace hTK := hTK.of hω
  have hrl : ∀ i, i ≤ lt → ω 83 i = rl i := fun i hi => by rw [hω 83 _ (by decide)]; exact hrl0 i hi
  obtain ⟨rg0, rg1, rg2, rg3, rg4, rg5, rg6, rg7⟩ := hRG t
  have hF : FMZ m z M M := FMZ.rf _ _ _
  have k43 := rg1 (by rw [hr9]; decide)
  obtain ⟨cn1, cn2, cn3, cn4, cn5⟩ := hcn
  have e9 := erF_v17 (V := V) hr9
  refine T_aload0 dX13_errorOf_0 rfl ?_
  refine g13_39 _ rfl (hM.t_m) (hM.g_z) dX13_errorOf_1 rfl ?_
  refine T_astore2 rfl (by decide) dX13_errorOf_4 rfl ?_
  refine T_iconst (0) dX13_errorOf_5 rfl rfl ?_
  refine T_istore3 rfl (by decide) dX13_errorOf_6 rfl ?_
  refine T_aload0 dX13_errorOf_7 rfl ?_
  refine g13_26 _ rfl (hM.t_m) (hM.g_ro) dX13_errorOf_8 rfl ?_
  refine T_iload1 dX13_errorOf_11 rfl ?_
  refine T_iald _ (hM.t_ro) rfl (by omega) (by decide) dX13_errorOf_12 rfl (hM.g_vro (by omega)) ?_
  rw [hrl t (by omega), hr9]
  refine T_tin (off := 307) 320 dX13_errorOf_13 (by decide +kernel) (by decide +kernel) (by decide +kernel) (by decide) ?_
  refine T_aload0 dX13_errorOf_320 rfl ?_
  refine T_iload1 dX13_errorOf_321 rfl ?_
  refine T_iconst (2) dX13_errorOf_322 rfl rfl ?_
  refine T_cV2 (c_X13_look hX hM h8 hTK hrl ht k43 (fun i hi e => (hRG i).2.1 (by rw [e]; decide)) (x := 2)) hX k13_241 (Or.inl ⟨_, _, _, _, (hM.t_m), by decide, rfl⟩) (by decide) (Nat.le_of_ble_eq_true rfl) dX13_errorOf_323 rfl ?_
  rintro _ _ _ M9 ⟨rfl, rfl, rfl, hM9⟩
  have hV := (hV.nx hM9.frame (by omega)).rf
  have hF := hF.fm hM9.frame
  have hM := hM9.rf
  refine T_iret rfl rfl dX13_errorOf_326 ?_
  have hI : EI _ _ m y z s1 s2 n8 dp hr wr cs os B V rl ω0 w0 (t) (t + 1) := EI.st hM hV (fun f i q => by rw [u2_f q]; exact hω f i q) (hmt.y2 (by rw [hr9]; decide)) hD (cntR_n (by rw [hr9]; decide)) (cntR_n (by rw [hr9]; decide)) (cntR_n (by rw [hr9]; decide)) (cntR_n (by rw [hr9]; decide)) (cntR_n (by rw [hr9]; decide)) (dtF_n (by rw [hr9]; decide))
  exact ⟨by rw [e9], rfl, rfl, ⟨fun _ => hI, hI.ee⟩, hF⟩
set_option maxHeartbeats 1000000 in
theorem er_18 {l : Launch} {D : va_G} {cA : Nat → ClassId} {n0 : Nat} {sg adK adV : Nat → Nat} {sgA smA wdA bS LS : Nat} {xs : Nat → Int32} (hX : SF n0 (XW0 sg adK adV sgA smA wdA n0 bS LS xs)) {m y z s1 s2 n8 dp hr wr cs os lt t : Nat} {B : Nat → Nat} {K : Nat → Nat} {S : Nat → Int32} {V : Nat → Int64} {rl : Nat → Int32} {ω0 w0 : RH} (hmz : m + 7 ≤ z ∨ z + 19 ≤ m) (h8 : ∀ i, B i < 256) (hTK : TKF B lt K S V ω0) (hrl0 : ∀ i, i ≤ lt → ω0 83 i = rl i) (hNm : ∀ i, i < lt → K i = 44 → ∃ c, c < 1000000 ∧ V i = Int64.ofNat c) (ht : t < lt) (hRG : ∀ i, RGi K rl i) (hcn : cntR rl 1 t ≤ 8 ∧ cntR rl 2 t ≤ 6 ∧ cntR rl 3 t ≤ 20 ∧ cntR rl 4 t ≤ 12 ∧ cntR rl 5 t ≤ 12) (hr9 : rl t = 18) {sz : Nat} {τ : TY} {M : ME} (hQ : EI τ M m y z s1 s2 n8 dp hr wr cs os B V rl ω0 w0 (t) (t)) : CT l D cA n0 (XW0 sg adK adV sgA smA wdA n0 bS LS xs) mX13_errorOf 6 0 0 sz τ M [.ref m, .int (nI t)] (fun v' sz' τ' M' => v' = some (.int (erF V rl t)) ∧ sz' = sz ∧ τ' = τ ∧ ((erF V rl t = 0 → EI τ M' m y z s1 s2 n8 dp hr wr cs os B V rl ω0 w0 (t) (t + 1)) ∧ EE τ M' m y z s1 s2 n8 dp B ω0 t) ∧ FMZ m z M M') := by
  refine CT.of (ls := [.ref m, .int (nI t), UU, UU]) (by decide) (Nat.le_of_ble_eq_true rfl) rfl ?_
  have hQ0 := hQ
  obtain ⟨ω, w, hM, hV, hω, hmt, hD⟩ := hQ
  have hl := hTK.1.1
  have hTKn := hTK
  replace hTK := hTK.of hω
  have hrl : ∀ i, i ≤ lt → ω 83 i = rl i := fun i hi => by rw [hω 83 _ (by decide)]; exact hrl0 i hi
  obtain ⟨rg0, rg1, rg2, rg3, rg4, rg5, rg6, rg7⟩ := hRG t
  have hF : FMZ m z M M := FMZ.rf _ _ _
  have k43 := rg1 (by rw [hr9]; decide)
  obtain ⟨cn1, cn2, cn3, cn4, cn5⟩ := hcn
  have e9 := erF_v18 (V := V) hr9
  refine T_aload0 dX13_errorOf_0 rfl ?_
  refine g13_39 _ rfl (hM.t_m) (hM.g_z) dX13_errorOf_1 rfl ?_
  refine T_astore2 rfl (by decide) dX13_errorOf_4 rfl ?_
  refine T_iconst (0) dX13_errorOf_5 rfl rfl ?_
  refine T_istore3 rfl (by decide) dX13_errorOf_6 rfl ?_
  refine T_aload0 dX13_errorOf_7 rfl ?_
  refine g13_26 _ rfl (hM.t_m) (hM.g_ro) dX13_errorOf_8 rfl ?_
  refine T_iload1 dX13_errorOf_11 rfl ?_
  refine T_iald _ (hM.t_ro) rfl (by omega) (by decide) dX13_errorOf_12 rfl (hM.g_vro (by omega)) ?_
  rw [hrl t (by omega), hr9]
  refine T_tin (off := 314) 327 dX13_errorOf_13 (by decide +kernel) (by decide +kernel) (by decide +kernel) (by decide) ?_
  refine T_aload0 dX13_errorOf_327 rfl ?_
  refine T_iload1 dX13_errorOf_328 rfl ?_
  refine T_iconst (1) dX13_errorOf_329 rfl rfl ?_
  refine T_cV2 (c_X13_look hX hM h8 hTK hrl ht k43 (fun i hi e => (hRG i).2.1 (by rw [e]; decide)) (x := 1)) hX k13_241 (Or.inl ⟨_, _, _, _, (hM.t_m), by decide, rfl⟩) (by decide) (Nat.le_of_ble_eq_true rfl) dX13_errorOf_330 rfl ?_
  rintro _ _ _ M9 ⟨rfl, rfl, rfl, hM9⟩
  have hV := (hV.nx hM9.frame (by omega)).rf
  have hF := hF.fm hM9.frame
  have hM := hM9.rf
  refine T_iret rfl rfl dX13_errorOf_333 ?_
  have hI : EI _ _ m y z s1 s2 n8 dp hr wr cs os B V rl ω0 w0 (t) (t + 1) := EI.st hM hV (fun f i q => by rw [u2_f q]; exact hω f i q) (hmt.y1 (by rw [hr9]; decide)) hD (cntR_n (by rw [hr9]; decide)) (cntR_n (by rw [hr9]; decide)) (cntR_n (by rw [hr9]; decide)) (cntR_n (by rw [hr9]; decide)) (cntR_n (by rw [hr9]; decide)) (dtF_n (by rw [hr9]; decide))
  exact ⟨by rw [e9], rfl, rfl, ⟨fun _ => hI, hI.ee⟩, hF⟩
set_option maxHeartbeats 1000000 in
theorem er_19 {l : Launch} {D : va_G} {cA : Nat → ClassId} {n0 : Nat} {sg adK adV : Nat → Nat} {sgA smA wdA bS LS : Nat} {xs : Nat → Int32} (hX : SF n0 (XW0 sg adK adV sgA smA wdA n0 bS LS xs)) {m y z s1 s2 n8 dp hr wr cs os lt t : Nat} {B : Nat → Nat} {K : Nat → Nat} {S : Nat → Int32} {V : Nat → Int64} {rl : Nat → Int32} {ω0 w0 : RH} (hmz : m + 7 ≤ z ∨ z + 19 ≤ m) (h8 : ∀ i, B i < 256) (hTK : TKF B lt K S V ω0) (hrl0 : ∀ i, i ≤ lt → ω0 83 i = rl i) (hNm : ∀ i, i < lt → K i = 44 → ∃ c, c < 1000000 ∧ V i = Int64.ofNat c) (ht : t < lt) (hRG : ∀ i, RGi K rl i) (hcn : cntR rl 1 t ≤ 8 ∧ cntR rl 2 t ≤ 6 ∧ cntR rl 3 t ≤ 20 ∧ cntR rl 4 t ≤ 12 ∧ cntR rl 5 t ≤ 12) (hr9 : rl t = 19) {sz : Nat} {τ : TY} {M : ME} (hQ : EI τ M m y z s1 s2 n8 dp hr wr cs os B V rl ω0 w0 (t) (t)) : CT l D cA n0 (XW0 sg adK adV sgA smA wdA n0 bS LS xs) mX13_errorOf 6 0 0 sz τ M [.ref m, .int (nI t)] (fun v' sz' τ' M' => v' = some (.int (erF V rl t)) ∧ sz' = sz ∧ τ' = τ ∧ ((erF V rl t = 0 → EI τ M' m y z s1 s2 n8 dp hr wr cs os B V rl ω0 w0 (t) (t + 1)) ∧ EE τ M' m y z s1 s2 n8 dp B ω0 t) ∧ FMZ m z M M') := by
  refine CT.of (ls := [.ref m, .int (nI t), UU, UU]) (by decide) (Nat.le_of_ble_eq_true rfl) rfl ?_
  have hQ0 := hQ
  obtain ⟨ω, w, hM, hV, hω, hmt, hD⟩ := hQ
  have hl := hTK.1.1
  have hTKn := hTK
  replace hTK := hTK.of hω
  have hrl : ∀ i, i ≤ lt → ω 83 i = rl i := fun i hi => by rw [hω 83 _ (by decide)]; exact hrl0 i hi
  obtain ⟨rg0, rg1, rg2, rg3, rg4, rg5, rg6, rg7⟩ := hRG t
  have hF : FMZ m z M M := FMZ.rf _ _ _
  refine T_aload0 dX13_errorOf_0 rfl ?_
  refine g13_39 _ rfl (hM.t_m) (hM.g_z) dX13_errorOf_1 rfl ?_
  refine T_astore2 rfl (by decide) dX13_errorOf_4 rfl ?_
  refine T_iconst (0) dX13_errorOf_5 rfl rfl ?_
  refine T_istore3 rfl (by decide) dX13_errorOf_6 rfl ?_
  refine T_aload0 dX13_errorOf_7 rfl ?_
  refine g13_26 _ rfl (hM.t_m) (hM.g_ro) dX13_errorOf_8 rfl ?_
  refine T_iload1 dX13_errorOf_11 rfl ?_
  refine T_iald _ (hM.t_ro) rfl (by omega) (by decide) dX13_errorOf_12 rfl (hM.g_vro (by omega)) ?_
  rw [hrl t (by omega), hr9]
  refine T_tout 334 dX13_errorOf_13 (by decide +kernel) (by decide) ?_
  refine T_aload0 dX13_errorOf_334 rfl ?_
  refine T_iload1 dX13_errorOf_335 rfl ?_
  refine T_cV1 (en_19 hX hmz h8 hTKn hrl0 hNm ht hRG hcn hr9 hQ0) hX k13_253 (Or.inl ⟨_, _, _, _, (hM.t_m), by decide, rfl⟩) (by decide) (Nat.le_of_ble_eq_true rfl) dX13_errorOf_336 rfl ?_
  rintro _ _ _ M9 ⟨rfl, rfl, rfl, ⟨hI, hE⟩, hF9⟩
  refine T_iret rfl rfl dX13_errorOf_339 ?_
  exact ⟨rfl, rfl, rfl, ⟨hI, hE⟩, hF.tr hF9⟩
theorem c_X13_errorOf {l : Launch} {D : va_G} {cA : Nat → ClassId} {n0 : Nat} {sg adK adV : Nat → Nat} {sgA smA wdA bS LS : Nat} {xs : Nat → Int32} (hX : SF n0 (XW0 sg adK adV sgA smA wdA n0 bS LS xs)) {m y z s1 s2 n8 dp hr wr cs os lt t : Nat} {B : Nat → Nat} {K : Nat → Nat} {S : Nat → Int32} {V : Nat → Int64} {rl : Nat → Int32} {ω0 w0 : RH} (hmz : m + 7 ≤ z ∨ z + 19 ≤ m) (h8 : ∀ i, B i < 256) (hTK : TKF B lt K S V ω0) (hrl0 : ∀ i, i ≤ lt → ω0 83 i = rl i) (hNm : ∀ i, i < lt → K i = 44 → ∃ c, c < 1000000 ∧ V i = Int64.ofNat c) (ht : t < lt) (hRG : ∀ i, RGi K rl i) (hcn : cntR rl 1 t ≤ 8 ∧ cntR rl 2 t ≤ 6 ∧ cntR rl 3 t ≤ 20 ∧ cntR rl 4 t ≤ 12 ∧ cntR rl 5 t ≤ 12) {sz : Nat} {τ : TY} {M : ME} (hQ : EI τ M m y z s1 s2 n8 dp hr wr cs os B V rl ω0 w0 (t) (t)) : CT l D cA n0 (XW0 sg adK adV sgA smA wdA n0 bS LS xs) mX13_errorOf 6 0 0 sz τ M [.ref m, .int (nI t)] (fun v' sz' τ' M' => v' = some (.int (erF V rl t)) ∧ sz' = sz ∧ τ' = τ ∧ ((erF V rl t = 0 → EI τ M' m y z s1 s2 n8 dp hr wr cs os B V rl ω0 w0 (t) (t + 1)) ∧ EE τ M' m y z s1 s2 n8 dp B ω0 t) ∧ FMZ m z M M') := by
  obtain ⟨n, hn, e⟩ := (hRG t).1
  rcases (show n = 0 ∨ n = 1 ∨ n = 2 ∨ n = 3 ∨ n = 4 ∨ n = 5 ∨ n = 6 ∨ n = 7 ∨ n = 8 ∨ n = 9 ∨ n = 10 ∨ n = 11 ∨ n = 12 ∨ n = 13 ∨ n = 14 ∨ n = 15 ∨ n = 16 ∨ n = 17 ∨ n = 18 ∨ n = 19 by omega) with rfl | rfl | rfl | rfl | rfl | rfl | rfl | rfl | rfl | rfl | rfl | rfl | rfl | rfl | rfl | rfl | rfl | rfl | rfl | rfl
  · exact er_0 hX hmz h8 hTK hrl0 hNm ht hRG hcn e hQ
  · exact er_1 hX hmz h8 hTK hrl0 hNm ht hRG hcn e hQ
  · exact er_2 hX hmz h8 hTK hrl0 hNm ht hRG hcn e hQ
  · exact er_3 hX hmz h8 hTK hrl0 hNm ht hRG hcn e hQ
  · exact er_4 hX hmz h8 hTK hrl0 hNm ht hRG hcn e hQ
  · exact er_5 hX hmz h8 hTK hrl0 hNm ht hRG hcn e hQ
  · exact er_6 hX hmz h8 hTK hrl0 hNm ht hRG hcn e hQ
  · exact er_7 hX hmz h8 hTK hrl0 hNm ht hRG hcn e hQ
  · exact er_8 hX hmz h8 hTK hrl0 hNm ht hRG hcn e hQ
  · exact er_9 hX hmz h8 hTK hrl0 hNm ht hRG hcn e hQ
  · exact er_10 hX hmz h8 hTK hrl0 hNm ht hRG hcn e hQ
  · exact er_11 hX hmz h8 hTK hrl0 hNm ht hRG hcn e hQ
  · exact er_12 hX hmz h8 hTK hrl0 hNm ht hRG hcn e hQ
  · exact er_13 hX hmz h8 hTK hrl0 hNm ht hRG hcn e hQ
  · exact er_14 hX hmz h8 hTK hrl0 hNm ht hRG hcn e hQ
  · exact er_15 hX hmz h8 hTK hrl0 hNm ht hRG hcn e hQ
  · exact er_16 hX hmz h8 hTK hrl0 hNm ht hRG hcn e hQ
  · exact er_17 hX hmz h8 hTK hrl0 hNm ht hRG hcn e hQ
  · exact er_18 hX hmz h8 hTK hrl0 hNm ht hRG hcn e hQ
  · exact er_19 hX hmz h8 hTK hrl0 hNm ht hRG hcn e hQ
