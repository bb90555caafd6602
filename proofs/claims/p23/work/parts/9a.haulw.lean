/-! how hauls and waits are read -/
set_option maxHeartbeats 1000000 in
theorem c_X5_readHaul {l : Launch} {D : va_G} {cA : Nat → ClassId} {n0 : Nat} {sg adK adV : Nat → Nat} {sgA smA wdA bS LS : Nat} {xs : Nat → Int32} (hX : SF n0 (XW0 sg adK adV sgA smA wdA n0 bS LS xs)) {j r p tp ln lt : Nat} {K : Nat → Nat} {S : Nat → Int32} {V : Nat → Int64} (hd : (j + 5 ≤ r ∨ r + 38 ≤ j) ∧ (j + 5 ≤ p ∨ p + 30 ≤ j) ∧ (p + 30 ≤ r ∨ r + 38 ≤ p)) (hl : lt ≤ 400) (hK : ∀ i, i ≤ lt → K i < 48) (hK2 : K lt = 45 ∨ K lt = 46) {sz : Nat} {τ : TY} {M : ME} {s : PS} {β : RH} (hL : LQ sg τ M j r p tp ln lt K S V ((true, s)) (β)) (h0 : K s.1 = 11) : CT l D cA n0 (XW0 sg adK adV sgA smA wdA n0 bS LS xs) mX5_readHaul 100 0 0 sz τ M [.ref j] (fun v' sz' τ' M' => v' = none ∧ sz' = sz ∧ τ' = τ ∧ (∃ q' β', HLr K (fun t => (V t).toInt32) s β q' β' ∧ (q'.1 = true → s.1 < q'.2.1) ∧ LQ sg τ M' j r p tp ln lt K S V (q') (β')) ∧ Fr3 j r p M M') := by
  refine CT.of (ls := [.ref j, UU, UU, UU]) (by decide) (Nat.le_of_ble_eq_true rfl) rfl ?_
  obtain ⟨hT, hQ, a, b, c, ρ, ν, hn, wn, sn, σ, π, κ, hR, hP, hs, hLC⟩ := hL
  obtain ⟨hz, hs0⟩ := hQ.z
  obtain ⟨la, lb, lc⟩ := hR.ok
  have hF : Fr3 j r p M M := Fr3.rf _ _ _ _
  refine T_aload0 dX5_readHaul_0 rfl ?_
  refine T_iconst (0) dX5_readHaul_1 rfl rfl ?_
  refine T_joinI 19 (fun y => y = (if 12 ≤ hn then 1 else 0)) (fun hJ => ?_) (fun x19 hx19 => ?_)
  ·
    refine T_aload0 dX5_readHaul_2 rfl ?_
    first | refine g5_22 _ rfl hQ.tj hQ.gp dX5_readHaul_3 rfl ?_ | refine g5_22 _ rfl (hE.t_j) (hE.g_p) dX5_readHaul_3 rfl ?_
    refine g5_184 _ rfl (hP.t_p) (hP.g_hn) dX5_readHaul_6 rfl ?_
    refine T_bipush (12) dX5_readHaul_9 rfl rfl ?_
    refine T_icmp_lt 18 14 dX5_readHaul_11 (by decide) rfl (fun c11 => ?_) (fun c11 => ?_)
    ·
      refine T_iconst (0) dX5_readHaul_18 rfl rfl ?_
      refine hJ _ ?_
      first | exact (if_neg (Nat.not_le.mpr (Nat.lt_of_not_le (fun q => Int32.not_le.mpr c11 ((nI_leI (a := 12) (b := hn) (by omega) (by omega)).mpr q))))).symm | exact (if_pos (Nat.le_of_not_lt (fun q => c11 (nI_lt (b := 12) q (by omega))))).symm
    ·
      refine T_iconst (1) dX5_readHaul_14 rfl rfl ?_
      refine T_goto 19 dX5_readHaul_15 (by decide) ?_
      refine hJ _ ?_
      first | exact (if_neg (Nat.not_le.mpr (Nat.lt_of_not_le (fun q => Int32.not_le.mpr c11 ((nI_leI (a := 12) (b := hn) (by omega) (by omega)).mpr q))))).symm | exact (if_pos (Nat.le_of_not_lt (fun q => c11 (nI_lt (b := 12) q (by omega))))).symm
  ·
    subst hx19
    refine T_cV2 (rq_chk hX hT hl hK hK2 hQ (x := 0) (Or.inl rfl) b01_j) hX k5_118 (by first | exact Or.inl ⟨_, _, _, _, hQ.tj, by decide, rfl⟩ | exact Or.inl ⟨_, _, _, _, (hE.t_j), by decide, rfl⟩) (by decide) (Nat.le_of_ble_eq_true rfl) dX5_readHaul_19 rfl ?_
    rintro _ _ _ M9 ⟨rfl, rfl, rfl, hQ, hF9⟩
    have hT := hT.nx hF9 (by omega)
    have hR := hR.nx hF9 (by omega)
    have hP := hP.nx hF9 (by omega)
    have hF := hF.fr hF9 (by omega)
    refine T_aload0 dX5_readHaul_22 rfl ?_
    refine T_cV0 (rq_skipN hX hT hl hK hK2 (x := 4) hQ (by omega) (fun hf => by obtain ⟨D, z1, -, -, -⟩ := (hLC rfl).2 hf; rw [ck_4 hs.1, erF_4, z1.2.2.2.1])) hX k5_104 (by first | exact Or.inl ⟨_, _, _, _, hQ.tj, by decide, rfl⟩ | exact Or.inl ⟨_, _, _, _, (hE.t_j), by decide, rfl⟩) (by decide) (Nat.le_of_ble_eq_true rfl) dX5_readHaul_23 rfl ?_
    rintro _ _ _ M9 ⟨rfl, rfl, rfl, hQ, hF9⟩
    have hT := hT.nx hF9 (by omega)
    have hR := hR.nx hF9 (by omega)
    have hP := hP.nx hF9 (by omega)
    have hF := hF.fr hF9 (by omega)
    refine T_aload0 dX5_readHaul_26 rfl ?_
    refine T_cV0 (rq_takeHorse hX hT hl hK hK2 hR (by omega) hQ (x := 14) (fun _ hf => by
      obtain ⟨D, z1, n1, d1, t1⟩ := (hLC rfl).2 (((PSX.rf s).ro (x := 4)).ff hf)
      exact ((LF.st4 z1 n1 hz).lg rfl).he2 (Or.inl rfl))) hX k5_187 (by first | exact Or.inl ⟨_, _, _, _, hQ.tj, by decide, rfl⟩ | exact Or.inl ⟨_, _, _, _, (hE.t_j), by decide, rfl⟩) (by decide) (Nat.le_of_ble_eq_true rfl) dX5_readHaul_27 rfl ?_
    rintro _ _ _ M9 ⟨rfl, rfl, rfl, hQ, hF9⟩
    have hT := hT.nx hF9 (by omega)
    have hR := hR.nx hF9 (by omega)
    have hP := hP.nx hF9 (by omega)
    have hF := hF.fr hF9 (by omega)
    obtain ⟨x1, hx1⟩ : ∃ x1, x1 = fdF (ν 1) (V (cu lt (true, adv (rol s s.1 4) 1))) b := ⟨_, rfl⟩
    rw [← hx1]
    have hx2 : (flF V S s.2.2.2.2 s.1).1 = 0 → x1 = tdR V (uI s.2.2.2.2 s.1 4) 2 (V (s.1 + 1)) (s.1 + 1) := fun hf => by
      obtain ⟨D, z1, n1, d1, t1⟩ := (hLC rfl).2 hf
      rw [hx1]; exact ((LF.st4 z1 n1 hz).lg rfl).cn.1 (V (s.1 + 1))
    refine T_istore1 rfl (by decide) dX5_readHaul_30 rfl ?_
    refine T_aload0 dX5_readHaul_31 rfl ?_
    refine T_sgn (i := 12) (by decide) ks5_190 dX5_readHaul_32 rfl ?_
    refine T_cV1 (rq_take hX hT hl hK hK2 hQ (k := 12) (by decide) (by decide) (by decide)) hX k5_92 (by first | exact Or.inl ⟨_, _, _, _, hQ.tj, by decide, rfl⟩ | exact Or.inl ⟨_, _, _, _, (hE.t_j), by decide, rfl⟩) (by decide) (Nat.le_of_ble_eq_true rfl) dX5_readHaul_35 rfl ?_
    rintro _ _ _ M9 ⟨rfl, rfl, rfl, hQ, hF9⟩
    have hT := hT.nx hF9 (by omega)
    have hR := hR.nx hF9 (by omega)
    have hP := hP.nx hF9 (by omega)
    have hF := hF.fr hF9 (by omega)
    refine T_aload0 dX5_readHaul_38 rfl ?_
    first | refine g5_22 _ rfl hQ.tj hQ.gp dX5_readHaul_39 rfl ?_ | refine g5_22 _ rfl (hE.t_j) (hE.g_p) dX5_readHaul_39 rfl ?_
    refine g5_193 _ rfl (hP.t_p) (hP.g_sn) dX5_readHaul_42 rfl ?_
    obtain ⟨f1, hf1⟩ : ∃ f1, f1 = sn := ⟨_, rfl⟩
    rw [← hf1]
    have hf2 : (flF V S s.2.2.2.2 s.1).1 = 0 → f1 = s.2.1 := fun hf => by
      obtain ⟨D, z1, n1, d1, t1⟩ := (hLC rfl).2 hf
      rw [hf1]; exact t1.1
    refine T_istore2 rfl (by decide) dX5_readHaul_45 rfl ?_
    refine T_aload0 dX5_readHaul_46 rfl ?_
    refine T_iconst (0) dX5_readHaul_47 rfl rfl ?_
    have px : PXQ s (tkQ K 12 (tkR K 43 14 (true, adv (rol s s.1 4) 1))) := ((PXQ.st s 4).tr).tk
    have hCQ := RQ.cq (C := CLh V s β) (ez := 0) hT hQ hR hP hs (fun z => by
      have h1 := px z
      have h2 : s.2.1 ≤ s.1 := (hLC rfl).1
      have h3 := h1.1
      have h4 := h1.2.1
      omega) (fun z hf => by
      have h5 := hQ.le z
      obtain ⟨D, z1, n1, d1, t1⟩ := (hLC rfl).2 ((px z).ff hf)
      exact ⟨⟨⟨D, z1, n1, d1⟩, (((LF.st4 (V := V) z1 n1 hz).r14 (k := 43) (K := K) (lt := lt)).tk (k := 12) (K := K).lg z).cn⟩, t1.x (px z) (by omega)⟩)
    refine T_cV1 ((c_X5_readAll hX hd hl hK hK2 (C := CLh V s β) (fun _ _ _ _ _ _ _ _ _ _ => CLh.u) 8 0 rfl).2.1 _ _ _ 0 _ hCQ) hX k5_196 (by first | exact Or.inl ⟨_, _, _, _, hQ.tj, by decide, rfl⟩ | exact Or.inl ⟨_, _, _, _, (hE.t_j), by decide, rfl⟩) (by decide) (Nat.le_of_ble_eq_true rfl) dX5_readHaul_48 rfl ?_
    rintro _ _ _ M8 ⟨⟨rfl, q4, hp4, hm4, hg4, hQ⟩, rfl, rfl, hF9⟩
    have hF := hF.tr hF9
    have hQ0 := hQ
    obtain ⟨hT, nx, bk, ba, fl, fa, a, b, c, ρ, ν, hn, wn, sn, σ, π, κ, hE, hR, hP, ⟨hs1, hs2, hs3, hn0⟩, hb2, hO⟩ := hQ
    refine T_aload0 dX5_readHaul_51 rfl ?_
    first | refine g5_22 _ rfl hQ.tj hQ.gp dX5_readHaul_52 rfl ?_ | refine g5_22 _ rfl (hE.t_j) (hE.g_p) dX5_readHaul_52 rfl ?_
    refine g5_193 _ rfl (hP.t_p) (hP.g_sn) dX5_readHaul_55 rfl ?_
    obtain ⟨m1, hm1⟩ : ∃ m1, m1 = sn := ⟨_, rfl⟩
    rw [← hm1]
    have hm2 : q4.1 = true → (flF V S q4.2.2.2.2.2 q4.2.1).1 = 0 → m1 = q4.2.2.1 := fun z hf => by
      rw [hm1]; exact (((hO.cr hn0 hb2).2 z).2 hf).2.1
    refine T_istore3 rfl (by decide) dX5_readHaul_58 rfl ?_
    obtain ⟨g, s4⟩ := q4
    cases g with
    | false =>
      have f1_ := (hO.2 rfl).1
      have e0 : ¬ K nx = 13 := by rw [f1_]; omega
      clear hQ0
      refine T_aload0 dX5_readHaul_59 rfl ?_
      refine T_sgn (i := 13) (by decide) ks5_200 dX5_readHaul_60 rfl ?_
      refine T_cV1 (c_X5_tryTake hX hE hT hn0 hl hK (k := 13) (by decide)) hX k5_138 (Or.inl ⟨_, _, _, _, (hE.t_j), by decide, rfl⟩) (by decide) (Nat.le_of_ble_eq_true rfl) dX5_readHaul_63 rfl ?_
      rintro _ _ _ M9 ⟨rfl, rfl, rfl, hE9⟩
      rw [if_neg e0] at ⊢
      rw [if_neg e0] at hE9
      have hT := (hT.nx hE9.frame (by omega)).rf
      have hR := hR.nx hE9.frame (by omega)
      have hP := hP.nx hE9.frame (by omega)
      have hF := hF.fr hE9.frame (by omega)
      have hE := hE9.rf
      refine T_if_eq_t 74 dX5_readHaul_66 (by decide) rfl ?_
      refine T_aload0 dX5_readHaul_74 rfl ?_
      refine g5_22 _ rfl (hE.t_j) (hE.g_p) dX5_readHaul_75 rfl ?_
      refine T_iload1 dX5_readHaul_78 rfl ?_
      refine T_iload2 dX5_readHaul_79 rfl ?_
      refine T_iload3 dX5_readHaul_80 rfl ?_
      refine T_cV3 (c_X4_addHaul hX hP ⟨hs1, hs2⟩ _ _ _) hX k5_206 (Or.inl ⟨_, _, _, _, (hP.t_p), by decide, rfl⟩) (by decide) (Nat.le_of_ble_eq_true rfl) dX5_readHaul_81 rfl ?_
      rintro _ _ _ M9 ⟨rfl, rfl, rfl, hPa, hPb⟩
      refine T_vret rfl dX5_readHaul_84 ?_
      obtain ⟨hRO, hCL⟩ := hO.cr hn0 hb2
      have hle : ((false, s4)).1 = true → ((false, s4)).2.1 ≤ lt := fun z => by rw [← (hRO.2.1 z).1]; exact hn0
      by_cases h8 : hn < 12
      · have hP9 := hPa h8
        refine ⟨rfl, rfl, rfl, ⟨(false, s4), _, ⟨(false, s4), hp4, Or.inr ⟨fun z => absurd z.1 (by simp), rfl⟩, rfl⟩, (fun z => absurd z (by simp)), (hT.nx hP9.frame (by omega)).rf, ⟨_, _, _, _, _, hE.nx hP9.frame (by omega), hRO⟩, _, _, _, _, _, _, _, _, _, _, _, hR.nx hP9.frame (by omega), hP9.rf, ⟨by omega, hs2, hs3⟩, fun z => ⟨Nat.le_trans (Nat.le_add_right _ _) (hCL z).1, fun hf => ?_⟩⟩, hF.fr hP9.frame (by omega)⟩
        exact absurd z (by simp)
      · have hP9 := hPb h8
        refine ⟨rfl, rfl, rfl, ⟨(false, s4), _, ⟨(false, s4), hp4, Or.inr ⟨fun z => absurd z.1 (by simp), rfl⟩, rfl⟩, (fun z => absurd z (by simp)), (hT.nx hP9.frame (by omega)).rf, ⟨_, _, _, _, _, hE.nx hP9.frame (by omega), hRO⟩, _, _, _, _, _, _, _, _, _, _, _, hR.nx hP9.frame (by omega), hP9.rf, ⟨hs1, hs2, hs3⟩, fun z => ⟨Nat.le_trans (Nat.le_add_right _ _) (hCL z).1, fun hf => ?_⟩⟩, hF.fr hP9.frame (by omega)⟩
        exact absurd z (by simp)
    | true =>
      have y4 : ((true, s4) : PQ).1 = true := rfl
      obtain ⟨f1_, f2_, -⟩ := hO.1 rfl
      have f1_ : nx = s4.1 := f1_
      subst f1_ f2_
      clear hQ0
      have h34 := (hp4.psm rfl).2.1
      have hs3_ : s.1 < (tkQ K 12 (tkR K 43 14 (true, adv (rol s s.1 4) 1))).2.1 := by have := px (hp4.psm rfl).1; have h9 := (tkQ_t (hp4.psm rfl).1); have h7 := (tkR_t h9.1); rw [h9.2.2, h7.2.2]; show s.1 < s.1 + 1 + 1 + 1; omega
      by_cases e0 : K s4.1 = 13
      ·
        have hlt := K_lt hK2 hn0 e0 (by decide) (by decide)
        refine T_aload0 dX5_readHaul_59 rfl ?_
        refine T_sgn (i := 13) (by decide) ks5_200 dX5_readHaul_60 rfl ?_
        refine T_cV1 (c_X5_tryTake hX hE hT hn0 hl hK (k := 13) (by decide)) hX k5_138 (Or.inl ⟨_, _, _, _, (hE.t_j), by decide, rfl⟩) (by decide) (Nat.le_of_ble_eq_true rfl) dX5_readHaul_63 rfl ?_
        rintro _ _ _ M9 ⟨rfl, rfl, rfl, hE9⟩
        rw [if_pos e0] at ⊢
        rw [if_pos e0, skN_lt hlt] at hE9
        have hT := (hT.nx hE9.frame (by omega)).rf
        have hR := hR.nx hE9.frame (by omega)
        have hP := hP.nx hE9.frame (by omega)
        have hF := hF.fr hE9.frame (by omega)
        have hE := hE9.rf
        have hn0 := Nat.succ_le_of_lt hlt
        refine T_if_eq_f 74 69 dX5_readHaul_66 (by decide) rfl (by decide) ?_
        refine T_aload0 dX5_readHaul_69 rfl ?_
        refine T_iconst (0) dX5_readHaul_70 rfl rfl ?_
        refine T_cV1 ((c_X5_readAll hX hd hl hK hK2 (C := CLh V s β) (fun _ _ _ _ _ _ _ _ _ _ => CLh.u) 8 0 rfl).2.2.2 _ _ _ (0 + 1) (true, adv s4 1) ⟨hT, _, _, _, _, _, _, _, _, _, _, _, _, _, _, _, _, hE, hR, hP, ⟨hs1, hs2, hs3, hn0⟩, Or.inl rfl, hO.sk⟩) hX k5_203 (Or.inl ⟨_, _, _, _, (hE.t_j), by decide, rfl⟩) (by decide) (Nat.le_of_ble_eq_true rfl) dX5_readHaul_71 rfl ?_
        rintro _ _ _ M8 ⟨⟨rfl, q6, hp6, hm6, hg6, hQ⟩, rfl, rfl, hF9⟩
        have hF := hF.tr hF9
        have hQ0 := hQ
        obtain ⟨hT, nx, bk, ba, fl, fa, a, b, c, ρ, ν, hn, wn, sn, σ, π, κ, hE, hR, hP, ⟨hs1, hs2, hs3, hn0⟩, hb2, hO⟩ := hQ
        refine T_aload0 dX5_readHaul_74 rfl ?_
        refine g5_22 _ rfl (hE.t_j) (hE.g_p) dX5_readHaul_75 rfl ?_
        refine T_iload1 dX5_readHaul_78 rfl ?_
        refine T_iload2 dX5_readHaul_79 rfl ?_
        refine T_iload3 dX5_readHaul_80 rfl ?_
        refine T_cV3 (c_X4_addHaul hX hP ⟨hs1, hs2⟩ _ _ _) hX k5_206 (Or.inl ⟨_, _, _, _, (hP.t_p), by decide, rfl⟩) (by decide) (Nat.le_of_ble_eq_true rfl) dX5_readHaul_81 rfl ?_
        rintro _ _ _ M9 ⟨rfl, rfl, rfl, hPa, hPb⟩
        refine T_vret rfl dX5_readHaul_84 ?_
        obtain ⟨hRO, hCL⟩ := hO.cr hn0 hb2
        have hle : (q6).1 = true → (q6).2.1 ≤ lt := fun z => by rw [← (hRO.2.1 z).1]; exact hn0
        by_cases h8 : hn < 12
        · have hP9 := hPa h8
          refine ⟨rfl, rfl, rfl, ⟨q6, _, ⟨(true, s4), hp4, Or.inl ⟨rfl, e0, hp6⟩, rfl⟩, (fun z => by have h1 := (hp6.psm z).2.1; have h2 : s4.1 + 1 ≤ q6.2.1 := h1; omega), (hT.nx hP9.frame (by omega)).rf, ⟨_, _, _, _, _, hE.nx hP9.frame (by omega), hRO⟩, _, _, _, _, _, _, _, _, _, _, _, hR.nx hP9.frame (by omega), hP9.rf, ⟨by omega, hs2, hs3⟩, fun z => ⟨Nat.le_trans (Nat.le_add_right _ _) (hCL z).1, fun hf => ?_⟩⟩, hF.fr hP9.frame (by omega)⟩
          obtain ⟨⟨hc, -⟩, hst⟩ := (hCL z).2 hf
          have y3 := (hp4.psm y4).1
          have px3 := px y3
          have h46 : PSM K s4 q6.2 := (PSM.ad1 s4 1).tr (hp6.psm z).2
          have hfs := px3.ff ((hp4.psm y4).2.ff (h46.ff hf))
          have hh := LC.haul (K := K) (S := S) (x := x1) hc hz y3 ((hp4.psm y4).2.tr h46) hf hs1 hst (hf2 hfs) (hm2 y4 (h46.ff hf)) (hx2 hfs)
          exact hh.2
        · have hP9 := hPb h8
          refine ⟨rfl, rfl, rfl, ⟨q6, _, ⟨(true, s4), hp4, Or.inl ⟨rfl, e0, hp6⟩, rfl⟩, (fun z => by have h1 := (hp6.psm z).2.1; have h2 : s4.1 + 1 ≤ q6.2.1 := h1; omega), (hT.nx hP9.frame (by omega)).rf, ⟨_, _, _, _, _, hE.nx hP9.frame (by omega), hRO⟩, _, _, _, _, _, _, _, _, _, _, _, hR.nx hP9.frame (by omega), hP9.rf, ⟨hs1, hs2, hs3⟩, fun z => ⟨Nat.le_trans (Nat.le_add_right _ _) (hCL z).1, fun hf => ?_⟩⟩, hF.fr hP9.frame (by omega)⟩
          obtain ⟨⟨hc, -⟩, hst⟩ := (hCL z).2 hf
          have y3 := (hp4.psm y4).1
          have px3 := px y3
          have h46 : PSM K s4 q6.2 := (PSM.ad1 s4 1).tr (hp6.psm z).2
          have hfs := px3.ff ((hp4.psm y4).2.ff (h46.ff hf))
          have hh := LC.haul (K := K) (S := S) (x := x1) hc hz y3 ((hp4.psm y4).2.tr h46) hf hs1 hst (hf2 hfs) (hm2 y4 (h46.ff hf)) (hx2 hfs)
          exact absurd hh.1 h8
      ·
        refine T_aload0 dX5_readHaul_59 rfl ?_
        refine T_sgn (i := 13) (by decide) ks5_200 dX5_readHaul_60 rfl ?_
        refine T_cV1 (c_X5_tryTake hX hE hT hn0 hl hK (k := 13) (by decide)) hX k5_138 (Or.inl ⟨_, _, _, _, (hE.t_j), by decide, rfl⟩) (by decide) (Nat.le_of_ble_eq_true rfl) dX5_readHaul_63 rfl ?_
        rintro _ _ _ M9 ⟨rfl, rfl, rfl, hE9⟩
        rw [if_neg e0] at ⊢
        rw [if_neg e0] at hE9
        have hT := (hT.nx hE9.frame (by omega)).rf
        have hR := hR.nx hE9.frame (by omega)
        have hP := hP.nx hE9.frame (by omega)
        have hF := hF.fr hE9.frame (by omega)
        have hE := hE9.rf
        refine T_if_eq_t 74 dX5_readHaul_66 (by decide) rfl ?_
        refine T_aload0 dX5_readHaul_74 rfl ?_
        refine g5_22 _ rfl (hE.t_j) (hE.g_p) dX5_readHaul_75 rfl ?_
        refine T_iload1 dX5_readHaul_78 rfl ?_
        refine T_iload2 dX5_readHaul_79 rfl ?_
        refine T_iload3 dX5_readHaul_80 rfl ?_
        refine T_cV3 (c_X4_addHaul hX hP ⟨hs1, hs2⟩ _ _ _) hX k5_206 (Or.inl ⟨_, _, _, _, (hP.t_p), by decide, rfl⟩) (by decide) (Nat.le_of_ble_eq_true rfl) dX5_readHaul_81 rfl ?_
        rintro _ _ _ M9 ⟨rfl, rfl, rfl, hPa, hPb⟩
        refine T_vret rfl dX5_readHaul_84 ?_
        obtain ⟨hRO, hCL⟩ := hO.cr hn0 hb2
        have hle : ((true, s4)).1 = true → ((true, s4)).2.1 ≤ lt := fun z => by rw [← (hRO.2.1 z).1]; exact hn0
        by_cases h8 : hn < 12
        · have hP9 := hPa h8
          refine ⟨rfl, rfl, rfl, ⟨(true, s4), _, ⟨(true, s4), hp4, Or.inr ⟨fun z => e0 z.2, rfl⟩, rfl⟩, (fun _ => by show s.1 < s4.1; omega), (hT.nx hP9.frame (by omega)).rf, ⟨_, _, _, _, _, hE.nx hP9.frame (by omega), hRO⟩, _, _, _, _, _, _, _, _, _, _, _, hR.nx hP9.frame (by omega), hP9.rf, ⟨by omega, hs2, hs3⟩, fun z => ⟨Nat.le_trans (Nat.le_add_right _ _) (hCL z).1, fun hf => ?_⟩⟩, hF.fr hP9.frame (by omega)⟩
          obtain ⟨⟨hc, -⟩, hst⟩ := (hCL z).2 hf
          have y3 := (hp4.psm y4).1
          have px3 := px y3
          have h46 : PSM K s4 s4 := PSM.rf _
          have hfs := px3.ff ((hp4.psm y4).2.ff (h46.ff hf))
          have hh := LC.haul (K := K) (S := S) (x := x1) hc hz y3 ((hp4.psm y4).2.tr h46) hf hs1 hst (hf2 hfs) (hm2 y4 (h46.ff hf)) (hx2 hfs)
          exact hh.2
        · have hP9 := hPb h8
          refine ⟨rfl, rfl, rfl, ⟨(true, s4), _, ⟨(true, s4), hp4, Or.inr ⟨fun z => e0 z.2, rfl⟩, rfl⟩, (fun _ => by show s.1 < s4.1; omega), (hT.nx hP9.frame (by omega)).rf, ⟨_, _, _, _, _, hE.nx hP9.frame (by omega), hRO⟩, _, _, _, _, _, _, _, _, _, _, _, hR.nx hP9.frame (by omega), hP9.rf, ⟨hs1, hs2, hs3⟩, fun z => ⟨Nat.le_trans (Nat.le_add_right _ _) (hCL z).1, fun hf => ?_⟩⟩, hF.fr hP9.frame (by omega)⟩
          obtain ⟨⟨hc, -⟩, hst⟩ := (hCL z).2 hf
          have y3 := (hp4.psm y4).1
          have px3 := px y3
          have h46 : PSM K s4 s4 := PSM.rf _
          have hfs := px3.ff ((hp4.psm y4).2.ff (h46.ff hf))
          have hh := LC.haul (K := K) (S := S) (x := x1) hc hz y3 ((hp4.psm y4).2.tr h46) hf hs1 hst (hf2 hfs) (hm2 y4 (h46.ff hf)) (hx2 hfs)
          exact absurd hh.1 h8
set_option maxHeartbeats 1000000 in
theorem c_X5_readWait {l : Launch} {D : va_G} {cA : Nat → ClassId} {n0 : Nat} {sg adK adV : Nat → Nat} {sgA smA wdA bS LS : Nat} {xs : Nat → Int32} (hX : SF n0 (XW0 sg adK adV sgA smA wdA n0 bS LS xs)) {j r p tp ln lt : Nat} {K : Nat → Nat} {S : Nat → Int32} {V : Nat → Int64} (hd : (j + 5 ≤ r ∨ r + 38 ≤ j) ∧ (j + 5 ≤ p ∨ p + 30 ≤ j) ∧ (p + 30 ≤ r ∨ r + 38 ≤ p)) (hl : lt ≤ 400) (hK : ∀ i, i ≤ lt → K i < 48) (hK2 : K lt = 45 ∨ K lt = 46) {sz : Nat} {τ : TY} {M : ME} {s : PS} {β : RH} (hL : LQ sg τ M j r p tp ln lt K S V ((true, s)) (β)) (h0 : K s.1 = 14) : CT l D cA n0 (XW0 sg adK adV sgA smA wdA n0 bS LS xs) mX5_readWait 100 0 0 sz τ M [.ref j] (fun v' sz' τ' M' => v' = none ∧ sz' = sz ∧ τ' = τ ∧ (∃ q' β', WLr K (fun t => (V t).toInt32) s β q' β' ∧ (q'.1 = true → s.1 < q'.2.1) ∧ LQ sg τ M' j r p tp ln lt K S V (q') (β')) ∧ Fr3 j r p M M') := by
  refine CT.of (ls := [.ref j, UU, UU, UU]) (by decide) (Nat.le_of_ble_eq_true rfl) rfl ?_
  obtain ⟨hT, hQ, a, b, c, ρ, ν, hn, wn, sn, σ, π, κ, hR, hP, hs, hLC⟩ := hL
  obtain ⟨hz, hs0⟩ := hQ.z
  obtain ⟨la, lb, lc⟩ := hR.ok
  have hF : Fr3 j r p M M := Fr3.rf _ _ _ _
  refine T_aload0 dX5_readWait_0 rfl ?_
  refine T_iconst (0) dX5_readWait_1 rfl rfl ?_
  refine T_joinI 19 (fun y => y = (if 12 ≤ wn then 1 else 0)) (fun hJ => ?_) (fun x19 hx19 => ?_)
  ·
    refine T_aload0 dX5_readWait_2 rfl ?_
    first | refine g5_22 _ rfl hQ.tj hQ.gp dX5_readWait_3 rfl ?_ | refine g5_22 _ rfl (hE.t_j) (hE.g_p) dX5_readWait_3 rfl ?_
    refine g5_210 _ rfl (hP.t_p) (hP.g_wn) dX5_readWait_6 rfl ?_
    refine T_bipush (12) dX5_readWait_9 rfl rfl ?_
    refine T_icmp_lt 18 14 dX5_readWait_11 (by decide) rfl (fun c11 => ?_) (fun c11 => ?_)
    ·
      refine T_iconst (0) dX5_readWait_18 rfl rfl ?_
      refine hJ _ ?_
      first | exact (if_neg (Nat.not_le.mpr (Nat.lt_of_not_le (fun q => Int32.not_le.mpr c11 ((nI_leI (a := 12) (b := wn) (by omega) (by omega)).mpr q))))).symm | exact (if_pos (Nat.le_of_not_lt (fun q => c11 (nI_lt (b := 12) q (by omega))))).symm
    ·
      refine T_iconst (1) dX5_readWait_14 rfl rfl ?_
      refine T_goto 19 dX5_readWait_15 (by decide) ?_
      refine hJ _ ?_
      first | exact (if_neg (Nat.not_le.mpr (Nat.lt_of_not_le (fun q => Int32.not_le.mpr c11 ((nI_leI (a := 12) (b := wn) (by omega) (by omega)).mpr q))))).symm | exact (if_pos (Nat.le_of_not_lt (fun q => c11 (nI_lt (b := 12) q (by omega))))).symm
  ·
    subst hx19
    refine T_cV2 (rq_chk hX hT hl hK hK2 hQ (x := 0) (Or.inl rfl) b01_j) hX k5_118 (by first | exact Or.inl ⟨_, _, _, _, hQ.tj, by decide, rfl⟩ | exact Or.inl ⟨_, _, _, _, (hE.t_j), by decide, rfl⟩) (by decide) (Nat.le_of_ble_eq_true rfl) dX5_readWait_19 rfl ?_
    rintro _ _ _ M9 ⟨rfl, rfl, rfl, hQ, hF9⟩
    have hT := hT.nx hF9 (by omega)
    have hR := hR.nx hF9 (by omega)
    have hP := hP.nx hF9 (by omega)
    have hF := hF.fr hF9 (by omega)
    refine T_aload0 dX5_readWait_22 rfl ?_
    refine T_cV0 (rq_skipN hX hT hl hK hK2 (x := 5) hQ (by omega) (fun hf => by obtain ⟨D, z1, -, -, -⟩ := (hLC rfl).2 hf; rw [ck_4 hs.2.1, erF_5, z1.2.2.2.2.1])) hX k5_104 (by first | exact Or.inl ⟨_, _, _, _, hQ.tj, by decide, rfl⟩ | exact Or.inl ⟨_, _, _, _, (hE.t_j), by decide, rfl⟩) (by decide) (Nat.le_of_ble_eq_true rfl) dX5_readWait_23 rfl ?_
    rintro _ _ _ M9 ⟨rfl, rfl, rfl, hQ, hF9⟩
    have hT := hT.nx hF9 (by omega)
    have hR := hR.nx hF9 (by omega)
    have hP := hP.nx hF9 (by omega)
    have hF := hF.fr hF9 (by omega)
    refine T_aload0 dX5_readWait_26 rfl ?_
    refine T_cV0 (rq_takeHorse hX hT hl hK hK2 hR (by omega) hQ (x := 15) (fun _ hf => by
      obtain ⟨D, z1, n1, d1, t1⟩ := (hLC rfl).2 (((PSX.rf s).ro (x := 5)).ff hf)
      exact ((LF.st5 z1 n1 hz).lg rfl).he2 (Or.inr rfl))) hX k5_187 (by first | exact Or.inl ⟨_, _, _, _, hQ.tj, by decide, rfl⟩ | exact Or.inl ⟨_, _, _, _, (hE.t_j), by decide, rfl⟩) (by decide) (Nat.le_of_ble_eq_true rfl) dX5_readWait_27 rfl ?_
    rintro _ _ _ M9 ⟨rfl, rfl, rfl, hQ, hF9⟩
    have hT := hT.nx hF9 (by omega)
    have hR := hR.nx hF9 (by omega)
    have hP := hP.nx hF9 (by omega)
    have hF := hF.fr hF9 (by omega)
    obtain ⟨x1, hx1⟩ : ∃ x1, x1 = fdF (ν 1) (V (cu lt (true, adv (rol s s.1 5) 1))) b := ⟨_, rfl⟩
    rw [← hx1]
    have hx2 : (flF V S s.2.2.2.2 s.1).1 = 0 → x1 = tdR V (uI s.2.2.2.2 s.1 5) 2 (V (s.1 + 1)) (s.1 + 1) := fun hf => by
      obtain ⟨D, z1, n1, d1, t1⟩ := (hLC rfl).2 hf
      rw [hx1]; exact ((LF.st5 z1 n1 hz).lg rfl).cn.1 (V (s.1 + 1))
    refine T_istore1 rfl (by decide) dX5_readWait_30 rfl ?_
    refine T_aload0 dX5_readWait_31 rfl ?_
    refine T_sgn (i := 15) (by decide) ks5_213 dX5_readWait_32 rfl ?_
    refine T_cV1 (rq_take hX hT hl hK hK2 hQ (k := 15) (by decide) (by decide) (by decide)) hX k5_92 (by first | exact Or.inl ⟨_, _, _, _, hQ.tj, by decide, rfl⟩ | exact Or.inl ⟨_, _, _, _, (hE.t_j), by decide, rfl⟩) (by decide) (Nat.le_of_ble_eq_true rfl) dX5_readWait_35 rfl ?_
    rintro _ _ _ M9 ⟨rfl, rfl, rfl, hQ, hF9⟩
    have hT := hT.nx hF9 (by omega)
    have hR := hR.nx hF9 (by omega)
    have hP := hP.nx hF9 (by omega)
    have hF := hF.fr hF9 (by omega)
    refine T_aload0 dX5_readWait_38 rfl ?_
    refine T_cV0 (rq_takeStretch hX hT hl hK hK2 hR (by omega) hQ (x := 16) (fun z hf => by
      obtain ⟨D, z1, n1, d1, t1⟩ := (hLC rfl).2 (((((PXQ.st s 5).tr).tk z).ff hf))
      exact ((((LF.st5 (V := V) z1 n1 hz).r15 (k := 43) (K := K) (lt := lt)).tk (k := 15) (K := K)).lg z).he1)) hX k5_216 (by first | exact Or.inl ⟨_, _, _, _, hQ.tj, by decide, rfl⟩ | exact Or.inl ⟨_, _, _, _, (hE.t_j), by decide, rfl⟩) (by decide) (Nat.le_of_ble_eq_true rfl) dX5_readWait_39 rfl ?_
    rintro _ _ _ M9 ⟨rfl, rfl, rfl, hQ, hF9⟩
    have hT := hT.nx hF9 (by omega)
    have hR := hR.nx hF9 (by omega)
    have hP := hP.nx hF9 (by omega)
    have hF := hF.fr hF9 (by omega)
    obtain ⟨y1, hy1⟩ : ∃ y1, y1 = fdF (ν 4) (V (cu lt (tkQ K 15 (tkR K 43 15 (true, adv (rol s s.1 5) 1))))) a := ⟨_, rfl⟩
    rw [← hy1]
    have hy2 : (tkQ K 15 (tkR K 43 15 (true, adv (rol s s.1 5) 1))).1 = true → (flF V S s.2.2.2.2 s.1).1 = 0 → y1 = tdR V (tkQ K 15 (tkR K 43 15 (true, adv (rol s s.1 5) 1))).2.2.2.2.2 1 (V (tkQ K 15 (tkR K 43 15 (true, adv (rol s s.1 5) 1))).2.1) (tkQ K 15 (tkR K 43 15 (true, adv (rol s s.1 5) 1))).2.1 := fun z hf => by
      obtain ⟨D, z1, n1, d1, t1⟩ := (hLC rfl).2 hf
      rw [hy1, cu_t z]; exact ((((LF.st5 (V := V) z1 n1 hz).r15 (k := 43) (K := K) (lt := lt)).tk (k := 15) (K := K)).lg z).cn.2 _
    refine T_istore2 rfl (by decide) dX5_readWait_42 rfl ?_
    refine T_aload0 dX5_readWait_43 rfl ?_
    refine T_sgn (i := 13) (by decide) ks5_200 dX5_readWait_44 rfl ?_
    refine T_cV1 (rq_take hX hT hl hK hK2 hQ (k := 13) (by decide) (by decide) (by decide)) hX k5_92 (by first | exact Or.inl ⟨_, _, _, _, hQ.tj, by decide, rfl⟩ | exact Or.inl ⟨_, _, _, _, (hE.t_j), by decide, rfl⟩) (by decide) (Nat.le_of_ble_eq_true rfl) dX5_readWait_47 rfl ?_
    rintro _ _ _ M9 ⟨rfl, rfl, rfl, hQ, hF9⟩
    have hT := hT.nx hF9 (by omega)
    have hR := hR.nx hF9 (by omega)
    have hP := hP.nx hF9 (by omega)
    have hF := hF.fr hF9 (by omega)
    refine T_aload0 dX5_readWait_50 rfl ?_
    first | refine g5_22 _ rfl hQ.tj hQ.gp dX5_readWait_51 rfl ?_ | refine g5_22 _ rfl (hE.t_j) (hE.g_p) dX5_readWait_51 rfl ?_
    refine g5_193 _ rfl (hP.t_p) (hP.g_sn) dX5_readWait_54 rfl ?_
    obtain ⟨f1, hf1⟩ : ∃ f1, f1 = sn := ⟨_, rfl⟩
    rw [← hf1]
    have hf2 : (flF V S s.2.2.2.2 s.1).1 = 0 → f1 = s.2.1 := fun hf => by
      obtain ⟨D, z1, n1, d1, t1⟩ := (hLC rfl).2 hf
      rw [hf1]; exact t1.1
    refine T_istore3 rfl (by decide) dX5_readWait_57 rfl ?_
    refine T_aload0 dX5_readWait_58 rfl ?_
    refine T_iconst (0) dX5_readWait_59 rfl rfl ?_
    have px : PXQ s (tkQ K 13 (tkR K 43 16 (tkQ K 15 (tkR K 43 15 (true, adv (rol s s.1 5) 1))))) := (((PXQ.st s 5).tr).tk.tr).tk
    have hCQ := RQ.cq (C := CLh V s β) (ez := 0) hT hQ hR hP hs (fun z => by
      have h1 := px z
      have h2 : s.2.1 ≤ s.1 := (hLC rfl).1
      have h3 := h1.1
      have h4 := h1.2.1
      omega) (fun z hf => by
      have h5 := hQ.le z
      obtain ⟨D, z1, n1, d1, t1⟩ := (hLC rfl).2 ((px z).ff hf)
      exact ⟨⟨⟨D, z1, n1, d1⟩, (((((LF.st5 (V := V) z1 n1 hz).r15 (k := 43) (K := K) (lt := lt)).tk (k := 15) (K := K)).r16 (k := 43) (K := K) (lt := lt)).tk (k := 13) (K := K).lg z).cn⟩, t1.x (px z) (by omega)⟩)
    refine T_cV1 ((c_X5_readAll hX hd hl hK hK2 (C := CLh V s β) (fun _ _ _ _ _ _ _ _ _ _ => CLh.u) 8 0 rfl).2.2.2 _ _ _ 0 _ hCQ) hX k5_203 (by first | exact Or.inl ⟨_, _, _, _, hQ.tj, by decide, rfl⟩ | exact Or.inl ⟨_, _, _, _, (hE.t_j), by decide, rfl⟩) (by decide) (Nat.le_of_ble_eq_true rfl) dX5_readWait_60 rfl ?_
    rintro _ _ _ M8 ⟨⟨rfl, q6, hp6, hm6, hg6, hQ⟩, rfl, rfl, hF9⟩
    have hF := hF.tr hF9
    have hQ0 := hQ
    obtain ⟨hT, nx, bk, ba, fl, fa, a, b, c, ρ, ν, hn, wn, sn, σ, π, κ, hE, hR, hP, ⟨hs1, hs2, hs3, hn0⟩, hb2, hO⟩ := hQ
    refine T_aload0 dX5_readWait_63 rfl ?_
    first | refine g5_22 _ rfl hQ.tj hQ.gp dX5_readWait_64 rfl ?_ | refine g5_22 _ rfl (hE.t_j) (hE.g_p) dX5_readWait_64 rfl ?_
    refine T_iload1 dX5_readWait_67 rfl ?_
    refine T_iload2 dX5_readWait_68 rfl ?_
    refine T_iload3 dX5_readWait_69 rfl ?_
    refine T_cV3 (c_X4_addWait hX hP ⟨hs1, hs2⟩ _ _ _) hX k5_219 (Or.inl ⟨_, _, _, _, (hP.t_p), by decide, rfl⟩) (by decide) (Nat.le_of_ble_eq_true rfl) dX5_readWait_70 rfl ?_
    rintro _ _ _ M9 ⟨rfl, rfl, rfl, hPa, hPb⟩
    refine T_vret rfl dX5_readWait_73 ?_
    obtain ⟨hRO, hCL⟩ := hO.cr hn0 hb2
    by_cases h8 : wn < 12
    · have hP9 := hPa h8
      refine ⟨rfl, rfl, rfl, ⟨q6, _, ⟨hp6, rfl⟩, (fun z => ?_), (hT.nx hP9.frame (by omega)).rf, ⟨_, _, _, _, _, hE.nx hP9.frame (by omega), hRO⟩, _, _, _, _, _, _, _, _, _, _, _, hR.nx hP9.frame (by omega), hP9.rf, ⟨hs1, by omega, hs3⟩, fun z => ⟨Nat.le_trans (Nat.le_add_right _ _) (hCL z).1, fun hf => ?_⟩⟩, hF.fr hP9.frame (by omega)⟩
      · have h1 := hp6.psm z
        have h2 : (adv (rol s s.1 5) 1).1 ≤ (tkQ K 13 (tkR K 43 16 (tkQ K 15 (tkR K 43 15 (true, adv (rol s s.1 5) 1))))).2.1 := by
          have w5 := tkQ_t h1.1
          have w4 := tkR_t w5.1
          have w3 := tkQ_t w4.1
          have w2 := tkR_t w3.1
          rw [w5.2.2, w4.2.2, w3.2.2, w2.2.2]
          show s.1 + 1 ≤ s.1 + 1 + 1 + 1 + 1 + 1; omega
        have h3 : s.1 + 1 ≤ _ := h2
        have h4 := h1.2.1
        have h5 : (tkQ K 13 (tkR K 43 16 (tkQ K 15 (tkR K 43 15 (true, adv (rol s s.1 5) 1))))).2.1 ≤ q6.2.1 := h4
        omega
      · obtain ⟨⟨hc, -⟩, hst⟩ := (hCL z).2 hf
        have h1 := hp6.psm z
        have hfs := (px h1.1).ff (h1.2.ff hf)
        have y3 : (tkQ K 15 (tkR K 43 15 (true, adv (rol s s.1 5) 1))).1 = true := (tkR_t (tkQ_t h1.1).1).1
        have hh := LC.wait (K := K) (S := S) (x := x1) (y := y1) hc hz h1.1 h1.2 hf hs2 hst (hf2 hfs) (hx2 hfs) (hy2 y3 hfs)
        exact hh.2
    · have hP9 := hPb h8
      refine ⟨rfl, rfl, rfl, ⟨q6, _, ⟨hp6, rfl⟩, (fun z => ?_), (hT.nx hP9.frame (by omega)).rf, ⟨_, _, _, _, _, hE.nx hP9.frame (by omega), hRO⟩, _, _, _, _, _, _, _, _, _, _, _, hR.nx hP9.frame (by omega), hP9.rf, ⟨hs1, hs2, hs3⟩, fun z => ⟨Nat.le_trans (Nat.le_add_right _ _) (hCL z).1, fun hf => ?_⟩⟩, hF.fr hP9.frame (by omega)⟩
      · have h1 := hp6.psm z
        have h2 : (adv (rol s s.1 5) 1).1 ≤ (tkQ K 13 (tkR K 43 16 (tkQ K 15 (tkR K 43 15 (true, adv (rol s s.1 5) 1))))).2.1 := by
          have w5 := tkQ_t h1.1
          have w4 := tkR_t w5.1
          have w3 := tkQ_t w4.1
          have w2 := tkR_t w3.1
          rw [w5.2.2, w4.2.2, w3.2.2, w2.2.2]
          show s.1 + 1 ≤ s.1 + 1 + 1 + 1 + 1 + 1; omega
        have h3 : s.1 + 1 ≤ _ := h2
        have h4 := h1.2.1
        have h5 : (tkQ K 13 (tkR K 43 16 (tkQ K 15 (tkR K 43 15 (true, adv (rol s s.1 5) 1))))).2.1 ≤ q6.2.1 := h4
        omega
      · obtain ⟨⟨hc, -⟩, hst⟩ := (hCL z).2 hf
        have h1 := hp6.psm z
        have hfs := (px h1.1).ff (h1.2.ff hf)
        have y3 : (tkQ K 15 (tkR K 43 15 (true, adv (rol s s.1 5) 1))).1 = true := (tkR_t (tkQ_t h1.1).1).1
        have hh := LC.wait (K := K) (S := S) (x := x1) (y := y1) hc hz h1.1 h1.2 hf hs2 hst (hf2 hfs) (hx2 hfs) (hy2 y3 hfs)
        exact absurd hh.1 h8

