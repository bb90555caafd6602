section RQS
variable {τ : TY} {M : ME} {j r p lt : Nat} {S : Nat → Int32} {V : Nat → Int64} {q : PQ} {s : PS} {e : Int32}
theorem RQ.tj (h : RQ τ M j r p lt S V q) : τ j = (4, 0) := let ⟨_, _, _, _, _, hE, _⟩ := h; hE.t_j
theorem RQ.gr (h : RQ τ M j r p lt S V q) : M j 1 = .ref r := let ⟨_, _, _, _, _, hE, _⟩ := h; hE.g_r
theorem RQ.gp (h : RQ τ M j r p lt S V q) : M j 2 = .ref p := let ⟨_, _, _, _, _, hE, _⟩ := h; hE.g_p
theorem RN.tj (h : RN τ M j r p lt S V q e) : τ j = (4, 0) := let ⟨_, _, _, _, _, hE, _⟩ := h; hE.t_j
theorem RN.gr (h : RN τ M j r p lt S V q e) : M j 1 = .ref r := let ⟨_, _, _, _, _, hE, _⟩ := h; hE.g_r
theorem RN.gp (h : RN τ M j r p lt S V q e) : M j 2 = .ref p := let ⟨_, _, _, _, _, hE, _⟩ := h; hE.g_p
theorem RQ.z (h : RQ τ M j r p lt S V (true, s)) : (∀ i, s.1 ≤ i → s.2.2.2.2 i = 0) ∧ s.1 ≤ lt := by
  obtain ⟨nx, bk, ba, fl, fa, hE, hO⟩ := h
  obtain ⟨h1, h2, h3, h4⟩ := hO.2.1 rfl
  have h1' : nx = s.1 := h1
  subst h1'
  exact ⟨h3, hO.1.1⟩
theorem RQ.le (h : RQ τ M j r p lt S V q) (z : q.1 = true) : q.2.1 ≤ lt := by
  obtain ⟨nx, bk, ba, fl, fa, hE, hO⟩ := h
  rw [← (hO.2.1 z).1]; exact hO.1.1
end RQS
set_option maxHeartbeats 1000000 in
theorem rq_value {l : Launch} {D : va_G} {cA : Nat → ClassId} {n0 : Nat} {sg adK adV : Nat → Nat} {sgA smA wdA bS LS : Nat} {xs : Nat → Int32} (hX : SF n0 (XW0 sg adK adV sgA smA wdA n0 bS LS xs)) {sz : Nat} {τ : TY} {M : ME} {N2 : ME} {j r p tp ln lt : Nat} {K : Nat → Nat} {S : Nat → Int32} {V : Nat → Int64} (hT : TM τ N2 M (j + 1) sg tp ln lt K S V) (hl : lt ≤ 400) (hK : ∀ i, i ≤ lt → K i < 48) (hK2 : K lt = 45 ∨ K lt = 46) {q : PQ} (hQ : RQ τ M j r p lt S V (q)) : CT l D cA n0 (XW0 sg adK adV sgA smA wdA n0 bS LS xs) mX5_value 1 0 0 sz τ M [.ref j] (fun v' sz' τ' M' => v' = some (.long (V (cu lt q))) ∧ sz' = sz ∧ τ' = τ ∧ M' = M ∧ Fr j (j + 1) M M') := by
  obtain ⟨nx, bk, ba, fl, fa, hE, hO⟩ := hQ
  have hc := hO.cu
  refine (c_X5_value hX hE hT hO.1.1 hl hK).wk ?_
  rintro _ _ _ _ ⟨rfl, rfl, rfl, rfl⟩
  exact ⟨by rw [← hc], rfl, rfl, rfl, Fr.rf _ _ _⟩
set_option maxHeartbeats 1000000 in
theorem c_X5_readStretch {l : Launch} {D : va_G} {cA : Nat → ClassId} {n0 : Nat} {sg adK adV : Nat → Nat} {sgA smA wdA bS LS : Nat} {xs : Nat → Int32} (hX : SF n0 (XW0 sg adK adV sgA smA wdA n0 bS LS xs)) {j r p tp ln lt : Nat} {K : Nat → Nat} {S : Nat → Int32} {V : Nat → Int64} (hd : (j + 5 ≤ r ∨ r + 38 ≤ j) ∧ (j + 5 ≤ p ∨ p + 30 ≤ j) ∧ (p + 30 ≤ r ∨ r + 38 ≤ p)) (hl : lt ≤ 400) (hK : ∀ i, i ≤ lt → K i < 48) (hK2 : K lt = 45 ∨ K lt = 46) {sz : Nat} {τ : TY} {M : ME} {s : PS} {β : RH} (hL : LQ sg τ M j r p tp ln lt K S V ((true, s)) (β)) (h0 : K s.1 < 45) : CT l D cA n0 (XW0 sg adK adV sgA smA wdA n0 bS LS xs) mX5_readStretch 6 0 0 sz τ M [.ref j] (fun v' sz' τ' M' => v' = none ∧ sz' = sz ∧ τ' = τ ∧ LQ sg τ M' j r p tp ln lt K S V (lnst K s) (β) ∧ Fr3 j r p M M') := by
  refine CT.of (ls := [.ref j, UU, UU, UU, UU, UU, UU]) (by decide) (Nat.le_of_ble_eq_true rfl) rfl ?_
  obtain ⟨hT, hQ, a, b, c, ρ, ν, hn, wn, sn, σ, π, κ, hR, hP, hs, hLC⟩ := hL
  obtain ⟨hz, hs0⟩ := hQ.z
  obtain ⟨la, lb, lc⟩ := hR.ok
  have hF : Fr3 j r p M M := Fr3.rf _ _ _ _
  refine T_aload0 dX5_readStretch_0 rfl ?_
  refine T_cV0 (rq_skip hX hT hl hK hK2 hQ (by omega)) hX k5_104 (Or.inl ⟨_, _, _, _, hQ.tj, by decide, rfl⟩) (by decide) (Nat.le_of_ble_eq_true rfl) dX5_readStretch_1 rfl ?_
  rintro _ _ _ M9 ⟨rfl, rfl, rfl, hQ, hF9⟩
  have hT := hT.nx hF9 (by omega)
  have hR := hR.nx hF9 (by omega)
  have hP := hP.nx hF9 (by omega)
  have hF := hF.fr hF9 (by omega)
  refine T_aload0 dX5_readStretch_4 rfl ?_
  refine T_joinI 24 (fun y => y = (if fdF (ν 4) (V (s.1 + 1)) a = -1 then 0 else 1)) (fun hJ => ?_) (fun x24 hx24 => ?_)
  ·
    refine T_aload0 dX5_readStretch_5 rfl ?_
    refine g5_18 _ rfl hQ.tj hQ.gr dX5_readStretch_6 rfl ?_
    refine T_aload0 dX5_readStretch_9 rfl ?_
    refine T_cV0 (rq_value hX hT hl hK hK2 hQ) hX k5_107 (Or.inl ⟨_, _, _, _, hQ.tj, by decide, rfl⟩) (by decide) (Nat.le_of_ble_eq_true rfl) dX5_readStretch_10 rfl ?_
    rintro _ _ _ _ ⟨rfl, rfl, rfl, rfl, -⟩
    refine T_cV1 (c_X6_findStretch hX hR _) hX k5_111 (Or.inl ⟨_, _, _, _, hR.t, by decide, rfl⟩) (by decide) (Nat.le_of_ble_eq_true rfl) dX5_readStretch_13 rfl ?_
    rintro _ _ _ _ ⟨rfl, rfl, rfl, rfl⟩
    refine T_if_lt 23 19 dX5_readStretch_16 (by decide) rfl (fun c16 => ?_) (fun c16 => ?_)
    ·
      refine T_iconst (0) dX5_readStretch_23 rfl rfl ?_
      refine hJ _ ?_
      first | exact (if_pos (fdF_lt (by omega) c16)).symm | exact (if_neg (fdF_nlt c16)).symm
    ·
      refine T_iconst (1) dX5_readStretch_19 rfl rfl ?_
      refine T_goto 24 dX5_readStretch_20 (by decide) ?_
      refine hJ _ ?_
      first | exact (if_pos (fdF_lt (by omega) c16)).symm | exact (if_neg (fdF_nlt c16)).symm
  ·
    subst hx24
    refine T_joinI 41 (fun y => y = (if 8 ≤ a then 1 else 0)) (fun hJ => ?_) (fun x41 hx41 => ?_)
    ·
      refine T_aload0 dX5_readStretch_24 rfl ?_
      refine g5_18 _ rfl hQ.tj hQ.gr dX5_readStretch_25 rfl ?_
      refine g5_115 _ rfl hR.t hR.r3 dX5_readStretch_28 rfl ?_
      refine T_bipush (8) dX5_readStretch_31 rfl rfl ?_
      refine T_icmp_lt 40 36 dX5_readStretch_33 (by decide) rfl (fun c33 => ?_) (fun c33 => ?_)
      ·
        refine T_iconst (0) dX5_readStretch_40 rfl rfl ?_
        refine hJ _ ?_
        first | exact (if_neg (Nat.not_le.mpr (Nat.lt_of_not_le (fun q => Int32.not_le.mpr c33 ((nI_leI (a := 8) (b := a) (by omega) (by omega)).mpr q))))).symm | exact (if_pos (Nat.le_of_not_lt (fun q => c33 (nI_lt (b := 8) q (by omega))))).symm
      ·
        refine T_iconst (1) dX5_readStretch_36 rfl rfl ?_
        refine T_goto 41 dX5_readStretch_37 (by decide) ?_
        refine hJ _ ?_
        first | exact (if_neg (Nat.not_le.mpr (Nat.lt_of_not_le (fun q => Int32.not_le.mpr c33 ((nI_leI (a := 8) (b := a) (by omega) (by omega)).mpr q))))).symm | exact (if_pos (Nat.le_of_not_lt (fun q => c33 (nI_lt (b := 8) q (by omega))))).symm
    ·
      subst hx41
      refine T_cV2 (rq_chk hX hT hl hK hK2 hQ b01_i b01_j) hX k5_118 (Or.inl ⟨_, _, _, _, hQ.tj, by decide, rfl⟩) (by decide) (Nat.le_of_ble_eq_true rfl) dX5_readStretch_41 rfl ?_
      rintro _ _ _ M9 ⟨rfl, rfl, rfl, hQ, hF9⟩
      have hT := hT.nx hF9 (by omega)
      have hR := hR.nx hF9 (by omega)
      have hP := hP.nx hF9 (by omega)
      have hF := hF.fr hF9 (by omega)
      refine T_aload0 dX5_readStretch_44 rfl ?_
      refine T_cV0 (rq_name hX hT hl hK hK2 (x := 1) hQ (fun _ hf => ((hLC rfl).2 (by rw [← flF_0 (hz _ (Nat.le_refl _))]; exact hf)).ck1 hz la)) hX k5_122 (Or.inl ⟨_, _, _, _, hQ.tj, by decide, rfl⟩) (by decide) (Nat.le_of_ble_eq_true rfl) dX5_readStretch_45 rfl ?_
      rintro _ _ _ M9 ⟨rfl, rfl, rfl, hQ, hF9⟩
      have hT := hT.nx hF9 (by omega)
      have hR := hR.nx hF9 (by omega)
      have hP := hP.nx hF9 (by omega)
      have hF := hF.fr hF9 (by omega)
      refine T_lstore1 rfl (by decide) dX5_readStretch_48 rfl ?_
      refine T_aload0 dX5_readStretch_49 rfl ?_
      refine T_sgn (i := 1) (by decide) ks5_125 dX5_readStretch_50 rfl ?_
      refine T_cV1 (rq_take hX hT hl hK hK2 hQ (k := 1) (by decide) (by decide) (by decide)) hX k5_92 (Or.inl ⟨_, _, _, _, hQ.tj, by decide, rfl⟩) (by decide) (Nat.le_of_ble_eq_true rfl) dX5_readStretch_53 rfl ?_
      rintro _ _ _ M9 ⟨rfl, rfl, rfl, hQ, hF9⟩
      have hT := hT.nx hF9 (by omega)
      have hR := hR.nx hF9 (by omega)
      have hP := hP.nx hF9 (by omega)
      have hF := hF.fr hF9 (by omega)
      refine T_aload0 dX5_readStretch_56 rfl ?_
      refine T_iconst (1) dX5_readStretch_57 rfl rfl ?_
      refine T_bipush (9) dX5_readStretch_58 rfl rfl ?_
      refine T_cV2 (rq_num hX hT hl hK hK2 hQ _ _ (z := 6) erF_r6) hX k5_128 (Or.inl ⟨_, _, _, _, hQ.tj, by decide, rfl⟩) (by decide) (Nat.le_of_ble_eq_true rfl) dX5_readStretch_60 rfl ?_
      rintro _ _ _ M9 ⟨rfl, rfl, rfl, hQ, hF9⟩
      have hT := hT.nx hF9 (by omega)
      have hR := hR.nx hF9 (by omega)
      have hP := hP.nx hF9 (by omega)
      have hF := hF.fr hF9 (by omega)
      refine T_istore3 rfl (by decide) dX5_readStretch_63 rfl ?_
      refine T_aload0 dX5_readStretch_64 rfl ?_
      refine T_sgn (i := 2) (by decide) ks5_132 dX5_readStretch_65 rfl ?_
      refine T_cV1 (rq_take hX hT hl hK hK2 hQ (k := 2) (by decide) (by decide) (by decide)) hX k5_92 (Or.inl ⟨_, _, _, _, hQ.tj, by decide, rfl⟩) (by decide) (Nat.le_of_ble_eq_true rfl) dX5_readStretch_68 rfl ?_
      rintro _ _ _ M9 ⟨rfl, rfl, rfl, hQ, hF9⟩
      have hT := hT.nx hF9 (by omega)
      have hR := hR.nx hF9 (by omega)
      have hP := hP.nx hF9 (by omega)
      have hF := hF.fr hF9 (by omega)
      refine T_aload0 dX5_readStretch_71 rfl ?_
      refine T_sgn (i := 35) (by decide) ks5_135 dX5_readStretch_72 rfl ?_
      refine T_cV1 (rq_try hX hT hl hK hK2 hQ (k := 35) (by decide) (by decide) (by decide) (z := 19) erF_r19) hX k5_138 (Or.inl ⟨_, _, _, _, hQ.tj, by decide, rfl⟩) (by decide) (Nat.le_of_ble_eq_true rfl) dX5_readStretch_75 rfl ?_
      rintro _ _ _ M9 ⟨rfl, rfl, rfl, hQ, hF9⟩
      have hT := hT.nx hF9 (by omega)
      have hR := hR.nx hF9 (by omega)
      have hP := hP.nx hF9 (by omega)
      have hF := hF.fr hF9 (by omega)
      refine T_istore4 rfl (by decide) dX5_readStretch_78 rfl ?_
      refine T_aload0 dX5_readStretch_80 rfl ?_
      refine T_iconst (0) dX5_readStretch_81 rfl rfl ?_
      refine T_bipush (9) dX5_readStretch_82 rfl rfl ?_
      refine T_cV2 (rq_num hX hT hl hK hK2 hQ _ _ (z := 7) erF_r7) hX k5_128 (Or.inl ⟨_, _, _, _, hQ.tj, by decide, rfl⟩) (by decide) (Nat.le_of_ble_eq_true rfl) dX5_readStretch_84 rfl ?_
      rintro _ _ _ M9 ⟨rfl, rfl, rfl, hQ, hF9⟩
      have hT := hT.nx hF9 (by omega)
      have hR := hR.nx hF9 (by omega)
      have hP := hP.nx hF9 (by omega)
      have hF := hF.fr hF9 (by omega)
      refine T_istore5 rfl (by decide) dX5_readStretch_87 rfl ?_
      refine T_aload0 dX5_readStretch_89 rfl ?_
      refine T_sgn (i := 3) (by decide) ks5_142 dX5_readStretch_90 rfl ?_
      refine T_cV1 (rq_take hX hT hl hK hK2 hQ (k := 3) (by decide) (by decide) (by decide)) hX k5_92 (Or.inl ⟨_, _, _, _, hQ.tj, by decide, rfl⟩) (by decide) (Nat.le_of_ble_eq_true rfl) dX5_readStretch_93 rfl ?_
      rintro _ _ _ M9 ⟨rfl, rfl, rfl, hQ, hF9⟩
      have hT := hT.nx hF9 (by omega)
      have hR := hR.nx hF9 (by omega)
      have hP := hP.nx hF9 (by omega)
      have hF := hF.fr hF9 (by omega)
      refine T_aload0 dX5_readStretch_96 rfl ?_
      refine T_iconst (0) dX5_readStretch_97 rfl rfl ?_
      refine T_bipush (9) dX5_readStretch_98 rfl rfl ?_
      refine T_cV2 (rq_num hX hT hl hK hK2 hQ _ _ (z := 8) erF_r8) hX k5_128 (Or.inl ⟨_, _, _, _, hQ.tj, by decide, rfl⟩) (by decide) (Nat.le_of_ble_eq_true rfl) dX5_readStretch_100 rfl ?_
      rintro _ _ _ M9 ⟨rfl, rfl, rfl, hQ, hF9⟩
      have hT := hT.nx hF9 (by omega)
      have hR := hR.nx hF9 (by omega)
      have hP := hP.nx hF9 (by omega)
      have hF := hF.fr hF9 (by omega)
      refine T_istore6 rfl (by decide) dX5_readStretch_103 rfl ?_
      refine T_aload0 dX5_readStretch_105 rfl ?_
      refine g5_18 _ rfl hQ.tj hQ.gr dX5_readStretch_106 rfl ?_
      refine T_lload1 dX5_readStretch_109 rfl ?_
      refine T_iload3 dX5_readStretch_110 rfl ?_
      refine T_joinI 124 (fun y => y = (if K (cu lt (tkQ K 2 ((tkR K 44 6 ((tkQ K 1 ((tkR K 43 1 ((true, adv s 1)))))))))) = 35 then -(V (cu lt (opR K 35 19 ((tkQ K 2 ((tkR K 44 6 ((tkQ K 1 ((tkR K 43 1 ((true, adv s 1))))))))))))).toInt32 else (V (cu lt (opR K 35 19 ((tkQ K 2 ((tkR K 44 6 ((tkQ K 1 ((tkR K 43 1 ((true, adv s 1))))))))))))).toInt32)) (fun hJ => ?_) (fun x124 hx124 => ?_)
      ·
        refine T_iload4 dX5_readStretch_111 rfl ?_
        refine T_if_eq 122 116 dX5_readStretch_113 (by decide) rfl (fun c113 => ?_) (fun c113 => ?_)
        ·
          refine T_iload5 dX5_readStretch_122 rfl ?_
          refine hJ _ ?_
          by_cases e9 : K (cu lt (tkQ K 2 ((tkR K 44 6 ((tkQ K 1 ((tkR K 43 1 ((true, adv s 1)))))))))) = 35
          · first | (rw [if_pos e9] at c113; exact absurd c113 (by decide)) | exact (if_pos e9).symm
          · first | (rw [if_neg e9] at c113; exact absurd rfl c113) | exact (if_neg e9).symm
        ·
          refine T_iload5 dX5_readStretch_116 rfl ?_
          refine T_ineg dX5_readStretch_118 rfl ?_
          refine T_goto 124 dX5_readStretch_119 (by decide) ?_
          refine hJ _ ?_
          by_cases e9 : K (cu lt (tkQ K 2 ((tkR K 44 6 ((tkQ K 1 ((tkR K 43 1 ((true, adv s 1)))))))))) = 35
          · first | (rw [if_pos e9] at c113; exact absurd c113 (by decide)) | exact (if_pos e9).symm
          · first | (rw [if_neg e9] at c113; exact absurd rfl c113) | exact (if_neg e9).symm
      ·
        subst hx124
        refine T_iload6 dX5_readStretch_124 rfl ?_
        refine T_cV4 (c_X6_addStretch hX hR.rf _ _ _ _) hX k5_145 (Or.inl ⟨_, _, _, _, hR.t, by decide, rfl⟩) (by decide) (Nat.le_of_ble_eq_true rfl) dX5_readStretch_126 rfl ?_
        rintro _ _ _ M9 ⟨rfl, rfl, rfl, hR1, hR2⟩
        refine T_vret rfl dX5_readStretch_129 ?_
        by_cases h8 : a < 8
        · have hR9 := hR1 h8
          refine ⟨rfl, rfl, rfl, ⟨(hT.nx hR9.frame (by omega)).rf, hQ.re hR9.frame (by omega), _, _, _, _, _, _, _, _, _, _, _, hR9.rf, hP.nx hR9.frame (by omega), hs, fun z => ?_⟩, hF.fr hR9.frame (by omega)⟩
          have hle := hQ.le z
          obtain ⟨k1, k2, k3⟩ := lnst_ok (V := V) (S := S) z
          have hn0 := (hLC rfl).1
          refine ⟨by show (lnst K s).2.2.1 ≤ (lnst K s).2.1; rw [k2]; exact Nat.le_trans hn0 k3, fun hf => ?_⟩
          have hc := ((hLC rfl).2 (k1 hf)).st (K := K) (S := S) (lt := lt) hz la z (Nat.le_trans hle hl) hf
          exact hc.2
        · have hR9 := hR2 h8
          refine ⟨rfl, rfl, rfl, ⟨(hT.nx hR9.frame (by omega)).rf, hQ.re hR9.frame (by omega), _, _, _, _, _, _, _, _, _, _, _, hR9.rf, hP.nx hR9.frame (by omega), hs, fun z => ?_⟩, hF.fr hR9.frame (by omega)⟩
          have hle := hQ.le z
          obtain ⟨k1, k2, k3⟩ := lnst_ok (V := V) (S := S) z
          have hn0 := (hLC rfl).1
          refine ⟨by show (lnst K s).2.2.1 ≤ (lnst K s).2.1; rw [k2]; exact Nat.le_trans hn0 k3, fun hf => ?_⟩
          have hc := ((hLC rfl).2 (k1 hf)).st (K := K) (S := S) (lt := lt) hz la z (Nat.le_trans hle hl) hf
          exact absurd hc.1 h8
set_option maxHeartbeats 1000000 in
theorem c_X5_readHorse {l : Launch} {D : va_G} {cA : Nat → ClassId} {n0 : Nat} {sg adK adV : Nat → Nat} {sgA smA wdA bS LS : Nat} {xs : Nat → Int32} (hX : SF n0 (XW0 sg adK adV sgA smA wdA n0 bS LS xs)) {j r p tp ln lt : Nat} {K : Nat → Nat} {S : Nat → Int32} {V : Nat → Int64} (hd : (j + 5 ≤ r ∨ r + 38 ≤ j) ∧ (j + 5 ≤ p ∨ p + 30 ≤ j) ∧ (p + 30 ≤ r ∨ r + 38 ≤ p)) (hl : lt ≤ 400) (hK : ∀ i, i ≤ lt → K i < 48) (hK2 : K lt = 45 ∨ K lt = 46) {sz : Nat} {τ : TY} {M : ME} {s : PS} {β : RH} (hL : LQ sg τ M j r p tp ln lt K S V ((true, s)) (β)) (h0 : K s.1 < 45) : CT l D cA n0 (XW0 sg adK adV sgA smA wdA n0 bS LS xs) mX5_readHorse 6 0 0 sz τ M [.ref j] (fun v' sz' τ' M' => v' = none ∧ sz' = sz ∧ τ' = τ ∧ LQ sg τ M' j r p tp ln lt K S V (lnho K s) (β) ∧ Fr3 j r p M M') := by
  refine CT.of (ls := [.ref j, UU, UU, UU, UU, UU, UU]) (by decide) (Nat.le_of_ble_eq_true rfl) rfl ?_
  obtain ⟨hT, hQ, a, b, c, ρ, ν, hn, wn, sn, σ, π, κ, hR, hP, hs, hLC⟩ := hL
  obtain ⟨hz, hs0⟩ := hQ.z
  obtain ⟨la, lb, lc⟩ := hR.ok
  have hF : Fr3 j r p M M := Fr3.rf _ _ _ _
  refine T_aload0 dX5_readHorse_0 rfl ?_
  refine T_cV0 (rq_skip hX hT hl hK hK2 hQ (by omega)) hX k5_104 (Or.inl ⟨_, _, _, _, hQ.tj, by decide, rfl⟩) (by decide) (Nat.le_of_ble_eq_true rfl) dX5_readHorse_1 rfl ?_
  rintro _ _ _ M9 ⟨rfl, rfl, rfl, hQ, hF9⟩
  have hT := hT.nx hF9 (by omega)
  have hR := hR.nx hF9 (by omega)
  have hP := hP.nx hF9 (by omega)
  have hF := hF.fr hF9 (by omega)
  refine T_aload0 dX5_readHorse_4 rfl ?_
  refine T_joinI 24 (fun y => y = (if fdF (ν 1) (V (s.1 + 1)) b = -1 then 0 else 1)) (fun hJ => ?_) (fun x24 hx24 => ?_)
  ·
    refine T_aload0 dX5_readHorse_5 rfl ?_
    refine g5_18 _ rfl hQ.tj hQ.gr dX5_readHorse_6 rfl ?_
    refine T_aload0 dX5_readHorse_9 rfl ?_
    refine T_cV0 (rq_value hX hT hl hK hK2 hQ) hX k5_107 (Or.inl ⟨_, _, _, _, hQ.tj, by decide, rfl⟩) (by decide) (Nat.le_of_ble_eq_true rfl) dX5_readHorse_10 rfl ?_
    rintro _ _ _ _ ⟨rfl, rfl, rfl, rfl, -⟩
    refine T_cV1 (c_X6_findHorse hX hR _) hX k5_149 (Or.inl ⟨_, _, _, _, hR.t, by decide, rfl⟩) (by decide) (Nat.le_of_ble_eq_true rfl) dX5_readHorse_13 rfl ?_
    rintro _ _ _ _ ⟨rfl, rfl, rfl, rfl⟩
    refine T_if_lt 23 19 dX5_readHorse_16 (by decide) rfl (fun c16 => ?_) (fun c16 => ?_)
    ·
      refine T_iconst (0) dX5_readHorse_23 rfl rfl ?_
      refine hJ _ ?_
      first | exact (if_pos (fdF_lt (by omega) c16)).symm | exact (if_neg (fdF_nlt c16)).symm
    ·
      refine T_iconst (1) dX5_readHorse_19 rfl rfl ?_
      refine T_goto 24 dX5_readHorse_20 (by decide) ?_
      refine hJ _ ?_
      first | exact (if_pos (fdF_lt (by omega) c16)).symm | exact (if_neg (fdF_nlt c16)).symm
  ·
    subst hx24
    refine T_joinI 41 (fun y => y = (if 6 ≤ b then 1 else 0)) (fun hJ => ?_) (fun x41 hx41 => ?_)
    ·
      refine T_aload0 dX5_readHorse_24 rfl ?_
      refine g5_18 _ rfl hQ.tj hQ.gr dX5_readHorse_25 rfl ?_
      refine g5_152 _ rfl hR.t hR.r4 dX5_readHorse_28 rfl ?_
      refine T_bipush (6) dX5_readHorse_31 rfl rfl ?_
      refine T_icmp_lt 40 36 dX5_readHorse_33 (by decide) rfl (fun c33 => ?_) (fun c33 => ?_)
      ·
        refine T_iconst (0) dX5_readHorse_40 rfl rfl ?_
        refine hJ _ ?_
        first | exact (if_neg (Nat.not_le.mpr (Nat.lt_of_not_le (fun q => Int32.not_le.mpr c33 ((nI_leI (a := 6) (b := b) (by omega) (by omega)).mpr q))))).symm | exact (if_pos (Nat.le_of_not_lt (fun q => c33 (nI_lt (b := 6) q (by omega))))).symm
      ·
        refine T_iconst (1) dX5_readHorse_36 rfl rfl ?_
        refine T_goto 41 dX5_readHorse_37 (by decide) ?_
        refine hJ _ ?_
        first | exact (if_neg (Nat.not_le.mpr (Nat.lt_of_not_le (fun q => Int32.not_le.mpr c33 ((nI_leI (a := 6) (b := b) (by omega) (by omega)).mpr q))))).symm | exact (if_pos (Nat.le_of_not_lt (fun q => c33 (nI_lt (b := 6) q (by omega))))).symm
    ·
      subst hx41
      refine T_cV2 (rq_chk hX hT hl hK hK2 hQ b01_i b01_j) hX k5_118 (Or.inl ⟨_, _, _, _, hQ.tj, by decide, rfl⟩) (by decide) (Nat.le_of_ble_eq_true rfl) dX5_readHorse_41 rfl ?_
      rintro _ _ _ M9 ⟨rfl, rfl, rfl, hQ, hF9⟩
      have hT := hT.nx hF9 (by omega)
      have hR := hR.nx hF9 (by omega)
      have hP := hP.nx hF9 (by omega)
      have hF := hF.fr hF9 (by omega)
      refine T_aload0 dX5_readHorse_44 rfl ?_
      refine T_cV0 (rq_name hX hT hl hK hK2 (x := 2) hQ (fun _ hf => ((hLC rfl).2 (by rw [← flF_0 (hz _ (Nat.le_refl _))]; exact hf)).ck2 hz lb)) hX k5_122 (Or.inl ⟨_, _, _, _, hQ.tj, by decide, rfl⟩) (by decide) (Nat.le_of_ble_eq_true rfl) dX5_readHorse_45 rfl ?_
      rintro _ _ _ M9 ⟨rfl, rfl, rfl, hQ, hF9⟩
      have hT := hT.nx hF9 (by omega)
      have hR := hR.nx hF9 (by omega)
      have hP := hP.nx hF9 (by omega)
      have hF := hF.fr hF9 (by omega)
      refine T_lstore1 rfl (by decide) dX5_readHorse_48 rfl ?_
      refine T_aload0 dX5_readHorse_49 rfl ?_
      refine T_sgn (i := 5) (by decide) ks5_155 dX5_readHorse_50 rfl ?_
      refine T_cV1 (rq_take hX hT hl hK hK2 hQ (k := 5) (by decide) (by decide) (by decide)) hX k5_92 (Or.inl ⟨_, _, _, _, hQ.tj, by decide, rfl⟩) (by decide) (Nat.le_of_ble_eq_true rfl) dX5_readHorse_53 rfl ?_
      rintro _ _ _ M9 ⟨rfl, rfl, rfl, hQ, hF9⟩
      have hT := hT.nx hF9 (by omega)
      have hR := hR.nx hF9 (by omega)
      have hP := hP.nx hF9 (by omega)
      have hF := hF.fr hF9 (by omega)
      refine T_aload0 dX5_readHorse_56 rfl ?_
      refine T_iconst (1) dX5_readHorse_57 rfl rfl ?_
      refine T_bipush (99) dX5_readHorse_58 rfl rfl ?_
      refine T_cV2 (rq_num hX hT hl hK hK2 hQ _ _ (z := 9) erF_r9) hX k5_128 (Or.inl ⟨_, _, _, _, hQ.tj, by decide, rfl⟩) (by decide) (Nat.le_of_ble_eq_true rfl) dX5_readHorse_60 rfl ?_
      rintro _ _ _ M9 ⟨rfl, rfl, rfl, hQ, hF9⟩
      have hT := hT.nx hF9 (by omega)
      have hR := hR.nx hF9 (by omega)
      have hP := hP.nx hF9 (by omega)
      have hF := hF.fr hF9 (by omega)
      refine T_istore3 rfl (by decide) dX5_readHorse_63 rfl ?_
      refine T_aload0 dX5_readHorse_64 rfl ?_
      refine T_sgn (i := 6) (by decide) ks5_158 dX5_readHorse_65 rfl ?_
      refine T_cV1 (rq_take hX hT hl hK hK2 hQ (k := 6) (by decide) (by decide) (by decide)) hX k5_92 (Or.inl ⟨_, _, _, _, hQ.tj, by decide, rfl⟩) (by decide) (Nat.le_of_ble_eq_true rfl) dX5_readHorse_68 rfl ?_
      rintro _ _ _ M9 ⟨rfl, rfl, rfl, hQ, hF9⟩
      have hT := hT.nx hF9 (by omega)
      have hR := hR.nx hF9 (by omega)
      have hP := hP.nx hF9 (by omega)
      have hF := hF.fr hF9 (by omega)
      refine T_aload0 dX5_readHorse_71 rfl ?_
      refine T_iconst (1) dX5_readHorse_72 rfl rfl ?_
      refine T_bipush (9) dX5_readHorse_73 rfl rfl ?_
      refine T_cV2 (rq_num hX hT hl hK hK2 hQ _ _ (z := 10) erF_r10) hX k5_128 (Or.inl ⟨_, _, _, _, hQ.tj, by decide, rfl⟩) (by decide) (Nat.le_of_ble_eq_true rfl) dX5_readHorse_75 rfl ?_
      rintro _ _ _ M9 ⟨rfl, rfl, rfl, hQ, hF9⟩
      have hT := hT.nx hF9 (by omega)
      have hR := hR.nx hF9 (by omega)
      have hP := hP.nx hF9 (by omega)
      have hF := hF.fr hF9 (by omega)
      refine T_istore4 rfl (by decide) dX5_readHorse_78 rfl ?_
      refine T_aload0 dX5_readHorse_80 rfl ?_
      refine T_sgn (i := 7) (by decide) ks5_161 dX5_readHorse_81 rfl ?_
      refine T_cV1 (rq_take hX hT hl hK hK2 hQ (k := 7) (by decide) (by decide) (by decide)) hX k5_92 (Or.inl ⟨_, _, _, _, hQ.tj, by decide, rfl⟩) (by decide) (Nat.le_of_ble_eq_true rfl) dX5_readHorse_84 rfl ?_
      rintro _ _ _ M9 ⟨rfl, rfl, rfl, hQ, hF9⟩
      have hT := hT.nx hF9 (by omega)
      have hR := hR.nx hF9 (by omega)
      have hP := hP.nx hF9 (by omega)
      have hF := hF.fr hF9 (by omega)
      refine T_aload0 dX5_readHorse_87 rfl ?_
      refine T_iconst (1) dX5_readHorse_88 rfl rfl ?_
      refine T_bipush (99) dX5_readHorse_89 rfl rfl ?_
      refine T_cV2 (rq_num hX hT hl hK hK2 hQ _ _ (z := 11) erF_r11) hX k5_128 (Or.inl ⟨_, _, _, _, hQ.tj, by decide, rfl⟩) (by decide) (Nat.le_of_ble_eq_true rfl) dX5_readHorse_91 rfl ?_
      rintro _ _ _ M9 ⟨rfl, rfl, rfl, hQ, hF9⟩
      have hT := hT.nx hF9 (by omega)
      have hR := hR.nx hF9 (by omega)
      have hP := hP.nx hF9 (by omega)
      have hF := hF.fr hF9 (by omega)
      refine T_istore5 rfl (by decide) dX5_readHorse_94 rfl ?_
      refine T_aload0 dX5_readHorse_96 rfl ?_
      refine T_sgn (i := 8) (by decide) ks5_164 dX5_readHorse_97 rfl ?_
      refine T_cV1 (rq_try hX hT hl hK hK2 hQ (k := 8) (by decide) (by decide) (by decide) (z := 12) erF_r12) hX k5_138 (Or.inl ⟨_, _, _, _, hQ.tj, by decide, rfl⟩) (by decide) (Nat.le_of_ble_eq_true rfl) dX5_readHorse_100 rfl ?_
      rintro _ _ _ M9 ⟨rfl, rfl, rfl, hQ, hF9⟩
      have hT := hT.nx hF9 (by omega)
      have hR := hR.nx hF9 (by omega)
      have hP := hP.nx hF9 (by omega)
      have hF := hF.fr hF9 (by omega)
      refine T_istore6 rfl (by decide) dX5_readHorse_103 rfl ?_
      refine T_aload0 dX5_readHorse_105 rfl ?_
      refine g5_18 _ rfl hQ.tj hQ.gr dX5_readHorse_106 rfl ?_
      refine T_lload1 dX5_readHorse_109 rfl ?_
      refine T_iload3 dX5_readHorse_110 rfl ?_
      refine T_iload4 dX5_readHorse_111 rfl ?_
      refine T_iload5 dX5_readHorse_113 rfl ?_
      refine T_iload6 dX5_readHorse_115 rfl ?_
      refine T_cV5 (c_X6_addHorse hX hR.rf _ _ _ _ _ b01_j) hX k5_167 (Or.inl ⟨_, _, _, _, hR.t, by decide, rfl⟩) (by decide) (Nat.le_of_ble_eq_true rfl) dX5_readHorse_117 rfl ?_
      rintro _ _ _ M9 ⟨rfl, rfl, rfl, hR1, hR2⟩
      refine T_vret rfl dX5_readHorse_120 ?_
      by_cases h8 : b < 6
      · have hR9 := hR1 h8
        refine ⟨rfl, rfl, rfl, ⟨(hT.nx hR9.frame (by omega)).rf, hQ.re hR9.frame (by omega), _, _, _, _, _, _, _, _, _, _, _, hR9.rf, hP.nx hR9.frame (by omega), hs, fun z => ?_⟩, hF.fr hR9.frame (by omega)⟩
        have hle := hQ.le z
        obtain ⟨k1, k2, k3⟩ := lnho_ok (V := V) (S := S) z
        have hn0 := (hLC rfl).1
        refine ⟨by show (lnho K s).2.2.1 ≤ (lnho K s).2.1; rw [k2]; exact Nat.le_trans hn0 k3, fun hf => ?_⟩
        have hc := ((hLC rfl).2 (k1 hf)).ho (K := K) (S := S) (lt := lt) hz lb z (Nat.le_trans hle hl) hf
        exact hc.2
      · have hR9 := hR2 h8
        refine ⟨rfl, rfl, rfl, ⟨(hT.nx hR9.frame (by omega)).rf, hQ.re hR9.frame (by omega), _, _, _, _, _, _, _, _, _, _, _, hR9.rf, hP.nx hR9.frame (by omega), hs, fun z => ?_⟩, hF.fr hR9.frame (by omega)⟩
        have hle := hQ.le z
        obtain ⟨k1, k2, k3⟩ := lnho_ok (V := V) (S := S) z
        have hn0 := (hLC rfl).1
        refine ⟨by show (lnho K s).2.2.1 ≤ (lnho K s).2.1; rw [k2]; exact Nat.le_trans hn0 k3, fun hf => ?_⟩
        have hc := ((hLC rfl).2 (k1 hf)).ho (K := K) (S := S) (lt := lt) hz lb z (Nat.le_trans hle hl) hf
        exact absurd hc.1 h8
set_option maxHeartbeats 1000000 in
theorem c_X5_readLog {l : Launch} {D : va_G} {cA : Nat → ClassId} {n0 : Nat} {sg adK adV : Nat → Nat} {sgA smA wdA bS LS : Nat} {xs : Nat → Int32} (hX : SF n0 (XW0 sg adK adV sgA smA wdA n0 bS LS xs)) {j r p tp ln lt : Nat} {K : Nat → Nat} {S : Nat → Int32} {V : Nat → Int64} (hd : (j + 5 ≤ r ∨ r + 38 ≤ j) ∧ (j + 5 ≤ p ∨ p + 30 ≤ j) ∧ (p + 30 ≤ r ∨ r + 38 ≤ p)) (hl : lt ≤ 400) (hK : ∀ i, i ≤ lt → K i < 48) (hK2 : K lt = 45 ∨ K lt = 46) {sz : Nat} {τ : TY} {M : ME} {s : PS} {β : RH} (hL : LQ sg τ M j r p tp ln lt K S V ((true, s)) (β)) (h0 : K s.1 < 45) : CT l D cA n0 (XW0 sg adK adV sgA smA wdA n0 bS LS xs) mX5_readLog 6 0 0 sz τ M [.ref j] (fun v' sz' τ' M' => v' = none ∧ sz' = sz ∧ τ' = τ ∧ LQ sg τ M' j r p tp ln lt K S V (lnlo K s) (β) ∧ Fr3 j r p M M') := by
  refine CT.of (ls := [.ref j, UU, UU]) (by decide) (Nat.le_of_ble_eq_true rfl) rfl ?_
  obtain ⟨hT, hQ, a, b, c, ρ, ν, hn, wn, sn, σ, π, κ, hR, hP, hs, hLC⟩ := hL
  obtain ⟨hz, hs0⟩ := hQ.z
  obtain ⟨la, lb, lc⟩ := hR.ok
  have hF : Fr3 j r p M M := Fr3.rf _ _ _ _
  refine T_aload0 dX5_readLog_0 rfl ?_
  refine T_cV0 (rq_skip hX hT hl hK hK2 hQ (by omega)) hX k5_104 (Or.inl ⟨_, _, _, _, hQ.tj, by decide, rfl⟩) (by decide) (Nat.le_of_ble_eq_true rfl) dX5_readLog_1 rfl ?_
  rintro _ _ _ M9 ⟨rfl, rfl, rfl, hQ, hF9⟩
  have hT := hT.nx hF9 (by omega)
  have hR := hR.nx hF9 (by omega)
  have hP := hP.nx hF9 (by omega)
  have hF := hF.fr hF9 (by omega)
  refine T_aload0 dX5_readLog_4 rfl ?_
  refine T_joinI 24 (fun y => y = (if fdF (ν 3) (V (s.1 + 1)) c = -1 then 0 else 1)) (fun hJ => ?_) (fun x24 hx24 => ?_)
  ·
    refine T_aload0 dX5_readLog_5 rfl ?_
    refine g5_18 _ rfl hQ.tj hQ.gr dX5_readLog_6 rfl ?_
    refine T_aload0 dX5_readLog_9 rfl ?_
    refine T_cV0 (rq_value hX hT hl hK hK2 hQ) hX k5_107 (Or.inl ⟨_, _, _, _, hQ.tj, by decide, rfl⟩) (by decide) (Nat.le_of_ble_eq_true rfl) dX5_readLog_10 rfl ?_
    rintro _ _ _ _ ⟨rfl, rfl, rfl, rfl, -⟩
    refine T_cV1 (c_X6_findLog hX hR _) hX k5_171 (Or.inl ⟨_, _, _, _, hR.t, by decide, rfl⟩) (by decide) (Nat.le_of_ble_eq_true rfl) dX5_readLog_13 rfl ?_
    rintro _ _ _ _ ⟨rfl, rfl, rfl, rfl⟩
    refine T_if_lt 23 19 dX5_readLog_16 (by decide) rfl (fun c16 => ?_) (fun c16 => ?_)
    ·
      refine T_iconst (0) dX5_readLog_23 rfl rfl ?_
      refine hJ _ ?_
      first | exact (if_pos (fdF_lt (by omega) c16)).symm | exact (if_neg (fdF_nlt c16)).symm
    ·
      refine T_iconst (1) dX5_readLog_19 rfl rfl ?_
      refine T_goto 24 dX5_readLog_20 (by decide) ?_
      refine hJ _ ?_
      first | exact (if_pos (fdF_lt (by omega) c16)).symm | exact (if_neg (fdF_nlt c16)).symm
  ·
    subst hx24
    refine T_joinI 41 (fun y => y = (if 20 ≤ c then 1 else 0)) (fun hJ => ?_) (fun x41 hx41 => ?_)
    ·
      refine T_aload0 dX5_readLog_24 rfl ?_
      refine g5_18 _ rfl hQ.tj hQ.gr dX5_readLog_25 rfl ?_
      refine g5_174 _ rfl hR.t hR.r5 dX5_readLog_28 rfl ?_
      refine T_bipush (20) dX5_readLog_31 rfl rfl ?_
      refine T_icmp_lt 40 36 dX5_readLog_33 (by decide) rfl (fun c33 => ?_) (fun c33 => ?_)
      ·
        refine T_iconst (0) dX5_readLog_40 rfl rfl ?_
        refine hJ _ ?_
        first | exact (if_neg (Nat.not_le.mpr (Nat.lt_of_not_le (fun q => Int32.not_le.mpr c33 ((nI_leI (a := 20) (b := c) (by omega) (by omega)).mpr q))))).symm | exact (if_pos (Nat.le_of_not_lt (fun q => c33 (nI_lt (b := 20) q (by omega))))).symm
      ·
        refine T_iconst (1) dX5_readLog_36 rfl rfl ?_
        refine T_goto 41 dX5_readLog_37 (by decide) ?_
        refine hJ _ ?_
        first | exact (if_neg (Nat.not_le.mpr (Nat.lt_of_not_le (fun q => Int32.not_le.mpr c33 ((nI_leI (a := 20) (b := c) (by omega) (by omega)).mpr q))))).symm | exact (if_pos (Nat.le_of_not_lt (fun q => c33 (nI_lt (b := 20) q (by omega))))).symm
    ·
      subst hx41
      refine T_cV2 (rq_chk hX hT hl hK hK2 hQ b01_i b01_j) hX k5_118 (Or.inl ⟨_, _, _, _, hQ.tj, by decide, rfl⟩) (by decide) (Nat.le_of_ble_eq_true rfl) dX5_readLog_41 rfl ?_
      rintro _ _ _ M9 ⟨rfl, rfl, rfl, hQ, hF9⟩
      have hT := hT.nx hF9 (by omega)
      have hR := hR.nx hF9 (by omega)
      have hP := hP.nx hF9 (by omega)
      have hF := hF.fr hF9 (by omega)
      refine T_aload0 dX5_readLog_44 rfl ?_
      refine T_cV0 (rq_name hX hT hl hK hK2 (x := 3) hQ (fun _ hf => ((hLC rfl).2 (by rw [← flF_0 (hz _ (Nat.le_refl _))]; exact hf)).ck3 hz lc)) hX k5_122 (Or.inl ⟨_, _, _, _, hQ.tj, by decide, rfl⟩) (by decide) (Nat.le_of_ble_eq_true rfl) dX5_readLog_45 rfl ?_
      rintro _ _ _ M9 ⟨rfl, rfl, rfl, hQ, hF9⟩
      have hT := hT.nx hF9 (by omega)
      have hR := hR.nx hF9 (by omega)
      have hP := hP.nx hF9 (by omega)
      have hF := hF.fr hF9 (by omega)
      refine T_lstore1 rfl (by decide) dX5_readLog_48 rfl ?_
      refine T_aload0 dX5_readLog_49 rfl ?_
      refine T_sgn (i := 10) (by decide) ks5_177 dX5_readLog_50 rfl ?_
      refine T_cV1 (rq_take hX hT hl hK hK2 hQ (k := 10) (by decide) (by decide) (by decide)) hX k5_92 (Or.inl ⟨_, _, _, _, hQ.tj, by decide, rfl⟩) (by decide) (Nat.le_of_ble_eq_true rfl) dX5_readLog_53 rfl ?_
      rintro _ _ _ M9 ⟨rfl, rfl, rfl, hQ, hF9⟩
      have hT := hT.nx hF9 (by omega)
      have hR := hR.nx hF9 (by omega)
      have hP := hP.nx hF9 (by omega)
      have hF := hF.fr hF9 (by omega)
      refine T_aload0 dX5_readLog_56 rfl ?_
      refine g5_18 _ rfl hQ.tj hQ.gr dX5_readLog_57 rfl ?_
      refine T_lload1 dX5_readLog_60 rfl ?_
      refine T_aload0 dX5_readLog_61 rfl ?_
      refine T_iconst (1) dX5_readLog_62 rfl rfl ?_
      refine T_bipush (60) dX5_readLog_63 rfl rfl ?_
      refine T_cV2 (rq_num hX hT hl hK hK2 hQ _ _ (z := 13) erF_r13) hX k5_128 (Or.inl ⟨_, _, _, _, hQ.tj, by decide, rfl⟩) (by decide) (Nat.le_of_ble_eq_true rfl) dX5_readLog_65 rfl ?_
      rintro _ _ _ M9 ⟨rfl, rfl, rfl, hQ, hF9⟩
      have hT := hT.nx hF9 (by omega)
      have hR := hR.nx hF9 (by omega)
      have hP := hP.nx hF9 (by omega)
      have hF := hF.fr hF9 (by omega)
      refine T_cV2 (c_X6_addLog hX hR.rf _ _) hX k5_180 (Or.inl ⟨_, _, _, _, hR.t, by decide, rfl⟩) (by decide) (Nat.le_of_ble_eq_true rfl) dX5_readLog_68 rfl ?_
      rintro _ _ _ M9 ⟨rfl, rfl, rfl, hR1, hR2⟩
      refine T_vret rfl dX5_readLog_71 ?_
      by_cases h8 : c < 20
      · have hR9 := hR1 h8
        refine ⟨rfl, rfl, rfl, ⟨(hT.nx hR9.frame (by omega)).rf, hQ.re hR9.frame (by omega), _, _, _, _, _, _, _, _, _, _, _, hR9.rf, hP.nx hR9.frame (by omega), hs, fun z => ?_⟩, hF.fr hR9.frame (by omega)⟩
        have hle := hQ.le z
        obtain ⟨k1, k2, k3⟩ := lnlo_ok (V := V) (S := S) z
        have hn0 := (hLC rfl).1
        refine ⟨by show (lnlo K s).2.2.1 ≤ (lnlo K s).2.1; rw [k2]; exact Nat.le_trans hn0 k3, fun hf => ?_⟩
        have hc := ((hLC rfl).2 (k1 hf)).lo (K := K) (S := S) (lt := lt) hz lc z (Nat.le_trans hle hl) hf
        exact hc.2
      · have hR9 := hR2 h8
        refine ⟨rfl, rfl, rfl, ⟨(hT.nx hR9.frame (by omega)).rf, hQ.re hR9.frame (by omega), _, _, _, _, _, _, _, _, _, _, _, hR9.rf, hP.nx hR9.frame (by omega), hs, fun z => ?_⟩, hF.fr hR9.frame (by omega)⟩
        have hle := hQ.le z
        obtain ⟨k1, k2, k3⟩ := lnlo_ok (V := V) (S := S) z
        have hn0 := (hLC rfl).1
        refine ⟨by show (lnlo K s).2.2.1 ≤ (lnlo K s).2.1; rw [k2]; exact Nat.le_trans hn0 k3, fun hf => ?_⟩
        have hc := ((hLC rfl).2 (k1 hf)).lo (K := K) (S := S) (lt := lt) hz lc z (Nat.le_trans hle hl) hf
        exact absurd hc.1 h8

