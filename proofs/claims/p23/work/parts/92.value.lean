/-! sums and tests are read by the rules -/
set_option maxHeartbeats 1000000 in
theorem c_X5_readPair {l : Launch} {D : va_G} {cA : Nat → ClassId} {n0 : Nat} {sg adK adV : Nat → Nat} {sgA smA wdA bS LS : Nat} {xs : Nat → Int32} (hX : SF n0 (XW0 sg adK adV sgA smA wdA n0 bS LS xs)) {j r p tp ln lt : Nat} {K : Nat → Nat} {S : Nat → Int32} {V : Nat → Int64} {C : CCT} (hd : (j + 5 ≤ r ∨ r + 38 ≤ j) ∧ (j + 5 ≤ p ∨ p + 30 ≤ j) ∧ (p + 30 ≤ r ∨ r + 38 ≤ p)) (hl : lt ≤ 400) (hK : ∀ i, i ≤ lt → K i < 48) (hK2 : K lt = 45 ∨ K lt = 46) (hC : ∀ a b c ρ ν hn wn π i x, C a b c ρ ν hn wn π → C a b c ρ ν hn wn (u2 π 70 i x)) {dp : Nat} (hdp : dp ≤ 8) {sz : Nat} {τ : TY} {M : ME} (hS1 : dp < 8 → ∀ (sz : Nat) (τ : TY) (M : ME) (ez : Nat) (q : PQ), CQ sg τ M j r p tp ln lt K S V C (ez) (q) → CT l D cA n0 (XW0 sg adK adV sgA smA wdA n0 bS LS xs) mX5_readSum (10 * (9 - (dp + 1)) + 5) 0 0 sz τ M [.ref j, .int (nI (dp + 1))] (fun v' sz' τ' M' => (v' = none ∧ ∃ q', PR K (fun t => (V t).toInt32) 3 (dp + 1) (q) q' ∧ (q'.1 = true → (q).1 = true ∧ (q).2.1 ≤ q'.2.1) ∧ ((q).1 = false → q' = q) ∧ CQ sg τ M' j r p tp ln lt K S V C (ez) (q')) ∧ sz' = sz ∧ τ' = τ ∧ Fr3 j r p M M')) {ez : Nat} {s : PS} (ho : K s.1 = 26 ∨ K s.1 = 27) (hQ : CQ sg τ M j r p tp ln lt K S V C (ez + 1) ((true, adv s 1))) : CT l D cA n0 (XW0 sg adK adV sgA smA wdA n0 bS LS xs) mX5_readPair (10 * (9 - dp) + 2) 0 0 sz τ M [.ref j, .ref (sg (K s.1)), .int (nI dp)] (fun v' sz' τ' M' => (v' = none ∧ ∃ q', PR K (fun t => (V t).toInt32) 0 (dp) ((true, s)) q' ∧ (q'.1 = true → ((true, s)).1 = true ∧ ((true, s)).2.1 ≤ q'.2.1) ∧ (((true, s)).1 = false → q' = (true, s)) ∧ CQ sg τ M' j r p tp ln lt K S V C (ez) (q')) ∧ sz' = sz ∧ τ' = τ ∧ Fr3 j r p M M') := by
  refine CT.of (ls := [.ref j, .ref (sg (K s.1)), .int (nI dp)]) (by decide) (Nat.le_of_ble_eq_true rfl) rfl ?_
  have hF : Fr3 j r p M M := Fr3.rf _ _ _ _
  obtain ⟨hT, nx, bk, ba, fl, fa, a, b, c, ρ, ν, hn, wn, sn, σ, π, κ, hE, hR, hP, ⟨hs1, hs2, hs3, hn0⟩, hb2, hO⟩ := hQ
  refine T_sginj (fun hinj => ?_)
  obtain ⟨f1, f2, f3, f4, f5, f6⟩ := hO.1 rfl
  have f1 : nx = s.1 + 1 := f1
  subst f1 f2
  have hk := hK _ hn0
  have hk0 : K s.1 < 48 := by omega
  by_cases e28 : K (s.1 + 1) = 28
  ·
    have hlt := K_lt hK2 hn0 e28 (by decide) (by decide)
    by_cases hd8 : dp < 8
    ·
      refine T_aload0 dX5_readPair_0 rfl ?_
      refine T_cV0 (c_X5_sign hX hE hT hn0 hl hK) hX k5_51 (Or.inl ⟨_, _, _, _, (hE.t_j), by decide, rfl⟩) (by omega) (Nat.le_of_ble_eq_true rfl) dX5_readPair_1 rfl ?_
      rintro _ _ _ _ ⟨rfl, rfl, rfl, rfl⟩
      refine T_sgn (i := 28) (by decide) ks5_278 dX5_readPair_4 rfl ?_
      refine T_acmp_eq_t 17 dX5_readPair_7 (by decide) (by rw [e28]) ?_
      refine T_aload0 dX5_readPair_17 rfl ?_
      refine T_iload2 dX5_readPair_18 rfl ?_
      refine T_cV1 (c_X5_goesDeeper hX hE hT hn0 hl hK hdp) hX k5_241 (Or.inl ⟨_, _, _, _, (hE.t_j), by decide, rfl⟩) (by omega) (Nat.le_of_ble_eq_true rfl) dX5_readPair_19 rfl ?_
      rintro _ _ _ M9 ⟨rfl, rfl, rfl, hE9⟩
      rw [if_pos hd8] at ⊢
      rw [if_pos hd8, if_pos hd8, if_pos hd8, skN_lt hlt] at hE9
      have hT := (hT.nx hE9.frame (by omega)).rf
      have hR := hR.nx hE9.frame (by omega)
      have hP := hP.nx hE9.frame (by omega)
      have hF := hF.fr hE9.frame (by omega)
      have hE := hE9.rf
      have hn0 := Nat.succ_le_of_lt hlt
      refine T_if_eq_f 62 25 dX5_readPair_22 (by decide) rfl (by decide) ?_
      refine T_aload0 dX5_readPair_25 rfl ?_
      refine T_iload2 dX5_readPair_26 rfl ?_
      refine T_iconst (1) dX5_readPair_27 rfl rfl ?_
      refine T_iadd dX5_readPair_28 rfl ?_
      rw [nI_1]
      refine T_cV1 (hS1 hd8 _ _ _ (ez + 2) ((true, adv (adv s 1) 1)) ⟨hT, _, _, _, _, _, _, _, _, _, _, _, _, _, _, _, _, hE, hR, hP, ⟨hs1, hs2, hs3, hn0⟩, Or.inl rfl, hO.sk⟩) hX k5_196 (Or.inl ⟨_, _, _, _, (hE.t_j), by decide, rfl⟩) (by omega) (Nat.le_of_ble_eq_true rfl) dX5_readPair_29 rfl ?_
      rintro _ _ _ M8 ⟨⟨rfl, q1, hp1, hm1, hg1, hQ⟩, rfl, rfl, hF9⟩
      have hF := hF.tr hF9
      have hQ0 := hQ
      obtain ⟨hT, nx, bk, ba, fl, fa, a, b, c, ρ, ν, hn, wn, sn, σ, π, κ, hE, hR, hP, ⟨hs1, hs2, hs3, hn0⟩, hb2, hO⟩ := hQ
      refine T_aload0 dX5_readPair_32 rfl ?_
      refine T_sgn (i := 33) (by decide) ks5_281 dX5_readPair_33 rfl ?_
      refine T_cV1 (q_take hX hd hl hK hK2 hC (ez := ez + 2) hQ0 (k := 33) (by decide) (by decide) (by decide)) hX k5_92 (Or.inl ⟨_, _, _, _, (hE.t_j), by decide, rfl⟩) (by omega) (Nat.le_of_ble_eq_true rfl) dX5_readPair_36 rfl ?_
      rintro _ _ _ M7 ⟨⟨rfl, hQ⟩, rfl, rfl, hF9⟩
      have hF := hF.tr hF9
      have hQ0 := hQ
      obtain ⟨hT, nx, bk, ba, fl, fa, a, b, c, ρ, ν, hn, wn, sn, σ, π, κ, hE, hR, hP, ⟨hs1, hs2, hs3, hn0⟩, hb2, hO⟩ := hQ
      refine T_aload0 dX5_readPair_39 rfl ?_
      refine T_iload2 dX5_readPair_40 rfl ?_
      refine T_iconst (1) dX5_readPair_41 rfl rfl ?_
      refine T_iadd dX5_readPair_42 rfl ?_
      rw [nI_1]
      refine T_cV1 (hS1 hd8 _ _ _ (ez + 2) (tkQ K 33 q1) hQ0) hX k5_196 (Or.inl ⟨_, _, _, _, (hE.t_j), by decide, rfl⟩) (by omega) (Nat.le_of_ble_eq_true rfl) dX5_readPair_43 rfl ?_
      rintro _ _ _ M8 ⟨⟨rfl, q2, hp2, hm2, hg2, hQ⟩, rfl, rfl, hF9⟩
      have hF := hF.tr hF9
      have hQ0 := hQ
      obtain ⟨hT, nx, bk, ba, fl, fa, a, b, c, ρ, ν, hn, wn, sn, σ, π, κ, hE, hR, hP, ⟨hs1, hs2, hs3, hn0⟩, hb2, hO⟩ := hQ
      refine T_aload0 dX5_readPair_46 rfl ?_
      refine T_sgn (i := 29) (by decide) ks5_272 dX5_readPair_47 rfl ?_
      refine T_cV1 (q_take hX hd hl hK hK2 hC (ez := ez + 2) hQ0 (k := 29) (by decide) (by decide) (by decide)) hX k5_92 (Or.inl ⟨_, _, _, _, (hE.t_j), by decide, rfl⟩) (by omega) (Nat.le_of_ble_eq_true rfl) dX5_readPair_50 rfl ?_
      rintro _ _ _ M7 ⟨⟨rfl, hQ⟩, rfl, rfl, hF9⟩
      have hF := hF.tr hF9
      have hQ0 := hQ
      obtain ⟨hT, nx, bk, ba, fl, fa, a, b, c, ρ, ν, hn, wn, sn, σ, π, κ, hE, hR, hP, ⟨hs1, hs2, hs3, hn0⟩, hb2, hO⟩ := hQ
      refine T_aload0 dX5_readPair_53 rfl ?_
      refine g5_22 _ rfl (hE.t_j) (hE.g_p) dX5_readPair_54 rfl ?_
      refine T_aload1 dX5_readPair_57 rfl ?_
      refine T_iconst (0) dX5_readPair_58 rfl rfl ?_
      refine T_cV2 (q_step hX hd hl hK hK2 hC (ez := ez) (hQ0.ezm (by omega)) (o := K s.1) (o2 := K s.1) hk0 (fun _ => rfl) (fun _ => by omega)) hX k5_228 (Or.inl ⟨_, _, _, _, (hP.t_p), by decide, rfl⟩) (by omega) (Nat.le_of_ble_eq_true rfl) dX5_readPair_59 rfl ?_
      rintro _ _ _ M7 ⟨⟨rfl, hQ⟩, rfl, rfl, hF9⟩
      have hF := hF.tr hF9
      refine T_vret rfl dX5_readPair_62 ?_
      refine ⟨⟨rfl, _, PR.two ho e28 hd8 hp1 hp2, fun z => ⟨rfl, ?_⟩, (fun z => absurd z (by simp)), hQ⟩, rfl, rfl, hF⟩
      have z1 := tkQ_le (K := K) (k := 29) (q := q2) z
      have z2 := hm2 z1.1
      have z3 := tkQ_le (K := K) (k := 33) (q := q1) z2.1
      have z4 := (hm1 z3.1).2
      have z5 : s.1 + 1 + 1 ≤ q1.2.1 := z4
      show s.1 ≤ (tkQ K 29 q2).2.1
      omega
    ·
      refine T_aload0 dX5_readPair_0 rfl ?_
      refine T_cV0 (c_X5_sign hX hE hT hn0 hl hK) hX k5_51 (Or.inl ⟨_, _, _, _, (hE.t_j), by decide, rfl⟩) (by omega) (Nat.le_of_ble_eq_true rfl) dX5_readPair_1 rfl ?_
      rintro _ _ _ _ ⟨rfl, rfl, rfl, rfl⟩
      refine T_sgn (i := 28) (by decide) ks5_278 dX5_readPair_4 rfl ?_
      refine T_acmp_eq_t 17 dX5_readPair_7 (by decide) (by rw [e28]) ?_
      refine T_aload0 dX5_readPair_17 rfl ?_
      refine T_iload2 dX5_readPair_18 rfl ?_
      refine T_cV1 (c_X5_goesDeeper hX hE hT hn0 hl hK hdp) hX k5_241 (Or.inl ⟨_, _, _, _, (hE.t_j), by decide, rfl⟩) (by omega) (Nat.le_of_ble_eq_true rfl) dX5_readPair_19 rfl ?_
      rintro _ _ _ M9 ⟨rfl, rfl, rfl, hE9⟩
      rw [if_neg hd8] at ⊢
      rw [if_neg hd8, if_neg hd8, if_neg hd8] at hE9
      have hT := (hT.nx hE9.frame (by omega)).rf
      have hR := hR.nx hE9.frame (by omega)
      have hP := hP.nx hE9.frame (by omega)
      have hF := hF.fr hE9.frame (by omega)
      have hE := hE9.rf
      refine T_if_eq_t 62 dX5_readPair_22 (by decide) rfl ?_
      refine T_vret rfl dX5_readPair_62 ?_
      exact ⟨⟨rfl, _, PR.twg ho e28 hd8, (fun z => absurd z (by simp)), (fun z => absurd z (by simp)), ⟨hT, _, _, _, _, _, _, _, _, _, _, _, _, _, _, _, _, hE, hR, hP, ⟨hs1, hs2, hs3, Nat.le_refl _⟩, (Or.inr rfl), hO.failq⟩⟩, rfl, rfl, hF⟩
  ·
    refine T_aload0 dX5_readPair_0 rfl ?_
    refine T_cV0 (c_X5_sign hX hE hT hn0 hl hK) hX k5_51 (Or.inl ⟨_, _, _, _, (hE.t_j), by decide, rfl⟩) (by omega) (Nat.le_of_ble_eq_true rfl) dX5_readPair_1 rfl ?_
    rintro _ _ _ _ ⟨rfl, rfl, rfl, rfl⟩
    refine T_sgn (i := 28) (by decide) ks5_278 dX5_readPair_4 rfl ?_
    refine T_acmp_eq_f 17 10 dX5_readPair_7 (by decide) rfl (fun z => e28 (hinj _ _ hk (by decide) z)) ?_
    refine T_aload0 dX5_readPair_10 rfl ?_
    refine T_cV0 (c_X5_fail hX hE hT hn0 hl hK) hX k5_86 (Or.inl ⟨_, _, _, _, (hE.t_j), by decide, rfl⟩) (by omega) (Nat.le_of_ble_eq_true rfl) dX5_readPair_11 rfl ?_
    rintro _ _ _ M9 ⟨rfl, rfl, rfl, hE9⟩
    have hT := (hT.nx hE9.frame (by omega)).rf
    have hR := hR.nx hE9.frame (by omega)
    have hP := hP.nx hE9.frame (by omega)
    have hF := hF.fr hE9.frame (by omega)
    have hE := hE9.rf
    refine T_goto 62 dX5_readPair_14 (by decide) ?_
    refine T_vret rfl dX5_readPair_62 ?_
    exact ⟨⟨rfl, _, PR.twf ho e28, (fun z => absurd z (by simp)), (fun z => absurd z (by simp)), ⟨hT, _, _, _, _, _, _, _, _, _, _, _, _, _, _, _, _, hE, hR, hP, ⟨hs1, hs2, hs3, Nat.le_refl _⟩, (Or.inr rfl), hO.failq⟩⟩, rfl, rfl, hF⟩
set_option maxHeartbeats 1000000 in
theorem c_X5_readValue {l : Launch} {D : va_G} {cA : Nat → ClassId} {n0 : Nat} {sg adK adV : Nat → Nat} {sgA smA wdA bS LS : Nat} {xs : Nat → Int32} (hX : SF n0 (XW0 sg adK adV sgA smA wdA n0 bS LS xs)) {j r p tp ln lt : Nat} {K : Nat → Nat} {S : Nat → Int32} {V : Nat → Int64} {C : CCT} (hd : (j + 5 ≤ r ∨ r + 38 ≤ j) ∧ (j + 5 ≤ p ∨ p + 30 ≤ j) ∧ (p + 30 ≤ r ∨ r + 38 ≤ p)) (hl : lt ≤ 400) (hK : ∀ i, i ≤ lt → K i < 48) (hK2 : K lt = 45 ∨ K lt = 46) (hC : ∀ a b c ρ ν hn wn π i x, C a b c ρ ν hn wn π → C a b c ρ ν hn wn (u2 π 70 i x)) {dp : Nat} (hdp : dp ≤ 8) {sz : Nat} {τ : TY} {M : ME} (hV1 : dp < 8 → ∀ (sz : Nat) (τ : TY) (M : ME) (ez : Nat) (q : PQ), CQ sg τ M j r p tp ln lt K S V C (ez) (q) → CT l D cA n0 (XW0 sg adK adV sgA smA wdA n0 bS LS xs) mX5_readValue (10 * (9 - (dp + 1)) + 3) 0 0 sz τ M [.ref j, .int (nI (dp + 1))] (fun v' sz' τ' M' => (v' = none ∧ ∃ q', PR K (fun t => (V t).toInt32) 0 (dp + 1) (q) q' ∧ (q'.1 = true → (q).1 = true ∧ (q).2.1 ≤ q'.2.1) ∧ ((q).1 = false → q' = q) ∧ CQ sg τ M' j r p tp ln lt K S V C (ez) (q')) ∧ sz' = sz ∧ τ' = τ ∧ Fr3 j r p M M')) (hS1 : dp < 8 → ∀ (sz : Nat) (τ : TY) (M : ME) (ez : Nat) (q : PQ), CQ sg τ M j r p tp ln lt K S V C (ez) (q) → CT l D cA n0 (XW0 sg adK adV sgA smA wdA n0 bS LS xs) mX5_readSum (10 * (9 - (dp + 1)) + 5) 0 0 sz τ M [.ref j, .int (nI (dp + 1))] (fun v' sz' τ' M' => (v' = none ∧ ∃ q', PR K (fun t => (V t).toInt32) 3 (dp + 1) (q) q' ∧ (q'.1 = true → (q).1 = true ∧ (q).2.1 ≤ q'.2.1) ∧ ((q).1 = false → q' = q) ∧ CQ sg τ M' j r p tp ln lt K S V C (ez) (q')) ∧ sz' = sz ∧ τ' = τ ∧ Fr3 j r p M M')) (ez : Nat) (q : PQ) (hQ : CQ sg τ M j r p tp ln lt K S V C (ez) (q)) : CT l D cA n0 (XW0 sg adK adV sgA smA wdA n0 bS LS xs) mX5_readValue (10 * (9 - dp) + 3) 0 0 sz τ M [.ref j, .int (nI dp)] (fun v' sz' τ' M' => (v' = none ∧ ∃ q', PR K (fun t => (V t).toInt32) 0 (dp) (q) q' ∧ (q'.1 = true → (q).1 = true ∧ (q).2.1 ≤ q'.2.1) ∧ ((q).1 = false → q' = q) ∧ CQ sg τ M' j r p tp ln lt K S V C (ez) (q')) ∧ sz' = sz ∧ τ' = τ ∧ Fr3 j r p M M') := by
  refine CT.of (ls := [.ref j, .int (nI dp), UU]) (by decide) (Nat.le_of_ble_eq_true rfl) rfl ?_
  have hF : Fr3 j r p M M := Fr3.rf _ _ _ _
  obtain ⟨hT, nx, bk, ba, fl, fa, a, b, c, ρ, ν, hn, wn, sn, σ, π, κ, hE, hR, hP, ⟨hs1, hs2, hs3, hn0⟩, hb2, hO⟩ := hQ
  have hk := hK nx hn0
  obtain ⟨g, s⟩ := q
  cases g with
  | false =>
    have f1 := (hO.2 rfl).1
    have hv : ¬ vlK (K nx) := by rw [f1]; unfold vlK; omega
    refine T_aload0 dX5_readValue_0 rfl ?_
    refine T_cV0 (c_X5_sign hX hE hT hn0 hl hK) hX k5_51 (Or.inl ⟨_, _, _, _, (hE.t_j), by decide, rfl⟩) (by omega) (Nat.le_of_ble_eq_true rfl) dX5_readValue_1 rfl ?_
    rintro _ _ _ _ ⟨rfl, rfl, rfl, rfl⟩
    refine T_astore2 rfl (by decide) dX5_readValue_4 rfl ?_
    refine T_smap ks5_61 dX5_readValue_5 rfl ?_
    refine T_aload2 dX5_readValue_8 rfl ?_
    refine T_ord (by omega) kord5_67 (by omega) (Nat.le_of_ble_eq_true rfl) dX5_readValue_9 rfl ?_
    refine T_smld (by omega) dX5_readValue_12 rfl ?_
    refine T_tout 225 dX5_readValue_13 (sm_val _ hk hv) (by decide) ?_
    refine T_aload0 dX5_readValue_225 rfl ?_
    refine T_cV0 (c_X5_fail hX hE hT hn0 hl hK) hX k5_86 (Or.inl ⟨_, _, _, _, (hE.t_j), by decide, rfl⟩) (by omega) (Nat.le_of_ble_eq_true rfl) dX5_readValue_226 rfl ?_
    rintro _ _ _ M9 ⟨rfl, rfl, rfl, hE9⟩
    have hT := (hT.nx hE9.frame (by omega)).rf
    have hR := hR.nx hE9.frame (by omega)
    have hP := hP.nx hE9.frame (by omega)
    have hF := hF.fr hE9.frame (by omega)
    have hE := hE9.rf
    refine T_vret rfl dX5_readValue_229 ?_
    exact ⟨⟨rfl, _, PR.br, (fun z => absurd z (by simp)), (fun _ => rfl), ⟨hT, _, _, _, _, _, _, _, _, _, _, _, _, _, _, _, _, hE, hR, hP, ⟨hs1, hs2, hs3, Nat.le_refl _⟩, (bk_b hb2), hO.failq⟩⟩, rfl, rfl, hF⟩
  | true =>
    obtain ⟨f1, f2, f3, f4, f5, f6⟩ := hO.1 rfl
    have f1 : nx = s.1 := f1
    subst f1 f2
    refine T_aload0 dX5_readValue_0 rfl ?_
    refine T_cV0 (c_X5_sign hX hE hT hn0 hl hK) hX k5_51 (Or.inl ⟨_, _, _, _, (hE.t_j), by decide, rfl⟩) (by omega) (Nat.le_of_ble_eq_true rfl) dX5_readValue_1 rfl ?_
    rintro _ _ _ _ ⟨rfl, rfl, rfl, rfl⟩
    refine T_astore2 rfl (by decide) dX5_readValue_4 rfl ?_
    refine T_smap ks5_61 dX5_readValue_5 rfl ?_
    refine T_aload2 dX5_readValue_8 rfl ?_
    refine T_ord (by omega) kord5_67 (by omega) (Nat.le_of_ble_eq_true rfl) dX5_readValue_9 rfl ?_
    refine T_smld (by omega) dX5_readValue_12 rfl ?_
    by_cases hv : vlK (K s.1)
    ·
      rcases hv with hq | hq | hq | hq | hq | hq | hq
      ·
        have hsw := (show ∀ i, i < 48 → (i = 44) → ¬ (smV.getD i 0).toInt < 6 ∧ ¬ 19 < (smV.getD i 0).toInt ∧ (#[71, 91, 91, 91, 91, 107, 107, 107, 126, 126, 145, 174, 199, 199] : Array Int)[((smV.getD i 0).toInt - 6).toNat]? = some 71 from by decide +kernel) _ hk hq
        have hlt := K_lt hK2 hn0 rfl (fun z => by omega) (fun z => by omega)
        refine T_tin (off := 71) 84 dX5_readValue_13 hsw.1 hsw.2.1 hsw.2.2 (by decide) ?_
        refine T_aload0 dX5_readValue_84 rfl ?_
        refine g5_22 _ rfl (hE.t_j) (hE.g_p) dX5_readValue_85 rfl ?_
        refine T_aload2 dX5_readValue_88 rfl ?_
        refine T_aload0 dX5_readValue_89 rfl ?_
        refine T_cV0 (c_X5_value hX hE hT hn0 hl hK) hX k5_107 (Or.inl ⟨_, _, _, _, (hE.t_j), by decide, rfl⟩) (by omega) (Nat.le_of_ble_eq_true rfl) dX5_readValue_90 rfl ?_
        rintro _ _ _ _ ⟨rfl, rfl, rfl, rfl⟩
        refine T_l2i dX5_readValue_93 rfl ?_
        refine T_cV2 (q_add hX hP hs3 hk _) hX k5_228 (Or.inl ⟨_, _, _, _, (hP.t_p), by decide, rfl⟩) (by omega) (Nat.le_of_ble_eq_true rfl) dX5_readValue_94 rfl ?_
        rintro _ _ _ M9 ⟨rfl, rfl, rfl, sn9, σ9, π9, ⟨hs9, hs8⟩, hP9⟩
        have hT := (hT.nx hP9.frame (by omega)).rf
        have hR := hR.nx hP9.frame (by omega)
        have hE := hE.nx hP9.frame (by omega)
        have hF := hF.fr hP9.frame (by omega)
        have hP := hP9.rf
        refine T_aload0 dX5_readValue_97 rfl ?_
        refine T_cV0 (c_X5_skip hX hE hT hn0 hl hK) hX k5_104 (Or.inl ⟨_, _, _, _, (hE.t_j), by decide, rfl⟩) (by omega) (Nat.le_of_ble_eq_true rfl) dX5_readValue_98 rfl ?_
        rintro _ _ _ M9 ⟨rfl, rfl, rfl, hE9⟩
        rw [skN_lt hlt] at hE9
        have hT := (hT.nx hE9.frame (by omega)).rf
        have hR := hR.nx hE9.frame (by omega)
        have hP := hP.nx hE9.frame (by omega)
        have hF := hF.fr hE9.frame (by omega)
        have hE := hE9.rf
        have hn0 := Nat.succ_le_of_lt hlt
        refine T_goto 229 dX5_readValue_101 (by decide) ?_
        refine T_vret rfl dX5_readValue_229 ?_
        rw [hq] at hs8
        exact ⟨⟨rfl, _, PR.num hq, fun _ => ⟨rfl, Nat.le_succ _⟩, (fun z => absurd z (by simp)), ⟨hT, _, _, _, _, _, _, _, _, _, _, _, _, _, _, _, _, hE, hR, hP, ⟨hs1, hs2, hs9, hn0⟩, Or.inl rfl, CO.ad2 hC hO.sk (by omega) hs8 (fun _ => ⟨fun z => by omega, by unfold rsF; rw [if_neg (by decide), if_neg (by decide)]⟩)⟩⟩, rfl, rfl, hF⟩
      ·
        have hsw := (show ∀ i, i < 48 → (16 ≤ i ∧ i ≤ 19) → ¬ (smV.getD i 0).toInt < 6 ∧ ¬ 19 < (smV.getD i 0).toInt ∧ (#[71, 91, 91, 91, 91, 107, 107, 107, 126, 126, 145, 174, 199, 199] : Array Int)[((smV.getD i 0).toInt - 6).toNat]? = some 91 from by decide +kernel) _ hk hq
        have hlt := K_lt hK2 hn0 rfl (fun z => by omega) (fun z => by omega)
        refine T_tin (off := 91) 104 dX5_readValue_13 hsw.1 hsw.2.1 hsw.2.2 (by decide) ?_
        refine T_aload0 dX5_readValue_104 rfl ?_
        refine g5_22 _ rfl (hE.t_j) (hE.g_p) dX5_readValue_105 rfl ?_
        refine T_aload2 dX5_readValue_108 rfl ?_
        refine T_iconst (0) dX5_readValue_109 rfl rfl ?_
        refine T_cV2 (q_add hX hP hs3 hk _) hX k5_228 (Or.inl ⟨_, _, _, _, (hP.t_p), by decide, rfl⟩) (by omega) (Nat.le_of_ble_eq_true rfl) dX5_readValue_110 rfl ?_
        rintro _ _ _ M9 ⟨rfl, rfl, rfl, sn9, σ9, π9, ⟨hs9, hs8⟩, hP9⟩
        have hT := (hT.nx hP9.frame (by omega)).rf
        have hR := hR.nx hP9.frame (by omega)
        have hE := hE.nx hP9.frame (by omega)
        have hF := hF.fr hP9.frame (by omega)
        have hP := hP9.rf
        refine T_aload0 dX5_readValue_113 rfl ?_
        refine T_cV0 (c_X5_skip hX hE hT hn0 hl hK) hX k5_104 (Or.inl ⟨_, _, _, _, (hE.t_j), by decide, rfl⟩) (by omega) (Nat.le_of_ble_eq_true rfl) dX5_readValue_114 rfl ?_
        rintro _ _ _ M9 ⟨rfl, rfl, rfl, hE9⟩
        rw [skN_lt hlt] at hE9
        have hT := (hT.nx hE9.frame (by omega)).rf
        have hR := hR.nx hE9.frame (by omega)
        have hP := hP.nx hE9.frame (by omega)
        have hF := hF.fr hE9.frame (by omega)
        have hE := hE9.rf
        have hn0 := Nat.succ_le_of_lt hlt
        refine T_goto 229 dX5_readValue_117 (by decide) ?_
        refine T_vret rfl dX5_readValue_229 ?_
        exact ⟨⟨rfl, _, PR.wrd hq, fun _ => ⟨rfl, Nat.le_succ _⟩, (fun z => absurd z (by simp)), ⟨hT, _, _, _, _, _, _, _, _, _, _, _, _, _, _, _, _, hE, hR, hP, ⟨hs1, hs2, hs9, hn0⟩, Or.inl rfl, CO.ad2 hC hO.sk (by omega) hs8 (fun _ => ⟨fun z => by omega, by unfold rsF; rw [if_neg (by omega), if_neg (by omega)]⟩)⟩⟩, rfl, rfl, hF⟩
      ·
        have hsw := (show ∀ i, i < 48 → (i = 20 ∨ i = 21 ∨ i = 6) → ¬ (smV.getD i 0).toInt < 6 ∧ ¬ 19 < (smV.getD i 0).toInt ∧ (#[71, 91, 91, 91, 91, 107, 107, 107, 126, 126, 145, 174, 199, 199] : Array Int)[((smV.getD i 0).toInt - 6).toNat]? = some 107 from by decide +kernel) _ hk hq
        have hlt := K_lt hK2 hn0 rfl (fun z => by omega) (fun z => by omega)
        refine T_tin (off := 107) 120 dX5_readValue_13 hsw.1 hsw.2.1 hsw.2.2 (by decide) ?_
        by_cases e43 : K (s.1 + 1) = 43
        ·
          refine T_aload0 dX5_readValue_120 rfl ?_
          refine T_cV0 (c_X5_skip hX hE hT hn0 hl hK) hX k5_104 (Or.inl ⟨_, _, _, _, (hE.t_j), by decide, rfl⟩) (by omega) (Nat.le_of_ble_eq_true rfl) dX5_readValue_121 rfl ?_
          rintro _ _ _ M9 ⟨rfl, rfl, rfl, hE9⟩
          rw [skN_lt hlt] at hE9
          have hT := (hT.nx hE9.frame (by omega)).rf
          have hR := hR.nx hE9.frame (by omega)
          have hP := hP.nx hE9.frame (by omega)
          have hF := hF.fr hE9.frame (by omega)
          have hE := hE9.rf
          have hn0 := Nat.succ_le_of_lt hlt
          refine T_aload0 dX5_readValue_124 rfl ?_
          refine g5_22 _ rfl (hE.t_j) (hE.g_p) dX5_readValue_125 rfl ?_
          refine T_aload2 dX5_readValue_128 rfl ?_
          refine T_aload0 dX5_readValue_129 rfl ?_
          refine T_cV0 (c_X5_takeHorse hX hE hT hn0 hl hK hR (by omega)) hX k5_187 (Or.inl ⟨_, _, _, _, (hE.t_j), by decide, rfl⟩) (by omega) (Nat.le_of_ble_eq_true rfl) dX5_readValue_130 rfl ?_
          rintro _ _ _ M9 ⟨rfl, rfl, rfl, hE9⟩
          unfold tkN' tkB tkA at hE9
          have hlt2 := K_lt hK2 hn0 e43 (by decide) (by decide)
          rw [if_pos e43, if_pos e43, if_pos e43, skN_lt hlt2] at hE9
          have hT := (hT.nx hE9.frame (by omega)).rf
          have hR := hR.nx hE9.frame (by omega)
          have hP := hP.nx hE9.frame (by omega)
          have hF := hF.fr hE9.frame (by omega)
          have hE := hE9.rf
          refine T_cV2 (q_add hX hP hs3 hk _) hX k5_228 (Or.inl ⟨_, _, _, _, (hP.t_p), by decide, rfl⟩) (by omega) (Nat.le_of_ble_eq_true rfl) dX5_readValue_133 rfl ?_
          rintro _ _ _ M9 ⟨rfl, rfl, rfl, sn9, σ9, π9, ⟨hs9, hs8⟩, hP9⟩
          have hT := (hT.nx hP9.frame (by omega)).rf
          have hR := hR.nx hP9.frame (by omega)
          have hE := hE.nx hP9.frame (by omega)
          have hF := hF.fr hP9.frame (by omega)
          have hP := hP9.rf
          refine T_goto 229 dX5_readValue_136 (by decide) ?_
          refine T_vret rfl dX5_readValue_229 ?_
          exact ⟨⟨rfl, _, PR.hrs hq e43, fun _ => ⟨rfl, Nat.le_add_right _ 2⟩, (fun z => absurd z (by simp)), ⟨hT, _, _, _, _, _, _, _, _, _, _, _, _, _, _, _, _, hE, hR, hP, ⟨hs1, hs2, hs9, hlt2⟩, Or.inl rfl, CO.hrs hq hC hO (by omega) hs8⟩⟩, rfl, rfl, hF⟩
        ·
          refine T_aload0 dX5_readValue_120 rfl ?_
          refine T_cV0 (c_X5_skip hX hE hT hn0 hl hK) hX k5_104 (Or.inl ⟨_, _, _, _, (hE.t_j), by decide, rfl⟩) (by omega) (Nat.le_of_ble_eq_true rfl) dX5_readValue_121 rfl ?_
          rintro _ _ _ M9 ⟨rfl, rfl, rfl, hE9⟩
          rw [skN_lt hlt] at hE9
          have hT := (hT.nx hE9.frame (by omega)).rf
          have hR := hR.nx hE9.frame (by omega)
          have hP := hP.nx hE9.frame (by omega)
          have hF := hF.fr hE9.frame (by omega)
          have hE := hE9.rf
          have hn0 := Nat.succ_le_of_lt hlt
          refine T_aload0 dX5_readValue_124 rfl ?_
          refine g5_22 _ rfl (hE.t_j) (hE.g_p) dX5_readValue_125 rfl ?_
          refine T_aload2 dX5_readValue_128 rfl ?_
          refine T_aload0 dX5_readValue_129 rfl ?_
          refine T_cV0 (c_X5_takeHorse hX hE hT hn0 hl hK hR (by omega)) hX k5_187 (Or.inl ⟨_, _, _, _, (hE.t_j), by decide, rfl⟩) (by omega) (Nat.le_of_ble_eq_true rfl) dX5_readValue_130 rfl ?_
          rintro _ _ _ M9 ⟨rfl, rfl, rfl, hE9⟩
          unfold tkN' tkB tkA at hE9
          rw [if_neg e43, if_neg e43, if_neg e43] at hE9
          have hT := (hT.nx hE9.frame (by omega)).rf
          have hR := hR.nx hE9.frame (by omega)
          have hP := hP.nx hE9.frame (by omega)
          have hF := hF.fr hE9.frame (by omega)
          have hE := hE9.rf
          refine T_cV2 (q_add hX hP hs3 hk _) hX k5_228 (Or.inl ⟨_, _, _, _, (hP.t_p), by decide, rfl⟩) (by omega) (Nat.le_of_ble_eq_true rfl) dX5_readValue_133 rfl ?_
          rintro _ _ _ M9 ⟨rfl, rfl, rfl, sn9, σ9, π9, ⟨hs9, hs8⟩, hP9⟩
          have hT := (hT.nx hP9.frame (by omega)).rf
          have hR := hR.nx hP9.frame (by omega)
          have hE := hE.nx hP9.frame (by omega)
          have hF := hF.fr hP9.frame (by omega)
          have hP := hP9.rf
          refine T_goto 229 dX5_readValue_136 (by decide) ?_
          refine T_vret rfl dX5_readValue_229 ?_
          exact ⟨⟨rfl, _, PR.hrf hq e43, (fun z => absurd z (by simp)), (fun z => absurd z (by simp)), ⟨hT, _, _, _, _, _, _, _, _, _, _, _, _, _, _, _, _, hE, hR, hP, ⟨hs1, hs2, hs9, Nat.le_refl _⟩, Or.inr rfl, hO.sk.fail⟩⟩, rfl, rfl, hF⟩
      ·
        have hsw := (show ∀ i, i < 48 → (i = 3 ∨ i = 22) → ¬ (smV.getD i 0).toInt < 6 ∧ ¬ 19 < (smV.getD i 0).toInt ∧ (#[71, 91, 91, 91, 91, 107, 107, 107, 126, 126, 145, 174, 199, 199] : Array Int)[((smV.getD i 0).toInt - 6).toNat]? = some 126 from by decide +kernel) _ hk hq
        have hlt := K_lt hK2 hn0 rfl (fun z => by omega) (fun z => by omega)
        refine T_tin (off := 126) 139 dX5_readValue_13 hsw.1 hsw.2.1 hsw.2.2 (by decide) ?_
        by_cases e43 : K (s.1 + 1) = 43
        ·
          refine T_aload0 dX5_readValue_139 rfl ?_
          refine T_cV0 (c_X5_skip hX hE hT hn0 hl hK) hX k5_104 (Or.inl ⟨_, _, _, _, (hE.t_j), by decide, rfl⟩) (by omega) (Nat.le_of_ble_eq_true rfl) dX5_readValue_140 rfl ?_
          rintro _ _ _ M9 ⟨rfl, rfl, rfl, hE9⟩
          rw [skN_lt hlt] at hE9
          have hT := (hT.nx hE9.frame (by omega)).rf
          have hR := hR.nx hE9.frame (by omega)
          have hP := hP.nx hE9.frame (by omega)
          have hF := hF.fr hE9.frame (by omega)
          have hE := hE9.rf
          have hn0 := Nat.succ_le_of_lt hlt
          refine T_aload0 dX5_readValue_143 rfl ?_
          refine g5_22 _ rfl (hE.t_j) (hE.g_p) dX5_readValue_144 rfl ?_
          refine T_aload2 dX5_readValue_147 rfl ?_
          refine T_aload0 dX5_readValue_148 rfl ?_
          refine T_cV0 (c_X5_takeStretch hX hE hT hn0 hl hK hR (by omega)) hX k5_216 (Or.inl ⟨_, _, _, _, (hE.t_j), by decide, rfl⟩) (by omega) (Nat.le_of_ble_eq_true rfl) dX5_readValue_149 rfl ?_
          rintro _ _ _ M9 ⟨rfl, rfl, rfl, hE9⟩
          unfold tkN' tkB tkA at hE9
          have hlt2 := K_lt hK2 hn0 e43 (by decide) (by decide)
          rw [if_pos e43, if_pos e43, if_pos e43, skN_lt hlt2] at hE9
          have hT := (hT.nx hE9.frame (by omega)).rf
          have hR := hR.nx hE9.frame (by omega)
          have hP := hP.nx hE9.frame (by omega)
          have hF := hF.fr hE9.frame (by omega)
          have hE := hE9.rf
          refine T_cV2 (q_add hX hP hs3 hk _) hX k5_228 (Or.inl ⟨_, _, _, _, (hP.t_p), by decide, rfl⟩) (by omega) (Nat.le_of_ble_eq_true rfl) dX5_readValue_152 rfl ?_
          rintro _ _ _ M9 ⟨rfl, rfl, rfl, sn9, σ9, π9, ⟨hs9, hs8⟩, hP9⟩
          have hT := (hT.nx hP9.frame (by omega)).rf
          have hR := hR.nx hP9.frame (by omega)
          have hE := hE.nx hP9.frame (by omega)
          have hF := hF.fr hP9.frame (by omega)
          have hP := hP9.rf
          refine T_goto 229 dX5_readValue_155 (by decide) ?_
          refine T_vret rfl dX5_readValue_229 ?_
          exact ⟨⟨rfl, _, PR.str hq e43, fun _ => ⟨rfl, Nat.le_add_right _ 2⟩, (fun z => absurd z (by simp)), ⟨hT, _, _, _, _, _, _, _, _, _, _, _, _, _, _, _, _, hE, hR, hP, ⟨hs1, hs2, hs9, hlt2⟩, Or.inl rfl, CO.str hq hC hO (by omega) hs8⟩⟩, rfl, rfl, hF⟩
        ·
          refine T_aload0 dX5_readValue_139 rfl ?_
          refine T_cV0 (c_X5_skip hX hE hT hn0 hl hK) hX k5_104 (Or.inl ⟨_, _, _, _, (hE.t_j), by decide, rfl⟩) (by omega) (Nat.le_of_ble_eq_true rfl) dX5_readValue_140 rfl ?_
          rintro _ _ _ M9 ⟨rfl, rfl, rfl, hE9⟩
          rw [skN_lt hlt] at hE9
          have hT := (hT.nx hE9.frame (by omega)).rf
          have hR := hR.nx hE9.frame (by omega)
          have hP := hP.nx hE9.frame (by omega)
          have hF := hF.fr hE9.frame (by omega)
          have hE := hE9.rf
          have hn0 := Nat.succ_le_of_lt hlt
          refine T_aload0 dX5_readValue_143 rfl ?_
          refine g5_22 _ rfl (hE.t_j) (hE.g_p) dX5_readValue_144 rfl ?_
          refine T_aload2 dX5_readValue_147 rfl ?_
          refine T_aload0 dX5_readValue_148 rfl ?_
          refine T_cV0 (c_X5_takeStretch hX hE hT hn0 hl hK hR (by omega)) hX k5_216 (Or.inl ⟨_, _, _, _, (hE.t_j), by decide, rfl⟩) (by omega) (Nat.le_of_ble_eq_true rfl) dX5_readValue_149 rfl ?_
          rintro _ _ _ M9 ⟨rfl, rfl, rfl, hE9⟩
          unfold tkN' tkB tkA at hE9
          rw [if_neg e43, if_neg e43, if_neg e43] at hE9
          have hT := (hT.nx hE9.frame (by omega)).rf
          have hR := hR.nx hE9.frame (by omega)
          have hP := hP.nx hE9.frame (by omega)
          have hF := hF.fr hE9.frame (by omega)
          have hE := hE9.rf
          refine T_cV2 (q_add hX hP hs3 hk _) hX k5_228 (Or.inl ⟨_, _, _, _, (hP.t_p), by decide, rfl⟩) (by omega) (Nat.le_of_ble_eq_true rfl) dX5_readValue_152 rfl ?_
          rintro _ _ _ M9 ⟨rfl, rfl, rfl, sn9, σ9, π9, ⟨hs9, hs8⟩, hP9⟩
          have hT := (hT.nx hP9.frame (by omega)).rf
          have hR := hR.nx hP9.frame (by omega)
          have hE := hE.nx hP9.frame (by omega)
          have hF := hF.fr hP9.frame (by omega)
          have hP := hP9.rf
          refine T_goto 229 dX5_readValue_155 (by decide) ?_
          refine T_vret rfl dX5_readValue_229 ?_
          exact ⟨⟨rfl, _, PR.stf hq e43, (fun z => absurd z (by simp)), (fun z => absurd z (by simp)), ⟨hT, _, _, _, _, _, _, _, _, _, _, _, _, _, _, _, _, hE, hR, hP, ⟨hs1, hs2, hs9, Nat.le_refl _⟩, Or.inr rfl, hO.sk.fail⟩⟩, rfl, rfl, hF⟩
      ·
        have hsw := (show ∀ i, i < 48 → (i = 35) → ¬ (smV.getD i 0).toInt < 6 ∧ ¬ 19 < (smV.getD i 0).toInt ∧ (#[71, 91, 91, 91, 91, 107, 107, 107, 126, 126, 145, 174, 199, 199] : Array Int)[((smV.getD i 0).toInt - 6).toNat]? = some 145 from by decide +kernel) _ hk hq
        have hlt := K_lt hK2 hn0 rfl (fun z => by omega) (fun z => by omega)
        refine T_tin (off := 145) 158 dX5_readValue_13 hsw.1 hsw.2.1 hsw.2.2 (by decide) ?_
        by_cases hd8 : dp < 8
        ·
          refine T_aload0 dX5_readValue_158 rfl ?_
          refine T_iload1 dX5_readValue_159 rfl ?_
          refine T_cV1 (c_X5_goesDeeper hX hE hT hn0 hl hK hdp) hX k5_241 (Or.inl ⟨_, _, _, _, (hE.t_j), by decide, rfl⟩) (by omega) (Nat.le_of_ble_eq_true rfl) dX5_readValue_160 rfl ?_
          rintro _ _ _ M9 ⟨rfl, rfl, rfl, hE9⟩
          rw [if_pos hd8] at ⊢
          rw [if_pos hd8, if_pos hd8, if_pos hd8, skN_lt hlt] at hE9
          have hT := (hT.nx hE9.frame (by omega)).rf
          have hR := hR.nx hE9.frame (by omega)
          have hP := hP.nx hE9.frame (by omega)
          have hF := hF.fr hE9.frame (by omega)
          have hE := hE9.rf
          have hn0 := Nat.succ_le_of_lt hlt
          refine T_if_eq_f 229 166 dX5_readValue_163 (by decide) rfl (by decide) ?_
          refine T_aload0 dX5_readValue_166 rfl ?_
          refine T_iload1 dX5_readValue_167 rfl ?_
          refine T_iconst (1) dX5_readValue_168 rfl rfl ?_
          refine T_iadd dX5_readValue_169 rfl ?_
          rw [nI_1]
          refine T_cV1 (hV1 hd8 _ _ _ (ez + 1) ((true, adv s 1)) ⟨hT, _, _, _, _, _, _, _, _, _, _, _, _, _, _, _, _, hE, hR, hP, ⟨hs1, hs2, hs3, hn0⟩, Or.inl rfl, hO.sk⟩) hX k5_260 (Or.inl ⟨_, _, _, _, (hE.t_j), by decide, rfl⟩) (by omega) (Nat.le_of_ble_eq_true rfl) dX5_readValue_170 rfl ?_
          rintro _ _ _ M8 ⟨⟨rfl, q1, hp1, hm1, hg1, hQ⟩, rfl, rfl, hF9⟩
          have hF := hF.tr hF9
          have hQ0 := hQ
          obtain ⟨hT, nx, bk, ba, fl, fa, a, b, c, ρ, ν, hn, wn, sn, σ, π, κ, hE, hR, hP, ⟨hs1, hs2, hs3, hn0⟩, hb2, hO⟩ := hQ
          refine T_aload0 dX5_readValue_173 rfl ?_
          refine g5_22 _ rfl (hE.t_j) (hE.g_p) dX5_readValue_174 rfl ?_
          refine T_sgn (i := 47) (by decide) ks5_269 dX5_readValue_177 rfl ?_
          refine T_iconst (0) dX5_readValue_180 rfl rfl ?_
          refine T_cV2 (q_step hX hd hl hK hK2 hC hQ0 (o := 47) (o2 := 47) (by decide) (fun _ => rfl) (fun _ => by decide)) hX k5_228 (Or.inl ⟨_, _, _, _, (hP.t_p), by decide, rfl⟩) (by omega) (Nat.le_of_ble_eq_true rfl) dX5_readValue_181 rfl ?_
          rintro _ _ _ M7 ⟨⟨rfl, hQ⟩, rfl, rfl, hF9⟩
          have hF := hF.tr hF9
          have hQ0 := hQ
          obtain ⟨hT, nx, bk, ba, fl, fa, a, b, c, ρ, ν, hn, wn, sn, σ, π, κ, hE, hR, hP, ⟨hs1, hs2, hs3, hn0⟩, hb2, hO⟩ := hQ
          refine T_goto 229 dX5_readValue_184 (by decide) ?_
          refine T_vret rfl dX5_readValue_229 ?_
          exact ⟨⟨rfl, _, PR.neg hq hd8 hp1, fun z => ⟨rfl, Nat.le_trans (Nat.le_succ _) (hm1 z).2⟩, (fun z => absurd z (by simp)), hQ0⟩, rfl, rfl, hF⟩
        ·
          refine T_aload0 dX5_readValue_158 rfl ?_
          refine T_iload1 dX5_readValue_159 rfl ?_
          refine T_cV1 (c_X5_goesDeeper hX hE hT hn0 hl hK hdp) hX k5_241 (Or.inl ⟨_, _, _, _, (hE.t_j), by decide, rfl⟩) (by omega) (Nat.le_of_ble_eq_true rfl) dX5_readValue_160 rfl ?_
          rintro _ _ _ M9 ⟨rfl, rfl, rfl, hE9⟩
          rw [if_neg hd8] at ⊢
          rw [if_neg hd8, if_neg hd8, if_neg hd8] at hE9
          have hT := (hT.nx hE9.frame (by omega)).rf
          have hR := hR.nx hE9.frame (by omega)
          have hP := hP.nx hE9.frame (by omega)
          have hF := hF.fr hE9.frame (by omega)
          have hE := hE9.rf
          refine T_if_eq_t 229 dX5_readValue_163 (by decide) rfl ?_
          refine T_vret rfl dX5_readValue_229 ?_
          exact ⟨⟨rfl, _, PR.ngf hq hd8, (fun z => absurd z (by simp)), (fun z => absurd z (by simp)), ⟨hT, _, _, _, _, _, _, _, _, _, _, _, _, _, _, _, _, hE, hR, hP, ⟨hs1, hs2, hs3, Nat.le_refl _⟩, (Or.inr rfl), hO.failq⟩⟩, rfl, rfl, hF⟩
      ·
        have hsw := (show ∀ i, i < 48 → (i = 28) → ¬ (smV.getD i 0).toInt < 6 ∧ ¬ 19 < (smV.getD i 0).toInt ∧ (#[71, 91, 91, 91, 91, 107, 107, 107, 126, 126, 145, 174, 199, 199] : Array Int)[((smV.getD i 0).toInt - 6).toNat]? = some 174 from by decide +kernel) _ hk hq
        have hlt := K_lt hK2 hn0 rfl (fun z => by omega) (fun z => by omega)
        refine T_tin (off := 174) 187 dX5_readValue_13 hsw.1 hsw.2.1 hsw.2.2 (by decide) ?_
        by_cases hd8 : dp < 8
        ·
          refine T_aload0 dX5_readValue_187 rfl ?_
          refine T_iload1 dX5_readValue_188 rfl ?_
          refine T_cV1 (c_X5_goesDeeper hX hE hT hn0 hl hK hdp) hX k5_241 (Or.inl ⟨_, _, _, _, (hE.t_j), by decide, rfl⟩) (by omega) (Nat.le_of_ble_eq_true rfl) dX5_readValue_189 rfl ?_
          rintro _ _ _ M9 ⟨rfl, rfl, rfl, hE9⟩
          rw [if_pos hd8] at ⊢
          rw [if_pos hd8, if_pos hd8, if_pos hd8, skN_lt hlt] at hE9
          have hT := (hT.nx hE9.frame (by omega)).rf
          have hR := hR.nx hE9.frame (by omega)
          have hP := hP.nx hE9.frame (by omega)
          have hF := hF.fr hE9.frame (by omega)
          have hE := hE9.rf
          have hn0 := Nat.succ_le_of_lt hlt
          refine T_if_eq_f 229 195 dX5_readValue_192 (by decide) rfl (by decide) ?_
          refine T_aload0 dX5_readValue_195 rfl ?_
          refine T_iload1 dX5_readValue_196 rfl ?_
          refine T_iconst (1) dX5_readValue_197 rfl rfl ?_
          refine T_iadd dX5_readValue_198 rfl ?_
          rw [nI_1]
          refine T_cV1 (hS1 hd8 _ _ _ (ez + 1) ((true, adv s 1)) ⟨hT, _, _, _, _, _, _, _, _, _, _, _, _, _, _, _, _, hE, hR, hP, ⟨hs1, hs2, hs3, hn0⟩, Or.inl rfl, hO.sk⟩) hX k5_196 (Or.inl ⟨_, _, _, _, (hE.t_j), by decide, rfl⟩) (by omega) (Nat.le_of_ble_eq_true rfl) dX5_readValue_199 rfl ?_
          rintro _ _ _ M8 ⟨⟨rfl, q1, hp1, hm1, hg1, hQ⟩, rfl, rfl, hF9⟩
          have hF := hF.tr hF9
          have hQ0 := hQ
          obtain ⟨hT, nx, bk, ba, fl, fa, a, b, c, ρ, ν, hn, wn, sn, σ, π, κ, hE, hR, hP, ⟨hs1, hs2, hs3, hn0⟩, hb2, hO⟩ := hQ
          refine T_aload0 dX5_readValue_202 rfl ?_
          refine T_sgn (i := 29) (by decide) ks5_272 dX5_readValue_203 rfl ?_
          refine T_cV1 (q_take hX hd hl hK hK2 hC (ez := _) hQ0 (k := 29) (by decide) (by decide) (by decide)) hX k5_92 (Or.inl ⟨_, _, _, _, (hE.t_j), by decide, rfl⟩) (by omega) (Nat.le_of_ble_eq_true rfl) dX5_readValue_206 rfl ?_
          rintro _ _ _ M7 ⟨⟨rfl, hQ⟩, rfl, rfl, hF9⟩
          have hF := hF.tr hF9
          have hQ0 := hQ
          obtain ⟨hT, nx, bk, ba, fl, fa, a, b, c, ρ, ν, hn, wn, sn, σ, π, κ, hE, hR, hP, ⟨hs1, hs2, hs3, hn0⟩, hb2, hO⟩ := hQ
          refine T_goto 229 dX5_readValue_209 (by decide) ?_
          refine T_vret rfl dX5_readValue_229 ?_
          exact ⟨⟨rfl, _, PR.opn hq hd8 hp1, fun z => ⟨rfl, Nat.le_trans (Nat.le_trans (Nat.le_succ _) (hm1 (tkQ_le z).1).2) (tkQ_le z).2⟩, (fun z => absurd z (by simp)), hQ0.ezm (Nat.le_succ _)⟩, rfl, rfl, hF⟩
        ·
          refine T_aload0 dX5_readValue_187 rfl ?_
          refine T_iload1 dX5_readValue_188 rfl ?_
          refine T_cV1 (c_X5_goesDeeper hX hE hT hn0 hl hK hdp) hX k5_241 (Or.inl ⟨_, _, _, _, (hE.t_j), by decide, rfl⟩) (by omega) (Nat.le_of_ble_eq_true rfl) dX5_readValue_189 rfl ?_
          rintro _ _ _ M9 ⟨rfl, rfl, rfl, hE9⟩
          rw [if_neg hd8] at ⊢
          rw [if_neg hd8, if_neg hd8, if_neg hd8] at hE9
          have hT := (hT.nx hE9.frame (by omega)).rf
          have hR := hR.nx hE9.frame (by omega)
          have hP := hP.nx hE9.frame (by omega)
          have hF := hF.fr hE9.frame (by omega)
          have hE := hE9.rf
          refine T_if_eq_t 229 dX5_readValue_192 (by decide) rfl ?_
          refine T_vret rfl dX5_readValue_229 ?_
          exact ⟨⟨rfl, _, PR.opf hq hd8, (fun z => absurd z (by simp)), (fun z => absurd z (by simp)), ⟨hT, _, _, _, _, _, _, _, _, _, _, _, _, _, _, _, _, hE, hR, hP, ⟨hs1, hs2, hs3, Nat.le_refl _⟩, (Or.inr rfl), hO.failq⟩⟩, rfl, rfl, hF⟩
      ·
        have hsw := (show ∀ i, i < 48 → (i = 26 ∨ i = 27) → ¬ (smV.getD i 0).toInt < 6 ∧ ¬ 19 < (smV.getD i 0).toInt ∧ (#[71, 91, 91, 91, 91, 107, 107, 107, 126, 126, 145, 174, 199, 199] : Array Int)[((smV.getD i 0).toInt - 6).toNat]? = some 199 from by decide +kernel) _ hk hq
        have hlt := K_lt hK2 hn0 rfl (fun z => by omega) (fun z => by omega)
        refine T_tin (off := 199) 212 dX5_readValue_13 hsw.1 hsw.2.1 hsw.2.2 (by decide) ?_
        refine T_aload0 dX5_readValue_212 rfl ?_
        refine T_cV0 (c_X5_skip hX hE hT hn0 hl hK) hX k5_104 (Or.inl ⟨_, _, _, _, (hE.t_j), by decide, rfl⟩) (by omega) (Nat.le_of_ble_eq_true rfl) dX5_readValue_213 rfl ?_
        rintro _ _ _ M9 ⟨rfl, rfl, rfl, hE9⟩
        rw [skN_lt hlt] at hE9
        have hT := (hT.nx hE9.frame (by omega)).rf
        have hR := hR.nx hE9.frame (by omega)
        have hP := hP.nx hE9.frame (by omega)
        have hF := hF.fr hE9.frame (by omega)
        have hE := hE9.rf
        have hn0 := Nat.succ_le_of_lt hlt
        refine T_aload0 dX5_readValue_216 rfl ?_
        refine T_aload2 dX5_readValue_217 rfl ?_
        refine T_iload1 dX5_readValue_218 rfl ?_
        refine T_cV2 (c_X5_readPair hX hd hl hK hK2 hC hdp hS1 hq ⟨hT, _, _, _, _, _, _, _, _, _, _, _, _, _, _, _, _, hE, hR, hP, ⟨hs1, hs2, hs3, hn0⟩, Or.inl rfl, hO.sk⟩) hX k5_275 (Or.inl ⟨_, _, _, _, (hE.t_j), by decide, rfl⟩) (by omega) (Nat.le_of_ble_eq_true rfl) dX5_readValue_219 rfl ?_
        rintro _ _ _ M8 ⟨⟨rfl, q1, hp1, hm1, hg1, hQ⟩, rfl, rfl, hF9⟩
        have hF := hF.tr hF9
        refine T_goto 229 dX5_readValue_222 (by decide) ?_
        refine T_vret rfl dX5_readValue_229 ?_
        exact ⟨⟨rfl, q1, hp1, hm1, hg1, hQ⟩, rfl, rfl, hF⟩
    ·
      refine T_tout 225 dX5_readValue_13 (sm_val _ hk hv) (by decide) ?_
      refine T_aload0 dX5_readValue_225 rfl ?_
      refine T_cV0 (c_X5_fail hX hE hT hn0 hl hK) hX k5_86 (Or.inl ⟨_, _, _, _, (hE.t_j), by decide, rfl⟩) (by omega) (Nat.le_of_ble_eq_true rfl) dX5_readValue_226 rfl ?_
      rintro _ _ _ M9 ⟨rfl, rfl, rfl, hE9⟩
      have hT := (hT.nx hE9.frame (by omega)).rf
      have hR := hR.nx hE9.frame (by omega)
      have hP := hP.nx hE9.frame (by omega)
      have hF := hF.fr hE9.frame (by omega)
      have hE := hE9.rf
      refine T_vret rfl dX5_readValue_229 ?_
      exact ⟨⟨rfl, _, PR.non hv, (fun z => absurd z (by simp)), (fun z => absurd z (by simp)), ⟨hT, _, _, _, _, _, _, _, _, _, _, _, _, _, _, _, _, hE, hR, hP, ⟨hs1, hs2, hs3, Nat.le_refl _⟩, (Or.inr rfl), hO.failq⟩⟩, rfl, rfl, hF⟩

