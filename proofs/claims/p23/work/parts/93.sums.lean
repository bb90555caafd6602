set_option maxHeartbeats 1000000 in
theorem L_X5_readProduct {l : Launch} {D : va_G} {cA : Nat → ClassId} {n0 : Nat} {sg adK adV : Nat → Nat} {sgA smA wdA bS LS : Nat} {xs : Nat → Int32} (hX : SF n0 (XW0 sg adK adV sgA smA wdA n0 bS LS xs)) {j r p tp ln lt : Nat} {K : Nat → Nat} {S : Nat → Int32} {V : Nat → Int64} {C : CCT} (hd : (j + 5 ≤ r ∨ r + 38 ≤ j) ∧ (j + 5 ≤ p ∨ p + 30 ≤ j) ∧ (p + 30 ≤ r ∨ r + 38 ≤ p)) (hl : lt ≤ 400) (hK : ∀ i, i ≤ lt → K i < 48) (hK2 : K lt = 45 ∨ K lt = 46) (hC : ∀ a b c ρ ν hn wn π i x, C a b c ρ ν hn wn π → C a b c ρ ν hn wn (u2 π 70 i x)) {dp : Nat} (hdp : dp ≤ 8) {sz : Nat} {τ : TY} {M : ME} {ez : Nat} (hV : ∀ (sz : Nat) (τ : TY) (M : ME) (ez : Nat) (q : PQ), CQ sg τ M j r p tp ln lt K S V C (ez) (q) → CT l D cA n0 (XW0 sg adK adV sgA smA wdA n0 bS LS xs) mX5_readValue (10 * (9 - (dp)) + 3) 0 0 sz τ M [.ref j, .int (nI (dp))] (fun v' sz' τ' M' => (v' = none ∧ ∃ q', PR K (fun t => (V t).toInt32) 0 (dp) (q) q' ∧ (q'.1 = true → (q).1 = true ∧ (q).2.1 ≤ q'.2.1) ∧ ((q).1 = false → q' = q) ∧ CQ sg τ M' j r p tp ln lt K S V C (ez) (q')) ∧ sz' = sz ∧ τ' = τ ∧ Fr3 j r p M M')) : ∀ (n : Nat) (i w : Nat) (u : Value) (Mk : ME) (q : PQ) (hQ : CQ sg τ Mk j r p tp ln lt K S V C (ez) (q)) (hF : Fr3 j r p M Mk) (hi : q.1 = true → i ≤ q.2.1) (hi4 : i ≤ 400) (hw : q.1 = true → lt + 1 ≤ w + q.2.1) (hwn : w < n), T l D cA n0 (XW0 sg adK adV sgA smA wdA n0 bS LS xs) mX5_readProduct (10 * (9 - dp) + 4) 0 0 sz τ Mk 7 [.ref j, .int (nI dp), .int (nI i), u] [] (fun v' sz' τ' M' => (v' = none ∧ ∃ q', PR K (fun t => (V t).toInt32) 2 (dp) (q) q' ∧ (q'.1 = true → (q).1 = true ∧ (q).2.1 ≤ q'.2.1) ∧ ((q).1 = false → q' = q) ∧ CQ sg τ M' j r p tp ln lt K S V C (ez) (q')) ∧ sz' = sz ∧ τ' = τ ∧ Fr3 j r p M M') (fun _ _ _ _ => False) := by
  intro n
  induction n with
  | zero => intros; omega
  | succ n ih =>
    intro i w u Mk q hQ hF hi hi4 hw hwn
    have hQ0 := hQ
    obtain ⟨hT, nx, bk, ba, fl, fa, a, b, c, ρ, ν, hn, wn, sn, σ, π, κ, hE, hR, hP, ⟨hs1, hs2, hs3, hn0⟩, hb2, hO⟩ := hQ
    refine T_sginj (fun hinj => ?_)
    have hk := hK nx hn0
    obtain ⟨g, s⟩ := q
    cases g with
    | false =>
      have f1 := (hO.2 rfl).1
      refine T_iload2 dX5_readProduct_7 rfl ?_
      refine T_sipush (400) dX5_readProduct_8 rfl rfl ?_
      refine T_icmp_ge 63 14 dX5_readProduct_11 (by decide) rfl (fun c11 => ?_) (fun c11 => ?_)
      ·
        refine T_vret rfl dX5_readProduct_63 ?_
        exact ⟨⟨rfl, _, PR.br, (fun z => absurd z (by simp)), (fun _ => rfl), hQ0⟩, rfl, rfl, hF⟩
      ·
        refine T_aload0 dX5_readProduct_14 rfl ?_
        refine T_cV0 (c_X5_sign hX hE hT hn0 hl hK) hX k5_51 (Or.inl ⟨_, _, _, _, (hE.t_j), by decide, rfl⟩) (by omega) (Nat.le_of_ble_eq_true rfl) dX5_readProduct_15 rfl ?_
        rintro _ _ _ _ ⟨rfl, rfl, rfl, rfl⟩
        refine T_sgn (i := 36) (by decide) ks5_263 dX5_readProduct_18 rfl ?_
        refine T_acmp_eq_f 34 24 dX5_readProduct_21 (by decide) rfl (fun z => absurd (hinj _ _ hk (by decide) z) (by rw [f1]; omega)) ?_
        refine T_aload0 dX5_readProduct_24 rfl ?_
        refine T_cV0 (c_X5_sign hX hE hT hn0 hl hK) hX k5_51 (Or.inl ⟨_, _, _, _, (hE.t_j), by decide, rfl⟩) (by omega) (Nat.le_of_ble_eq_true rfl) dX5_readProduct_25 rfl ?_
        rintro _ _ _ _ ⟨rfl, rfl, rfl, rfl⟩
        refine T_sgn (i := 37) (by decide) ks5_266 dX5_readProduct_28 rfl ?_
        refine T_acmp_ne_t 63 dX5_readProduct_31 (by decide) (fun z => absurd (hinj _ _ hk (by decide) z) (by rw [f1]; omega)) ?_
        refine T_vret rfl dX5_readProduct_63 ?_
        exact ⟨⟨rfl, _, PR.br, (fun z => absurd z (by simp)), (fun _ => rfl), hQ0⟩, rfl, rfl, hF⟩
    | true =>
      obtain ⟨f1, f2, f3, f4, f5, f6⟩ := hO.1 rfl
      have f1 : nx = s.1 := f1
      subst f1 f2
      have hi0 : i ≤ s.1 := hi rfl
      have hw0 : lt + 1 ≤ w + s.1 := hw rfl
      refine T_iload2 dX5_readProduct_7 rfl ?_
      refine T_sipush (400) dX5_readProduct_8 rfl rfl ?_
      refine T_icmp_ge 63 14 dX5_readProduct_11 (by decide) rfl (fun c11 => ?_) (fun c11 => ?_)
      ·
        have e1 : ¬ (K s.1 = 36 ∨ K s.1 = 37) := by
          have := (nI_leI (a := 400) (b := i) (by omega) (by omega)).mp c11
          have e : s.1 = lt := by omega
          rw [e]; omega
        refine T_vret rfl dX5_readProduct_63 ?_
        exact ⟨⟨rfl, _, PR.pre e1, (fun _ => ⟨rfl, Nat.le_refl _⟩), (fun z => absurd z (by simp)), hQ0⟩, rfl, rfl, hF⟩
      ·
        refine T_aload0 dX5_readProduct_14 rfl ?_
        refine T_cV0 (c_X5_sign hX hE hT hn0 hl hK) hX k5_51 (Or.inl ⟨_, _, _, _, (hE.t_j), by decide, rfl⟩) (by omega) (Nat.le_of_ble_eq_true rfl) dX5_readProduct_15 rfl ?_
        rintro _ _ _ _ ⟨rfl, rfl, rfl, rfl⟩
        refine T_sgn (i := 36) (by decide) ks5_263 dX5_readProduct_18 rfl ?_
        refine T_acmp_eq 34 24 dX5_readProduct_21 (by decide) rfl (fun c21 => ?_) (fun c21 => ?_)
        ·
          have e0 : K s.1 = 36 ∨ K s.1 = 37 := Or.inl (hinj _ _ hk (by decide) c21)
          have hlt := K_lt hK2 hn0 rfl (fun z => by omega) (fun z => by omega)
          refine T_aload0 dX5_readProduct_34 rfl ?_
          refine T_cV0 (c_X5_sign hX hE hT hn0 hl hK) hX k5_51 (Or.inl ⟨_, _, _, _, (hE.t_j), by decide, rfl⟩) (by omega) (Nat.le_of_ble_eq_true rfl) dX5_readProduct_35 rfl ?_
          rintro _ _ _ _ ⟨rfl, rfl, rfl, rfl⟩
          refine T_astore3 rfl (by decide) dX5_readProduct_38 rfl ?_
          refine T_aload0 dX5_readProduct_39 rfl ?_
          refine T_cV0 (c_X5_skip hX hE hT hn0 hl hK) hX k5_104 (Or.inl ⟨_, _, _, _, (hE.t_j), by decide, rfl⟩) (by omega) (Nat.le_of_ble_eq_true rfl) dX5_readProduct_40 rfl ?_
          rintro _ _ _ M9 ⟨rfl, rfl, rfl, hE9⟩
          rw [skN_lt hlt] at hE9
          have hT := (hT.nx hE9.frame (by omega)).rf
          have hR := hR.nx hE9.frame (by omega)
          have hP := hP.nx hE9.frame (by omega)
          have hF := hF.fr hE9.frame (by omega)
          have hE := hE9.rf
          have hn0 := Nat.succ_le_of_lt hlt
          refine T_aload0 dX5_readProduct_43 rfl ?_
          refine T_iload1 dX5_readProduct_44 rfl ?_
          refine T_cV1 (hV _ _ _ (ez + 1) ((true, adv s 1)) ⟨hT, _, _, _, _, _, _, _, _, _, _, _, _, _, _, _, _, hE, hR, hP, ⟨hs1, hs2, hs3, hn0⟩, Or.inl rfl, hO.sk⟩) hX k5_260 (Or.inl ⟨_, _, _, _, (hE.t_j), by decide, rfl⟩) (by omega) (Nat.le_of_ble_eq_true rfl) dX5_readProduct_45 rfl ?_
          rintro _ _ _ M8 ⟨⟨rfl, q1, hp1, hm1, hg1, hQ⟩, rfl, rfl, hF9⟩
          have hF := hF.tr hF9
          have hQ0 := hQ
          obtain ⟨hT, nx, bk, ba, fl, fa, a, b, c, ρ, ν, hn, wn, sn, σ, π, κ, hE, hR, hP, ⟨hs1, hs2, hs3, hn0⟩, hb2, hO⟩ := hQ
          refine T_aload0 dX5_readProduct_48 rfl ?_
          refine g5_22 _ rfl (hE.t_j) (hE.g_p) dX5_readProduct_49 rfl ?_
          refine T_aload3 dX5_readProduct_52 rfl ?_
          refine T_iconst (0) dX5_readProduct_53 rfl rfl ?_
          refine T_cV2 (q_step hX hd hl hK hK2 hC hQ0 (o := K s.1) (o2 := K s.1) hk (fun _ => rfl) (fun _ => by omega)) hX k5_228 (Or.inl ⟨_, _, _, _, (hP.t_p), by decide, rfl⟩) (by omega) (Nat.le_of_ble_eq_true rfl) dX5_readProduct_54 rfl ?_
          rintro _ _ _ M7 ⟨⟨rfl, hQ⟩, rfl, rfl, hF9⟩
          have hF := hF.tr hF9
          have hQ0 := hQ
          obtain ⟨hT, nx, bk, ba, fl, fa, a, b, c, ρ, ν, hn, wn, sn, σ, π, κ, hE, hR, hP, ⟨hs1, hs2, hs3, hn0⟩, hb2, hO⟩ := hQ
          first | refine T_iinc2 rfl (by decide) dX5_readProduct_57 rfl (inc1 _) ?_ | refine T_iinc2 rfl (by decide) dX5_readProduct_57 rfl rfl ?_
          refine T_goto 7 dX5_readProduct_60 (by decide) ?_
          have hs1' : s.1 + 1 ≤ lt := hlt
          refine T_cons ?_ (ih (i + 1) (w - 1) _ _ (adQ q1 (K s.1)) hQ0 hF (fun z => by have h1 : s.1 + 1 ≤ q1.2.1 := (hm1 z).2; show i + 1 ≤ q1.2.1; omega) (by omega) (fun z => by have h1 : s.1 + 1 ≤ q1.2.1 := (hm1 z).2; show lt + 1 ≤ w - 1 + q1.2.1; omega) (by omega))
          rintro v9 sz9 τ9 M9' ⟨⟨e1, q2, hp2, hm2, hg2, hq2⟩, e2, e3, hF2⟩
          exact ⟨⟨e1, q2, PR.prl e0 hp1 hp2, fun z => ⟨rfl, by have h1 := hm2 z; have h2 : s.1 + 1 ≤ q1.2.1 := (hm1 h1.1).2; have h3 : q1.2.1 ≤ q2.2.1 := h1.2; show s.1 ≤ q2.2.1; omega⟩, (fun z => absurd z (by simp)), hq2⟩, e2, e3, hF2⟩
        ·
          have c21 : ¬ K s.1 = 36 := fun z => c21 (by rw [z])
          refine T_aload0 dX5_readProduct_24 rfl ?_
          refine T_cV0 (c_X5_sign hX hE hT hn0 hl hK) hX k5_51 (Or.inl ⟨_, _, _, _, (hE.t_j), by decide, rfl⟩) (by omega) (Nat.le_of_ble_eq_true rfl) dX5_readProduct_25 rfl ?_
          rintro _ _ _ _ ⟨rfl, rfl, rfl, rfl⟩
          refine T_sgn (i := 37) (by decide) ks5_266 dX5_readProduct_28 rfl ?_
          refine T_acmp_ne 63 34 dX5_readProduct_31 (by decide) rfl (fun c31 => ?_) (fun c31 => ?_)
          ·
            have e1 : ¬ (K s.1 = 36 ∨ K s.1 = 37) := fun z => z.elim c21 (fun z => c31 (by rw [z]))
            refine T_vret rfl dX5_readProduct_63 ?_
            exact ⟨⟨rfl, _, PR.pre e1, (fun _ => ⟨rfl, Nat.le_refl _⟩), (fun z => absurd z (by simp)), hQ0⟩, rfl, rfl, hF⟩
          ·
            have e0 : K s.1 = 36 ∨ K s.1 = 37 := Or.inr (hinj _ _ hk (by decide) (Decidable.not_not.mp c31))
            have hlt := K_lt hK2 hn0 rfl (fun z => by omega) (fun z => by omega)
            refine T_aload0 dX5_readProduct_34 rfl ?_
            refine T_cV0 (c_X5_sign hX hE hT hn0 hl hK) hX k5_51 (Or.inl ⟨_, _, _, _, (hE.t_j), by decide, rfl⟩) (by omega) (Nat.le_of_ble_eq_true rfl) dX5_readProduct_35 rfl ?_
            rintro _ _ _ _ ⟨rfl, rfl, rfl, rfl⟩
            refine T_astore3 rfl (by decide) dX5_readProduct_38 rfl ?_
            refine T_aload0 dX5_readProduct_39 rfl ?_
            refine T_cV0 (c_X5_skip hX hE hT hn0 hl hK) hX k5_104 (Or.inl ⟨_, _, _, _, (hE.t_j), by decide, rfl⟩) (by omega) (Nat.le_of_ble_eq_true rfl) dX5_readProduct_40 rfl ?_
            rintro _ _ _ M9 ⟨rfl, rfl, rfl, hE9⟩
            rw [skN_lt hlt] at hE9
            have hT := (hT.nx hE9.frame (by omega)).rf
            have hR := hR.nx hE9.frame (by omega)
            have hP := hP.nx hE9.frame (by omega)
            have hF := hF.fr hE9.frame (by omega)
            have hE := hE9.rf
            have hn0 := Nat.succ_le_of_lt hlt
            refine T_aload0 dX5_readProduct_43 rfl ?_
            refine T_iload1 dX5_readProduct_44 rfl ?_
            refine T_cV1 (hV _ _ _ (ez + 1) ((true, adv s 1)) ⟨hT, _, _, _, _, _, _, _, _, _, _, _, _, _, _, _, _, hE, hR, hP, ⟨hs1, hs2, hs3, hn0⟩, Or.inl rfl, hO.sk⟩) hX k5_260 (Or.inl ⟨_, _, _, _, (hE.t_j), by decide, rfl⟩) (by omega) (Nat.le_of_ble_eq_true rfl) dX5_readProduct_45 rfl ?_
            rintro _ _ _ M8 ⟨⟨rfl, q1, hp1, hm1, hg1, hQ⟩, rfl, rfl, hF9⟩
            have hF := hF.tr hF9
            have hQ0 := hQ
            obtain ⟨hT, nx, bk, ba, fl, fa, a, b, c, ρ, ν, hn, wn, sn, σ, π, κ, hE, hR, hP, ⟨hs1, hs2, hs3, hn0⟩, hb2, hO⟩ := hQ
            refine T_aload0 dX5_readProduct_48 rfl ?_
            refine g5_22 _ rfl (hE.t_j) (hE.g_p) dX5_readProduct_49 rfl ?_
            refine T_aload3 dX5_readProduct_52 rfl ?_
            refine T_iconst (0) dX5_readProduct_53 rfl rfl ?_
            refine T_cV2 (q_step hX hd hl hK hK2 hC hQ0 (o := K s.1) (o2 := K s.1) hk (fun _ => rfl) (fun _ => by omega)) hX k5_228 (Or.inl ⟨_, _, _, _, (hP.t_p), by decide, rfl⟩) (by omega) (Nat.le_of_ble_eq_true rfl) dX5_readProduct_54 rfl ?_
            rintro _ _ _ M7 ⟨⟨rfl, hQ⟩, rfl, rfl, hF9⟩
            have hF := hF.tr hF9
            have hQ0 := hQ
            obtain ⟨hT, nx, bk, ba, fl, fa, a, b, c, ρ, ν, hn, wn, sn, σ, π, κ, hE, hR, hP, ⟨hs1, hs2, hs3, hn0⟩, hb2, hO⟩ := hQ
            first | refine T_iinc2 rfl (by decide) dX5_readProduct_57 rfl (inc1 _) ?_ | refine T_iinc2 rfl (by decide) dX5_readProduct_57 rfl rfl ?_
            refine T_goto 7 dX5_readProduct_60 (by decide) ?_
            have hs1' : s.1 + 1 ≤ lt := hlt
            refine T_cons ?_ (ih (i + 1) (w - 1) _ _ (adQ q1 (K s.1)) hQ0 hF (fun z => by have h1 : s.1 + 1 ≤ q1.2.1 := (hm1 z).2; show i + 1 ≤ q1.2.1; omega) (by omega) (fun z => by have h1 : s.1 + 1 ≤ q1.2.1 := (hm1 z).2; show lt + 1 ≤ w - 1 + q1.2.1; omega) (by omega))
            rintro v9 sz9 τ9 M9' ⟨⟨e1, q2, hp2, hm2, hg2, hq2⟩, e2, e3, hF2⟩
            exact ⟨⟨e1, q2, PR.prl e0 hp1 hp2, fun z => ⟨rfl, by have h1 := hm2 z; have h2 : s.1 + 1 ≤ q1.2.1 := (hm1 h1.1).2; have h3 : q1.2.1 ≤ q2.2.1 := h1.2; show s.1 ≤ q2.2.1; omega⟩, (fun z => absurd z (by simp)), hq2⟩, e2, e3, hF2⟩
set_option maxHeartbeats 1000000 in
theorem c_X5_readProduct {l : Launch} {D : va_G} {cA : Nat → ClassId} {n0 : Nat} {sg adK adV : Nat → Nat} {sgA smA wdA bS LS : Nat} {xs : Nat → Int32} (hX : SF n0 (XW0 sg adK adV sgA smA wdA n0 bS LS xs)) {j r p tp ln lt : Nat} {K : Nat → Nat} {S : Nat → Int32} {V : Nat → Int64} {C : CCT} (hd : (j + 5 ≤ r ∨ r + 38 ≤ j) ∧ (j + 5 ≤ p ∨ p + 30 ≤ j) ∧ (p + 30 ≤ r ∨ r + 38 ≤ p)) (hl : lt ≤ 400) (hK : ∀ i, i ≤ lt → K i < 48) (hK2 : K lt = 45 ∨ K lt = 46) (hC : ∀ a b c ρ ν hn wn π i x, C a b c ρ ν hn wn π → C a b c ρ ν hn wn (u2 π 70 i x)) {dp : Nat} (hdp : dp ≤ 8) {sz : Nat} {τ : TY} {M : ME} (hV : ∀ (sz : Nat) (τ : TY) (M : ME) (ez : Nat) (q : PQ), CQ sg τ M j r p tp ln lt K S V C (ez) (q) → CT l D cA n0 (XW0 sg adK adV sgA smA wdA n0 bS LS xs) mX5_readValue (10 * (9 - (dp)) + 3) 0 0 sz τ M [.ref j, .int (nI (dp))] (fun v' sz' τ' M' => (v' = none ∧ ∃ q', PR K (fun t => (V t).toInt32) 0 (dp) (q) q' ∧ (q'.1 = true → (q).1 = true ∧ (q).2.1 ≤ q'.2.1) ∧ ((q).1 = false → q' = q) ∧ CQ sg τ M' j r p tp ln lt K S V C (ez) (q')) ∧ sz' = sz ∧ τ' = τ ∧ Fr3 j r p M M')) (ez : Nat) (q : PQ) (hQ : CQ sg τ M j r p tp ln lt K S V C (ez) (q)) : CT l D cA n0 (XW0 sg adK adV sgA smA wdA n0 bS LS xs) mX5_readProduct (10 * (9 - dp) + 4) 0 0 sz τ M [.ref j, .int (nI dp)] (fun v' sz' τ' M' => (v' = none ∧ ∃ q', PR K (fun t => (V t).toInt32) 1 (dp) (q) q' ∧ (q'.1 = true → (q).1 = true ∧ (q).2.1 ≤ q'.2.1) ∧ ((q).1 = false → q' = q) ∧ CQ sg τ M' j r p tp ln lt K S V C (ez) (q')) ∧ sz' = sz ∧ τ' = τ ∧ Fr3 j r p M M') := by
  refine CT.of (ls := [.ref j, .int (nI dp), UU, UU]) (by decide) (Nat.le_of_ble_eq_true rfl) rfl ?_
  have hF : Fr3 j r p M M := Fr3.rf _ _ _ _
  have hQ0 := hQ
  obtain ⟨hT, nx, bk, ba, fl, fa, a, b, c, ρ, ν, hn, wn, sn, σ, π, κ, hE, hR, hP, ⟨hs1, hs2, hs3, hn0⟩, hb2, hO⟩ := hQ
  refine T_aload0 dX5_readProduct_0 rfl ?_
  refine T_iload1 dX5_readProduct_1 rfl ?_
  refine T_cV1 (hV _ _ _ (ez) (q) hQ0) hX k5_260 (Or.inl ⟨_, _, _, _, (hE.t_j), by decide, rfl⟩) (by omega) (Nat.le_of_ble_eq_true rfl) dX5_readProduct_2 rfl ?_
  rintro _ _ _ M8 ⟨⟨rfl, q1, hp1, hm1, hg1, hQ⟩, rfl, rfl, hF9⟩
  have hF := hF.tr hF9
  have hQ0 := hQ
  obtain ⟨hT, nx, bk, ba, fl, fa, a, b, c, ρ, ν, hn, wn, sn, σ, π, κ, hE, hR, hP, ⟨hs1, hs2, hs3, hn0⟩, hb2, hO⟩ := hQ
  refine T_iconst (0) dX5_readProduct_5 rfl rfl ?_
  refine T_istore2 rfl (by decide) dX5_readProduct_6 rfl ?_
  refine T_cons ?_ (L_X5_readProduct hX hd hl hK hK2 hC hdp hV (lt + 3) 0 (lt + 2) _ _ q1 hQ0 hF (fun _ => Nat.zero_le _) (by omega) (fun _ => by omega) (by omega))
  rintro v9 sz9 τ9 M9' ⟨⟨e1, q2, hp2, hm2, hg2, hq2⟩, e2, e3, hF2⟩
  exact ⟨⟨e1, q2, PR.prd hp1 hp2, fun z => ⟨(hm1 (hm2 z).1).1, Nat.le_trans (hm1 (hm2 z).1).2 (hm2 z).2⟩, fun z => by have := hg1 z; subst this; exact hg2 z, hq2⟩, e2, e3, hF2⟩
set_option maxHeartbeats 1000000 in
theorem L_X5_readSum {l : Launch} {D : va_G} {cA : Nat → ClassId} {n0 : Nat} {sg adK adV : Nat → Nat} {sgA smA wdA bS LS : Nat} {xs : Nat → Int32} (hX : SF n0 (XW0 sg adK adV sgA smA wdA n0 bS LS xs)) {j r p tp ln lt : Nat} {K : Nat → Nat} {S : Nat → Int32} {V : Nat → Int64} {C : CCT} (hd : (j + 5 ≤ r ∨ r + 38 ≤ j) ∧ (j + 5 ≤ p ∨ p + 30 ≤ j) ∧ (p + 30 ≤ r ∨ r + 38 ≤ p)) (hl : lt ≤ 400) (hK : ∀ i, i ≤ lt → K i < 48) (hK2 : K lt = 45 ∨ K lt = 46) (hC : ∀ a b c ρ ν hn wn π i x, C a b c ρ ν hn wn π → C a b c ρ ν hn wn (u2 π 70 i x)) {dp : Nat} (hdp : dp ≤ 8) {sz : Nat} {τ : TY} {M : ME} {ez : Nat} (hPr : ∀ (sz : Nat) (τ : TY) (M : ME) (ez : Nat) (q : PQ), CQ sg τ M j r p tp ln lt K S V C (ez) (q) → CT l D cA n0 (XW0 sg adK adV sgA smA wdA n0 bS LS xs) mX5_readProduct (10 * (9 - (dp)) + 4) 0 0 sz τ M [.ref j, .int (nI (dp))] (fun v' sz' τ' M' => (v' = none ∧ ∃ q', PR K (fun t => (V t).toInt32) 1 (dp) (q) q' ∧ (q'.1 = true → (q).1 = true ∧ (q).2.1 ≤ q'.2.1) ∧ ((q).1 = false → q' = q) ∧ CQ sg τ M' j r p tp ln lt K S V C (ez) (q')) ∧ sz' = sz ∧ τ' = τ ∧ Fr3 j r p M M')) : ∀ (n : Nat) (i w : Nat) (u : Value) (Mk : ME) (q : PQ) (hQ : CQ sg τ Mk j r p tp ln lt K S V C (ez) (q)) (hF : Fr3 j r p M Mk) (hi : q.1 = true → i ≤ q.2.1) (hi4 : i ≤ 400) (hw : q.1 = true → lt + 1 ≤ w + q.2.1) (hwn : w < n), T l D cA n0 (XW0 sg adK adV sgA smA wdA n0 bS LS xs) mX5_readSum (10 * (9 - dp) + 5) 0 0 sz τ Mk 7 [.ref j, .int (nI dp), .int (nI i), u] [] (fun v' sz' τ' M' => (v' = none ∧ ∃ q', PR K (fun t => (V t).toInt32) 4 (dp) (q) q' ∧ (q'.1 = true → (q).1 = true ∧ (q).2.1 ≤ q'.2.1) ∧ ((q).1 = false → q' = q) ∧ CQ sg τ M' j r p tp ln lt K S V C (ez) (q')) ∧ sz' = sz ∧ τ' = τ ∧ Fr3 j r p M M') (fun _ _ _ _ => False) := by
  intro n
  induction n with
  | zero => intros; omega
  | succ n ih =>
    intro i w u Mk q hQ hF hi hi4 hw hwn
    have hQ0 := hQ
    obtain ⟨hT, nx, bk, ba, fl, fa, a, b, c, ρ, ν, hn, wn, sn, σ, π, κ, hE, hR, hP, ⟨hs1, hs2, hs3, hn0⟩, hb2, hO⟩ := hQ
    refine T_sginj (fun hinj => ?_)
    have hk := hK nx hn0
    obtain ⟨g, s⟩ := q
    cases g with
    | false =>
      have f1 := (hO.2 rfl).1
      refine T_iload2 dX5_readSum_7 rfl ?_
      refine T_sipush (400) dX5_readSum_8 rfl rfl ?_
      refine T_icmp_ge 63 14 dX5_readSum_11 (by decide) rfl (fun c11 => ?_) (fun c11 => ?_)
      ·
        refine T_vret rfl dX5_readSum_63 ?_
        exact ⟨⟨rfl, _, PR.br, (fun z => absurd z (by simp)), (fun _ => rfl), hQ0⟩, rfl, rfl, hF⟩
      ·
        refine T_aload0 dX5_readSum_14 rfl ?_
        refine T_cV0 (c_X5_sign hX hE hT hn0 hl hK) hX k5_51 (Or.inl ⟨_, _, _, _, (hE.t_j), by decide, rfl⟩) (by omega) (Nat.le_of_ble_eq_true rfl) dX5_readSum_15 rfl ?_
        rintro _ _ _ _ ⟨rfl, rfl, rfl, rfl⟩
        refine T_sgn (i := 34) (by decide) ks5_257 dX5_readSum_18 rfl ?_
        refine T_acmp_eq_f 34 24 dX5_readSum_21 (by decide) rfl (fun z => absurd (hinj _ _ hk (by decide) z) (by rw [f1]; omega)) ?_
        refine T_aload0 dX5_readSum_24 rfl ?_
        refine T_cV0 (c_X5_sign hX hE hT hn0 hl hK) hX k5_51 (Or.inl ⟨_, _, _, _, (hE.t_j), by decide, rfl⟩) (by omega) (Nat.le_of_ble_eq_true rfl) dX5_readSum_25 rfl ?_
        rintro _ _ _ _ ⟨rfl, rfl, rfl, rfl⟩
        refine T_sgn (i := 35) (by decide) ks5_135 dX5_readSum_28 rfl ?_
        refine T_acmp_ne_t 63 dX5_readSum_31 (by decide) (fun z => absurd (hinj _ _ hk (by decide) z) (by rw [f1]; omega)) ?_
        refine T_vret rfl dX5_readSum_63 ?_
        exact ⟨⟨rfl, _, PR.br, (fun z => absurd z (by simp)), (fun _ => rfl), hQ0⟩, rfl, rfl, hF⟩
    | true =>
      obtain ⟨f1, f2, f3, f4, f5, f6⟩ := hO.1 rfl
      have f1 : nx = s.1 := f1
      subst f1 f2
      have hi0 : i ≤ s.1 := hi rfl
      have hw0 : lt + 1 ≤ w + s.1 := hw rfl
      refine T_iload2 dX5_readSum_7 rfl ?_
      refine T_sipush (400) dX5_readSum_8 rfl rfl ?_
      refine T_icmp_ge 63 14 dX5_readSum_11 (by decide) rfl (fun c11 => ?_) (fun c11 => ?_)
      ·
        have e1 : ¬ (K s.1 = 34 ∨ K s.1 = 35) := by
          have := (nI_leI (a := 400) (b := i) (by omega) (by omega)).mp c11
          have e : s.1 = lt := by omega
          rw [e]; omega
        refine T_vret rfl dX5_readSum_63 ?_
        exact ⟨⟨rfl, _, PR.sue e1, (fun _ => ⟨rfl, Nat.le_refl _⟩), (fun z => absurd z (by simp)), hQ0⟩, rfl, rfl, hF⟩
      ·
        refine T_aload0 dX5_readSum_14 rfl ?_
        refine T_cV0 (c_X5_sign hX hE hT hn0 hl hK) hX k5_51 (Or.inl ⟨_, _, _, _, (hE.t_j), by decide, rfl⟩) (by omega) (Nat.le_of_ble_eq_true rfl) dX5_readSum_15 rfl ?_
        rintro _ _ _ _ ⟨rfl, rfl, rfl, rfl⟩
        refine T_sgn (i := 34) (by decide) ks5_257 dX5_readSum_18 rfl ?_
        refine T_acmp_eq 34 24 dX5_readSum_21 (by decide) rfl (fun c21 => ?_) (fun c21 => ?_)
        ·
          have e0 : K s.1 = 34 ∨ K s.1 = 35 := Or.inl (hinj _ _ hk (by decide) c21)
          have hlt := K_lt hK2 hn0 rfl (fun z => by omega) (fun z => by omega)
          refine T_aload0 dX5_readSum_34 rfl ?_
          refine T_cV0 (c_X5_sign hX hE hT hn0 hl hK) hX k5_51 (Or.inl ⟨_, _, _, _, (hE.t_j), by decide, rfl⟩) (by omega) (Nat.le_of_ble_eq_true rfl) dX5_readSum_35 rfl ?_
          rintro _ _ _ _ ⟨rfl, rfl, rfl, rfl⟩
          refine T_astore3 rfl (by decide) dX5_readSum_38 rfl ?_
          refine T_aload0 dX5_readSum_39 rfl ?_
          refine T_cV0 (c_X5_skip hX hE hT hn0 hl hK) hX k5_104 (Or.inl ⟨_, _, _, _, (hE.t_j), by decide, rfl⟩) (by omega) (Nat.le_of_ble_eq_true rfl) dX5_readSum_40 rfl ?_
          rintro _ _ _ M9 ⟨rfl, rfl, rfl, hE9⟩
          rw [skN_lt hlt] at hE9
          have hT := (hT.nx hE9.frame (by omega)).rf
          have hR := hR.nx hE9.frame (by omega)
          have hP := hP.nx hE9.frame (by omega)
          have hF := hF.fr hE9.frame (by omega)
          have hE := hE9.rf
          have hn0 := Nat.succ_le_of_lt hlt
          refine T_aload0 dX5_readSum_43 rfl ?_
          refine T_iload1 dX5_readSum_44 rfl ?_
          refine T_cV1 (hPr _ _ _ (ez + 1) ((true, adv s 1)) ⟨hT, _, _, _, _, _, _, _, _, _, _, _, _, _, _, _, _, hE, hR, hP, ⟨hs1, hs2, hs3, hn0⟩, Or.inl rfl, hO.sk⟩) hX k5_254 (Or.inl ⟨_, _, _, _, (hE.t_j), by decide, rfl⟩) (by omega) (Nat.le_of_ble_eq_true rfl) dX5_readSum_45 rfl ?_
          rintro _ _ _ M8 ⟨⟨rfl, q1, hp1, hm1, hg1, hQ⟩, rfl, rfl, hF9⟩
          have hF := hF.tr hF9
          have hQ0 := hQ
          obtain ⟨hT, nx, bk, ba, fl, fa, a, b, c, ρ, ν, hn, wn, sn, σ, π, κ, hE, hR, hP, ⟨hs1, hs2, hs3, hn0⟩, hb2, hO⟩ := hQ
          refine T_aload0 dX5_readSum_48 rfl ?_
          refine g5_22 _ rfl (hE.t_j) (hE.g_p) dX5_readSum_49 rfl ?_
          refine T_aload3 dX5_readSum_52 rfl ?_
          refine T_iconst (0) dX5_readSum_53 rfl rfl ?_
          refine T_cV2 (q_step hX hd hl hK hK2 hC hQ0 (o := K s.1) (o2 := K s.1) hk (fun _ => rfl) (fun _ => by omega)) hX k5_228 (Or.inl ⟨_, _, _, _, (hP.t_p), by decide, rfl⟩) (by omega) (Nat.le_of_ble_eq_true rfl) dX5_readSum_54 rfl ?_
          rintro _ _ _ M7 ⟨⟨rfl, hQ⟩, rfl, rfl, hF9⟩
          have hF := hF.tr hF9
          have hQ0 := hQ
          obtain ⟨hT, nx, bk, ba, fl, fa, a, b, c, ρ, ν, hn, wn, sn, σ, π, κ, hE, hR, hP, ⟨hs1, hs2, hs3, hn0⟩, hb2, hO⟩ := hQ
          first | refine T_iinc2 rfl (by decide) dX5_readSum_57 rfl (inc1 _) ?_ | refine T_iinc2 rfl (by decide) dX5_readSum_57 rfl rfl ?_
          refine T_goto 7 dX5_readSum_60 (by decide) ?_
          have hs1' : s.1 + 1 ≤ lt := hlt
          refine T_cons ?_ (ih (i + 1) (w - 1) _ _ (adQ q1 (K s.1)) hQ0 hF (fun z => by have h1 : s.1 + 1 ≤ q1.2.1 := (hm1 z).2; show i + 1 ≤ q1.2.1; omega) (by omega) (fun z => by have h1 : s.1 + 1 ≤ q1.2.1 := (hm1 z).2; show lt + 1 ≤ w - 1 + q1.2.1; omega) (by omega))
          rintro v9 sz9 τ9 M9' ⟨⟨e1, q2, hp2, hm2, hg2, hq2⟩, e2, e3, hF2⟩
          exact ⟨⟨e1, q2, PR.sul e0 hp1 hp2, fun z => ⟨rfl, by have h1 := hm2 z; have h2 : s.1 + 1 ≤ q1.2.1 := (hm1 h1.1).2; have h3 : q1.2.1 ≤ q2.2.1 := h1.2; show s.1 ≤ q2.2.1; omega⟩, (fun z => absurd z (by simp)), hq2⟩, e2, e3, hF2⟩
        ·
          have c21 : ¬ K s.1 = 34 := fun z => c21 (by rw [z])
          refine T_aload0 dX5_readSum_24 rfl ?_
          refine T_cV0 (c_X5_sign hX hE hT hn0 hl hK) hX k5_51 (Or.inl ⟨_, _, _, _, (hE.t_j), by decide, rfl⟩) (by omega) (Nat.le_of_ble_eq_true rfl) dX5_readSum_25 rfl ?_
          rintro _ _ _ _ ⟨rfl, rfl, rfl, rfl⟩
          refine T_sgn (i := 35) (by decide) ks5_135 dX5_readSum_28 rfl ?_
          refine T_acmp_ne 63 34 dX5_readSum_31 (by decide) rfl (fun c31 => ?_) (fun c31 => ?_)
          ·
            have e1 : ¬ (K s.1 = 34 ∨ K s.1 = 35) := fun z => z.elim c21 (fun z => c31 (by rw [z]))
            refine T_vret rfl dX5_readSum_63 ?_
            exact ⟨⟨rfl, _, PR.sue e1, (fun _ => ⟨rfl, Nat.le_refl _⟩), (fun z => absurd z (by simp)), hQ0⟩, rfl, rfl, hF⟩
          ·
            have e0 : K s.1 = 34 ∨ K s.1 = 35 := Or.inr (hinj _ _ hk (by decide) (Decidable.not_not.mp c31))
            have hlt := K_lt hK2 hn0 rfl (fun z => by omega) (fun z => by omega)
            refine T_aload0 dX5_readSum_34 rfl ?_
            refine T_cV0 (c_X5_sign hX hE hT hn0 hl hK) hX k5_51 (Or.inl ⟨_, _, _, _, (hE.t_j), by decide, rfl⟩) (by omega) (Nat.le_of_ble_eq_true rfl) dX5_readSum_35 rfl ?_
            rintro _ _ _ _ ⟨rfl, rfl, rfl, rfl⟩
            refine T_astore3 rfl (by decide) dX5_readSum_38 rfl ?_
            refine T_aload0 dX5_readSum_39 rfl ?_
            refine T_cV0 (c_X5_skip hX hE hT hn0 hl hK) hX k5_104 (Or.inl ⟨_, _, _, _, (hE.t_j), by decide, rfl⟩) (by omega) (Nat.le_of_ble_eq_true rfl) dX5_readSum_40 rfl ?_
            rintro _ _ _ M9 ⟨rfl, rfl, rfl, hE9⟩
            rw [skN_lt hlt] at hE9
            have hT := (hT.nx hE9.frame (by omega)).rf
            have hR := hR.nx hE9.frame (by omega)
            have hP := hP.nx hE9.frame (by omega)
            have hF := hF.fr hE9.frame (by omega)
            have hE := hE9.rf
            have hn0 := Nat.succ_le_of_lt hlt
            refine T_aload0 dX5_readSum_43 rfl ?_
            refine T_iload1 dX5_readSum_44 rfl ?_
            refine T_cV1 (hPr _ _ _ (ez + 1) ((true, adv s 1)) ⟨hT, _, _, _, _, _, _, _, _, _, _, _, _, _, _, _, _, hE, hR, hP, ⟨hs1, hs2, hs3, hn0⟩, Or.inl rfl, hO.sk⟩) hX k5_254 (Or.inl ⟨_, _, _, _, (hE.t_j), by decide, rfl⟩) (by omega) (Nat.le_of_ble_eq_true rfl) dX5_readSum_45 rfl ?_
            rintro _ _ _ M8 ⟨⟨rfl, q1, hp1, hm1, hg1, hQ⟩, rfl, rfl, hF9⟩
            have hF := hF.tr hF9
            have hQ0 := hQ
            obtain ⟨hT, nx, bk, ba, fl, fa, a, b, c, ρ, ν, hn, wn, sn, σ, π, κ, hE, hR, hP, ⟨hs1, hs2, hs3, hn0⟩, hb2, hO⟩ := hQ
            refine T_aload0 dX5_readSum_48 rfl ?_
            refine g5_22 _ rfl (hE.t_j) (hE.g_p) dX5_readSum_49 rfl ?_
            refine T_aload3 dX5_readSum_52 rfl ?_
            refine T_iconst (0) dX5_readSum_53 rfl rfl ?_
            refine T_cV2 (q_step hX hd hl hK hK2 hC hQ0 (o := K s.1) (o2 := K s.1) hk (fun _ => rfl) (fun _ => by omega)) hX k5_228 (Or.inl ⟨_, _, _, _, (hP.t_p), by decide, rfl⟩) (by omega) (Nat.le_of_ble_eq_true rfl) dX5_readSum_54 rfl ?_
            rintro _ _ _ M7 ⟨⟨rfl, hQ⟩, rfl, rfl, hF9⟩
            have hF := hF.tr hF9
            have hQ0 := hQ
            obtain ⟨hT, nx, bk, ba, fl, fa, a, b, c, ρ, ν, hn, wn, sn, σ, π, κ, hE, hR, hP, ⟨hs1, hs2, hs3, hn0⟩, hb2, hO⟩ := hQ
            first | refine T_iinc2 rfl (by decide) dX5_readSum_57 rfl (inc1 _) ?_ | refine T_iinc2 rfl (by decide) dX5_readSum_57 rfl rfl ?_
            refine T_goto 7 dX5_readSum_60 (by decide) ?_
            have hs1' : s.1 + 1 ≤ lt := hlt
            refine T_cons ?_ (ih (i + 1) (w - 1) _ _ (adQ q1 (K s.1)) hQ0 hF (fun z => by have h1 : s.1 + 1 ≤ q1.2.1 := (hm1 z).2; show i + 1 ≤ q1.2.1; omega) (by omega) (fun z => by have h1 : s.1 + 1 ≤ q1.2.1 := (hm1 z).2; show lt + 1 ≤ w - 1 + q1.2.1; omega) (by omega))
            rintro v9 sz9 τ9 M9' ⟨⟨e1, q2, hp2, hm2, hg2, hq2⟩, e2, e3, hF2⟩
            exact ⟨⟨e1, q2, PR.sul e0 hp1 hp2, fun z => ⟨rfl, by have h1 := hm2 z; have h2 : s.1 + 1 ≤ q1.2.1 := (hm1 h1.1).2; have h3 : q1.2.1 ≤ q2.2.1 := h1.2; show s.1 ≤ q2.2.1; omega⟩, (fun z => absurd z (by simp)), hq2⟩, e2, e3, hF2⟩
set_option maxHeartbeats 1000000 in
theorem c_X5_readSum {l : Launch} {D : va_G} {cA : Nat → ClassId} {n0 : Nat} {sg adK adV : Nat → Nat} {sgA smA wdA bS LS : Nat} {xs : Nat → Int32} (hX : SF n0 (XW0 sg adK adV sgA smA wdA n0 bS LS xs)) {j r p tp ln lt : Nat} {K : Nat → Nat} {S : Nat → Int32} {V : Nat → Int64} {C : CCT} (hd : (j + 5 ≤ r ∨ r + 38 ≤ j) ∧ (j + 5 ≤ p ∨ p + 30 ≤ j) ∧ (p + 30 ≤ r ∨ r + 38 ≤ p)) (hl : lt ≤ 400) (hK : ∀ i, i ≤ lt → K i < 48) (hK2 : K lt = 45 ∨ K lt = 46) (hC : ∀ a b c ρ ν hn wn π i x, C a b c ρ ν hn wn π → C a b c ρ ν hn wn (u2 π 70 i x)) {dp : Nat} (hdp : dp ≤ 8) {sz : Nat} {τ : TY} {M : ME} (hPr : ∀ (sz : Nat) (τ : TY) (M : ME) (ez : Nat) (q : PQ), CQ sg τ M j r p tp ln lt K S V C (ez) (q) → CT l D cA n0 (XW0 sg adK adV sgA smA wdA n0 bS LS xs) mX5_readProduct (10 * (9 - (dp)) + 4) 0 0 sz τ M [.ref j, .int (nI (dp))] (fun v' sz' τ' M' => (v' = none ∧ ∃ q', PR K (fun t => (V t).toInt32) 1 (dp) (q) q' ∧ (q'.1 = true → (q).1 = true ∧ (q).2.1 ≤ q'.2.1) ∧ ((q).1 = false → q' = q) ∧ CQ sg τ M' j r p tp ln lt K S V C (ez) (q')) ∧ sz' = sz ∧ τ' = τ ∧ Fr3 j r p M M')) (ez : Nat) (q : PQ) (hQ : CQ sg τ M j r p tp ln lt K S V C (ez) (q)) : CT l D cA n0 (XW0 sg adK adV sgA smA wdA n0 bS LS xs) mX5_readSum (10 * (9 - dp) + 5) 0 0 sz τ M [.ref j, .int (nI dp)] (fun v' sz' τ' M' => (v' = none ∧ ∃ q', PR K (fun t => (V t).toInt32) 3 (dp) (q) q' ∧ (q'.1 = true → (q).1 = true ∧ (q).2.1 ≤ q'.2.1) ∧ ((q).1 = false → q' = q) ∧ CQ sg τ M' j r p tp ln lt K S V C (ez) (q')) ∧ sz' = sz ∧ τ' = τ ∧ Fr3 j r p M M') := by
  refine CT.of (ls := [.ref j, .int (nI dp), UU, UU]) (by decide) (Nat.le_of_ble_eq_true rfl) rfl ?_
  have hF : Fr3 j r p M M := Fr3.rf _ _ _ _
  have hQ0 := hQ
  obtain ⟨hT, nx, bk, ba, fl, fa, a, b, c, ρ, ν, hn, wn, sn, σ, π, κ, hE, hR, hP, ⟨hs1, hs2, hs3, hn0⟩, hb2, hO⟩ := hQ
  refine T_aload0 dX5_readSum_0 rfl ?_
  refine T_iload1 dX5_readSum_1 rfl ?_
  refine T_cV1 (hPr _ _ _ (ez) (q) hQ0) hX k5_254 (Or.inl ⟨_, _, _, _, (hE.t_j), by decide, rfl⟩) (by omega) (Nat.le_of_ble_eq_true rfl) dX5_readSum_2 rfl ?_
  rintro _ _ _ M8 ⟨⟨rfl, q1, hp1, hm1, hg1, hQ⟩, rfl, rfl, hF9⟩
  have hF := hF.tr hF9
  have hQ0 := hQ
  obtain ⟨hT, nx, bk, ba, fl, fa, a, b, c, ρ, ν, hn, wn, sn, σ, π, κ, hE, hR, hP, ⟨hs1, hs2, hs3, hn0⟩, hb2, hO⟩ := hQ
  refine T_iconst (0) dX5_readSum_5 rfl rfl ?_
  refine T_istore2 rfl (by decide) dX5_readSum_6 rfl ?_
  refine T_cons ?_ (L_X5_readSum hX hd hl hK hK2 hC hdp hPr (lt + 3) 0 (lt + 2) _ _ q1 hQ0 hF (fun _ => Nat.zero_le _) (by omega) (fun _ => by omega) (by omega))
  rintro v9 sz9 τ9 M9' ⟨⟨e1, q2, hp2, hm2, hg2, hq2⟩, e2, e3, hF2⟩
  exact ⟨⟨e1, q2, PR.sum hp1 hp2, fun z => ⟨(hm1 (hm2 z).1).1, Nat.le_trans (hm1 (hm2 z).1).2 (hm2 z).2⟩, fun z => by have := hg1 z; subst this; exact hg2 z, hq2⟩, e2, e3, hF2⟩
set_option maxHeartbeats 1000000 in
theorem c_X5_readSingle {l : Launch} {D : va_G} {cA : Nat → ClassId} {n0 : Nat} {sg adK adV : Nat → Nat} {sgA smA wdA bS LS : Nat} {xs : Nat → Int32} (hX : SF n0 (XW0 sg adK adV sgA smA wdA n0 bS LS xs)) {j r p tp ln lt : Nat} {K : Nat → Nat} {S : Nat → Int32} {V : Nat → Int64} {C : CCT} (hd : (j + 5 ≤ r ∨ r + 38 ≤ j) ∧ (j + 5 ≤ p ∨ p + 30 ≤ j) ∧ (p + 30 ≤ r ∨ r + 38 ≤ p)) (hl : lt ≤ 400) (hK : ∀ i, i ≤ lt → K i < 48) (hK2 : K lt = 45 ∨ K lt = 46) (hC : ∀ a b c ρ ν hn wn π i x, C a b c ρ ν hn wn π → C a b c ρ ν hn wn (u2 π 70 i x)) {dp : Nat} (hdp : dp ≤ 8) {sz : Nat} {τ : TY} {M : ME} (hG1 : dp < 8 → ∀ (sz : Nat) (τ : TY) (M : ME) (ez : Nat) (q : PQ), CQ sg τ M j r p tp ln lt K S V C (ez) (q) → CT l D cA n0 (XW0 sg adK adV sgA smA wdA n0 bS LS xs) mX5_readSingle (10 * (9 - (dp + 1)) + 6) 0 0 sz τ M [.ref j, .int (nI (dp + 1))] (fun v' sz' τ' M' => (v' = none ∧ ∃ q', PR K (fun t => (V t).toInt32) 5 (dp + 1) (q) q' ∧ (q'.1 = true → (q).1 = true ∧ (q).2.1 ≤ q'.2.1) ∧ ((q).1 = false → q' = q) ∧ CQ sg τ M' j r p tp ln lt K S V C (ez) (q')) ∧ sz' = sz ∧ τ' = τ ∧ Fr3 j r p M M')) (hT1 : dp < 8 → ∀ (sz : Nat) (τ : TY) (M : ME) (ez : Nat) (q : PQ), CQ sg τ M j r p tp ln lt K S V C (ez) (q) → CT l D cA n0 (XW0 sg adK adV sgA smA wdA n0 bS LS xs) mX5_readTest (10 * (9 - (dp + 1)) + 8) 0 0 sz τ M [.ref j, .int (nI (dp + 1))] (fun v' sz' τ' M' => (v' = none ∧ ∃ q', PR K (fun t => (V t).toInt32) 8 (dp + 1) (q) q' ∧ (q'.1 = true → (q).1 = true ∧ (q).2.1 ≤ q'.2.1) ∧ ((q).1 = false → q' = q) ∧ CQ sg τ M' j r p tp ln lt K S V C (ez) (q')) ∧ sz' = sz ∧ τ' = τ ∧ Fr3 j r p M M')) (hS : ∀ (sz : Nat) (τ : TY) (M : ME) (ez : Nat) (q : PQ), CQ sg τ M j r p tp ln lt K S V C (ez) (q) → CT l D cA n0 (XW0 sg adK adV sgA smA wdA n0 bS LS xs) mX5_readSum (10 * (9 - (dp)) + 5) 0 0 sz τ M [.ref j, .int (nI (dp))] (fun v' sz' τ' M' => (v' = none ∧ ∃ q', PR K (fun t => (V t).toInt32) 3 (dp) (q) q' ∧ (q'.1 = true → (q).1 = true ∧ (q).2.1 ≤ q'.2.1) ∧ ((q).1 = false → q' = q) ∧ CQ sg τ M' j r p tp ln lt K S V C (ez) (q')) ∧ sz' = sz ∧ τ' = τ ∧ Fr3 j r p M M')) (ez : Nat) (q : PQ) (hQ : CQ sg τ M j r p tp ln lt K S V C (ez) (q)) : CT l D cA n0 (XW0 sg adK adV sgA smA wdA n0 bS LS xs) mX5_readSingle (10 * (9 - dp) + 6) 0 0 sz τ M [.ref j, .int (nI dp)] (fun v' sz' τ' M' => (v' = none ∧ ∃ q', PR K (fun t => (V t).toInt32) 5 (dp) (q) q' ∧ (q'.1 = true → (q).1 = true ∧ (q).2.1 ≤ q'.2.1) ∧ ((q).1 = false → q' = q) ∧ CQ sg τ M' j r p tp ln lt K S V C (ez) (q')) ∧ sz' = sz ∧ τ' = τ ∧ Fr3 j r p M M') := by
  refine CT.of (ls := [.ref j, .int (nI dp), UU]) (by decide) (Nat.le_of_ble_eq_true rfl) rfl ?_
  have hF : Fr3 j r p M M := Fr3.rf _ _ _ _
  have hQ0 := hQ
  obtain ⟨hT, nx, bk, ba, fl, fa, a, b, c, ρ, ν, hn, wn, sn, σ, π, κ, hE, hR, hP, ⟨hs1, hs2, hs3, hn0⟩, hb2, hO⟩ := hQ
  refine T_sginj (fun hinj => ?_)
  have hk := hK nx hn0
  obtain ⟨g, s⟩ := q
  cases g with
  | false =>
    have f1 := (hO.2 rfl).1
    refine T_aload0 dX5_readSingle_0 rfl ?_
    refine T_cV0 (c_X5_sign hX hE hT hn0 hl hK) hX k5_51 (Or.inl ⟨_, _, _, _, (hE.t_j), by decide, rfl⟩) (by omega) (Nat.le_of_ble_eq_true rfl) dX5_readSingle_1 rfl ?_
    rintro _ _ _ _ ⟨rfl, rfl, rfl, rfl⟩
    refine T_sgn (i := 23) (by decide) ks5_238 dX5_readSingle_4 rfl ?_
    refine T_acmp_ne_t 39 dX5_readSingle_7 (by decide) (fun z => absurd (hinj _ _ hk (by decide) z) (by rw [f1]; omega)) ?_
    refine T_aload0 dX5_readSingle_39 rfl ?_
    refine T_cV0 (c_X5_sign hX hE hT hn0 hl hK) hX k5_51 (Or.inl ⟨_, _, _, _, (hE.t_j), by decide, rfl⟩) (by omega) (Nat.le_of_ble_eq_true rfl) dX5_readSingle_40 rfl ?_
    rintro _ _ _ _ ⟨rfl, rfl, rfl, rfl⟩
    refine T_sgn (i := 30) (by decide) ks5_245 dX5_readSingle_43 rfl ?_
    refine T_acmp_ne_t 74 dX5_readSingle_46 (by decide) (fun z => absurd (hinj _ _ hk (by decide) z) (by rw [f1]; omega)) ?_
    refine T_aload0 dX5_readSingle_74 rfl ?_
    refine T_iload1 dX5_readSingle_75 rfl ?_
    refine T_cV1 (hS _ _ _ (ez) ((false, s)) hQ0) hX k5_196 (Or.inl ⟨_, _, _, _, (hE.t_j), by decide, rfl⟩) (by omega) (Nat.le_of_ble_eq_true rfl) dX5_readSingle_76 rfl ?_
    rintro _ _ _ M8 ⟨⟨rfl, q1, hp1, hm1, hg1, hQ⟩, rfl, rfl, hF9⟩
    have hF := hF.tr hF9
    have hQ0 := hQ
    obtain ⟨hT, nx, bk, ba, fl, fa, a, b, c, ρ, ν, hn, wn, sn, σ, π, κ, hE, hR, hP, ⟨hs1, hs2, hs3, hn0⟩, hb2, hO⟩ := hQ
    refine T_aload0 dX5_readSingle_79 rfl ?_
    refine T_cV0 (q_cmp hX hd hl hK hK2 hC hQ0) hX k5_251 (Or.inl ⟨_, _, _, _, (hE.t_j), by decide, rfl⟩) (by omega) (Nat.le_of_ble_eq_true rfl) dX5_readSingle_80 rfl ?_
    rintro _ _ _ M7 ⟨⟨⟨o9, rfl, ho9, ho8⟩, hQ⟩, rfl, rfl, hF9⟩
    have hF := hF.tr hF9
    have hQ0 := hQ
    obtain ⟨hT, nx, bk, ba, fl, fa, a, b, c, ρ, ν, hn, wn, sn, σ, π, κ, hE, hR, hP, ⟨hs1, hs2, hs3, hn0⟩, hb2, hO⟩ := hQ
    refine T_astore2 rfl (by decide) dX5_readSingle_83 rfl ?_
    refine T_aload0 dX5_readSingle_84 rfl ?_
    refine T_iload1 dX5_readSingle_85 rfl ?_
    refine T_cV1 (hS _ _ _ (ez + 1) (tcQ K q1) hQ0) hX k5_196 (Or.inl ⟨_, _, _, _, (hE.t_j), by decide, rfl⟩) (by omega) (Nat.le_of_ble_eq_true rfl) dX5_readSingle_86 rfl ?_
    rintro _ _ _ M8 ⟨⟨rfl, q2, hp2, hm2, hg2, hQ⟩, rfl, rfl, hF9⟩
    have hF := hF.tr hF9
    have hQ0 := hQ
    obtain ⟨hT, nx, bk, ba, fl, fa, a, b, c, ρ, ν, hn, wn, sn, σ, π, κ, hE, hR, hP, ⟨hs1, hs2, hs3, hn0⟩, hb2, hO⟩ := hQ
    refine T_aload0 dX5_readSingle_89 rfl ?_
    refine g5_22 _ rfl (hE.t_j) (hE.g_p) dX5_readSingle_90 rfl ?_
    refine T_aload2 dX5_readSingle_93 rfl ?_
    refine T_iconst (0) dX5_readSingle_94 rfl rfl ?_
    refine T_cV2 (q_step hX hd hl hK hK2 hC hQ0 (o := o9) (o2 := K q1.2.1) ho9 (fun z => ho8 (tcQ_le (hm2 z).1).1) (fun z => by have h9 := tcQ_rg (hm2 z).1; omega)) hX k5_228 (Or.inl ⟨_, _, _, _, (hP.t_p), by decide, rfl⟩) (by omega) (Nat.le_of_ble_eq_true rfl) dX5_readSingle_95 rfl ?_
    rintro _ _ _ M7 ⟨⟨rfl, hQ⟩, rfl, rfl, hF9⟩
    have hF := hF.tr hF9
    have hQ0 := hQ
    obtain ⟨hT, nx, bk, ba, fl, fa, a, b, c, ρ, ν, hn, wn, sn, σ, π, κ, hE, hR, hP, ⟨hs1, hs2, hs3, hn0⟩, hb2, hO⟩ := hQ
    refine T_vret rfl dX5_readSingle_98 ?_
    obtain rfl := hg1 rfl
    obtain rfl := hg2 rfl
    exact ⟨⟨rfl, (false, s), PR.br, (fun z => absurd z (by simp)), (fun _ => rfl), CQ.any hQ0 rfl⟩, rfl, rfl, hF⟩
  | true =>
    obtain ⟨f1, f2, f3, f4, f5, f6⟩ := hO.1 rfl
    have f1 : nx = s.1 := f1
    subst f1 f2
    by_cases e23 : K s.1 = 23
    ·
      have hlt := K_lt hK2 hn0 e23 (by decide) (by decide)
      by_cases hd8 : dp < 8
      ·
        refine T_aload0 dX5_readSingle_0 rfl ?_
        refine T_cV0 (c_X5_sign hX hE hT hn0 hl hK) hX k5_51 (Or.inl ⟨_, _, _, _, (hE.t_j), by decide, rfl⟩) (by omega) (Nat.le_of_ble_eq_true rfl) dX5_readSingle_1 rfl ?_
        rintro _ _ _ _ ⟨rfl, rfl, rfl, rfl⟩
        refine T_sgn (i := 23) (by decide) ks5_238 dX5_readSingle_4 rfl ?_
        refine T_acmp_ne_f 39 10 dX5_readSingle_7 (by decide) rfl (fun z => z (by rw [e23])) ?_
        refine T_aload0 dX5_readSingle_10 rfl ?_
        refine T_iload1 dX5_readSingle_11 rfl ?_
        refine T_cV1 (c_X5_goesDeeper hX hE hT hn0 hl hK hdp) hX k5_241 (Or.inl ⟨_, _, _, _, (hE.t_j), by decide, rfl⟩) (by omega) (Nat.le_of_ble_eq_true rfl) dX5_readSingle_12 rfl ?_
        rintro _ _ _ M9 ⟨rfl, rfl, rfl, hE9⟩
        rw [if_pos hd8] at ⊢
        rw [if_pos hd8, if_pos hd8, if_pos hd8, skN_lt hlt] at hE9
        have hT := (hT.nx hE9.frame (by omega)).rf
        have hR := hR.nx hE9.frame (by omega)
        have hP := hP.nx hE9.frame (by omega)
        have hF := hF.fr hE9.frame (by omega)
        have hE := hE9.rf
        have hn0 := Nat.succ_le_of_lt hlt
        refine T_if_eq_f 98 18 dX5_readSingle_15 (by decide) rfl (by decide) ?_
        refine T_aload0 dX5_readSingle_18 rfl ?_
        refine T_iload1 dX5_readSingle_19 rfl ?_
        refine T_iconst (1) dX5_readSingle_20 rfl rfl ?_
        refine T_iadd dX5_readSingle_21 rfl ?_
        rw [nI_1]
        refine T_cV1 (hG1 hd8 _ _ _ (ez + 1) ((true, adv s 1)) ⟨hT, _, _, _, _, _, _, _, _, _, _, _, _, _, _, _, _, hE, hR, hP, ⟨hs1, hs2, hs3, hn0⟩, Or.inl rfl, hO.sk⟩) hX k5_232 (Or.inl ⟨_, _, _, _, (hE.t_j), by decide, rfl⟩) (by omega) (Nat.le_of_ble_eq_true rfl) dX5_readSingle_22 rfl ?_
        rintro _ _ _ M8 ⟨⟨rfl, q1, hp1, hm1, hg1, hQ⟩, rfl, rfl, hF9⟩
        have hF := hF.tr hF9
        have hQ0 := hQ
        obtain ⟨hT, nx, bk, ba, fl, fa, a, b, c, ρ, ν, hn, wn, sn, σ, π, κ, hE, hR, hP, ⟨hs1, hs2, hs3, hn0⟩, hb2, hO⟩ := hQ
        refine T_aload0 dX5_readSingle_25 rfl ?_
        refine g5_22 _ rfl (hE.t_j) (hE.g_p) dX5_readSingle_26 rfl ?_
        refine T_sgn (i := 23) (by decide) ks5_238 dX5_readSingle_29 rfl ?_
        refine T_iconst (0) dX5_readSingle_32 rfl rfl ?_
        refine T_cV2 (q_step hX hd hl hK hK2 hC hQ0 (o := 23) (o2 := 23) (by decide) (fun _ => rfl) (fun _ => by decide)) hX k5_228 (Or.inl ⟨_, _, _, _, (hP.t_p), by decide, rfl⟩) (by omega) (Nat.le_of_ble_eq_true rfl) dX5_readSingle_33 rfl ?_
        rintro _ _ _ M7 ⟨⟨rfl, hQ⟩, rfl, rfl, hF9⟩
        have hF := hF.tr hF9
        have hQ0 := hQ
        obtain ⟨hT, nx, bk, ba, fl, fa, a, b, c, ρ, ν, hn, wn, sn, σ, π, κ, hE, hR, hP, ⟨hs1, hs2, hs3, hn0⟩, hb2, hO⟩ := hQ
        refine T_goto 98 dX5_readSingle_36 (by decide) ?_
        refine T_vret rfl dX5_readSingle_98 ?_
        exact ⟨⟨rfl, _, PR.nt e23 hd8 hp1, fun z => ⟨rfl, Nat.le_trans (Nat.le_succ _) (hm1 z).2⟩, (fun z => absurd z (by simp)), hQ0⟩, rfl, rfl, hF⟩
      ·
        refine T_aload0 dX5_readSingle_0 rfl ?_
        refine T_cV0 (c_X5_sign hX hE hT hn0 hl hK) hX k5_51 (Or.inl ⟨_, _, _, _, (hE.t_j), by decide, rfl⟩) (by omega) (Nat.le_of_ble_eq_true rfl) dX5_readSingle_1 rfl ?_
        rintro _ _ _ _ ⟨rfl, rfl, rfl, rfl⟩
        refine T_sgn (i := 23) (by decide) ks5_238 dX5_readSingle_4 rfl ?_
        refine T_acmp_ne_f 39 10 dX5_readSingle_7 (by decide) rfl (fun z => z (by rw [e23])) ?_
        refine T_aload0 dX5_readSingle_10 rfl ?_
        refine T_iload1 dX5_readSingle_11 rfl ?_
        refine T_cV1 (c_X5_goesDeeper hX hE hT hn0 hl hK hdp) hX k5_241 (Or.inl ⟨_, _, _, _, (hE.t_j), by decide, rfl⟩) (by omega) (Nat.le_of_ble_eq_true rfl) dX5_readSingle_12 rfl ?_
        rintro _ _ _ M9 ⟨rfl, rfl, rfl, hE9⟩
        rw [if_neg hd8] at ⊢
        rw [if_neg hd8, if_neg hd8, if_neg hd8] at hE9
        have hT := (hT.nx hE9.frame (by omega)).rf
        have hR := hR.nx hE9.frame (by omega)
        have hP := hP.nx hE9.frame (by omega)
        have hF := hF.fr hE9.frame (by omega)
        have hE := hE9.rf
        refine T_if_eq_t 98 dX5_readSingle_15 (by decide) rfl ?_
        refine T_vret rfl dX5_readSingle_98 ?_
        exact ⟨⟨rfl, _, PR.ntf e23 hd8, (fun z => absurd z (by simp)), (fun z => absurd z (by simp)), ⟨hT, _, _, _, _, _, _, _, _, _, _, _, _, _, _, _, _, hE, hR, hP, ⟨hs1, hs2, hs3, Nat.le_refl _⟩, (Or.inr rfl), hO.failq⟩⟩, rfl, rfl, hF⟩
    ·
      by_cases e30 : K s.1 = 30
      ·
        have hlt := K_lt hK2 hn0 e30 (by decide) (by decide)
        by_cases hd8 : dp < 8
        ·
          refine T_aload0 dX5_readSingle_0 rfl ?_
          refine T_cV0 (c_X5_sign hX hE hT hn0 hl hK) hX k5_51 (Or.inl ⟨_, _, _, _, (hE.t_j), by decide, rfl⟩) (by omega) (Nat.le_of_ble_eq_true rfl) dX5_readSingle_1 rfl ?_
          rintro _ _ _ _ ⟨rfl, rfl, rfl, rfl⟩
          refine T_sgn (i := 23) (by decide) ks5_238 dX5_readSingle_4 rfl ?_
          refine T_acmp_ne_t 39 dX5_readSingle_7 (by decide) (fun z => absurd (hinj _ _ hk (by decide) z) (by omega)) ?_
          refine T_aload0 dX5_readSingle_39 rfl ?_
          refine T_cV0 (c_X5_sign hX hE hT hn0 hl hK) hX k5_51 (Or.inl ⟨_, _, _, _, (hE.t_j), by decide, rfl⟩) (by omega) (Nat.le_of_ble_eq_true rfl) dX5_readSingle_40 rfl ?_
          rintro _ _ _ _ ⟨rfl, rfl, rfl, rfl⟩
          refine T_sgn (i := 30) (by decide) ks5_245 dX5_readSingle_43 rfl ?_
          refine T_acmp_ne_f 74 49 dX5_readSingle_46 (by decide) rfl (fun z => z (by rw [e30])) ?_
          refine T_aload0 dX5_readSingle_49 rfl ?_
          refine T_iload1 dX5_readSingle_50 rfl ?_
          refine T_cV1 (c_X5_goesDeeper hX hE hT hn0 hl hK hdp) hX k5_241 (Or.inl ⟨_, _, _, _, (hE.t_j), by decide, rfl⟩) (by omega) (Nat.le_of_ble_eq_true rfl) dX5_readSingle_51 rfl ?_
          rintro _ _ _ M9 ⟨rfl, rfl, rfl, hE9⟩
          rw [if_pos hd8] at ⊢
          rw [if_pos hd8, if_pos hd8, if_pos hd8, skN_lt hlt] at hE9
          have hT := (hT.nx hE9.frame (by omega)).rf
          have hR := hR.nx hE9.frame (by omega)
          have hP := hP.nx hE9.frame (by omega)
          have hF := hF.fr hE9.frame (by omega)
          have hE := hE9.rf
          have hn0 := Nat.succ_le_of_lt hlt
          refine T_if_eq_f 98 57 dX5_readSingle_54 (by decide) rfl (by decide) ?_
          refine T_aload0 dX5_readSingle_57 rfl ?_
          refine T_iload1 dX5_readSingle_58 rfl ?_
          refine T_iconst (1) dX5_readSingle_59 rfl rfl ?_
          refine T_iadd dX5_readSingle_60 rfl ?_
          rw [nI_1]
          refine T_cV1 (hT1 hd8 _ _ _ (ez + 1) ((true, adv s 1)) ⟨hT, _, _, _, _, _, _, _, _, _, _, _, _, _, _, _, _, hE, hR, hP, ⟨hs1, hs2, hs3, hn0⟩, Or.inl rfl, hO.sk⟩) hX k5_203 (Or.inl ⟨_, _, _, _, (hE.t_j), by decide, rfl⟩) (by omega) (Nat.le_of_ble_eq_true rfl) dX5_readSingle_61 rfl ?_
          rintro _ _ _ M8 ⟨⟨rfl, q1, hp1, hm1, hg1, hQ⟩, rfl, rfl, hF9⟩
          have hF := hF.tr hF9
          have hQ0 := hQ
          obtain ⟨hT, nx, bk, ba, fl, fa, a, b, c, ρ, ν, hn, wn, sn, σ, π, κ, hE, hR, hP, ⟨hs1, hs2, hs3, hn0⟩, hb2, hO⟩ := hQ
          refine T_aload0 dX5_readSingle_64 rfl ?_
          refine T_sgn (i := 31) (by decide) ks5_248 dX5_readSingle_65 rfl ?_
          refine T_cV1 (q_take hX hd hl hK hK2 hC (ez := _) hQ0 (k := 31) (by decide) (by decide) (by decide)) hX k5_92 (Or.inl ⟨_, _, _, _, (hE.t_j), by decide, rfl⟩) (by omega) (Nat.le_of_ble_eq_true rfl) dX5_readSingle_68 rfl ?_
          rintro _ _ _ M7 ⟨⟨rfl, hQ⟩, rfl, rfl, hF9⟩
          have hF := hF.tr hF9
          have hQ0 := hQ
          obtain ⟨hT, nx, bk, ba, fl, fa, a, b, c, ρ, ν, hn, wn, sn, σ, π, κ, hE, hR, hP, ⟨hs1, hs2, hs3, hn0⟩, hb2, hO⟩ := hQ
          refine T_goto 98 dX5_readSingle_71 (by decide) ?_
          refine T_vret rfl dX5_readSingle_98 ?_
          exact ⟨⟨rfl, _, PR.brk e30 hd8 hp1, fun z => ⟨rfl, Nat.le_trans (Nat.le_trans (Nat.le_succ _) (hm1 (tkQ_le z).1).2) (tkQ_le z).2⟩, (fun z => absurd z (by simp)), hQ0.ezm (Nat.le_succ _)⟩, rfl, rfl, hF⟩
        ·
          refine T_aload0 dX5_readSingle_0 rfl ?_
          refine T_cV0 (c_X5_sign hX hE hT hn0 hl hK) hX k5_51 (Or.inl ⟨_, _, _, _, (hE.t_j), by decide, rfl⟩) (by omega) (Nat.le_of_ble_eq_true rfl) dX5_readSingle_1 rfl ?_
          rintro _ _ _ _ ⟨rfl, rfl, rfl, rfl⟩
          refine T_sgn (i := 23) (by decide) ks5_238 dX5_readSingle_4 rfl ?_
          refine T_acmp_ne_t 39 dX5_readSingle_7 (by decide) (fun z => absurd (hinj _ _ hk (by decide) z) (by omega)) ?_
          refine T_aload0 dX5_readSingle_39 rfl ?_
          refine T_cV0 (c_X5_sign hX hE hT hn0 hl hK) hX k5_51 (Or.inl ⟨_, _, _, _, (hE.t_j), by decide, rfl⟩) (by omega) (Nat.le_of_ble_eq_true rfl) dX5_readSingle_40 rfl ?_
          rintro _ _ _ _ ⟨rfl, rfl, rfl, rfl⟩
          refine T_sgn (i := 30) (by decide) ks5_245 dX5_readSingle_43 rfl ?_
          refine T_acmp_ne_f 74 49 dX5_readSingle_46 (by decide) rfl (fun z => z (by rw [e30])) ?_
          refine T_aload0 dX5_readSingle_49 rfl ?_
          refine T_iload1 dX5_readSingle_50 rfl ?_
          refine T_cV1 (c_X5_goesDeeper hX hE hT hn0 hl hK hdp) hX k5_241 (Or.inl ⟨_, _, _, _, (hE.t_j), by decide, rfl⟩) (by omega) (Nat.le_of_ble_eq_true rfl) dX5_readSingle_51 rfl ?_
          rintro _ _ _ M9 ⟨rfl, rfl, rfl, hE9⟩
          rw [if_neg hd8] at ⊢
          rw [if_neg hd8, if_neg hd8, if_neg hd8] at hE9
          have hT := (hT.nx hE9.frame (by omega)).rf
          have hR := hR.nx hE9.frame (by omega)
          have hP := hP.nx hE9.frame (by omega)
          have hF := hF.fr hE9.frame (by omega)
          have hE := hE9.rf
          refine T_if_eq_t 98 dX5_readSingle_54 (by decide) rfl ?_
          refine T_vret rfl dX5_readSingle_98 ?_
          exact ⟨⟨rfl, _, PR.bkf e30 hd8, (fun z => absurd z (by simp)), (fun z => absurd z (by simp)), ⟨hT, _, _, _, _, _, _, _, _, _, _, _, _, _, _, _, _, hE, hR, hP, ⟨hs1, hs2, hs3, Nat.le_refl _⟩, (Or.inr rfl), hO.failq⟩⟩, rfl, rfl, hF⟩
      ·
        refine T_aload0 dX5_readSingle_0 rfl ?_
        refine T_cV0 (c_X5_sign hX hE hT hn0 hl hK) hX k5_51 (Or.inl ⟨_, _, _, _, (hE.t_j), by decide, rfl⟩) (by omega) (Nat.le_of_ble_eq_true rfl) dX5_readSingle_1 rfl ?_
        rintro _ _ _ _ ⟨rfl, rfl, rfl, rfl⟩
        refine T_sgn (i := 23) (by decide) ks5_238 dX5_readSingle_4 rfl ?_
        refine T_acmp_ne_t 39 dX5_readSingle_7 (by decide) (fun z => absurd (hinj _ _ hk (by decide) z) (by omega)) ?_
        refine T_aload0 dX5_readSingle_39 rfl ?_
        refine T_cV0 (c_X5_sign hX hE hT hn0 hl hK) hX k5_51 (Or.inl ⟨_, _, _, _, (hE.t_j), by decide, rfl⟩) (by omega) (Nat.le_of_ble_eq_true rfl) dX5_readSingle_40 rfl ?_
        rintro _ _ _ _ ⟨rfl, rfl, rfl, rfl⟩
        refine T_sgn (i := 30) (by decide) ks5_245 dX5_readSingle_43 rfl ?_
        refine T_acmp_ne_t 74 dX5_readSingle_46 (by decide) (fun z => absurd (hinj _ _ hk (by decide) z) (by omega)) ?_
        refine T_aload0 dX5_readSingle_74 rfl ?_
        refine T_iload1 dX5_readSingle_75 rfl ?_
        refine T_cV1 (hS _ _ _ (ez) ((true, s)) hQ0) hX k5_196 (Or.inl ⟨_, _, _, _, (hE.t_j), by decide, rfl⟩) (by omega) (Nat.le_of_ble_eq_true rfl) dX5_readSingle_76 rfl ?_
        rintro _ _ _ M8 ⟨⟨rfl, q1, hp1, hm1, hg1, hQ⟩, rfl, rfl, hF9⟩
        have hF := hF.tr hF9
        have hQ0 := hQ
        obtain ⟨hT, nx, bk, ba, fl, fa, a, b, c, ρ, ν, hn, wn, sn, σ, π, κ, hE, hR, hP, ⟨hs1, hs2, hs3, hn0⟩, hb2, hO⟩ := hQ
        refine T_aload0 dX5_readSingle_79 rfl ?_
        refine T_cV0 (q_cmp hX hd hl hK hK2 hC hQ0) hX k5_251 (Or.inl ⟨_, _, _, _, (hE.t_j), by decide, rfl⟩) (by omega) (Nat.le_of_ble_eq_true rfl) dX5_readSingle_80 rfl ?_
        rintro _ _ _ M7 ⟨⟨⟨o9, rfl, ho9, ho8⟩, hQ⟩, rfl, rfl, hF9⟩
        have hF := hF.tr hF9
        have hQ0 := hQ
        obtain ⟨hT, nx, bk, ba, fl, fa, a, b, c, ρ, ν, hn, wn, sn, σ, π, κ, hE, hR, hP, ⟨hs1, hs2, hs3, hn0⟩, hb2, hO⟩ := hQ
        refine T_astore2 rfl (by decide) dX5_readSingle_83 rfl ?_
        refine T_aload0 dX5_readSingle_84 rfl ?_
        refine T_iload1 dX5_readSingle_85 rfl ?_
        refine T_cV1 (hS _ _ _ (ez + 1) (tcQ K q1) hQ0) hX k5_196 (Or.inl ⟨_, _, _, _, (hE.t_j), by decide, rfl⟩) (by omega) (Nat.le_of_ble_eq_true rfl) dX5_readSingle_86 rfl ?_
        rintro _ _ _ M8 ⟨⟨rfl, q2, hp2, hm2, hg2, hQ⟩, rfl, rfl, hF9⟩
        have hF := hF.tr hF9
        have hQ0 := hQ
        obtain ⟨hT, nx, bk, ba, fl, fa, a, b, c, ρ, ν, hn, wn, sn, σ, π, κ, hE, hR, hP, ⟨hs1, hs2, hs3, hn0⟩, hb2, hO⟩ := hQ
        refine T_aload0 dX5_readSingle_89 rfl ?_
        refine g5_22 _ rfl (hE.t_j) (hE.g_p) dX5_readSingle_90 rfl ?_
        refine T_aload2 dX5_readSingle_93 rfl ?_
        refine T_iconst (0) dX5_readSingle_94 rfl rfl ?_
        refine T_cV2 (q_step hX hd hl hK hK2 hC hQ0 (o := o9) (o2 := K q1.2.1) ho9 (fun z => ho8 (tcQ_le (hm2 z).1).1) (fun z => by have h9 := tcQ_rg (hm2 z).1; omega)) hX k5_228 (Or.inl ⟨_, _, _, _, (hP.t_p), by decide, rfl⟩) (by omega) (Nat.le_of_ble_eq_true rfl) dX5_readSingle_95 rfl ?_
        rintro _ _ _ M7 ⟨⟨rfl, hQ⟩, rfl, rfl, hF9⟩
        have hF := hF.tr hF9
        have hQ0 := hQ
        obtain ⟨hT, nx, bk, ba, fl, fa, a, b, c, ρ, ν, hn, wn, sn, σ, π, κ, hE, hR, hP, ⟨hs1, hs2, hs3, hn0⟩, hb2, hO⟩ := hQ
        refine T_vret rfl dX5_readSingle_98 ?_
        exact ⟨⟨rfl, _, PR.cmp e23 e30 hp1 hp2, fun z => ⟨rfl, Nat.le_trans (hm1 (tcQ_le (hm2 z).1).1).2 (Nat.le_trans (tcQ_le (hm2 z).1).2 (hm2 z).2)⟩, (fun z => absurd z (by simp)), hQ0⟩, rfl, rfl, hF⟩
set_option maxHeartbeats 1000000 in
theorem L_X5_readBoth {l : Launch} {D : va_G} {cA : Nat → ClassId} {n0 : Nat} {sg adK adV : Nat → Nat} {sgA smA wdA bS LS : Nat} {xs : Nat → Int32} (hX : SF n0 (XW0 sg adK adV sgA smA wdA n0 bS LS xs)) {j r p tp ln lt : Nat} {K : Nat → Nat} {S : Nat → Int32} {V : Nat → Int64} {C : CCT} (hd : (j + 5 ≤ r ∨ r + 38 ≤ j) ∧ (j + 5 ≤ p ∨ p + 30 ≤ j) ∧ (p + 30 ≤ r ∨ r + 38 ≤ p)) (hl : lt ≤ 400) (hK : ∀ i, i ≤ lt → K i < 48) (hK2 : K lt = 45 ∨ K lt = 46) (hC : ∀ a b c ρ ν hn wn π i x, C a b c ρ ν hn wn π → C a b c ρ ν hn wn (u2 π 70 i x)) {dp : Nat} (hdp : dp ≤ 8) {sz : Nat} {τ : TY} {M : ME} {ez : Nat} (hG : ∀ (sz : Nat) (τ : TY) (M : ME) (ez : Nat) (q : PQ), CQ sg τ M j r p tp ln lt K S V C (ez) (q) → CT l D cA n0 (XW0 sg adK adV sgA smA wdA n0 bS LS xs) mX5_readSingle (10 * (9 - (dp)) + 6) 0 0 sz τ M [.ref j, .int (nI (dp))] (fun v' sz' τ' M' => (v' = none ∧ ∃ q', PR K (fun t => (V t).toInt32) 5 (dp) (q) q' ∧ (q'.1 = true → (q).1 = true ∧ (q).2.1 ≤ q'.2.1) ∧ ((q).1 = false → q' = q) ∧ CQ sg τ M' j r p tp ln lt K S V C (ez) (q')) ∧ sz' = sz ∧ τ' = τ ∧ Fr3 j r p M M')) : ∀ (n : Nat) (i w : Nat) (Mk : ME) (q : PQ) (hQ : CQ sg τ Mk j r p tp ln lt K S V C (ez) (q)) (hF : Fr3 j r p M Mk) (hi : q.1 = true → i ≤ q.2.1) (hi4 : i ≤ 400) (hw : q.1 = true → lt + 1 ≤ w + q.2.1) (hwn : w < n), T l D cA n0 (XW0 sg adK adV sgA smA wdA n0 bS LS xs) mX5_readBoth (10 * (9 - dp) + 7) 0 0 sz τ Mk 7 [.ref j, .int (nI dp), .int (nI i)] [] (fun v' sz' τ' M' => (v' = none ∧ ∃ q', PR K (fun t => (V t).toInt32) 7 (dp) (q) q' ∧ (q'.1 = true → (q).1 = true ∧ (q).2.1 ≤ q'.2.1) ∧ ((q).1 = false → q' = q) ∧ CQ sg τ M' j r p tp ln lt K S V C (ez) (q')) ∧ sz' = sz ∧ τ' = τ ∧ Fr3 j r p M M') (fun _ _ _ _ => False) := by
  intro n
  induction n with
  | zero => intros; omega
  | succ n ih =>
    intro i w Mk q hQ hF hi hi4 hw hwn
    have hQ0 := hQ
    obtain ⟨hT, nx, bk, ba, fl, fa, a, b, c, ρ, ν, hn, wn, sn, σ, π, κ, hE, hR, hP, ⟨hs1, hs2, hs3, hn0⟩, hb2, hO⟩ := hQ
    refine T_sginj (fun hinj => ?_)
    have hk := hK nx hn0
    obtain ⟨g, s⟩ := q
    cases g with
    | false =>
      have f1 := (hO.2 rfl).1
      have e0 : ¬ K nx = 24 := by rw [f1]; omega
      refine T_iload2 dX5_readBoth_7 rfl ?_
      refine T_sipush (400) dX5_readBoth_8 rfl rfl ?_
      refine T_icmp_ge 46 14 dX5_readBoth_11 (by decide) rfl (fun c11 => ?_) (fun c11 => ?_)
      ·
        refine T_vret rfl dX5_readBoth_46 ?_
        exact ⟨⟨rfl, _, PR.br, (fun z => absurd z (by simp)), (fun _ => rfl), ⟨hT, _, _, _, _, _, _, _, _, _, _, _, _, _, _, _, _, hE, hR, hP, ⟨hs1, hs2, hs3, hn0⟩, hb2, hO⟩⟩, rfl, rfl, hF⟩
      ·
        refine T_aload0 dX5_readBoth_14 rfl ?_
        refine T_sgn (i := 24) (by decide) ks5_235 dX5_readBoth_15 rfl ?_
        refine T_cV1 (c_X5_tryTake hX hE hT hn0 hl hK (k := 24) (by decide)) hX k5_138 (Or.inl ⟨_, _, _, _, (hE.t_j), by decide, rfl⟩) (by omega) (Nat.le_of_ble_eq_true rfl) dX5_readBoth_18 rfl ?_
        rintro _ _ _ M9 ⟨rfl, rfl, rfl, hE9⟩
        rw [if_neg e0] at ⊢
        rw [if_neg e0] at hE9
        have hT := (hT.nx hE9.frame (by omega)).rf
        have hR := hR.nx hE9.frame (by omega)
        have hP := hP.nx hE9.frame (by omega)
        have hF := hF.fr hE9.frame (by omega)
        have hE := hE9.rf
        refine T_if_eq_t 46 dX5_readBoth_21 (by decide) rfl ?_
        refine T_vret rfl dX5_readBoth_46 ?_
        exact ⟨⟨rfl, _, PR.br, (fun z => absurd z (by simp)), (fun _ => rfl), ⟨hT, _, _, _, _, _, _, _, _, _, _, _, _, _, _, _, _, hE, hR, hP, ⟨hs1, hs2, hs3, hn0⟩, hb2, hO⟩⟩, rfl, rfl, hF⟩
    | true =>
      obtain ⟨f1, f2, f3, f4, f5, f6⟩ := hO.1 rfl
      have f1 : nx = s.1 := f1
      subst f1 f2
      have hi0 : i ≤ s.1 := hi rfl
      have hw0 : lt + 1 ≤ w + s.1 := hw rfl
      by_cases e0 : K s.1 = 24
      ·
        have hlt := K_lt hK2 hn0 e0 (by decide) (by decide)
        refine T_iload2 dX5_readBoth_7 rfl ?_
        refine T_sipush (400) dX5_readBoth_8 rfl rfl ?_
        refine T_icmp_ge_f 46 14 dX5_readBoth_11 (by decide) rfl (fun z => absurd ((nI_leI (a := 400) (b := i) (by omega) (by omega)).mp z) (by omega)) ?_
        refine T_aload0 dX5_readBoth_14 rfl ?_
        refine T_sgn (i := 24) (by decide) ks5_235 dX5_readBoth_15 rfl ?_
        refine T_cV1 (c_X5_tryTake hX hE hT hn0 hl hK (k := 24) (by decide)) hX k5_138 (Or.inl ⟨_, _, _, _, (hE.t_j), by decide, rfl⟩) (by omega) (Nat.le_of_ble_eq_true rfl) dX5_readBoth_18 rfl ?_
        rintro _ _ _ M9 ⟨rfl, rfl, rfl, hE9⟩
        rw [if_pos e0] at ⊢
        rw [if_pos e0, skN_lt hlt] at hE9
        have hT := (hT.nx hE9.frame (by omega)).rf
        have hR := hR.nx hE9.frame (by omega)
        have hP := hP.nx hE9.frame (by omega)
        have hF := hF.fr hE9.frame (by omega)
        have hE := hE9.rf
        have hn0 := Nat.succ_le_of_lt hlt
        refine T_if_eq_f 46 24 dX5_readBoth_21 (by decide) rfl (by decide) ?_
        refine T_aload0 dX5_readBoth_24 rfl ?_
        refine T_iload1 dX5_readBoth_25 rfl ?_
        refine T_cV1 (hG _ _ _ (ez + 1) ((true, adv s 1)) ⟨hT, _, _, _, _, _, _, _, _, _, _, _, _, _, _, _, _, hE, hR, hP, ⟨hs1, hs2, hs3, hn0⟩, Or.inl rfl, hO.sk⟩) hX k5_232 (Or.inl ⟨_, _, _, _, (hE.t_j), by decide, rfl⟩) (by omega) (Nat.le_of_ble_eq_true rfl) dX5_readBoth_26 rfl ?_
        rintro _ _ _ M8 ⟨⟨rfl, q1, hp1, hm1, hg1, hQ⟩, rfl, rfl, hF9⟩
        have hF := hF.tr hF9
        have hQ0 := hQ
        obtain ⟨hT, nx, bk, ba, fl, fa, a, b, c, ρ, ν, hn, wn, sn, σ, π, κ, hE, hR, hP, ⟨hs1, hs2, hs3, hn0⟩, hb2, hO⟩ := hQ
        refine T_aload0 dX5_readBoth_29 rfl ?_
        refine g5_22 _ rfl (hE.t_j) (hE.g_p) dX5_readBoth_30 rfl ?_
        refine T_sgn (i := 24) (by decide) ks5_235 dX5_readBoth_33 rfl ?_
        refine T_iconst (0) dX5_readBoth_36 rfl rfl ?_
        refine T_cV2 (q_step hX hd hl hK hK2 hC hQ0 (o := 24) (o2 := 24) (by decide) (fun _ => rfl) (fun _ => by decide)) hX k5_228 (Or.inl ⟨_, _, _, _, (hP.t_p), by decide, rfl⟩) (by omega) (Nat.le_of_ble_eq_true rfl) dX5_readBoth_37 rfl ?_
        rintro _ _ _ M7 ⟨⟨rfl, hQ⟩, rfl, rfl, hF9⟩
        have hF := hF.tr hF9
        have hQ0 := hQ
        obtain ⟨hT, nx, bk, ba, fl, fa, a, b, c, ρ, ν, hn, wn, sn, σ, π, κ, hE, hR, hP, ⟨hs1, hs2, hs3, hn0⟩, hb2, hO⟩ := hQ
        first | refine T_iinc2 rfl (by decide) dX5_readBoth_40 rfl (inc1 _) ?_ | refine T_iinc2 rfl (by decide) dX5_readBoth_40 rfl rfl ?_
        refine T_goto 7 dX5_readBoth_43 (by decide) ?_
        have hs1' : s.1 + 1 ≤ lt := hlt
        refine T_cons ?_ (ih (i + 1) (w - 1) _ (adQ q1 24) hQ0 hF (fun z => by have h1 : s.1 + 1 ≤ q1.2.1 := (hm1 z).2; show i + 1 ≤ q1.2.1; omega) (by omega) (fun z => by have h1 : s.1 + 1 ≤ q1.2.1 := (hm1 z).2; show lt + 1 ≤ w - 1 + q1.2.1; omega) (by omega))
        rintro v9 sz9 τ9 M9' ⟨⟨e1, q2, hp2, hm2, hg2, hq2⟩, e2, e3, hF2⟩
        exact ⟨⟨e1, q2, PR.btl e0 hp1 hp2, fun z => ⟨rfl, by have h1 := hm2 z; have h2 : s.1 + 1 ≤ q1.2.1 := (hm1 h1.1).2; have h3 : q1.2.1 ≤ q2.2.1 := h1.2; show s.1 ≤ q2.2.1; omega⟩, (fun z => absurd z (by simp)), hq2⟩, e2, e3, hF2⟩
      ·
        refine T_iload2 dX5_readBoth_7 rfl ?_
        refine T_sipush (400) dX5_readBoth_8 rfl rfl ?_
        refine T_icmp_ge 46 14 dX5_readBoth_11 (by decide) rfl (fun c11 => ?_) (fun c11 => ?_)
        ·
          refine T_vret rfl dX5_readBoth_46 ?_
          exact ⟨⟨rfl, _, PR.bte e0, (fun _ => ⟨rfl, Nat.le_refl _⟩), (fun z => absurd z (by simp)), ⟨hT, _, _, _, _, _, _, _, _, _, _, _, _, _, _, _, _, hE, hR, hP, ⟨hs1, hs2, hs3, hn0⟩, (Or.inl rfl), hO⟩⟩, rfl, rfl, hF⟩
        ·
          refine T_aload0 dX5_readBoth_14 rfl ?_
          refine T_sgn (i := 24) (by decide) ks5_235 dX5_readBoth_15 rfl ?_
          refine T_cV1 (c_X5_tryTake hX hE hT hn0 hl hK (k := 24) (by decide)) hX k5_138 (Or.inl ⟨_, _, _, _, (hE.t_j), by decide, rfl⟩) (by omega) (Nat.le_of_ble_eq_true rfl) dX5_readBoth_18 rfl ?_
          rintro _ _ _ M9 ⟨rfl, rfl, rfl, hE9⟩
          rw [if_neg e0] at ⊢
          rw [if_neg e0] at hE9
          have hT := (hT.nx hE9.frame (by omega)).rf
          have hR := hR.nx hE9.frame (by omega)
          have hP := hP.nx hE9.frame (by omega)
          have hF := hF.fr hE9.frame (by omega)
          have hE := hE9.rf
          refine T_if_eq_t 46 dX5_readBoth_21 (by decide) rfl ?_
          refine T_vret rfl dX5_readBoth_46 ?_
          exact ⟨⟨rfl, _, PR.bte e0, (fun _ => ⟨rfl, Nat.le_refl _⟩), (fun z => absurd z (by simp)), ⟨hT, _, _, _, _, _, _, _, _, _, _, _, _, _, _, _, _, hE, hR, hP, ⟨hs1, hs2, hs3, hn0⟩, (Or.inl rfl), hO⟩⟩, rfl, rfl, hF⟩
set_option maxHeartbeats 1000000 in
theorem c_X5_readBoth {l : Launch} {D : va_G} {cA : Nat → ClassId} {n0 : Nat} {sg adK adV : Nat → Nat} {sgA smA wdA bS LS : Nat} {xs : Nat → Int32} (hX : SF n0 (XW0 sg adK adV sgA smA wdA n0 bS LS xs)) {j r p tp ln lt : Nat} {K : Nat → Nat} {S : Nat → Int32} {V : Nat → Int64} {C : CCT} (hd : (j + 5 ≤ r ∨ r + 38 ≤ j) ∧ (j + 5 ≤ p ∨ p + 30 ≤ j) ∧ (p + 30 ≤ r ∨ r + 38 ≤ p)) (hl : lt ≤ 400) (hK : ∀ i, i ≤ lt → K i < 48) (hK2 : K lt = 45 ∨ K lt = 46) (hC : ∀ a b c ρ ν hn wn π i x, C a b c ρ ν hn wn π → C a b c ρ ν hn wn (u2 π 70 i x)) {dp : Nat} (hdp : dp ≤ 8) {sz : Nat} {τ : TY} {M : ME} (hG : ∀ (sz : Nat) (τ : TY) (M : ME) (ez : Nat) (q : PQ), CQ sg τ M j r p tp ln lt K S V C (ez) (q) → CT l D cA n0 (XW0 sg adK adV sgA smA wdA n0 bS LS xs) mX5_readSingle (10 * (9 - (dp)) + 6) 0 0 sz τ M [.ref j, .int (nI (dp))] (fun v' sz' τ' M' => (v' = none ∧ ∃ q', PR K (fun t => (V t).toInt32) 5 (dp) (q) q' ∧ (q'.1 = true → (q).1 = true ∧ (q).2.1 ≤ q'.2.1) ∧ ((q).1 = false → q' = q) ∧ CQ sg τ M' j r p tp ln lt K S V C (ez) (q')) ∧ sz' = sz ∧ τ' = τ ∧ Fr3 j r p M M')) (ez : Nat) (q : PQ) (hQ : CQ sg τ M j r p tp ln lt K S V C (ez) (q)) : CT l D cA n0 (XW0 sg adK adV sgA smA wdA n0 bS LS xs) mX5_readBoth (10 * (9 - dp) + 7) 0 0 sz τ M [.ref j, .int (nI dp)] (fun v' sz' τ' M' => (v' = none ∧ ∃ q', PR K (fun t => (V t).toInt32) 6 (dp) (q) q' ∧ (q'.1 = true → (q).1 = true ∧ (q).2.1 ≤ q'.2.1) ∧ ((q).1 = false → q' = q) ∧ CQ sg τ M' j r p tp ln lt K S V C (ez) (q')) ∧ sz' = sz ∧ τ' = τ ∧ Fr3 j r p M M') := by
  refine CT.of (ls := [.ref j, .int (nI dp), UU]) (by decide) (Nat.le_of_ble_eq_true rfl) rfl ?_
  have hF : Fr3 j r p M M := Fr3.rf _ _ _ _
  have hQ0 := hQ
  obtain ⟨hT, nx, bk, ba, fl, fa, a, b, c, ρ, ν, hn, wn, sn, σ, π, κ, hE, hR, hP, ⟨hs1, hs2, hs3, hn0⟩, hb2, hO⟩ := hQ
  refine T_aload0 dX5_readBoth_0 rfl ?_
  refine T_iload1 dX5_readBoth_1 rfl ?_
  refine T_cV1 (hG _ _ _ (ez) (q) hQ0) hX k5_232 (Or.inl ⟨_, _, _, _, (hE.t_j), by decide, rfl⟩) (by omega) (Nat.le_of_ble_eq_true rfl) dX5_readBoth_2 rfl ?_
  rintro _ _ _ M8 ⟨⟨rfl, q1, hp1, hm1, hg1, hQ⟩, rfl, rfl, hF9⟩
  have hF := hF.tr hF9
  have hQ0 := hQ
  obtain ⟨hT, nx, bk, ba, fl, fa, a, b, c, ρ, ν, hn, wn, sn, σ, π, κ, hE, hR, hP, ⟨hs1, hs2, hs3, hn0⟩, hb2, hO⟩ := hQ
  refine T_iconst (0) dX5_readBoth_5 rfl rfl ?_
  refine T_istore2 rfl (by decide) dX5_readBoth_6 rfl ?_
  refine T_cons ?_ (L_X5_readBoth hX hd hl hK hK2 hC hdp hG (lt + 3) 0 (lt + 2) _ q1 hQ0 hF (fun _ => Nat.zero_le _) (by omega) (fun _ => by omega) (by omega))
  rintro v9 sz9 τ9 M9' ⟨⟨e1, q2, hp2, hm2, hg2, hq2⟩, e2, e3, hF2⟩
  exact ⟨⟨e1, q2, PR.bth hp1 hp2, fun z => ⟨(hm1 (hm2 z).1).1, Nat.le_trans (hm1 (hm2 z).1).2 (hm2 z).2⟩, fun z => by have := hg1 z; subst this; exact hg2 z, hq2⟩, e2, e3, hF2⟩
set_option maxHeartbeats 1000000 in
theorem L_X5_readTest {l : Launch} {D : va_G} {cA : Nat → ClassId} {n0 : Nat} {sg adK adV : Nat → Nat} {sgA smA wdA bS LS : Nat} {xs : Nat → Int32} (hX : SF n0 (XW0 sg adK adV sgA smA wdA n0 bS LS xs)) {j r p tp ln lt : Nat} {K : Nat → Nat} {S : Nat → Int32} {V : Nat → Int64} {C : CCT} (hd : (j + 5 ≤ r ∨ r + 38 ≤ j) ∧ (j + 5 ≤ p ∨ p + 30 ≤ j) ∧ (p + 30 ≤ r ∨ r + 38 ≤ p)) (hl : lt ≤ 400) (hK : ∀ i, i ≤ lt → K i < 48) (hK2 : K lt = 45 ∨ K lt = 46) (hC : ∀ a b c ρ ν hn wn π i x, C a b c ρ ν hn wn π → C a b c ρ ν hn wn (u2 π 70 i x)) {dp : Nat} (hdp : dp ≤ 8) {sz : Nat} {τ : TY} {M : ME} {ez : Nat} (hB : ∀ (sz : Nat) (τ : TY) (M : ME) (ez : Nat) (q : PQ), CQ sg τ M j r p tp ln lt K S V C (ez) (q) → CT l D cA n0 (XW0 sg adK adV sgA smA wdA n0 bS LS xs) mX5_readBoth (10 * (9 - (dp)) + 7) 0 0 sz τ M [.ref j, .int (nI (dp))] (fun v' sz' τ' M' => (v' = none ∧ ∃ q', PR K (fun t => (V t).toInt32) 6 (dp) (q) q' ∧ (q'.1 = true → (q).1 = true ∧ (q).2.1 ≤ q'.2.1) ∧ ((q).1 = false → q' = q) ∧ CQ sg τ M' j r p tp ln lt K S V C (ez) (q')) ∧ sz' = sz ∧ τ' = τ ∧ Fr3 j r p M M')) : ∀ (n : Nat) (i w : Nat) (Mk : ME) (q : PQ) (hQ : CQ sg τ Mk j r p tp ln lt K S V C (ez) (q)) (hF : Fr3 j r p M Mk) (hi : q.1 = true → i ≤ q.2.1) (hi4 : i ≤ 400) (hw : q.1 = true → lt + 1 ≤ w + q.2.1) (hwn : w < n), T l D cA n0 (XW0 sg adK adV sgA smA wdA n0 bS LS xs) mX5_readTest (10 * (9 - dp) + 8) 0 0 sz τ Mk 7 [.ref j, .int (nI dp), .int (nI i)] [] (fun v' sz' τ' M' => (v' = none ∧ ∃ q', PR K (fun t => (V t).toInt32) 9 (dp) (q) q' ∧ (q'.1 = true → (q).1 = true ∧ (q).2.1 ≤ q'.2.1) ∧ ((q).1 = false → q' = q) ∧ CQ sg τ M' j r p tp ln lt K S V C (ez) (q')) ∧ sz' = sz ∧ τ' = τ ∧ Fr3 j r p M M') (fun _ _ _ _ => False) := by
  intro n
  induction n with
  | zero => intros; omega
  | succ n ih =>
    intro i w Mk q hQ hF hi hi4 hw hwn
    have hQ0 := hQ
    obtain ⟨hT, nx, bk, ba, fl, fa, a, b, c, ρ, ν, hn, wn, sn, σ, π, κ, hE, hR, hP, ⟨hs1, hs2, hs3, hn0⟩, hb2, hO⟩ := hQ
    refine T_sginj (fun hinj => ?_)
    have hk := hK nx hn0
    obtain ⟨g, s⟩ := q
    cases g with
    | false =>
      have f1 := (hO.2 rfl).1
      have e0 : ¬ K nx = 25 := by rw [f1]; omega
      refine T_iload2 dX5_readTest_7 rfl ?_
      refine T_sipush (400) dX5_readTest_8 rfl rfl ?_
      refine T_icmp_ge 46 14 dX5_readTest_11 (by decide) rfl (fun c11 => ?_) (fun c11 => ?_)
      ·
        refine T_vret rfl dX5_readTest_46 ?_
        exact ⟨⟨rfl, _, PR.br, (fun z => absurd z (by simp)), (fun _ => rfl), ⟨hT, _, _, _, _, _, _, _, _, _, _, _, _, _, _, _, _, hE, hR, hP, ⟨hs1, hs2, hs3, hn0⟩, hb2, hO⟩⟩, rfl, rfl, hF⟩
      ·
        refine T_aload0 dX5_readTest_14 rfl ?_
        refine T_sgn (i := 25) (by decide) ks5_225 dX5_readTest_15 rfl ?_
        refine T_cV1 (c_X5_tryTake hX hE hT hn0 hl hK (k := 25) (by decide)) hX k5_138 (Or.inl ⟨_, _, _, _, (hE.t_j), by decide, rfl⟩) (by omega) (Nat.le_of_ble_eq_true rfl) dX5_readTest_18 rfl ?_
        rintro _ _ _ M9 ⟨rfl, rfl, rfl, hE9⟩
        rw [if_neg e0] at ⊢
        rw [if_neg e0] at hE9
        have hT := (hT.nx hE9.frame (by omega)).rf
        have hR := hR.nx hE9.frame (by omega)
        have hP := hP.nx hE9.frame (by omega)
        have hF := hF.fr hE9.frame (by omega)
        have hE := hE9.rf
        refine T_if_eq_t 46 dX5_readTest_21 (by decide) rfl ?_
        refine T_vret rfl dX5_readTest_46 ?_
        exact ⟨⟨rfl, _, PR.br, (fun z => absurd z (by simp)), (fun _ => rfl), ⟨hT, _, _, _, _, _, _, _, _, _, _, _, _, _, _, _, _, hE, hR, hP, ⟨hs1, hs2, hs3, hn0⟩, hb2, hO⟩⟩, rfl, rfl, hF⟩
    | true =>
      obtain ⟨f1, f2, f3, f4, f5, f6⟩ := hO.1 rfl
      have f1 : nx = s.1 := f1
      subst f1 f2
      have hi0 : i ≤ s.1 := hi rfl
      have hw0 : lt + 1 ≤ w + s.1 := hw rfl
      by_cases e0 : K s.1 = 25
      ·
        have hlt := K_lt hK2 hn0 e0 (by decide) (by decide)
        refine T_iload2 dX5_readTest_7 rfl ?_
        refine T_sipush (400) dX5_readTest_8 rfl rfl ?_
        refine T_icmp_ge_f 46 14 dX5_readTest_11 (by decide) rfl (fun z => absurd ((nI_leI (a := 400) (b := i) (by omega) (by omega)).mp z) (by omega)) ?_
        refine T_aload0 dX5_readTest_14 rfl ?_
        refine T_sgn (i := 25) (by decide) ks5_225 dX5_readTest_15 rfl ?_
        refine T_cV1 (c_X5_tryTake hX hE hT hn0 hl hK (k := 25) (by decide)) hX k5_138 (Or.inl ⟨_, _, _, _, (hE.t_j), by decide, rfl⟩) (by omega) (Nat.le_of_ble_eq_true rfl) dX5_readTest_18 rfl ?_
        rintro _ _ _ M9 ⟨rfl, rfl, rfl, hE9⟩
        rw [if_pos e0] at ⊢
        rw [if_pos e0, skN_lt hlt] at hE9
        have hT := (hT.nx hE9.frame (by omega)).rf
        have hR := hR.nx hE9.frame (by omega)
        have hP := hP.nx hE9.frame (by omega)
        have hF := hF.fr hE9.frame (by omega)
        have hE := hE9.rf
        have hn0 := Nat.succ_le_of_lt hlt
        refine T_if_eq_f 46 24 dX5_readTest_21 (by decide) rfl (by decide) ?_
        refine T_aload0 dX5_readTest_24 rfl ?_
        refine T_iload1 dX5_readTest_25 rfl ?_
        refine T_cV1 (hB _ _ _ (ez + 1) ((true, adv s 1)) ⟨hT, _, _, _, _, _, _, _, _, _, _, _, _, _, _, _, _, hE, hR, hP, ⟨hs1, hs2, hs3, hn0⟩, Or.inl rfl, hO.sk⟩) hX k5_222 (Or.inl ⟨_, _, _, _, (hE.t_j), by decide, rfl⟩) (by omega) (Nat.le_of_ble_eq_true rfl) dX5_readTest_26 rfl ?_
        rintro _ _ _ M8 ⟨⟨rfl, q1, hp1, hm1, hg1, hQ⟩, rfl, rfl, hF9⟩
        have hF := hF.tr hF9
        have hQ0 := hQ
        obtain ⟨hT, nx, bk, ba, fl, fa, a, b, c, ρ, ν, hn, wn, sn, σ, π, κ, hE, hR, hP, ⟨hs1, hs2, hs3, hn0⟩, hb2, hO⟩ := hQ
        refine T_aload0 dX5_readTest_29 rfl ?_
        refine g5_22 _ rfl (hE.t_j) (hE.g_p) dX5_readTest_30 rfl ?_
        refine T_sgn (i := 25) (by decide) ks5_225 dX5_readTest_33 rfl ?_
        refine T_iconst (0) dX5_readTest_36 rfl rfl ?_
        refine T_cV2 (q_step hX hd hl hK hK2 hC hQ0 (o := 25) (o2 := 25) (by decide) (fun _ => rfl) (fun _ => by decide)) hX k5_228 (Or.inl ⟨_, _, _, _, (hP.t_p), by decide, rfl⟩) (by omega) (Nat.le_of_ble_eq_true rfl) dX5_readTest_37 rfl ?_
        rintro _ _ _ M7 ⟨⟨rfl, hQ⟩, rfl, rfl, hF9⟩
        have hF := hF.tr hF9
        have hQ0 := hQ
        obtain ⟨hT, nx, bk, ba, fl, fa, a, b, c, ρ, ν, hn, wn, sn, σ, π, κ, hE, hR, hP, ⟨hs1, hs2, hs3, hn0⟩, hb2, hO⟩ := hQ
        first | refine T_iinc2 rfl (by decide) dX5_readTest_40 rfl (inc1 _) ?_ | refine T_iinc2 rfl (by decide) dX5_readTest_40 rfl rfl ?_
        refine T_goto 7 dX5_readTest_43 (by decide) ?_
        have hs1' : s.1 + 1 ≤ lt := hlt
        refine T_cons ?_ (ih (i + 1) (w - 1) _ (adQ q1 25) hQ0 hF (fun z => by have h1 : s.1 + 1 ≤ q1.2.1 := (hm1 z).2; show i + 1 ≤ q1.2.1; omega) (by omega) (fun z => by have h1 : s.1 + 1 ≤ q1.2.1 := (hm1 z).2; show lt + 1 ≤ w - 1 + q1.2.1; omega) (by omega))
        rintro v9 sz9 τ9 M9' ⟨⟨e1, q2, hp2, hm2, hg2, hq2⟩, e2, e3, hF2⟩
        exact ⟨⟨e1, q2, PR.tsl e0 hp1 hp2, fun z => ⟨rfl, by have h1 := hm2 z; have h2 : s.1 + 1 ≤ q1.2.1 := (hm1 h1.1).2; have h3 : q1.2.1 ≤ q2.2.1 := h1.2; show s.1 ≤ q2.2.1; omega⟩, (fun z => absurd z (by simp)), hq2⟩, e2, e3, hF2⟩
      ·
        refine T_iload2 dX5_readTest_7 rfl ?_
        refine T_sipush (400) dX5_readTest_8 rfl rfl ?_
        refine T_icmp_ge 46 14 dX5_readTest_11 (by decide) rfl (fun c11 => ?_) (fun c11 => ?_)
        ·
          refine T_vret rfl dX5_readTest_46 ?_
          exact ⟨⟨rfl, _, PR.tse e0, (fun _ => ⟨rfl, Nat.le_refl _⟩), (fun z => absurd z (by simp)), ⟨hT, _, _, _, _, _, _, _, _, _, _, _, _, _, _, _, _, hE, hR, hP, ⟨hs1, hs2, hs3, hn0⟩, (Or.inl rfl), hO⟩⟩, rfl, rfl, hF⟩
        ·
          refine T_aload0 dX5_readTest_14 rfl ?_
          refine T_sgn (i := 25) (by decide) ks5_225 dX5_readTest_15 rfl ?_
          refine T_cV1 (c_X5_tryTake hX hE hT hn0 hl hK (k := 25) (by decide)) hX k5_138 (Or.inl ⟨_, _, _, _, (hE.t_j), by decide, rfl⟩) (by omega) (Nat.le_of_ble_eq_true rfl) dX5_readTest_18 rfl ?_
          rintro _ _ _ M9 ⟨rfl, rfl, rfl, hE9⟩
          rw [if_neg e0] at ⊢
          rw [if_neg e0] at hE9
          have hT := (hT.nx hE9.frame (by omega)).rf
          have hR := hR.nx hE9.frame (by omega)
          have hP := hP.nx hE9.frame (by omega)
          have hF := hF.fr hE9.frame (by omega)
          have hE := hE9.rf
          refine T_if_eq_t 46 dX5_readTest_21 (by decide) rfl ?_
          refine T_vret rfl dX5_readTest_46 ?_
          exact ⟨⟨rfl, _, PR.tse e0, (fun _ => ⟨rfl, Nat.le_refl _⟩), (fun z => absurd z (by simp)), ⟨hT, _, _, _, _, _, _, _, _, _, _, _, _, _, _, _, _, hE, hR, hP, ⟨hs1, hs2, hs3, hn0⟩, (Or.inl rfl), hO⟩⟩, rfl, rfl, hF⟩
set_option maxHeartbeats 1000000 in
theorem c_X5_readTest {l : Launch} {D : va_G} {cA : Nat → ClassId} {n0 : Nat} {sg adK adV : Nat → Nat} {sgA smA wdA bS LS : Nat} {xs : Nat → Int32} (hX : SF n0 (XW0 sg adK adV sgA smA wdA n0 bS LS xs)) {j r p tp ln lt : Nat} {K : Nat → Nat} {S : Nat → Int32} {V : Nat → Int64} {C : CCT} (hd : (j + 5 ≤ r ∨ r + 38 ≤ j) ∧ (j + 5 ≤ p ∨ p + 30 ≤ j) ∧ (p + 30 ≤ r ∨ r + 38 ≤ p)) (hl : lt ≤ 400) (hK : ∀ i, i ≤ lt → K i < 48) (hK2 : K lt = 45 ∨ K lt = 46) (hC : ∀ a b c ρ ν hn wn π i x, C a b c ρ ν hn wn π → C a b c ρ ν hn wn (u2 π 70 i x)) {dp : Nat} (hdp : dp ≤ 8) {sz : Nat} {τ : TY} {M : ME} (hB : ∀ (sz : Nat) (τ : TY) (M : ME) (ez : Nat) (q : PQ), CQ sg τ M j r p tp ln lt K S V C (ez) (q) → CT l D cA n0 (XW0 sg adK adV sgA smA wdA n0 bS LS xs) mX5_readBoth (10 * (9 - (dp)) + 7) 0 0 sz τ M [.ref j, .int (nI (dp))] (fun v' sz' τ' M' => (v' = none ∧ ∃ q', PR K (fun t => (V t).toInt32) 6 (dp) (q) q' ∧ (q'.1 = true → (q).1 = true ∧ (q).2.1 ≤ q'.2.1) ∧ ((q).1 = false → q' = q) ∧ CQ sg τ M' j r p tp ln lt K S V C (ez) (q')) ∧ sz' = sz ∧ τ' = τ ∧ Fr3 j r p M M')) (ez : Nat) (q : PQ) (hQ : CQ sg τ M j r p tp ln lt K S V C (ez) (q)) : CT l D cA n0 (XW0 sg adK adV sgA smA wdA n0 bS LS xs) mX5_readTest (10 * (9 - dp) + 8) 0 0 sz τ M [.ref j, .int (nI dp)] (fun v' sz' τ' M' => (v' = none ∧ ∃ q', PR K (fun t => (V t).toInt32) 8 (dp) (q) q' ∧ (q'.1 = true → (q).1 = true ∧ (q).2.1 ≤ q'.2.1) ∧ ((q).1 = false → q' = q) ∧ CQ sg τ M' j r p tp ln lt K S V C (ez) (q')) ∧ sz' = sz ∧ τ' = τ ∧ Fr3 j r p M M') := by
  refine CT.of (ls := [.ref j, .int (nI dp), UU]) (by decide) (Nat.le_of_ble_eq_true rfl) rfl ?_
  have hF : Fr3 j r p M M := Fr3.rf _ _ _ _
  have hQ0 := hQ
  obtain ⟨hT, nx, bk, ba, fl, fa, a, b, c, ρ, ν, hn, wn, sn, σ, π, κ, hE, hR, hP, ⟨hs1, hs2, hs3, hn0⟩, hb2, hO⟩ := hQ
  refine T_aload0 dX5_readTest_0 rfl ?_
  refine T_iload1 dX5_readTest_1 rfl ?_
  refine T_cV1 (hB _ _ _ (ez) (q) hQ0) hX k5_222 (Or.inl ⟨_, _, _, _, (hE.t_j), by decide, rfl⟩) (by omega) (Nat.le_of_ble_eq_true rfl) dX5_readTest_2 rfl ?_
  rintro _ _ _ M8 ⟨⟨rfl, q1, hp1, hm1, hg1, hQ⟩, rfl, rfl, hF9⟩
  have hF := hF.tr hF9
  have hQ0 := hQ
  obtain ⟨hT, nx, bk, ba, fl, fa, a, b, c, ρ, ν, hn, wn, sn, σ, π, κ, hE, hR, hP, ⟨hs1, hs2, hs3, hn0⟩, hb2, hO⟩ := hQ
  refine T_iconst (0) dX5_readTest_5 rfl rfl ?_
  refine T_istore2 rfl (by decide) dX5_readTest_6 rfl ?_
  refine T_cons ?_ (L_X5_readTest hX hd hl hK hK2 hC hdp hB (lt + 3) 0 (lt + 2) _ q1 hQ0 hF (fun _ => Nat.zero_le _) (by omega) (fun _ => by omega) (by omega))
  rintro v9 sz9 τ9 M9' ⟨⟨e1, q2, hp2, hm2, hg2, hq2⟩, e2, e3, hF2⟩
  exact ⟨⟨e1, q2, PR.tst hp1 hp2, fun z => ⟨(hm1 (hm2 z).1).1, Nat.le_trans (hm1 (hm2 z).1).2 (hm2 z).2⟩, fun z => by have := hg1 z; subst this; exact hg2 z, hq2⟩, e2, e3, hF2⟩
set_option maxHeartbeats 1000000 in
theorem c_X5_readAll {l : Launch} {D : va_G} {cA : Nat → ClassId} {n0 : Nat} {sg adK adV : Nat → Nat} {sgA smA wdA bS LS : Nat} {xs : Nat → Int32} (hX : SF n0 (XW0 sg adK adV sgA smA wdA n0 bS LS xs)) {j r p tp ln lt : Nat} {K : Nat → Nat} {S : Nat → Int32} {V : Nat → Int64} {C : CCT} (hd : (j + 5 ≤ r ∨ r + 38 ≤ j) ∧ (j + 5 ≤ p ∨ p + 30 ≤ j) ∧ (p + 30 ≤ r ∨ r + 38 ≤ p)) (hl : lt ≤ 400) (hK : ∀ i, i ≤ lt → K i < 48) (hK2 : K lt = 45 ∨ K lt = 46) (hC : ∀ a b c ρ ν hn wn π i x, C a b c ρ ν hn wn π → C a b c ρ ν hn wn (u2 π 70 i x)) : ∀ (k dp : Nat), dp + k = 8 → (∀ (sz : Nat) (τ : TY) (M : ME) (ez : Nat) (q : PQ), CQ sg τ M j r p tp ln lt K S V C (ez) (q) → CT l D cA n0 (XW0 sg adK adV sgA smA wdA n0 bS LS xs) mX5_readValue (10 * (9 - (dp)) + 3) 0 0 sz τ M [.ref j, .int (nI (dp))] (fun v' sz' τ' M' => (v' = none ∧ ∃ q', PR K (fun t => (V t).toInt32) 0 (dp) (q) q' ∧ (q'.1 = true → (q).1 = true ∧ (q).2.1 ≤ q'.2.1) ∧ ((q).1 = false → q' = q) ∧ CQ sg τ M' j r p tp ln lt K S V C (ez) (q')) ∧ sz' = sz ∧ τ' = τ ∧ Fr3 j r p M M')) ∧ (∀ (sz : Nat) (τ : TY) (M : ME) (ez : Nat) (q : PQ), CQ sg τ M j r p tp ln lt K S V C (ez) (q) → CT l D cA n0 (XW0 sg adK adV sgA smA wdA n0 bS LS xs) mX5_readSum (10 * (9 - (dp)) + 5) 0 0 sz τ M [.ref j, .int (nI (dp))] (fun v' sz' τ' M' => (v' = none ∧ ∃ q', PR K (fun t => (V t).toInt32) 3 (dp) (q) q' ∧ (q'.1 = true → (q).1 = true ∧ (q).2.1 ≤ q'.2.1) ∧ ((q).1 = false → q' = q) ∧ CQ sg τ M' j r p tp ln lt K S V C (ez) (q')) ∧ sz' = sz ∧ τ' = τ ∧ Fr3 j r p M M')) ∧ (∀ (sz : Nat) (τ : TY) (M : ME) (ez : Nat) (q : PQ), CQ sg τ M j r p tp ln lt K S V C (ez) (q) → CT l D cA n0 (XW0 sg adK adV sgA smA wdA n0 bS LS xs) mX5_readSingle (10 * (9 - (dp)) + 6) 0 0 sz τ M [.ref j, .int (nI (dp))] (fun v' sz' τ' M' => (v' = none ∧ ∃ q', PR K (fun t => (V t).toInt32) 5 (dp) (q) q' ∧ (q'.1 = true → (q).1 = true ∧ (q).2.1 ≤ q'.2.1) ∧ ((q).1 = false → q' = q) ∧ CQ sg τ M' j r p tp ln lt K S V C (ez) (q')) ∧ sz' = sz ∧ τ' = τ ∧ Fr3 j r p M M')) ∧ (∀ (sz : Nat) (τ : TY) (M : ME) (ez : Nat) (q : PQ), CQ sg τ M j r p tp ln lt K S V C (ez) (q) → CT l D cA n0 (XW0 sg adK adV sgA smA wdA n0 bS LS xs) mX5_readTest (10 * (9 - (dp)) + 8) 0 0 sz τ M [.ref j, .int (nI (dp))] (fun v' sz' τ' M' => (v' = none ∧ ∃ q', PR K (fun t => (V t).toInt32) 8 (dp) (q) q' ∧ (q'.1 = true → (q).1 = true ∧ (q).2.1 ≤ q'.2.1) ∧ ((q).1 = false → q' = q) ∧ CQ sg τ M' j r p tp ln lt K S V C (ez) (q')) ∧ sz' = sz ∧ τ' = τ ∧ Fr3 j r p M M')) := by
  intro k
  induction k with
  | zero =>
    intro dp hdk
    have hdp : dp ≤ 8 := by omega
    have h8 : ∀ P : Prop, dp < 8 → P := fun P h => absurd h (by omega)
    have hV : ∀ (sz : Nat) (τ : TY) (M : ME) (ez : Nat) (q : PQ), CQ sg τ M j r p tp ln lt K S V C (ez) (q) → CT l D cA n0 (XW0 sg adK adV sgA smA wdA n0 bS LS xs) mX5_readValue (10 * (9 - (dp)) + 3) 0 0 sz τ M [.ref j, .int (nI (dp))] (fun v' sz' τ' M' => (v' = none ∧ ∃ q', PR K (fun t => (V t).toInt32) 0 (dp) (q) q' ∧ (q'.1 = true → (q).1 = true ∧ (q).2.1 ≤ q'.2.1) ∧ ((q).1 = false → q' = q) ∧ CQ sg τ M' j r p tp ln lt K S V C (ez) (q')) ∧ sz' = sz ∧ τ' = τ ∧ Fr3 j r p M M') := fun sz τ M ez q hQ => c_X5_readValue hX hd hl hK hK2 hC hdp (h8 _) (h8 _) ez q hQ
    have hPr : ∀ (sz : Nat) (τ : TY) (M : ME) (ez : Nat) (q : PQ), CQ sg τ M j r p tp ln lt K S V C (ez) (q) → CT l D cA n0 (XW0 sg adK adV sgA smA wdA n0 bS LS xs) mX5_readProduct (10 * (9 - (dp)) + 4) 0 0 sz τ M [.ref j, .int (nI (dp))] (fun v' sz' τ' M' => (v' = none ∧ ∃ q', PR K (fun t => (V t).toInt32) 1 (dp) (q) q' ∧ (q'.1 = true → (q).1 = true ∧ (q).2.1 ≤ q'.2.1) ∧ ((q).1 = false → q' = q) ∧ CQ sg τ M' j r p tp ln lt K S V C (ez) (q')) ∧ sz' = sz ∧ τ' = τ ∧ Fr3 j r p M M') := fun sz τ M ez q hQ => c_X5_readProduct hX hd hl hK hK2 hC hdp hV ez q hQ
    have hS : ∀ (sz : Nat) (τ : TY) (M : ME) (ez : Nat) (q : PQ), CQ sg τ M j r p tp ln lt K S V C (ez) (q) → CT l D cA n0 (XW0 sg adK adV sgA smA wdA n0 bS LS xs) mX5_readSum (10 * (9 - (dp)) + 5) 0 0 sz τ M [.ref j, .int (nI (dp))] (fun v' sz' τ' M' => (v' = none ∧ ∃ q', PR K (fun t => (V t).toInt32) 3 (dp) (q) q' ∧ (q'.1 = true → (q).1 = true ∧ (q).2.1 ≤ q'.2.1) ∧ ((q).1 = false → q' = q) ∧ CQ sg τ M' j r p tp ln lt K S V C (ez) (q')) ∧ sz' = sz ∧ τ' = τ ∧ Fr3 j r p M M') := fun sz τ M ez q hQ => c_X5_readSum hX hd hl hK hK2 hC hdp hPr ez q hQ
    have hG : ∀ (sz : Nat) (τ : TY) (M : ME) (ez : Nat) (q : PQ), CQ sg τ M j r p tp ln lt K S V C (ez) (q) → CT l D cA n0 (XW0 sg adK adV sgA smA wdA n0 bS LS xs) mX5_readSingle (10 * (9 - (dp)) + 6) 0 0 sz τ M [.ref j, .int (nI (dp))] (fun v' sz' τ' M' => (v' = none ∧ ∃ q', PR K (fun t => (V t).toInt32) 5 (dp) (q) q' ∧ (q'.1 = true → (q).1 = true ∧ (q).2.1 ≤ q'.2.1) ∧ ((q).1 = false → q' = q) ∧ CQ sg τ M' j r p tp ln lt K S V C (ez) (q')) ∧ sz' = sz ∧ τ' = τ ∧ Fr3 j r p M M') := fun sz τ M ez q hQ => c_X5_readSingle hX hd hl hK hK2 hC hdp (h8 _) (h8 _) hS ez q hQ
    have hB : ∀ (sz : Nat) (τ : TY) (M : ME) (ez : Nat) (q : PQ), CQ sg τ M j r p tp ln lt K S V C (ez) (q) → CT l D cA n0 (XW0 sg adK adV sgA smA wdA n0 bS LS xs) mX5_readBoth (10 * (9 - (dp)) + 7) 0 0 sz τ M [.ref j, .int (nI (dp))] (fun v' sz' τ' M' => (v' = none ∧ ∃ q', PR K (fun t => (V t).toInt32) 6 (dp) (q) q' ∧ (q'.1 = true → (q).1 = true ∧ (q).2.1 ≤ q'.2.1) ∧ ((q).1 = false → q' = q) ∧ CQ sg τ M' j r p tp ln lt K S V C (ez) (q')) ∧ sz' = sz ∧ τ' = τ ∧ Fr3 j r p M M') := fun sz τ M ez q hQ => c_X5_readBoth hX hd hl hK hK2 hC hdp hG ez q hQ
    exact ⟨hV, hS, hG, fun sz τ M ez q hQ => c_X5_readTest hX hd hl hK hK2 hC hdp hB ez q hQ⟩
  | succ k ih =>
    intro dp hdk
    have hdp : dp ≤ 8 := by omega
    obtain ⟨hV1, hS1, hG1, hT1⟩ := ih (dp + 1) (by omega)
    have hV : ∀ (sz : Nat) (τ : TY) (M : ME) (ez : Nat) (q : PQ), CQ sg τ M j r p tp ln lt K S V C (ez) (q) → CT l D cA n0 (XW0 sg adK adV sgA smA wdA n0 bS LS xs) mX5_readValue (10 * (9 - (dp)) + 3) 0 0 sz τ M [.ref j, .int (nI (dp))] (fun v' sz' τ' M' => (v' = none ∧ ∃ q', PR K (fun t => (V t).toInt32) 0 (dp) (q) q' ∧ (q'.1 = true → (q).1 = true ∧ (q).2.1 ≤ q'.2.1) ∧ ((q).1 = false → q' = q) ∧ CQ sg τ M' j r p tp ln lt K S V C (ez) (q')) ∧ sz' = sz ∧ τ' = τ ∧ Fr3 j r p M M') := fun sz τ M ez q hQ => c_X5_readValue hX hd hl hK hK2 hC hdp (fun _ => hV1) (fun _ => hS1) ez q hQ
    have hPr : ∀ (sz : Nat) (τ : TY) (M : ME) (ez : Nat) (q : PQ), CQ sg τ M j r p tp ln lt K S V C (ez) (q) → CT l D cA n0 (XW0 sg adK adV sgA smA wdA n0 bS LS xs) mX5_readProduct (10 * (9 - (dp)) + 4) 0 0 sz τ M [.ref j, .int (nI (dp))] (fun v' sz' τ' M' => (v' = none ∧ ∃ q', PR K (fun t => (V t).toInt32) 1 (dp) (q) q' ∧ (q'.1 = true → (q).1 = true ∧ (q).2.1 ≤ q'.2.1) ∧ ((q).1 = false → q' = q) ∧ CQ sg τ M' j r p tp ln lt K S V C (ez) (q')) ∧ sz' = sz ∧ τ' = τ ∧ Fr3 j r p M M') := fun sz τ M ez q hQ => c_X5_readProduct hX hd hl hK hK2 hC hdp hV ez q hQ
    have hS : ∀ (sz : Nat) (τ : TY) (M : ME) (ez : Nat) (q : PQ), CQ sg τ M j r p tp ln lt K S V C (ez) (q) → CT l D cA n0 (XW0 sg adK adV sgA smA wdA n0 bS LS xs) mX5_readSum (10 * (9 - (dp)) + 5) 0 0 sz τ M [.ref j, .int (nI (dp))] (fun v' sz' τ' M' => (v' = none ∧ ∃ q', PR K (fun t => (V t).toInt32) 3 (dp) (q) q' ∧ (q'.1 = true → (q).1 = true ∧ (q).2.1 ≤ q'.2.1) ∧ ((q).1 = false → q' = q) ∧ CQ sg τ M' j r p tp ln lt K S V C (ez) (q')) ∧ sz' = sz ∧ τ' = τ ∧ Fr3 j r p M M') := fun sz τ M ez q hQ => c_X5_readSum hX hd hl hK hK2 hC hdp hPr ez q hQ
    have hG : ∀ (sz : Nat) (τ : TY) (M : ME) (ez : Nat) (q : PQ), CQ sg τ M j r p tp ln lt K S V C (ez) (q) → CT l D cA n0 (XW0 sg adK adV sgA smA wdA n0 bS LS xs) mX5_readSingle (10 * (9 - (dp)) + 6) 0 0 sz τ M [.ref j, .int (nI (dp))] (fun v' sz' τ' M' => (v' = none ∧ ∃ q', PR K (fun t => (V t).toInt32) 5 (dp) (q) q' ∧ (q'.1 = true → (q).1 = true ∧ (q).2.1 ≤ q'.2.1) ∧ ((q).1 = false → q' = q) ∧ CQ sg τ M' j r p tp ln lt K S V C (ez) (q')) ∧ sz' = sz ∧ τ' = τ ∧ Fr3 j r p M M') := fun sz τ M ez q hQ => c_X5_readSingle hX hd hl hK hK2 hC hdp (fun _ => hG1) (fun _ => hT1) hS ez q hQ
    have hB : ∀ (sz : Nat) (τ : TY) (M : ME) (ez : Nat) (q : PQ), CQ sg τ M j r p tp ln lt K S V C (ez) (q) → CT l D cA n0 (XW0 sg adK adV sgA smA wdA n0 bS LS xs) mX5_readBoth (10 * (9 - (dp)) + 7) 0 0 sz τ M [.ref j, .int (nI (dp))] (fun v' sz' τ' M' => (v' = none ∧ ∃ q', PR K (fun t => (V t).toInt32) 6 (dp) (q) q' ∧ (q'.1 = true → (q).1 = true ∧ (q).2.1 ≤ q'.2.1) ∧ ((q).1 = false → q' = q) ∧ CQ sg τ M' j r p tp ln lt K S V C (ez) (q')) ∧ sz' = sz ∧ τ' = τ ∧ Fr3 j r p M M') := fun sz τ M ez q hQ => c_X5_readBoth hX hd hl hK hK2 hC hdp hG ez q hQ
    exact ⟨hV, hS, hG, fun sz τ M ez q hQ => c_X5_readTest hX hd hl hK hK2 hC hdp hB ez q hQ⟩

