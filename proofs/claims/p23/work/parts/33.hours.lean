/-- outside of a plan and a road nothing has changed -/
def Fr2 (p r : Nat) (M M1 : ME) : Prop := ∀ q, ¬ (p ≤ q ∧ q < p + 30) → ¬ (r ≤ q ∧ q < r + 38) → M1 q = M q
theorem Fr2.rf (p r : Nat) (M : ME) : Fr2 p r M M := fun _ _ _ => rfl
theorem Fr2.up {p r a k : Nat} {v : Value} {M M1 M2 : ME} (h : Fr2 p r M M1) (e : M2 = up M1 a k v) (ha : (p ≤ a ∧ a < p + 30) ∨ (r ≤ a ∧ a < r + 38)) : Fr2 p r M M2 := fun q h1 h2 => by
  rw [e, up_a (fun z => by subst z; exact ha.elim h1 h2)]; exact h q h1 h2
theorem Fr2.rd {p r : Nat} {M M1 M2 : ME} (h : Fr2 p r M M1) (e : Fr r (r + 38) M1 M2) : Fr2 p r M M2 := fun q h1 h2 => by
  rw [e q (by omega)]; exact h q h1 h2
theorem Fr2.pl {p r : Nat} {M M1 M2 : ME} (h : Fr2 p r M M1) (e : Fr p (p + 30) M1 M2) : Fr2 p r M M2 := fun q h1 h2 => by
  rw [e q (by omega)]; exact h q h1 h2
theorem Fr2.tr {p r : Nat} {M M1 M2 : ME} (h : Fr2 p r M M1) (e : Fr2 p r M1 M2) : Fr2 p r M M2 := fun q h1 h2 => by
  rw [e q h1 h2]; exact h q h1 h2
theorem LM.nx2 {τ : TY} {M0 M M1 : ME} {p r q a b c : Nat} {ρ : RH} {ν : NU} (h : LM τ M0 M q a b c ρ ν) (e : Fr2 p r M M1) (hd : p + 30 ≤ q ∨ q + 38 ≤ p) (hd2 : r + 38 ≤ q ∨ q + 38 ≤ r) : LM τ M1 M1 q a b c ρ ν := h.fr (fun b h1 h2 => e b (by omega) (by omega))
/-- a horse goes out -/
def sgC (c hc : Nat) (σ : Nat → Nat) (π ρ : RH) (j : Nat) : RH :=
  if psR ρ (nI j) (mwG c ρ σ π (nI j) 0 hc) c = 0 then (psC ρ (nI j) (mwG c ρ σ π (nI j) 0 hc) c).1
  else u2 (standC (psC ρ (nI j) (mwG c ρ σ π (nI j) 0 hc) c).1 j 0 1 0) 20 j 1
def otC (a c hc : Nat) (σ : Nat → Nat) (π ρ : RH) (j : Nat) : RH := if ¬ ρ 15 j = -1 ∨ ρ 12 j ≤ 0 ∨ nI a = 0 then ρ else sgC c hc σ π ρ j
def ndF (c : Nat) (ρ : RH) (j t : Nat) : Int32 := if ρ 16 j = 0 then 0 else needF c ρ (nI j) t
/-- a horse that has not moved, on its stretch -/
def mtC (a b c wc : Nat) (σ : Nat → Nat) (π ρ : RH) (j t : Nat) : RH :=
  if wtG c ρ σ π (nI j) (nI t) 0 wc = 0 then
    (if ndF c ρ j t ≤ ρ 13 j then (if ndF c ρ j t ≤ ρ 11 j - ρ 18 j then goC a b c ρ j t (ndF c ρ j t) else tireC ρ j (-4)) else bkC c ρ j t)
  else tireC ρ j (-2)
def moC (a b c wc : Nat) (σ : Nat → Nat) (π ρ : RH) (j : Nat) : RH := if ¬ ρ 20 j = 0 ∨ hasI (ρ 15 j) (nI a) = 0 then ρ else mtC a b c wc σ π ρ j (ρ 15 j).toNatClampNeg
def PcOK (a : Nat) (x : Int32) : Prop := x = -1 ∨ ∃ t, t < a ∧ x = nI t
theorem PcOK.has {a : Nat} {x : Int32} (h : PcOK a x) (h2 : ¬ hasI x (nI a) = 0) : ∃ t, t < a ∧ x = nI t := by
  rcases h with rfl | h
  · exact absurd (hasI_f (by decide)) h2
  · exact h
set_option maxHeartbeats 1000000 in
theorem c_X6_sendOut {l : Launch} {D : va_G} {cA : Nat → ClassId} {n0 : Nat} {sg adK adV : Nat → Nat} {sgA smA wdA bS LS : Nat} {xs : Nat → Int32} (hX : SF n0 (XW0 sg adK adV sgA smA wdA n0 bS LS xs)) {sz : Nat} {τ : TY} {M0 : ME} {r p a b c hc wc sc : Nat} {ρ π : RH} {ν : NU} {σ : Nat → Nat} (hd : p + 30 ≤ r ∨ r + 38 ≤ p) (ho : PlOK a b hc wc σ π) {M : ME} {κ : Nat → Int32} (hP : PM τ M M p sg hc wc sc π σ κ) (hR : LM τ M M r a b c ρ ν) (hF : Fr2 p r M0 M) {j : Nat} (hj : j < b) : CT l D cA n0 (XW0 sg adK adV sgA smA wdA n0 bS LS xs) mX6_sendOut 6 0 0 sz τ M [.ref r, .int (nI j), .ref p] (fun v' sz' τ' M' => v' = none ∧ sz' = sz ∧ τ' = τ ∧ (∃ κ', PM τ M' M' p sg hc wc sc π σ κ') ∧ LM τ M' M' r a b c (otC a c hc σ π ρ j) ν ∧ Fr2 p r M0 M') := by
  refine CT.of (ls := [.ref r, .int (nI j), .ref p, UU]) (by decide) (Nat.le_of_ble_eq_true rfl) rfl ?_
  obtain ⟨l3, l4, l5⟩ := hR.ok
  refine T_aload0 dX6_sendOut_0 rfl ?_
  refine g6_20 _ rfl hR.t hR.r1 dX6_sendOut_1 rfl ?_
  refine T_iload1 dX6_sendOut_4 rfl ?_
  refine T_aald 3 _ (by decide) hR.tH rfl (by omega) (by decide) dX6_sendOut_5 rfl (hR.H (by omega)) ?_
  refine T_astore3 rfl (by decide) dX6_sendOut_6 rfl ?_
  refine T_aload3 dX6_sendOut_7 rfl ?_
  refine g6_123 _ rfl (hR.th (by omega)) (hR.h5 (by omega)) dX6_sendOut_8 rfl ?_
  refine T_iconst (-1) dX6_sendOut_11 rfl rfl ?_
  refine T_icmp_ne 29 15 dX6_sendOut_12 (by decide) rfl (fun c12 => ?_) (fun c12 => ?_)
  ·
    refine T_vret rfl dX6_sendOut_29 ?_
    refine ⟨rfl, rfl, rfl, ⟨_, hP⟩, hR.rf.cg (if_pos ?_).symm rfl, hF⟩
    first | exact Or.inl c12 | exact Or.inr (Or.inl c19) | exact Or.inr (Or.inr c26)
  ·
    refine T_aload3 dX6_sendOut_15 rfl ?_
    refine g6_113 _ rfl (hR.th (by omega)) (hR.h2 (by omega)) dX6_sendOut_16 rfl ?_
    refine T_if_le 29 22 dX6_sendOut_19 (by decide) rfl (fun c19 => ?_) (fun c19 => ?_)
    ·
      refine T_vret rfl dX6_sendOut_29 ?_
      refine ⟨rfl, rfl, rfl, ⟨_, hP⟩, hR.rf.cg (if_pos ?_).symm rfl, hF⟩
      first | exact Or.inl c12 | exact Or.inr (Or.inl c19) | exact Or.inr (Or.inr c26)
    ·
      refine T_aload0 dX6_sendOut_22 rfl ?_
      refine g6_32 _ rfl hR.t hR.r3 dX6_sendOut_23 rfl ?_
      refine T_if_ne 30 29 dX6_sendOut_26 (by decide) rfl (fun c26 => ?_) (fun c26 => ?_)
      ·
        refine T_aload0 dX6_sendOut_30 rfl ?_
        refine T_iload1 dX6_sendOut_31 rfl ?_
        refine T_aload2 dX6_sendOut_32 rfl ?_
        refine T_iload1 dX6_sendOut_33 rfl ?_
        refine T_aload0 dX6_sendOut_34 rfl ?_
        refine T_cV2 (c_X4_mostWeight hX hd ho hP hR _) hX k6_179 (Or.inl ⟨_, _, _, _, (hP.t_p), by decide, rfl⟩) (by decide) (Nat.le_of_ble_eq_true rfl) dX6_sendOut_35 rfl ?_
        rintro _ _ _ M1 ⟨rfl, rfl, rfl, κ1, hN⟩
        have hR := hR.nx hN.frame (by omega)
        have hF := hF.pl hN.frame
        have hP := hN.rf
        refine T_cV2 (c_X6_putOnSledge hX hR _ _) hX k6_185 (Or.inl ⟨_, _, _, _, hR.t, by decide, rfl⟩) (by decide) (Nat.le_of_ble_eq_true rfl) dX6_sendOut_38 rfl ?_
        rintro _ _ _ M1 ⟨rfl, rfl, rfl, hN⟩
        have hP := hP.nx hN.frame (by omega)
        have hF := hF.rd hN.frame
        have hR := hN.rf
        refine T_if_eq 56 44 dX6_sendOut_41 (by decide) rfl (fun c41 => ?_) (fun c41 => ?_)
        ·
          refine T_vret rfl dX6_sendOut_56 ?_
          refine ⟨rfl, rfl, rfl, ⟨_, hP⟩, hR.rf.cg ?_ rfl, hF⟩
          unfold otC
          rw [if_neg (fun q => q.elim (fun y => y c12) (fun y => y.elim c19 c26))]
          unfold sgC
          first | (rw [if_pos c41]; done) | (rw [if_neg c41]; done)
        ·
          refine T_aload3 dX6_sendOut_44 rfl ?_
          refine T_iconst (0) dX6_sendOut_45 rfl rfl ?_
          refine T_iconst (1) dX6_sendOut_46 rfl rfl ?_
          refine T_iconst (0) dX6_sendOut_47 rfl rfl ?_
          refine T_cV3 (k_X1_stand hX hR (by omega) _ _ _ (Or.inr rfl)) hX k6_189 (Or.inl ⟨_, _, _, _, (hR.th (by omega)), by decide, rfl⟩) (by decide) (Nat.le_of_ble_eq_true rfl) dX6_sendOut_48 rfl ?_
          rintro _ _ _ M1 ⟨rfl, rfl, rfl, hN⟩
          have hP := hP.nx hN.frame (by omega)
          have hF := hF.rd hN.frame
          have hR := hN.rf
          refine T_aload3 dX6_sendOut_51 rfl ?_
          refine T_iconst (1) dX6_sendOut_52 rfl rfl ?_
          refine p6_166 (by first | exact Or.inl rfl | exact Or.inr rfl | assumption) rfl (hR.th (by omega)) dX6_sendOut_53 rfl ?_
          refine T_nm (fun M1 e1 => ?_)
          have hP := hP.frU e1 (by (try simp only [stA, hsA, lgA]); omega)
          have hR := LM.mv (hR.ph (by omega) (by omega)) e1
          have hF := hF.up e1 (by (try simp only [stA, hsA, lgA]); omega)
          refine T_vret rfl dX6_sendOut_56 ?_
          refine ⟨rfl, rfl, rfl, ⟨_, hP⟩, hR.rf.cg ?_ rfl, hF⟩
          unfold otC
          rw [if_neg (fun q => q.elim (fun y => y c12) (fun y => y.elim c19 c26))]
          unfold sgC
          first | (rw [if_pos c41]; done) | (rw [if_neg c41]; done)
      ·
        refine T_vret rfl dX6_sendOut_29 ?_
        refine ⟨rfl, rfl, rfl, ⟨_, hP⟩, hR.rf.cg (if_pos ?_).symm rfl, hF⟩
        first | exact Or.inl c12 | exact Or.inr (Or.inl c19) | exact Or.inr (Or.inr c26)
set_option maxHeartbeats 1000000 in
theorem c_X6_move {l : Launch} {D : va_G} {cA : Nat → ClassId} {n0 : Nat} {sg adK adV : Nat → Nat} {sgA smA wdA bS LS : Nat} {xs : Nat → Int32} (hX : SF n0 (XW0 sg adK adV sgA smA wdA n0 bS LS xs)) {sz : Nat} {τ : TY} {M0 : ME} {r p a b c hc wc sc : Nat} {ρ π : RH} {ν : NU} {σ : Nat → Nat} (hd : p + 30 ≤ r ∨ r + 38 ≤ p) (ho : PlOK a b hc wc σ π) {M : ME} {κ : Nat → Int32} (hP : PM τ M M p sg hc wc sc π σ κ) (hR : LM τ M M r a b c ρ ν) (hF : Fr2 p r M0 M) {j : Nat} (hj : j < b) (hpl : PcOK a (ρ 15 j)) (hb : b01 (ρ 16 j)) : CT l D cA n0 (XW0 sg adK adV sgA smA wdA n0 bS LS xs) mX6_move 6 0 0 sz τ M [.ref r, .int (nI j), .ref p] (fun v' sz' τ' M' => v' = none ∧ sz' = sz ∧ τ' = τ ∧ (∃ κ', PM τ M' M' p sg hc wc sc π σ κ') ∧ LM τ M' M' r a b c (moC a b c wc σ π ρ j) ν ∧ Fr2 p r M0 M') := by
  refine CT.of (ls := [.ref r, .int (nI j), .ref p, UU, UU]) (by decide) (Nat.le_of_ble_eq_true rfl) rfl ?_
  obtain ⟨l3, l4, l5⟩ := hR.ok
  refine T_aload0 dX6_move_0 rfl ?_
  refine g6_20 _ rfl hR.t hR.r1 dX6_move_1 rfl ?_
  refine T_iload1 dX6_move_4 rfl ?_
  refine T_aald 3 _ (by decide) hR.tH rfl (by omega) (by decide) dX6_move_5 rfl (hR.H (by omega)) ?_
  refine T_astore3 rfl (by decide) dX6_move_6 rfl ?_
  refine T_aload3 dX6_move_7 rfl ?_
  refine g6_166 _ rfl (hR.th (by omega)) (hR.h10 (by omega)) dX6_move_8 rfl ?_
  refine T_if_ne 25 14 dX6_move_11 (by decide) rfl (fun c11 => ?_) (fun c11 => ?_)
  ·
    refine T_vret rfl dX6_move_25 ?_
    refine ⟨rfl, rfl, rfl, ⟨_, hP⟩, hR.rf.cg (if_pos ?_).symm rfl, hF⟩
    first | exact Or.inl c11 | exact Or.inr c22
  ·
    refine T_aload0 dX6_move_14 rfl ?_
    refine T_aload3 dX6_move_15 rfl ?_
    refine g6_123 _ rfl (hR.th (by omega)) (hR.h5 (by omega)) dX6_move_16 rfl ?_
    refine T_cV1 (c_X6_hasStretch hX hR _) hX k6_91 (Or.inl ⟨_, _, _, _, hR.t, by decide, rfl⟩) (by decide) (Nat.le_of_ble_eq_true rfl) dX6_move_19 rfl ?_
    rintro _ _ _ _ ⟨rfl, rfl, rfl, rfl⟩
    refine T_if_ne 26 25 dX6_move_22 (by decide) rfl (fun c22 => ?_) (fun c22 => ?_)
    ·
      obtain ⟨t, ht, hp⟩ := hpl.has c22
      have e1 : (ρ 15 j).toNatClampNeg = t := by rw [hp]; exact nI_cl (by omega)
      have e2 : moC a b c wc σ π ρ j = mtC a b c wc σ π ρ j t := by unfold moC; rw [if_neg (fun q => q.elim (fun y => y c11) c22), e1]
      rw [e2]
      clear e2
      refine T_joinI 46 (fun y => y = ndF c ρ j t) (fun hJ => ?_) (fun x46 hx46 => ?_)
      ·
        refine T_aload3 dX6_move_26 rfl ?_
        refine g6_126 _ rfl (hR.th (by omega)) (hR.h6 (by omega)) dX6_move_27 rfl ?_
        refine T_if_eq 45 33 dX6_move_30 (by decide) rfl (fun c30 => ?_) (fun c30 => ?_)
        ·
          refine T_iconst (0) dX6_move_45 rfl rfl ?_
          refine hJ _ ?_
          unfold ndF
          first | (rw [if_pos c30]; done) | (rw [if_neg c30]; done)
        ·
          refine T_aload0 dX6_move_33 rfl ?_
          refine T_iload1 dX6_move_34 rfl ?_
          refine T_aload3 dX6_move_35 rfl ?_
          refine g6_123 _ rfl (hR.th (by omega)) (hR.h5 (by omega)) dX6_move_36 rfl ?_
          rw [hp]
          refine T_cV2 (c_X6_need hX hR _ (by omega)) hX k6_193 (Or.inl ⟨_, _, _, _, hR.t, by decide, rfl⟩) (by decide) (Nat.le_of_ble_eq_true rfl) dX6_move_39 rfl ?_
          rintro _ _ _ _ ⟨rfl, rfl, rfl, rfl⟩
          refine T_goto 46 dX6_move_42 (by decide) ?_
          refine hJ _ ?_
          unfold ndF
          first | (rw [if_pos c30]; done) | (rw [if_neg c30]; done)
      ·
        refine T_istore4 rfl (by decide) dX6_move_46 rfl ?_
        subst hx46
        refine T_aload2 dX6_move_48 rfl ?_
        refine T_iload1 dX6_move_49 rfl ?_
        refine T_aload3 dX6_move_50 rfl ?_
        refine g6_123 _ rfl (hR.th (by omega)) (hR.h5 (by omega)) dX6_move_51 rfl ?_
        rw [hp]
        refine T_aload0 dX6_move_54 rfl ?_
        refine T_cV3 (c_X4_waitsNow hX hd ho hP hR _ _) hX k6_196 (Or.inl ⟨_, _, _, _, (hP.t_p), by decide, rfl⟩) (by decide) (Nat.le_of_ble_eq_true rfl) dX6_move_55 rfl ?_
        rintro _ _ _ M1 ⟨rfl, rfl, rfl, κ1, hN⟩
        have hR := hR.nx hN.frame (by omega)
        have hF := hF.pl hN.frame
        have hP := hN.rf
        refine T_if_eq 70 61 dX6_move_58 (by decide) rfl (fun c58 => ?_) (fun c58 => ?_)
        ·
          refine T_iload4 dX6_move_70 rfl ?_
          refine T_aload3 dX6_move_72 rfl ?_
          refine g6_116 _ rfl (hR.th (by omega)) (hR.h3 (by omega)) dX6_move_73 rfl ?_
          refine T_icmp_le 87 79 dX6_move_76 (by decide) rfl (fun c76 => ?_) (fun c76 => ?_)
          ·
            refine T_iload4 dX6_move_87 rfl ?_
            refine T_aload3 dX6_move_89 rfl ?_
            refine g6_110 _ rfl (hR.th (by omega)) (hR.h1 (by omega)) dX6_move_90 rfl ?_
            refine T_aload3 dX6_move_93 rfl ?_
            refine g6_135 _ rfl (hR.th (by omega)) (hR.h8 (by omega)) dX6_move_94 rfl ?_
            refine T_isub dX6_move_97 rfl ?_
            refine T_icmp_le 110 101 dX6_move_98 (by decide) rfl (fun c98 => ?_) (fun c98 => ?_)
            ·
              refine T_aload0 dX6_move_110 rfl ?_
              refine T_iload1 dX6_move_111 rfl ?_
              refine T_iload4 dX6_move_112 rfl ?_
              refine T_cV2 (c_X6_goOn hX hR (by omega) ht hp hb _) hX k6_207 (Or.inl ⟨_, _, _, _, hR.t, by decide, rfl⟩) (by decide) (Nat.le_of_ble_eq_true rfl) dX6_move_114 rfl ?_
              rintro _ _ _ M1 ⟨rfl, rfl, rfl, hN⟩
              have hP := hP.nx hN.frame (by omega)
              have hF := hF.rd hN.frame
              have hR := hN.rf
              refine T_vret rfl dX6_move_117 ?_
              refine ⟨rfl, rfl, rfl, ⟨_, hP⟩, hR.rf.cg ?_ rfl, hF⟩
              unfold mtC
              first | (rw [if_neg c58]; done) | (rw [if_pos c58, if_neg (fun q => c76 q)]; done) | (rw [if_pos c58, if_pos c76, if_neg (fun q => c98 q)]; done) | (rw [if_pos c58, if_pos c76, if_pos c98]; done)
            ·
              refine T_aload3 dX6_move_101 rfl ?_
              refine T_bipush (-4) dX6_move_102 rfl rfl ?_
              refine T_cV1 (k_X1_tire hX hR (by omega) _) hX k6_200 (Or.inl ⟨_, _, _, _, (hR.th (by omega)), by decide, rfl⟩) (by decide) (Nat.le_of_ble_eq_true rfl) dX6_move_104 rfl ?_
              rintro _ _ _ M1 ⟨rfl, rfl, rfl, hN⟩
              have hP := hP.nx hN.frame (by omega)
              have hF := hF.rd hN.frame
              have hR := hN.rf
              refine T_goto 117 dX6_move_107 (by decide) ?_
              refine T_vret rfl dX6_move_117 ?_
              refine ⟨rfl, rfl, rfl, ⟨_, hP⟩, hR.rf.cg ?_ rfl, hF⟩
              unfold mtC
              first | (rw [if_neg c58]; done) | (rw [if_pos c58, if_neg (fun q => c76 q)]; done) | (rw [if_pos c58, if_pos c76, if_neg (fun q => c98 q)]; done) | (rw [if_pos c58, if_pos c76, if_pos c98]; done)
          ·
            refine T_aload0 dX6_move_79 rfl ?_
            refine T_iload1 dX6_move_80 rfl ?_
            refine T_cV1 (c_X6_breakChain hX hR (by omega) ht hp) hX k6_204 (Or.inl ⟨_, _, _, _, hR.t, by decide, rfl⟩) (by decide) (Nat.le_of_ble_eq_true rfl) dX6_move_81 rfl ?_
            rintro _ _ _ M1 ⟨rfl, rfl, rfl, hN⟩
            have hP := hP.nx hN.frame (by omega)
            have hF := hF.rd hN.frame
            have hR := hN.rf
            refine T_goto 117 dX6_move_84 (by decide) ?_
            refine T_vret rfl dX6_move_117 ?_
            refine ⟨rfl, rfl, rfl, ⟨_, hP⟩, hR.rf.cg ?_ rfl, hF⟩
            unfold mtC
            first | (rw [if_neg c58]; done) | (rw [if_pos c58, if_neg (fun q => c76 q)]; done) | (rw [if_pos c58, if_pos c76, if_neg (fun q => c98 q)]; done) | (rw [if_pos c58, if_pos c76, if_pos c98]; done)
        ·
          refine T_aload3 dX6_move_61 rfl ?_
          refine T_bipush (-2) dX6_move_62 rfl rfl ?_
          refine T_cV1 (k_X1_tire hX hR (by omega) _) hX k6_200 (Or.inl ⟨_, _, _, _, (hR.th (by omega)), by decide, rfl⟩) (by decide) (Nat.le_of_ble_eq_true rfl) dX6_move_64 rfl ?_
          rintro _ _ _ M1 ⟨rfl, rfl, rfl, hN⟩
          have hP := hP.nx hN.frame (by omega)
          have hF := hF.rd hN.frame
          have hR := hN.rf
          refine T_goto 117 dX6_move_67 (by decide) ?_
          refine T_vret rfl dX6_move_117 ?_
          refine ⟨rfl, rfl, rfl, ⟨_, hP⟩, hR.rf.cg ?_ rfl, hF⟩
          unfold mtC
          first | (rw [if_neg c58]; done) | (rw [if_pos c58, if_neg (fun q => c76 q)]; done) | (rw [if_pos c58, if_pos c76, if_neg (fun q => c98 q)]; done) | (rw [if_pos c58, if_pos c76, if_pos c98]; done)
    ·
      refine T_vret rfl dX6_move_25 ?_
      refine ⟨rfl, rfl, rfl, ⟨_, hP⟩, hR.rf.cg (if_pos ?_).symm rfl, hF⟩
      first | exact Or.inl c11 | exact Or.inr c22
/-- what every road keeps -/
def RI (a b c : Nat) (ρ : RH) : Prop := (∀ h, h < b → PcOK a (ρ 15 h) ∧ b01 (ρ 16 h) ∧ b01 (ρ 14 h) ∧ b01 (ρ 20 h) ∧ (0 ≤ ρ 18 h ∧ ρ 18 h ≤ 60)) ∧ ∀ l, l < c → 1 ≤ ρ 31 l ∧ ρ 31 l ≤ 60
def nRI (f : Nat) : Prop := f ≠ 14 ∧ f ≠ 15 ∧ f ≠ 16 ∧ f ≠ 18 ∧ f ≠ 20 ∧ f ≠ 31
theorem RI.cong {a b c : Nat} {ρ ρ' : RH} (h : RI a b c ρ) (e : ∀ f i, (f = 14 ∨ f = 15 ∨ f = 16 ∨ f = 18 ∨ f = 20 ∨ f = 31) → ρ' f i = ρ f i) : RI a b c ρ' := by
  refine ⟨fun i hi => ?_, fun l hl => ?_⟩
  · rw [e 15 i (by omega), e 16 i (by omega), e 14 i (by omega), e 20 i (by omega), e 18 i (by omega)]; exact h.1 i hi
  · rw [e 31 l (by omega)]; exact h.2 l hl
theorem RI.u {a b c f i : Nat} {ρ : RH} {x : Int32} (h : RI a b c ρ) (hf : ¬ (f = 14 ∨ f = 15 ∨ f = 16 ∨ f = 18 ∨ f = 20 ∨ f = 31)) : RI a b c (u2 ρ f i x) := h.cong (fun g j hg => u2_f (by omega))
theorem RI.u20 {a b c i : Nat} {ρ : RH} {x : Int32} (h : RI a b c ρ) (hx : b01 x) : RI a b c (u2 ρ 20 i x) := by
  refine ⟨fun j hj => ?_, fun l hl => ?_⟩
  · obtain ⟨h1, h2, h3, h4, h5⟩ := h.1 j hj
    rw [u2_f (f := 20) (g := 15) (by decide), u2_f (f := 20) (g := 16) (by decide), u2_f (f := 20) (g := 14) (by decide), u2_f (f := 20) (g := 18) (by decide)]
    refine ⟨h1, h2, h3, ?_, h5⟩
    by_cases e : j = i
    · subst e; rw [u2_s]; exact hx
    · rw [u2_i e]; exact h4
  · rw [u2_f (by decide)]; exact h.2 l hl
theorem RI.stand {a b c i : Nat} {ρ : RH} {p d u : Int32} (h : RI a b c ρ) (hp : PcOK a p) (hd : b01 d) : RI a b c (standC ρ i p d u) := by
  unfold standC
  refine RI.u ?_ (by decide)
  refine ⟨fun j hj => ?_, fun l hl => ?_⟩
  · obtain ⟨h1, h2, h3, h4, h5⟩ := h.1 j hj
    rw [u2_f (f := 16) (g := 15) (by decide), u2_f (f := 16) (g := 14) (by decide), u2_f (f := 16) (g := 20) (by decide), u2_f (f := 16) (g := 18) (by decide), u2_f (f := 15) (g := 14) (by decide), u2_f (f := 15) (g := 20) (by decide), u2_f (f := 15) (g := 18) (by decide)]
    refine ⟨?_, ?_, h3, h4, h5⟩
    · by_cases e : j = i
      · subst e; rw [u2_s]; exact hp
      · rw [u2_i e]; exact h1
    · by_cases e : j = i
      · subst e; rw [u2_s]; exact hd
      · rw [u2_i e, u2_f (by decide)]; exact h2
  · rw [u2_f (by decide), u2_f (by decide)]; exact h.2 l hl
theorem tire_rg (x : Int32) : 0 ≤ maxI 0 (minI x 60) ∧ maxI 0 (minI x 60) ≤ 60 := by
  unfold maxI minI
  by_cases h : x < 60
  · rw [if_pos h]
    by_cases h2 : 0 < x
    · rw [if_pos h2]; exact ⟨Int32.le_of_lt h2, Int32.le_of_lt h⟩
    · rw [if_neg h2]; decide
  · rw [if_neg h]; decide
theorem RI.tire {a b c i : Nat} {ρ : RH} {x : Int32} (h : RI a b c ρ) : RI a b c (tireC ρ i x) := by
  unfold tireC
  refine ⟨fun j hj => ?_, fun l hl => ?_⟩
  · obtain ⟨h1, h2, h3, h4, h5⟩ := h.1 j hj
    rw [u2_f (by decide), u2_f (by decide), u2_f (by decide), u2_f (by decide)]
    refine ⟨h1, h2, h3, h4, ?_⟩
    by_cases e : j = i
    · subst e; rw [u2_s]; exact tire_rg _
    · rw [u2_i e]; exact h5
  · rw [u2_f (by decide)]; exact h.2 l hl
theorem RI.ps {a b c k : Nat} {ρ : RH} {x m : Int32} (h : RI a b c ρ) : RI a b c (psC ρ x m k).1 := h.cong (fun f i hf => psC_f (by omega))
theorem RI.mp {a b c k : Nat} {ρ : RH} {s0 w0 s1 w1 : Int32} (h : RI a b c ρ) : RI a b c (mpL ρ s0 w0 s1 w1 k) := h.cong (fun f i hf => mpL_f (by omega))
theorem RI.ul {a b c j k : Nat} {ρ : RH} (h : RI a b c ρ) : RI a b c (ulC ρ j k) := h.cong (fun f i hf => ulC_f (by omega) (by omega))
theorem RI.fz {a b c k : Nat} {ρ : RH} (h : RI a b c ρ) : RI a b c (fzC ρ k) := h.cong (fun f i hf => fzC_f (by omega))
theorem RI.fr {a b c k : Nat} {ρ : RH} (h : RI a b c ρ) : RI a b c (frC k ρ) := by
  unfold frC; split
  · exact h.fz
  · exact h
theorem RI.so {a b c j k : Nat} {ρ : RH} {x : Int32} (h : RI a b c ρ) : RI a b c (soC ρ j x k) := by
  refine ⟨fun i hi => ?_, fun l hl => ?_⟩
  · obtain ⟨h1, h2, h3, h4, h5⟩ := h.1 i hi
    rw [soC_f (by decide), soC_f (by decide), soC_f (by decide), soC_f (f := 18) (by decide)]
    refine ⟨h1, h2, h3, ?_, h5⟩
    unfold soC; split
    · exact Or.inr rfl
    · exact h4
  · rw [soC_f (by decide)]; exact h.2 l hl
theorem toF_pc {a j t : Nat} {ρ : RH} (ht : t < a) (ha : a ≤ 8) (h1 : toF ρ j t < nI a) (h2 : ¬ toF ρ j t < 0) : ∃ u, u < a ∧ toF ρ j t = nI u := by
  unfold toF at *
  split at h1
  · rename_i e
    rw [if_pos e] at h2 ⊢
    cases t with
    | zero => exact absurd (show nI 0 + -1 < 0 by decide) h2
    | succ t =>
      refine ⟨t, by omega, ?_⟩
      rw [← nI_1 t, Int32.add_assoc]
      exact Int32.add_zero _
  · rename_i e
    rw [if_neg e] at h2 ⊢
    refine ⟨t + 1, ?_, nI_1 t⟩
    have h3 : nI t + 1 = nI (t + 1) := nI_1 t
    rw [h3] at h1
    exact Nat.lt_of_not_le (fun q => Int32.not_le.mpr h1 ((nI_leI (by omega) (by omega)).mpr q))
theorem RI.lv {a b c j t : Nat} {ρ : RH} {x : Int32} (h : RI a b c ρ) (ha : a ≤ 8) (hj : j < b) (ht : t < a) : RI a b c (lvC a b c ρ j t x) := by
  unfold lvC
  split
  · rename_i q1
    split
    · exact h.stand (Or.inl rfl) (Or.inl rfl)
    · rename_i q2
      split
      · exact h.u (by decide)
      · exact h.so.stand (Or.inr (toF_pc ht ha q1 q2)) (h.1 j hj).2.1
  · exact h.ul.stand (Or.inr ⟨t, ht, rfl⟩) (Or.inl rfl)
theorem RI.go {a b c j t : Nat} {ρ : RH} {x : Int32} (h : RI a b c ρ) (ha : a ≤ 8) (hj : j < b) (ht : t < a) : RI a b c (goC a b c ρ j t x) := by
  have h2 : RI a b c (g2C ρ j t x) := (h.u (by decide)).tire
  unfold goC
  split
  · exact h2
  · exact h2.lv ha hj ht
theorem RI.bk {a b c j t : Nat} {ρ : RH} (h : RI a b c ρ) (ht : t < a) : RI a b c (bkC c ρ j t) := (((h.u (by decide)).u (by decide)).mp).stand (Or.inr ⟨t, ht, rfl⟩) (Or.inl rfl)
theorem RI.ot {a b c hc j : Nat} {σ : Nat → Nat} {π ρ : RH} (h : RI a b c ρ) (ha : a ≤ 8) : RI a b c (otC a c hc σ π ρ j) := by
  unfold otC sgC
  split
  · exact h
  · rename_i q
    split
    · exact h.ps
    · refine (h.ps.stand (Or.inr ⟨0, Nat.pos_of_ne_zero fun z => ?_, rfl⟩) (Or.inr rfl)).u20 (Or.inr rfl)
      subst z
      exact q (Or.inr (Or.inr rfl))
theorem RI.mo {a b c wc j : Nat} {σ : Nat → Nat} {π ρ : RH} (h : RI a b c ρ) (ha : a ≤ 8) (hj : j < b) : RI a b c (moC a b c wc σ π ρ j) := by
  unfold moC
  split
  · exact h
  · rename_i q
    obtain ⟨t, ht, hp⟩ := (h.1 j hj).1.has (fun z => q (Or.inr z))
    rw [hp, nI_cl (by omega)]
    unfold mtC
    split
    · split
      · split
        · exact h.go ha hj ht
        · exact h.tire
      · exact h.bk ht
    · exact h.tire
/-- the first k horses go out -/
def o1C (a c hc : Nat) (σ : Nat → Nat) (π ρ : RH) : Nat → RH
  | 0 => ρ
  | k + 1 => otC a c hc σ π (u2 (o1C a c hc σ π ρ k) 20 k 0) k
def o2C (a b c wc : Nat) (σ : Nat → Nat) (π ρ : RH) : Nat → RH
  | 0 => ρ
  | k + 1 => moC a b c wc σ π (o2C a b c wc σ π ρ k) k
/-- an hour -/
def hrC (a b c hc wc : Nat) (σ : Nat → Nat) (π ρ : RH) : RH := u2 (frC a (o2C a b c wc σ π (o1C a c hc σ π ρ b) b)) 6 0 ((frC a (o2C a b c wc σ π (o1C a c hc σ π ρ b) b)) 6 0 + 1)
def gbC (a b c hc wc : Nat) (σ : Nat → Nat) (π ρ : RH) : Nat → RH
  | 0 => ρ
  | n + 1 => hrC a b c hc wc σ π (gbC a b c hc wc σ π ρ n)
theorem RI.o1 {a b c hc : Nat} {σ : Nat → Nat} {π ρ : RH} (h : RI a b c ρ) (ha : a ≤ 8) : ∀ k, RI a b c (o1C a c hc σ π ρ k)
  | 0 => h
  | k + 1 => ((h.o1 ha k).u20 (Or.inl rfl)).ot ha
theorem RI.o2 {a b c wc : Nat} {σ : Nat → Nat} {π ρ : RH} (h : RI a b c ρ) (ha : a ≤ 8) : ∀ k, k ≤ b → RI a b c (o2C a b c wc σ π ρ k)
  | 0, _ => h
  | k + 1, hk => (h.o2 ha k (by omega)).mo ha (by omega)
theorem RI.hr {a b c hc wc : Nat} {σ : Nat → Nat} {π ρ : RH} (h : RI a b c ρ) (ha : a ≤ 8) : RI a b c (hrC a b c hc wc σ π ρ) := ((((h.o1 ha b).o2 ha b (Nat.le_refl _)).fr).u (by decide))
theorem RI.gb {a b c hc wc : Nat} {σ : Nat → Nat} {π ρ : RH} (h : RI a b c ρ) (ha : a ≤ 8) : ∀ n, RI a b c (gbC a b c hc wc σ π ρ n)
  | 0 => h
  | n + 1 => (h.gb ha n).hr ha
set_option maxHeartbeats 1000000 in
theorem L2_X6_goBy {l : Launch} {D : va_G} {cA : Nat → ClassId} {n0 : Nat} {sg adK adV : Nat → Nat} {sgA smA wdA bS LS : Nat} {xs : Nat → Int32} (hX : SF n0 (XW0 sg adK adV sgA smA wdA n0 bS LS xs)) {sz : Nat} {τ : TY} {M0 : ME} {r p a b c hc wc sc : Nat} {ρ π : RH} {ν : NU} {σ : Nat → Nat} (hd : p + 30 ≤ r ∨ r + 38 ≤ p) (ho : PlOK a b hc wc σ π) (hi : RI a b c ρ) {hs n1 : Nat} (hs2 : hs < 2 ^ 31) (hn1 : n1 < hs) (kk : ∀ (κ2 : Nat → Int32) (u : Value) (M2 : ME), PM τ M2 M2 p sg hc wc sc π σ κ2 → LM τ M2 M2 r a b c (gbC a b c hc wc σ π ρ (n1 + 1)) ν → Fr2 p r M0 M2 → T l D cA n0 (XW0 sg adK adV sgA smA wdA n0 bS LS xs) mX6_goBy 8 0 0 sz τ M2 2 [.ref r, .int (nI hs), .ref p, .int (nI (n1 + 1)), u] [] (fun v' sz' τ' M' => v' = none ∧ sz' = sz ∧ τ' = τ ∧ (∃ κ', PM τ M' M' p sg hc wc sc π σ κ') ∧ LM τ M' M' r a b c (gbC a b c hc wc σ π ρ hs) ν ∧ Fr2 p r M0 M') (fun _ _ _ _ => False)) : ∀ (n : Nat) (k : Nat) (κ : Nat → Int32) (u : Value) (Mk : ME) (hk : k ≤ b) (hP : PM τ Mk Mk p sg hc wc sc π σ κ) (hR : LM τ Mk Mk r a b c (o2C a b c wc σ π (o1C a c hc σ π (gbC a b c hc wc σ π ρ n1) b) k) ν) (hF : Fr2 p r M0 Mk), b - k < n → T l D cA n0 (XW0 sg adK adV sgA smA wdA n0 bS LS xs) mX6_goBy 8 0 0 sz τ Mk 46 [.ref r, .int (nI hs), .ref p, .int (nI n1), .int (nI k)] [] (fun v' sz' τ' M' => v' = none ∧ sz' = sz ∧ τ' = τ ∧ (∃ κ', PM τ M' M' p sg hc wc sc π σ κ') ∧ LM τ M' M' r a b c (gbC a b c hc wc σ π ρ hs) ν ∧ Fr2 p r M0 M') (fun _ _ _ _ => False) := by
  intro n
  induction n with
  | zero => intros; omega
  | succ n ih =>
    intro k κ u Mk hk hP hR hF hn
    obtain ⟨l3, l4, l5⟩ := hR.ok
    have hi1 := (((hi.gb (hc := hc) (wc := wc) (σ := σ) (π := π) l3 n1).o1 (hc := hc) (σ := σ) (π := π) l3 b).o2 (wc := wc) (σ := σ) (π := π) l3 k hk)
    refine T_iload4 dX6_goBy_46 rfl ?_
    refine T_aload0 dX6_goBy_48 rfl ?_
    refine g6_36 _ rfl hR.t hR.r4 dX6_goBy_49 rfl ?_
    refine T_icmp_ge 68 55 dX6_goBy_52 (by decide) rfl (fun c7 => ?_) (fun c7 => ?_)
    ·
      have c7 := le_out rfl c7
      refine T_aload0 dX6_goBy_68 rfl ?_
      refine T_cV0 (c_X6_freeze hX hR) hX k6_176 (Or.inl ⟨_, _, _, _, hR.t, by decide, rfl⟩) (by decide) (Nat.le_of_ble_eq_true rfl) dX6_goBy_69 rfl ?_
      rintro _ _ _ M1 ⟨rfl, rfl, rfl, hN⟩
      have hP := hP.nx hN.frame (by omega)
      have hF := hF.rd hN.frame
      have hR := hN.rf
      refine T_aload0 dX6_goBy_72 rfl ?_
      refine T_dup dX6_goBy_73 rfl rfl ?_
      refine g6_42 _ rfl hR.t hR.r6 dX6_goBy_74 rfl ?_
      refine T_iconst (1) dX6_goBy_77 rfl rfl ?_
      refine T_iadd dX6_goBy_78 rfl ?_
      refine p6_42 rfl hR.t dX6_goBy_79 rfl ?_
      refine T_nm (fun M1 e1 => ?_)
      have hP := hP.frU e1 (by (try simp only [stA, hsA, lgA]); omega)
      have hR := LM.mv (hR.pr (by omega)) e1
      have hF := hF.up e1 (by (try simp only [stA, hsA, lgA]); omega)
      first | refine T_iinc3 rfl (by decide) dX6_goBy_82 rfl (inc1 _) ?_ | refine T_iinc3 rfl (by decide) dX6_goBy_82 rfl rfl ?_
      refine T_goto 2 dX6_goBy_85 (by decide) ?_
      have hkk : k = b := by omega
      subst hkk
      exact kk _ _ _ hP hR.rf hF
    ·
      have c7 := lt_in rfl c7
      refine T_aload0 dX6_goBy_55 rfl ?_
      refine T_iload4 dX6_goBy_56 rfl ?_
      refine T_aload2 dX6_goBy_58 rfl ?_
      refine T_cV2 (c_X6_move hX hd ho hP hR (Fr2.rf _ _ _) c7 (hi1.1 k c7).1 (hi1.1 k c7).2.1) hX k6_173 (Or.inl ⟨_, _, _, _, hR.t, by decide, rfl⟩) (by decide) (Nat.le_of_ble_eq_true rfl) dX6_goBy_59 rfl ?_
      rintro _ _ _ M1 ⟨rfl, rfl, rfl, ⟨κ1, hP⟩, hR, hN⟩
      have hF := hF.tr hN
      first | refine T_iinc4 rfl (by decide) dX6_goBy_62 rfl (inc1 _) ?_ | refine T_iinc4 rfl (by decide) dX6_goBy_62 rfl rfl ?_
      refine T_goto 46 dX6_goBy_65 (by decide) ?_
      exact ih (k + 1) _ UU _ (by omega) hP hR hF (by omega)
set_option maxHeartbeats 1000000 in
theorem L1_X6_goBy {l : Launch} {D : va_G} {cA : Nat → ClassId} {n0 : Nat} {sg adK adV : Nat → Nat} {sgA smA wdA bS LS : Nat} {xs : Nat → Int32} (hX : SF n0 (XW0 sg adK adV sgA smA wdA n0 bS LS xs)) {sz : Nat} {τ : TY} {M0 : ME} {r p a b c hc wc sc : Nat} {ρ π : RH} {ν : NU} {σ : Nat → Nat} (hd : p + 30 ≤ r ∨ r + 38 ≤ p) (ho : PlOK a b hc wc σ π) (hi : RI a b c ρ) {hs n1 : Nat} (hs2 : hs < 2 ^ 31) (hn1 : n1 < hs) (kk : ∀ (κ2 : Nat → Int32) (u : Value) (M2 : ME), PM τ M2 M2 p sg hc wc sc π σ κ2 → LM τ M2 M2 r a b c (gbC a b c hc wc σ π ρ (n1 + 1)) ν → Fr2 p r M0 M2 → T l D cA n0 (XW0 sg adK adV sgA smA wdA n0 bS LS xs) mX6_goBy 8 0 0 sz τ M2 2 [.ref r, .int (nI hs), .ref p, .int (nI (n1 + 1)), u] [] (fun v' sz' τ' M' => v' = none ∧ sz' = sz ∧ τ' = τ ∧ (∃ κ', PM τ M' M' p sg hc wc sc π σ κ') ∧ LM τ M' M' r a b c (gbC a b c hc wc σ π ρ hs) ν ∧ Fr2 p r M0 M') (fun _ _ _ _ => False)) : ∀ (n : Nat) (k : Nat) (κ : Nat → Int32) (u : Value) (Mk : ME) (hk : k ≤ b) (hP : PM τ Mk Mk p sg hc wc sc π σ κ) (hR : LM τ Mk Mk r a b c (o1C a c hc σ π (gbC a b c hc wc σ π ρ n1) k) ν) (hF : Fr2 p r M0 Mk), b - k < n → T l D cA n0 (XW0 sg adK adV sgA smA wdA n0 bS LS xs) mX6_goBy 8 0 0 sz τ Mk 10 [.ref r, .int (nI hs), .ref p, .int (nI n1), .int (nI k)] [] (fun v' sz' τ' M' => v' = none ∧ sz' = sz ∧ τ' = τ ∧ (∃ κ', PM τ M' M' p sg hc wc sc π σ κ') ∧ LM τ M' M' r a b c (gbC a b c hc wc σ π ρ hs) ν ∧ Fr2 p r M0 M') (fun _ _ _ _ => False) := by
  intro n
  induction n with
  | zero => intros; omega
  | succ n ih =>
    intro k κ u Mk hk hP hR hF hn
    obtain ⟨l3, l4, l5⟩ := hR.ok
    refine T_iload4 dX6_goBy_10 rfl ?_
    refine T_aload0 dX6_goBy_12 rfl ?_
    refine g6_36 _ rfl hR.t hR.r4 dX6_goBy_13 rfl ?_
    refine T_icmp_ge 43 19 dX6_goBy_16 (by decide) rfl (fun c7 => ?_) (fun c7 => ?_)
    ·
      have c7 := le_out rfl c7
      refine T_iconst (0) dX6_goBy_43 rfl rfl ?_
      refine T_istore4 rfl (by decide) dX6_goBy_44 rfl ?_
      have hkk : k = b := by omega
      subst hkk
      exact L2_X6_goBy hX hd ho hi hs2 hn1 kk (k + 1) 0 _ UU _ (Nat.zero_le _) hP hR hF (by omega)
    ·
      have c7 := lt_in rfl c7
      refine T_aload0 dX6_goBy_19 rfl ?_
      refine g6_20 _ rfl hR.t hR.r1 dX6_goBy_20 rfl ?_
      refine T_iload4 dX6_goBy_23 rfl ?_
      refine T_aald 3 _ (by decide) hR.tH rfl (by omega) (by decide) dX6_goBy_25 rfl (hR.H (by omega)) ?_
      refine T_iconst (0) dX6_goBy_26 rfl rfl ?_
      refine p6_166 (by first | exact Or.inl rfl | exact Or.inr rfl | assumption) rfl (hR.th (by omega)) dX6_goBy_27 rfl ?_
      refine T_nm (fun M1 e1 => ?_)
      have hP := hP.frU e1 (by (try simp only [stA, hsA, lgA]); omega)
      have hR := LM.mv (hR.ph (by omega) (by omega)) e1
      have hF := hF.up e1 (by (try simp only [stA, hsA, lgA]); omega)
      refine T_aload0 dX6_goBy_30 rfl ?_
      refine T_iload4 dX6_goBy_31 rfl ?_
      refine T_aload2 dX6_goBy_33 rfl ?_
      refine T_cV2 (c_X6_sendOut hX hd ho hP hR.rf (Fr2.rf _ _ _) c7) hX k6_169 (Or.inl ⟨_, _, _, _, hR.t, by decide, rfl⟩) (by decide) (Nat.le_of_ble_eq_true rfl) dX6_goBy_34 rfl ?_
      rintro _ _ _ M1 ⟨rfl, rfl, rfl, ⟨κ1, hP⟩, hR, hN⟩
      have hF := hF.tr hN
      first | refine T_iinc4 rfl (by decide) dX6_goBy_37 rfl (inc1 _) ?_ | refine T_iinc4 rfl (by decide) dX6_goBy_37 rfl rfl ?_
      refine T_goto 10 dX6_goBy_40 (by decide) ?_
      exact ih (k + 1) _ UU _ (by omega) hP hR hF (by omega)
set_option maxHeartbeats 1000000 in
theorem L0_X6_goBy {l : Launch} {D : va_G} {cA : Nat → ClassId} {n0 : Nat} {sg adK adV : Nat → Nat} {sgA smA wdA bS LS : Nat} {xs : Nat → Int32} (hX : SF n0 (XW0 sg adK adV sgA smA wdA n0 bS LS xs)) {sz : Nat} {τ : TY} {M0 : ME} {r p a b c hc wc sc : Nat} {ρ π : RH} {ν : NU} {σ : Nat → Nat} (hd : p + 30 ≤ r ∨ r + 38 ≤ p) (ho : PlOK a b hc wc σ π) (hi : RI a b c ρ) {hs : Nat} (hs2 : hs < 2 ^ 31) : ∀ (n : Nat) (n1 : Nat) (κ : Nat → Int32) (u : Value) (Mk : ME) (hk : n1 ≤ hs) (hP : PM τ Mk Mk p sg hc wc sc π σ κ) (hR : LM τ Mk Mk r a b c (gbC a b c hc wc σ π ρ n1) ν) (hF : Fr2 p r M0 Mk), hs - n1 < n → T l D cA n0 (XW0 sg adK adV sgA smA wdA n0 bS LS xs) mX6_goBy 8 0 0 sz τ Mk 2 [.ref r, .int (nI hs), .ref p, .int (nI n1), u] [] (fun v' sz' τ' M' => v' = none ∧ sz' = sz ∧ τ' = τ ∧ (∃ κ', PM τ M' M' p sg hc wc sc π σ κ') ∧ LM τ M' M' r a b c (gbC a b c hc wc σ π ρ hs) ν ∧ Fr2 p r M0 M') (fun _ _ _ _ => False) := by
  intro n
  induction n with
  | zero => intros; omega
  | succ n ih =>
    intro n1 κ u Mk hk hP hR hF hn
    refine T_iload3 dX6_goBy_2 rfl ?_
    refine T_iload1 dX6_goBy_3 rfl ?_
    refine T_icmp_ge 88 7 dX6_goBy_4 (by decide) rfl (fun c7 => ?_) (fun c7 => ?_)
    ·
      have c7 := (nI_leI (by omega) (by omega)).mp c7
      refine T_vret rfl dX6_goBy_88 ?_
      have hkk : n1 = hs := by omega
      subst hkk
      exact ⟨rfl, rfl, rfl, ⟨_, hP⟩, hR, hF⟩
    ·
      have c7 := Nat.lt_of_not_le (fun q => c7 ((nI_leI (by omega) (by omega)).mpr q))
      refine T_iconst (0) dX6_goBy_7 rfl rfl ?_
      refine T_istore4 rfl (by decide) dX6_goBy_8 rfl ?_
      exact L1_X6_goBy hX hd ho hi hs2 c7 (fun κ2 u2 M2 x1 x2 x3 => ih (n1 + 1) κ2 u2 M2 (by omega) x1 x2 x3 (by omega)) (b + 1) 0 _ UU _ (Nat.zero_le _) hP hR hF (by omega)
set_option maxHeartbeats 1000000 in
theorem c_X6_goBy {l : Launch} {D : va_G} {cA : Nat → ClassId} {n0 : Nat} {sg adK adV : Nat → Nat} {sgA smA wdA bS LS : Nat} {xs : Nat → Int32} (hX : SF n0 (XW0 sg adK adV sgA smA wdA n0 bS LS xs)) {sz : Nat} {τ : TY} {M0 : ME} {r p a b c hc wc sc : Nat} {ρ π : RH} {ν : NU} {σ : Nat → Nat} (hd : p + 30 ≤ r ∨ r + 38 ≤ p) (ho : PlOK a b hc wc σ π) (hi : RI a b c ρ) {hs : Nat} (hs2 : hs < 2 ^ 31) {M : ME} {κ : Nat → Int32} (hP : PM τ M M p sg hc wc sc π σ κ) (hR : LM τ M M r a b c ρ ν) (hF : Fr2 p r M0 M) : CT l D cA n0 (XW0 sg adK adV sgA smA wdA n0 bS LS xs) mX6_goBy 8 0 0 sz τ M [.ref r, .int (nI hs), .ref p] (fun v' sz' τ' M' => v' = none ∧ sz' = sz ∧ τ' = τ ∧ (∃ κ', PM τ M' M' p sg hc wc sc π σ κ') ∧ LM τ M' M' r a b c (gbC a b c hc wc σ π ρ hs) ν ∧ Fr2 p r M0 M') := by
  refine CT.of (ls := [.ref r, .int (nI hs), .ref p, UU, UU]) (by decide) (Nat.le_of_ble_eq_true rfl) rfl ?_
  refine T_iconst (0) dX6_goBy_0 rfl rfl ?_
  refine T_istore3 rfl (by decide) dX6_goBy_1 rfl ?_
  exact L0_X6_goBy hX hd ho hi hs2 (hs + 1) 0 _ UU M (Nat.zero_le _) hP hR hF (by omega)
