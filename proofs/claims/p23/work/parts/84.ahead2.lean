set_option maxHeartbeats 1000000 in
theorem c_X10_pass {l : Launch} {D : va_G} {cA : Nat → ClassId} {n0 : Nat} {sg adK adV : Nat → Nat} {sgA smA wdA bS LS : Nat} {xs : Nat → Int32} (hX : SF n0 (XW0 sg adK adV sgA smA wdA n0 bS LS xs)) (hl : l.stackTraces = false) {sz : Nat} {τ : TY} {N1 M : ME} {x r p r2 p2 n8 a b c hc wc sc : Nat} {ω ρ π : RH} {ν : NU} {σ : Nat → Nat} {κ : Nat → Int32} (hV : FV τ N1 M x r p r2 p2 n8 ω) (hR : LM τ M M r a b c ρ ν) (hP : PM τ M M p sg hc wc sc π σ κ) (ho : PlOK a b hc wc σ π) (hi : RI a b c ρ) (hd : p + 30 ≤ r ∨ r + 38 ≤ p) (hx : (r + 38 ≤ x ∨ x + 1 ≤ r) ∧ (p + 30 ≤ x ∨ x + 1 ≤ p)) (w : Int32) : CX l D cA n0 (XW0 sg adK adV sgA smA wdA n0 bS LS xs) mX10_pass 9 1 6 sz τ M [.ref x, .int w] (fun v' sz' τ' M' => (v' = some (.int (wOf c (gbC a b c hc wc σ π ρ w.toNatClampNeg) 3 - wOf c ρ 3)) ∧ ¬ iiF w 1 120 = 0) ∧ sz' = sz ∧ τ' = τ ∧ (∃ κ', PM τ M' M' p sg hc wc sc π σ κ') ∧ LM τ M' M' r a b c (gbC a b c hc wc σ π ρ w.toNatClampNeg) ν ∧ Fr2 p r M M') (fun E sz' τ' M' => ((E = "java/lang/IllegalArgumentException" ∧ iiF w 1 120 = 0)) ∧ sz ≤ sz' ∧ τ' = τ ∧ M' = M) := by
  refine CX.of (ls := [.ref x, .int w, UU]) hl rfl ?_ (by decide) (Nat.le_of_ble_eq_true rfl) rfl ?_
  · intro q hq; exact absurd hq (List.not_mem_nil)
  obtain ⟨la, lb, lc⟩ := hR.ok
  refine T_iload1 dX10_pass_0 rfl ?_
  refine T_iconst (1) dX10_pass_1 rfl rfl ?_
  refine T_bipush (120) dX10_pass_2 rfl rfl ?_
  refine T_cXS3 (c_X10_checkRange hX hl _ _ _) hX k10_60 (by decide) (Nat.le_of_ble_eq_true rfl) dX10_pass_4 rfl ?_ (by
    rintro _ _ z2 _ _ ⟨rfl, rfl, rfl, rfl, h5⟩ hz
    exact ⟨⟨rfl, h5⟩, hz, rfl, rfl⟩)
  rintro _ _ _ _ ⟨rfl, rfl, rfl, rfl, h1⟩
  have h0 := h1
  obtain ⟨j, hj1, hj, rfl⟩ := ii_1n (n := 120) (by omega) h1
  rw [nI_cl (by omega)]
  refine T_aload0 dX10_pass_7 rfl ?_
  refine g10_23 _ rfl (hV.t_x) (hV.g_r) dX10_pass_8 rfl ?_
  refine T_iconst (3) dX10_pass_11 rfl rfl ?_
  refine T_cV1 (c_X6_weightOf hX hR _) hX k10_119 (Or.inl ⟨_, _, _, _, hR.t, by decide, rfl⟩) (by decide) (Nat.le_of_ble_eq_true rfl) dX10_pass_12 rfl ?_
  rintro _ _ _ _ ⟨rfl, rfl, rfl, rfl⟩
  refine T_istore2 rfl (by decide) dX10_pass_15 rfl ?_
  refine T_aload0 dX10_pass_16 rfl ?_
  refine g10_23 _ rfl (hV.t_x) (hV.g_r) dX10_pass_17 rfl ?_
  refine T_iload1 dX10_pass_20 rfl ?_
  refine T_aload0 dX10_pass_21 rfl ?_
  refine g10_30 _ rfl (hV.t_x) (hV.g_p) dX10_pass_22 rfl ?_
  refine T_cV2 (c_X6_goBy hX hd ho hi (hs := j) (by omega) hP hR (Fr2.rf _ _ _)) hX k10_122 (Or.inl ⟨_, _, _, _, hR.t, by decide, rfl⟩) (by decide) (Nat.le_of_ble_eq_true rfl) dX10_pass_25 rfl ?_
  rintro _ _ _ M1 ⟨rfl, rfl, rfl, ⟨κ1, hP⟩, hR, hN⟩
  have hV := hV.nx2 hN (by omega) (by omega)
  refine T_aload0 dX10_pass_28 rfl ?_
  refine g10_23 _ rfl (hV.t_x) (hV.g_r) dX10_pass_29 rfl ?_
  refine T_iconst (3) dX10_pass_32 rfl rfl ?_
  refine T_cV1 (c_X6_weightOf hX hR _) hX k10_119 (Or.inl ⟨_, _, _, _, hR.t, by decide, rfl⟩) (by decide) (Nat.le_of_ble_eq_true rfl) dX10_pass_33 rfl ?_
  rintro _ _ _ _ ⟨rfl, rfl, rfl, rfl⟩
  refine T_iload2 dX10_pass_36 rfl ?_
  refine T_isub dX10_pass_37 rfl ?_
  refine T_iret rfl rfl dX10_pass_38 ?_
  exact ⟨⟨rfl, h0⟩, rfl, rfl, ⟨_, hP⟩, hR, hN⟩
/-- behind a question of the class that looks ahead -/
def SB (sg : Nat → Nat) (τ : TY) (M : ME) (p r2 hc wc sc : Nat) (π : RH) (σ : Nat → Nat) (sz sz' : Nat) (τ' : TY) (M' : ME) : Prop := sz' = sz ∧ τ' = τ ∧ (∃ κ', PM τ M' M' p sg hc wc sc π σ κ') ∧ (∃ a2 b2 c2 ρ2 ν2, LM τ M' M' r2 a2 b2 c2 ρ2 ν2) ∧ Fr2 p r2 M M'
set_option maxHeartbeats 1000000 in
theorem L_X10_arrives {l : Launch} {D : va_G} {cA : Nat → ClassId} {n0 : Nat} {sg adK adV : Nat → Nat} {sgA smA wdA bS LS : Nat} {xs : Nat → Int32} (hX : SF n0 (XW0 sg adK adV sgA smA wdA n0 bS LS xs)) {sz : Nat} {τ : TY} {M : ME} {x r p r2 p2 n8 a b c hc wc sc : Nat} {ω ρ π : RH} {ν : NU} {σ : Nat → Nat} (ho : PlOK a b hc wc σ π) (hi : RI a b c ρ) (hd : p + 30 ≤ r ∨ r + 38 ≤ p) (hx : (r + 38 ≤ x ∨ x + 1 ≤ r) ∧ (p + 30 ≤ x ∨ x + 1 ≤ p)) (hd2 : p + 30 ≤ r2 ∨ r2 + 38 ≤ p) (hd3 : r + 38 ≤ r2 ∨ r2 + 38 ≤ r) (hx2 : r2 + 38 ≤ x ∨ x + 1 ≤ r2) {QX : QXT} {j : Nat} (hj : j < c) : ∀ (n : Nat) (k : Nat) (N1 N2 N3 Mk : ME) (κ : Nat → Int32) (hk : k ≤ 201) (hV : FV τ N1 Mk x r p r2 p2 n8 ω) (hR : LM τ N2 Mk r a b c ρ ν) (hP : PM τ N3 Mk p sg hc wc sc π σ κ) (hA : LM τ Mk Mk r2 a b c (gbC a b c hc wc σ π ρ k) ν) (hF : Fr2 p r2 M Mk), 201 - k < n → T l D cA n0 (XW0 sg adK adV sgA smA wdA n0 bS LS xs) mX10_arrives 9 0 0 sz τ Mk 24 [.ref x, .int (nI j), .int (nI k)] [] (fun v' sz' τ' M' => v' = some (.int (arG a b c hc wc σ π ρ j k (201 - k))) ∧ SB sg τ M p r2 hc wc sc π σ sz sz' τ' M') QX := by
  intro n
  induction n with
  | zero => intros; omega
  | succ n ih =>
    intro k N1 N2 N3 Mk κ hk hV hR hP hA hF hn
    obtain ⟨la, lb, lc⟩ := hR.ok
    refine T_iload2 dX10_arrives_24 rfl ?_
    refine T_sipush (200) dX10_arrives_25 rfl rfl ?_
    refine T_icmp_gt 62 31 dX10_arrives_28 (by decide) rfl (fun c28 => ?_) (fun c28 => ?_)
    ·
      have c28 : 200 < k := Nat.lt_of_not_le (fun q => absurd ((nI_leI (a := k) (b := 200) (by omega) (by omega)).mpr q) (Int32.not_le.mpr c28))
      refine T_iconst (-1) dX10_arrives_62 rfl rfl ?_
      refine T_iret rfl rfl dX10_arrives_63 ?_
      rw [arG_0 (by omega)]
      exact ⟨rfl, rfl, rfl, ⟨_, hP.rf⟩, ⟨_, _, _, _, _, hA.rf⟩, hF⟩
    ·
      have c28 : k ≤ 200 := Nat.le_of_not_lt (fun q => c28 (nI_lt (a := 200) (by omega) (by omega)))
      refine T_aload0 dX10_arrives_31 rfl ?_
      refine g10_34 _ rfl (hV.t_x) (hV.g_r2) dX10_arrives_32 rfl ?_
      refine T_iload1 dX10_arrives_35 rfl ?_
      refine T_cV1 (c_X6_isAtRaft hX hA (by omega)) hX k10_130 (by first | exact Or.inl ⟨_, _, _, _, hR.t, by decide, rfl⟩ | exact Or.inl ⟨_, _, _, _, hA.t, by decide, rfl⟩) (by decide) (Nat.le_of_ble_eq_true rfl) dX10_arrives_36 rfl ?_
      rintro _ _ _ _ ⟨rfl, rfl, rfl, rfl⟩
      refine T_if_eq 44 42 dX10_arrives_39 (by decide) rfl (fun c39 => ?_) (fun c39 => ?_)
      ·
        have c39 : ¬ (gbC a b c hc wc σ π ρ k) 32 j = 3 := fun e => by rw [if_pos e] at c39; exact absurd c39 (by decide)
        refine T_aload0 dX10_arrives_44 rfl ?_
        refine g10_34 _ rfl (hV.t_x) (hV.g_r2) dX10_arrives_45 rfl ?_
        refine T_iconst (1) dX10_arrives_48 rfl rfl ?_
        refine T_aload0 dX10_arrives_49 rfl ?_
        refine g10_30 _ rfl (hV.t_x) (hV.g_p) dX10_arrives_50 rfl ?_
        refine T_cV2 (c_X6_goBy hX hd2 ho (hi.gb la k) (hs := 1) (by omega) hP.rf hA.rf (Fr2.rf _ _ _)) hX k10_122 (by first | exact Or.inl ⟨_, _, _, _, hR.t, by decide, rfl⟩ | exact Or.inl ⟨_, _, _, _, hA.t, by decide, rfl⟩) (by decide) (Nat.le_of_ble_eq_true rfl) dX10_arrives_53 rfl ?_
        rintro _ _ _ M8 ⟨rfl, rfl, rfl, ⟨κ8, hP⟩, hA, hN⟩
        have hV := hV.nx2 hN (by omega) (by omega)
        have hR := hR.nx2 hN (by omega) (by omega)
        have hF := hF.tr hN
        first | refine T_iinc2 rfl (by decide) dX10_arrives_56 rfl (inc1 _) ?_ | refine T_iinc2 rfl (by decide) dX10_arrives_56 rfl rfl ?_
        refine T_goto 24 dX10_arrives_59 (by decide) ?_
        rw [arG_n (by omega) c39]
        exact ih (k + 1) _ _ _ _ _ (by omega) hV hR hP hA hF (by omega)
      ·
        have c39 : (gbC a b c hc wc σ π ρ k) 32 j = 3 := Decidable.byContradiction fun e => c39 (if_neg e)
        refine T_iload2 dX10_arrives_42 rfl ?_
        refine T_iret rfl rfl dX10_arrives_43 ?_
        rw [arG_y (by omega) c39]
        exact ⟨rfl, rfl, rfl, ⟨_, hP.rf⟩, ⟨_, _, _, _, _, hA.rf⟩, hF⟩
set_option maxHeartbeats 1000000 in
theorem c_X10_arrives {l : Launch} {D : va_G} {cA : Nat → ClassId} {n0 : Nat} {sg adK adV : Nat → Nat} {sgA smA wdA bS LS : Nat} {xs : Nat → Int32} (hX : SF n0 (XW0 sg adK adV sgA smA wdA n0 bS LS xs)) (hl : l.stackTraces = false) {sz : Nat} {τ : TY} {N1 M : ME} {x r p r2 p2 n8 a b c hc wc sc : Nat} {ω ρ π : RH} {ν : NU} {σ : Nat → Nat} {κ : Nat → Int32} (hV : FV τ N1 M x r p r2 p2 n8 ω) (hR : LM τ M M r a b c ρ ν) (hP : PM τ M M p sg hc wc sc π σ κ) (ho : PlOK a b hc wc σ π) (hi : RI a b c ρ) (hd : p + 30 ≤ r ∨ r + 38 ≤ p) (hx : (r + 38 ≤ x ∨ x + 1 ≤ r) ∧ (p + 30 ≤ x ∨ x + 1 ≤ p)) {N3 : ME} {a2 b2 c2 : Nat} {ρ2 : RH} {ν2 : NU} (hA : LM τ N3 M r2 a2 b2 c2 ρ2 ν2) (hd2 : p + 30 ≤ r2 ∨ r2 + 38 ≤ p) (hd3 : r + 38 ≤ r2 ∨ r2 + 38 ≤ r) (hx2 : r2 + 38 ≤ x ∨ x + 1 ≤ r2) (w : Int32) : CX l D cA n0 (XW0 sg adK adV sgA smA wdA n0 bS LS xs) mX10_arrives 9 1 6 sz τ M [.ref x, .int w] (fun v' sz' τ' M' => (v' = some (.int (arG a b c hc wc σ π ρ w.toNatClampNeg 0 201)) ∧ ¬ hasI w (nI c) = 0) ∧ SB sg τ M p r2 hc wc sc π σ sz sz' τ' M') (fun E sz' τ' M' => ((E = "java/lang/IndexOutOfBoundsException" ∧ hasI w (nI c) = 0)) ∧ sz ≤ sz' ∧ τ' = τ ∧ M' = M) := by
  refine CX.of (ls := [.ref x, .int w, UU]) hl rfl ?_ (by decide) (Nat.le_of_ble_eq_true rfl) rfl ?_
  · intro q hq; exact absurd hq (List.not_mem_nil)
  obtain ⟨la, lb, lc⟩ := hR.ok
  have hF : Fr2 p r2 M M := Fr2.rf _ _ _
  refine T_iload1 dX10_arrives_0 rfl ?_
  refine T_aload0 dX10_arrives_1 rfl ?_
  refine g10_23 _ rfl (hV.t_x) (hV.g_r) dX10_arrives_2 rfl ?_
  first | refine g10_102 _ rfl hR.t hR.r5 dX10_arrives_5 rfl ?_ | refine g10_102 _ rfl hA.t hA.r5 dX10_arrives_5 rfl ?_
  refine T_cXS2 (c_X10_checkIndex hX hl _ _) hX k10_81 (by decide) (Nat.le_of_ble_eq_true rfl) dX10_arrives_8 rfl ?_ (by
    rintro _ _ z2 _ _ ⟨rfl, rfl, rfl, rfl, h5⟩ hz
    exact ⟨⟨rfl, h5⟩, hz, rfl, rfl⟩)
  rintro _ _ _ _ ⟨rfl, rfl, rfl, rfl, h1⟩
  have h0 := h1
  obtain ⟨j, hj, rfl⟩ := has_nI (by omega) h1
  rw [nI_cl (by omega)]
  refine T_aload0 dX10_arrives_11 rfl ?_
  refine g10_34 _ rfl (hV.t_x) (hV.g_r2) dX10_arrives_12 rfl ?_
  refine T_aload0 dX10_arrives_15 rfl ?_
  refine g10_23 _ rfl (hV.t_x) (hV.g_r) dX10_arrives_16 rfl ?_
  refine T_cV1 (c_X6_become hX hA.rf hR (by omega) hi.B) hX k10_126 (by first | exact Or.inl ⟨_, _, _, _, hR.t, by decide, rfl⟩ | exact Or.inl ⟨_, _, _, _, hA.t, by decide, rfl⟩) (by decide) (Nat.le_of_ble_eq_true rfl) dX10_arrives_19 rfl ?_
  rintro _ _ _ M8 ⟨rfl, rfl, rfl, hN⟩
  have hV := hV.nx hN.frame (by omega)
  have hR := hR.nx hN.frame (by omega)
  have hP := hP.nx hN.frame (by omega)
  have hF := hF.rd hN.frame
  have hA := hN.rf
  refine T_iconst (0) dX10_arrives_22 rfl rfl ?_
  refine T_istore2 rfl (by decide) dX10_arrives_23 rfl ?_
  refine T_cons ?_ (L_X10_arrives hX ho hi hd hx hd2 hd3 hx2 hj 202 0 _ _ _ _ _ (by omega) hV hR hP hA hF (by omega))
  intro v sz9 τ9 M9 hq
  exact ⟨⟨hq.1, h0⟩, hq.2⟩
set_option maxHeartbeats 1000000 in
theorem L_X10_breaks {l : Launch} {D : va_G} {cA : Nat → ClassId} {n0 : Nat} {sg adK adV : Nat → Nat} {sgA smA wdA bS LS : Nat} {xs : Nat → Int32} (hX : SF n0 (XW0 sg adK adV sgA smA wdA n0 bS LS xs)) {sz : Nat} {τ : TY} {M : ME} {x r p r2 p2 n8 a b c hc wc sc : Nat} {ω ρ π : RH} {ν : NU} {σ : Nat → Nat} (ho : PlOK a b hc wc σ π) (hi : RI a b c ρ) (hd : p + 30 ≤ r ∨ r + 38 ≤ p) (hx : (r + 38 ≤ x ∨ x + 1 ≤ r) ∧ (p + 30 ≤ x ∨ x + 1 ≤ p)) (hd2 : p + 30 ≤ r2 ∨ r2 + 38 ≤ p) (hd3 : r + 38 ≤ r2 ∨ r2 + 38 ≤ r) (hx2 : r2 + 38 ≤ x ∨ x + 1 ≤ r2) {QX : QXT} {j : Nat} (hj : j < b) : ∀ (n : Nat) (k : Nat) (N1 N2 N3 Mk : ME) (κ : Nat → Int32) (hk0 : 1 ≤ k) (hk : k ≤ 201) (hV : FV τ N1 Mk x r p r2 p2 n8 ω) (hR : LM τ N2 Mk r a b c ρ ν) (hP : PM τ N3 Mk p sg hc wc sc π σ κ) (hA : LM τ Mk Mk r2 a b c (gbC a b c hc wc σ π ρ (k - 1)) ν) (hF : Fr2 p r2 M Mk), 201 - k < n → T l D cA n0 (XW0 sg adK adV sgA smA wdA n0 bS LS xs) mX10_breaks 9 0 0 sz τ Mk 33 [.ref x, .int (nI j), .int (ρ 12 j), .int (nI k)] [] (fun v' sz' τ' M' => v' = some (.int (brG a b c hc wc σ π ρ j k (201 - k))) ∧ SB sg τ M p r2 hc wc sc π σ sz sz' τ' M') QX := by
  intro n
  induction n with
  | zero => intros; omega
  | succ n ih =>
    intro k N1 N2 N3 Mk κ hk0 hk hV hR hP hA hF hn
    obtain ⟨la, lb, lc⟩ := hR.ok
    refine T_iload3 dX10_breaks_33 rfl ?_
    refine T_sipush (200) dX10_breaks_34 rfl rfl ?_
    refine T_icmp_gt 72 40 dX10_breaks_37 (by decide) rfl (fun c28 => ?_) (fun c28 => ?_)
    ·
      have c28 : 200 < k := Nat.lt_of_not_le (fun q => absurd ((nI_leI (a := k) (b := 200) (by omega) (by omega)).mpr q) (Int32.not_le.mpr c28))
      refine T_iconst (-1) dX10_breaks_72 rfl rfl ?_
      refine T_iret rfl rfl dX10_breaks_73 ?_
      rw [brG_0 (by omega)]
      exact ⟨rfl, rfl, rfl, ⟨_, hP.rf⟩, ⟨_, _, _, _, _, hA.rf⟩, hF⟩
    ·
      have c28 : k ≤ 200 := Nat.le_of_not_lt (fun q => c28 (nI_lt (a := 200) (by omega) (by omega)))
      refine T_aload0 dX10_breaks_40 rfl ?_
      refine g10_34 _ rfl (hV.t_x) (hV.g_r2) dX10_breaks_41 rfl ?_
      refine T_iconst (1) dX10_breaks_44 rfl rfl ?_
      refine T_aload0 dX10_breaks_45 rfl ?_
      refine g10_30 _ rfl (hV.t_x) (hV.g_p) dX10_breaks_46 rfl ?_
      refine T_cV2 (c_X6_goBy hX hd2 ho (hi.gb la (k - 1)) (hs := 1) (by omega) hP.rf hA.rf (Fr2.rf _ _ _)) hX k10_122 (by first | exact Or.inl ⟨_, _, _, _, hR.t, by decide, rfl⟩ | exact Or.inl ⟨_, _, _, _, hA.t, by decide, rfl⟩) (by decide) (Nat.le_of_ble_eq_true rfl) dX10_breaks_49 rfl ?_
      rintro _ _ _ M8 ⟨rfl, rfl, rfl, ⟨κ8, hP⟩, hA, hN⟩
      have hV := hV.nx2 hN (by omega) (by omega)
      have hR := hR.nx2 hN (by omega) (by omega)
      have hF := hF.tr hN
      rw [show gbC a b c hc wc σ π (gbC a b c hc wc σ π ρ (k - 1)) 1 = gbC a b c hc wc σ π ρ k from by rw [show k = k - 1 + 1 by omega]; rfl] at hA
      refine T_aload0 dX10_breaks_52 rfl ?_
      refine g10_34 _ rfl (hV.t_x) (hV.g_r2) dX10_breaks_53 rfl ?_
      refine T_iload1 dX10_breaks_56 rfl ?_
      refine T_cV1 (c_X6_linksOf hX hA (by omega)) hX k10_134 (by first | exact Or.inl ⟨_, _, _, _, hR.t, by decide, rfl⟩ | exact Or.inl ⟨_, _, _, _, hA.t, by decide, rfl⟩) (by decide) (Nat.le_of_ble_eq_true rfl) dX10_breaks_57 rfl ?_
      rintro _ _ _ _ ⟨rfl, rfl, rfl, rfl⟩
      refine T_iload2 dX10_breaks_60 rfl ?_
      refine T_icmp_ge 66 64 dX10_breaks_61 (by decide) rfl (fun c61 => ?_) (fun c61 => ?_)
      ·
        first | refine T_iinc3 rfl (by decide) dX10_breaks_66 rfl (inc1 _) ?_ | refine T_iinc3 rfl (by decide) dX10_breaks_66 rfl rfl ?_
        refine T_goto 33 dX10_breaks_69 (by decide) ?_
        rw [brG_n (by omega) (fun q => Int32.not_le.mpr q c61)]
        exact ih (k + 1) _ _ _ _ _ (by omega) (by omega) hV hR hP hA hF (by omega)
      ·
        refine T_iload3 dX10_breaks_64 rfl ?_
        refine T_iret rfl rfl dX10_breaks_65 ?_
        rw [brG_y (by omega) (Int32.not_le.mp c61)]
        exact ⟨rfl, rfl, rfl, ⟨_, hP.rf⟩, ⟨_, _, _, _, _, hA.rf⟩, hF⟩
set_option maxHeartbeats 1000000 in
theorem c_X10_breaks {l : Launch} {D : va_G} {cA : Nat → ClassId} {n0 : Nat} {sg adK adV : Nat → Nat} {sgA smA wdA bS LS : Nat} {xs : Nat → Int32} (hX : SF n0 (XW0 sg adK adV sgA smA wdA n0 bS LS xs)) (hl : l.stackTraces = false) {sz : Nat} {τ : TY} {N1 M : ME} {x r p r2 p2 n8 a b c hc wc sc : Nat} {ω ρ π : RH} {ν : NU} {σ : Nat → Nat} {κ : Nat → Int32} (hV : FV τ N1 M x r p r2 p2 n8 ω) (hR : LM τ M M r a b c ρ ν) (hP : PM τ M M p sg hc wc sc π σ κ) (ho : PlOK a b hc wc σ π) (hi : RI a b c ρ) (hd : p + 30 ≤ r ∨ r + 38 ≤ p) (hx : (r + 38 ≤ x ∨ x + 1 ≤ r) ∧ (p + 30 ≤ x ∨ x + 1 ≤ p)) {N3 : ME} {a2 b2 c2 : Nat} {ρ2 : RH} {ν2 : NU} (hA : LM τ N3 M r2 a2 b2 c2 ρ2 ν2) (hd2 : p + 30 ≤ r2 ∨ r2 + 38 ≤ p) (hd3 : r + 38 ≤ r2 ∨ r2 + 38 ≤ r) (hx2 : r2 + 38 ≤ x ∨ x + 1 ≤ r2) (w : Int32) : CX l D cA n0 (XW0 sg adK adV sgA smA wdA n0 bS LS xs) mX10_breaks 9 1 6 sz τ M [.ref x, .int w] (fun v' sz' τ' M' => (v' = some (.int (brG a b c hc wc σ π ρ w.toNatClampNeg 1 200)) ∧ ¬ hasI w (nI b) = 0) ∧ SB sg τ M p r2 hc wc sc π σ sz sz' τ' M') (fun E sz' τ' M' => ((E = "java/lang/IndexOutOfBoundsException" ∧ hasI w (nI b) = 0)) ∧ sz ≤ sz' ∧ τ' = τ ∧ M' = M) := by
  refine CX.of (ls := [.ref x, .int w, UU, UU]) hl rfl ?_ (by decide) (Nat.le_of_ble_eq_true rfl) rfl ?_
  · intro q hq; exact absurd hq (List.not_mem_nil)
  obtain ⟨la, lb, lc⟩ := hR.ok
  have hF : Fr2 p r2 M M := Fr2.rf _ _ _
  refine T_iload1 dX10_breaks_0 rfl ?_
  refine T_aload0 dX10_breaks_1 rfl ?_
  refine g10_23 _ rfl (hV.t_x) (hV.g_r) dX10_breaks_2 rfl ?_
  first | refine g10_96 _ rfl hR.t hR.r4 dX10_breaks_5 rfl ?_ | refine g10_96 _ rfl hA.t hA.r4 dX10_breaks_5 rfl ?_
  refine T_cXS2 (c_X10_checkIndex hX hl _ _) hX k10_81 (by decide) (Nat.le_of_ble_eq_true rfl) dX10_breaks_8 rfl ?_ (by
    rintro _ _ z2 _ _ ⟨rfl, rfl, rfl, rfl, h5⟩ hz
    exact ⟨⟨rfl, h5⟩, hz, rfl, rfl⟩)
  rintro _ _ _ _ ⟨rfl, rfl, rfl, rfl, h1⟩
  have h0 := h1
  obtain ⟨j, hj, rfl⟩ := has_nI (by omega) h1
  rw [nI_cl (by omega)]
  refine T_aload0 dX10_breaks_11 rfl ?_
  refine g10_23 _ rfl (hV.t_x) (hV.g_r) dX10_breaks_12 rfl ?_
  refine T_iload1 dX10_breaks_15 rfl ?_
  refine T_cV1 (c_X6_linksOf hX hR (by omega)) hX k10_134 (by first | exact Or.inl ⟨_, _, _, _, hR.t, by decide, rfl⟩ | exact Or.inl ⟨_, _, _, _, hA.t, by decide, rfl⟩) (by decide) (Nat.le_of_ble_eq_true rfl) dX10_breaks_16 rfl ?_
  rintro _ _ _ _ ⟨rfl, rfl, rfl, rfl⟩
  refine T_istore2 rfl (by decide) dX10_breaks_19 rfl ?_
  refine T_aload0 dX10_breaks_20 rfl ?_
  refine g10_34 _ rfl (hV.t_x) (hV.g_r2) dX10_breaks_21 rfl ?_
  refine T_aload0 dX10_breaks_24 rfl ?_
  refine g10_23 _ rfl (hV.t_x) (hV.g_r) dX10_breaks_25 rfl ?_
  refine T_cV1 (c_X6_become hX hA.rf hR (by omega) hi.B) hX k10_126 (by first | exact Or.inl ⟨_, _, _, _, hR.t, by decide, rfl⟩ | exact Or.inl ⟨_, _, _, _, hA.t, by decide, rfl⟩) (by decide) (Nat.le_of_ble_eq_true rfl) dX10_breaks_28 rfl ?_
  rintro _ _ _ M8 ⟨rfl, rfl, rfl, hN⟩
  have hV := hV.nx hN.frame (by omega)
  have hR := hR.nx hN.frame (by omega)
  have hP := hP.nx hN.frame (by omega)
  have hF := hF.rd hN.frame
  have hA := hN.rf
  refine T_iconst (1) dX10_breaks_31 rfl rfl ?_
  refine T_istore3 rfl (by decide) dX10_breaks_32 rfl ?_
  refine T_cons ?_ (L_X10_breaks hX ho hi hd hx hd2 hd3 hx2 hj 202 1 _ _ _ _ _ (by omega) (by omega) hV hR hP hA hF (by omega))
  intro v sz9 τ9 M9 hq
  exact ⟨⟨hq.1, h0⟩, hq.2⟩
set_option maxHeartbeats 1000000 in
theorem c_X10_foresee {l : Launch} {D : va_G} {cA : Nat → ClassId} {n0 : Nat} {sg adK adV : Nat → Nat} {sgA smA wdA bS LS : Nat} {xs : Nat → Int32} (hX : SF n0 (XW0 sg adK adV sgA smA wdA n0 bS LS xs)) (hl : l.stackTraces = false) {sz : Nat} {τ : TY} {N1 M : ME} {x r p r2 p2 n8 a b c hc wc sc : Nat} {ω ρ π : RH} {ν : NU} {σ : Nat → Nat} {κ : Nat → Int32} (hV : FV τ N1 M x r p r2 p2 n8 ω) (hR : LM τ M M r a b c ρ ν) (hP : PM τ M M p sg hc wc sc π σ κ) (ho : PlOK a b hc wc σ π) (hi : RI a b c ρ) (hd : p + 30 ≤ r ∨ r + 38 ≤ p) (hx : (r + 38 ≤ x ∨ x + 1 ≤ r) ∧ (p + 30 ≤ x ∨ x + 1 ≤ p)) {N3 : ME} {a2 b2 c2 : Nat} {ρ2 : RH} {ν2 : NU} (hA : LM τ N3 M r2 a2 b2 c2 ρ2 ν2) (hd2 : p + 30 ≤ r2 ∨ r2 + 38 ≤ p) (hd3 : r + 38 ≤ r2 ∨ r2 + 38 ≤ r) (hx2 : r2 + 38 ≤ x ∨ x + 1 ≤ r2) (v w : Int32) : CX l D cA n0 (XW0 sg adK adV sgA smA wdA n0 bS LS xs) mX10_foresee 9 2 12 sz τ M [.ref x, .int v, .int w] (fun v' sz' τ' M' => (v' = some (.int (fsF a b c hc wc σ π ρ v.toNatClampNeg w.toNatClampNeg)) ∧ ¬ iiF v 1 120 = 0 ∧ ¬ iiF w 0 3 = 0) ∧ SB sg τ M p r2 hc wc sc π σ sz sz' τ' M') (fun E sz' τ' M' => ((E = "java/lang/IllegalArgumentException" ∧ iiF v 1 120 = 0) ∨ (E = "java/lang/IndexOutOfBoundsException" ∧ (¬ iiF v 1 120 = 0 ∧ iiF w 0 3 = 0))) ∧ sz ≤ sz' ∧ τ' = τ ∧ M' = M) := by
  refine CX.of (ls := [.ref x, .int v, .int w]) hl rfl ?_ (by decide) (Nat.le_of_ble_eq_true rfl) rfl ?_
  · intro q hq; exact absurd hq (List.not_mem_nil)
  obtain ⟨la, lb, lc⟩ := hR.ok
  have hF : Fr2 p r2 M M := Fr2.rf _ _ _
  refine T_iload1 dX10_foresee_0 rfl ?_
  refine T_iconst (1) dX10_foresee_1 rfl rfl ?_
  refine T_bipush (120) dX10_foresee_2 rfl rfl ?_
  refine T_cXS3 (c_X10_checkRange hX hl _ _ _) hX k10_60 (by decide) (Nat.le_of_ble_eq_true rfl) dX10_foresee_4 rfl ?_ (by
    rintro _ _ z2 _ _ ⟨rfl, rfl, rfl, rfl, h5⟩ hz
    exact ⟨Or.inl ⟨rfl, h5⟩, hz, rfl, rfl⟩)
  rintro _ _ _ _ ⟨rfl, rfl, rfl, rfl, h1⟩
  have h0 := h1
  obtain ⟨j, hj1, hj, rfl⟩ := ii_1n (n := 120) (by omega) h1
  rw [nI_cl (by omega)]
  refine T_iload2 dX10_foresee_7 rfl ?_
  refine T_iconst (4) dX10_foresee_8 rfl rfl ?_
  refine T_cXS2 (c_X10_checkIndex hX hl _ _) hX k10_81 (by decide) (Nat.le_of_ble_eq_true rfl) dX10_foresee_9 rfl ?_ (by
    rintro _ _ z2 _ _ ⟨rfl, rfl, rfl, rfl, h5⟩ hz
    exact ⟨Or.inr ⟨rfl, ⟨h0, (hasI_ii (n := 3) (by omega) _).symm.trans h5⟩⟩, hz, rfl, rfl⟩)
  rintro _ _ _ _ ⟨rfl, rfl, rfl, rfl, h1⟩
  rw [show (4 : Int32) = nI (3 + 1) from rfl, hasI_ii (by omega)] at h1
  have h2 := h1
  obtain ⟨i, hi4, rfl⟩ := ii_nI (n := 3) (by omega) h1
  rw [nI_cl (by omega)]
  refine T_aload0 dX10_foresee_12 rfl ?_
  refine g10_34 _ rfl (hV.t_x) (hV.g_r2) dX10_foresee_13 rfl ?_
  refine T_aload0 dX10_foresee_16 rfl ?_
  refine g10_23 _ rfl (hV.t_x) (hV.g_r) dX10_foresee_17 rfl ?_
  refine T_cV1 (c_X6_become hX hA.rf hR (by omega) hi.B) hX k10_126 (by first | exact Or.inl ⟨_, _, _, _, hR.t, by decide, rfl⟩ | exact Or.inl ⟨_, _, _, _, hA.t, by decide, rfl⟩) (by decide) (Nat.le_of_ble_eq_true rfl) dX10_foresee_20 rfl ?_
  rintro _ _ _ M8 ⟨rfl, rfl, rfl, hN⟩
  have hV := hV.nx hN.frame (by omega)
  have hR := hR.nx hN.frame (by omega)
  have hP := hP.nx hN.frame (by omega)
  have hF := hF.rd hN.frame
  have hA := hN.rf
  refine T_aload0 dX10_foresee_23 rfl ?_
  refine g10_34 _ rfl (hV.t_x) (hV.g_r2) dX10_foresee_24 rfl ?_
  refine T_iload1 dX10_foresee_27 rfl ?_
  refine T_aload0 dX10_foresee_28 rfl ?_
  refine g10_30 _ rfl (hV.t_x) (hV.g_p) dX10_foresee_29 rfl ?_
  refine T_cV2 (c_X6_goBy hX hd2 ho hi (hs := j) (by omega) hP.rf hA.rf (Fr2.rf _ _ _)) hX k10_122 (by first | exact Or.inl ⟨_, _, _, _, hR.t, by decide, rfl⟩ | exact Or.inl ⟨_, _, _, _, hA.t, by decide, rfl⟩) (by decide) (Nat.le_of_ble_eq_true rfl) dX10_foresee_32 rfl ?_
  rintro _ _ _ M8 ⟨rfl, rfl, rfl, ⟨κ8, hP⟩, hA, hN⟩
  have hV := hV.nx2 hN (by omega) (by omega)
  have hR := hR.nx2 hN (by omega) (by omega)
  have hF := hF.tr hN
  refine T_iload2 dX10_foresee_35 rfl ?_
  rcases (show i = 0 ∨ i = 1 ∨ i = 2 ∨ i = 3 by omega) with rfl | rfl | rfl | rfl
  ·
    refine T_tin (off := 28) 64 dX10_foresee_36 (by decide +kernel) (by decide +kernel) (by decide +kernel) (by decide) ?_
    refine T_aload0 dX10_foresee_64 rfl ?_
    refine g10_34 _ rfl (hV.t_x) (hV.g_r2) dX10_foresee_65 rfl ?_
    refine T_iconst (3) dX10_foresee_68 rfl rfl ?_
    refine T_cV1 (c_X6_weightOf hX hA _) hX k10_119 (by first | exact Or.inl ⟨_, _, _, _, hR.t, by decide, rfl⟩ | exact Or.inl ⟨_, _, _, _, hA.t, by decide, rfl⟩) (by decide) (Nat.le_of_ble_eq_true rfl) dX10_foresee_69 rfl ?_
    rintro _ _ _ _ ⟨rfl, rfl, rfl, rfl⟩
    refine T_aload0 dX10_foresee_72 rfl ?_
    refine g10_23 _ rfl (hV.t_x) (hV.g_r) dX10_foresee_73 rfl ?_
    refine T_iconst (3) dX10_foresee_76 rfl rfl ?_
    refine T_cV1 (c_X6_weightOf hX hR _) hX k10_119 (by first | exact Or.inl ⟨_, _, _, _, hR.t, by decide, rfl⟩ | exact Or.inl ⟨_, _, _, _, hA.t, by decide, rfl⟩) (by decide) (Nat.le_of_ble_eq_true rfl) dX10_foresee_77 rfl ?_
    rintro _ _ _ _ ⟨rfl, rfl, rfl, rfl⟩
    refine T_isub dX10_foresee_80 rfl ?_
    refine T_iret rfl rfl dX10_foresee_81 ?_
    exact ⟨⟨rfl, h0, h2⟩, rfl, rfl, ⟨_, hP.rf⟩, ⟨_, _, _, _, _, hA.rf⟩, hF⟩
  ·
    refine T_tin (off := 46) 82 dX10_foresee_36 (by decide +kernel) (by decide +kernel) (by decide +kernel) (by decide) ?_
    refine T_aload0 dX10_foresee_82 rfl ?_
    refine g10_34 _ rfl (hV.t_x) (hV.g_r2) dX10_foresee_83 rfl ?_
    refine T_iconst (2) dX10_foresee_86 rfl rfl ?_
    refine T_cV1 (c_X6_logsIn hX hA _) hX k10_137 (by first | exact Or.inl ⟨_, _, _, _, hR.t, by decide, rfl⟩ | exact Or.inl ⟨_, _, _, _, hA.t, by decide, rfl⟩) (by decide) (Nat.le_of_ble_eq_true rfl) dX10_foresee_87 rfl ?_
    rintro _ _ _ _ ⟨rfl, rfl, rfl, rfl⟩
    refine T_iret rfl rfl dX10_foresee_90 ?_
    exact ⟨⟨rfl, h0, h2⟩, rfl, rfl, ⟨_, hP.rf⟩, ⟨_, _, _, _, _, hA.rf⟩, hF⟩
  ·
    refine T_tin (off := 55) 91 dX10_foresee_36 (by decide +kernel) (by decide +kernel) (by decide +kernel) (by decide) ?_
    refine T_aload0 dX10_foresee_91 rfl ?_
    refine g10_34 _ rfl (hV.t_x) (hV.g_r2) dX10_foresee_92 rfl ?_
    first | refine g10_140 _ rfl hR.t hR.r8 dX10_foresee_95 rfl ?_ | refine g10_140 _ rfl hA.t hA.r8 dX10_foresee_95 rfl ?_
    refine T_aload0 dX10_foresee_98 rfl ?_
    refine g10_23 _ rfl (hV.t_x) (hV.g_r) dX10_foresee_99 rfl ?_
    first | refine g10_140 _ rfl hR.t hR.r8 dX10_foresee_102 rfl ?_ | refine g10_140 _ rfl hA.t hA.r8 dX10_foresee_102 rfl ?_
    refine T_isub dX10_foresee_105 rfl ?_
    refine T_iret rfl rfl dX10_foresee_106 ?_
    exact ⟨⟨rfl, h0, h2⟩, rfl, rfl, ⟨_, hP.rf⟩, ⟨_, _, _, _, _, hA.rf⟩, hF⟩
  ·
    refine T_tout 107 dX10_foresee_36 (by decide +kernel) (by decide) ?_
    refine T_aload0 dX10_foresee_107 rfl ?_
    refine g10_34 _ rfl (hV.t_x) (hV.g_r2) dX10_foresee_108 rfl ?_
    refine T_iconst (0) dX10_foresee_111 rfl rfl ?_
    refine T_cV1 (c_X6_weightOf hX hA _) hX k10_119 (by first | exact Or.inl ⟨_, _, _, _, hR.t, by decide, rfl⟩ | exact Or.inl ⟨_, _, _, _, hA.t, by decide, rfl⟩) (by decide) (Nat.le_of_ble_eq_true rfl) dX10_foresee_112 rfl ?_
    rintro _ _ _ _ ⟨rfl, rfl, rfl, rfl⟩
    refine T_iret rfl rfl dX10_foresee_115 ?_
    exact ⟨⟨rfl, h0, h2⟩, rfl, rfl, ⟨_, hP.rf⟩, ⟨_, _, _, _, _, hA.rf⟩, hF⟩
set_option maxHeartbeats 1000000 in
theorem L_X10_advise {l : Launch} {D : va_G} {cA : Nat → ClassId} {n0 : Nat} {sg adK adV : Nat → Nat} {sgA smA wdA bS LS : Nat} {xs : Nat → Int32} (hX : SF n0 (XW0 sg adK adV sgA smA wdA n0 bS LS xs)) {sz : Nat} {τ : TY} {M : ME} {x r p r2 p2 n8 a b c hc wc sc : Nat} {ω ρ π : RH} {ν : NU} {σ : Nat → Nat} (ho : PlOK a b hc wc σ π) (hi : RI a b c ρ) (hd : p + 30 ≤ r ∨ r + 38 ≤ p) (hx : (r + 38 ≤ x ∨ x + 1 ≤ r) ∧ (p + 30 ≤ x ∨ x + 1 ≤ p)) (hd2 : p + 30 ≤ r2 ∨ r2 + 38 ≤ p) (hd3 : r + 38 ≤ r2 ∨ r2 + 38 ≤ r) (hx2 : r2 + 38 ≤ x ∨ x + 1 ≤ r2) {QX : QXT} {hs : Nat} (hs1 : hs ≤ 80) : ∀ (n : Nat) (k : Nat) (p9 q9 : Int32) (u : Value) (N1 N2 N3 Mk : ME) (κ : Nat → Int32) (a2 b2 c2 : Nat) (ρ2 : RH) (ν2 : NU) (hk : k ≤ 7) (hq : q9 = (adS a b c hc wc σ π ρ hs k).2) (hp : p9 = (adS a b c hc wc σ π ρ hs k).1) (hV : FV τ N1 Mk x r p r2 p2 n8 ω) (hR : LM τ N2 Mk r a b c ρ ν) (hP : PM τ N3 Mk p sg hc wc sc π σ κ) (hA : LM τ Mk Mk r2 a2 b2 c2 ρ2 ν2) (hF : Fr2 p r2 M Mk), 7 - k < n → T l D cA n0 (XW0 sg adK adV sgA smA wdA n0 bS LS xs) mX10_advise 9 0 0 sz τ Mk 16 [.ref x, .int (nI hs), .int p9, .int q9, .int (wk k), u] [] (fun v' sz' τ' M' => v' = some (.int ((adS a b c hc wc σ π ρ hs 7).1)) ∧ SB sg τ M p r2 hc wc sc π σ sz sz' τ' M') QX := by
  intro n
  induction n with
  | zero => intros; omega
  | succ n ih =>
    intro k p9 q9 u N1 N2 N3 Mk κ a2 b2 c2 ρ2 ν2 hk hq hp hV hR hP hA hF hn
    obtain ⟨la, lb, lc⟩ := hR.ok
    refine T_iload4 dX10_advise_16 rfl ?_
    refine T_iconst (3) dX10_advise_18 rfl rfl ?_
    refine T_icmp_gt 82 22 dX10_advise_19 (by decide) rfl (fun c32 => ?_) (fun c32 => ?_)
    ·
      have c32 := (wk_3 k (by omega)).mp c32
      subst c32
      refine T_iload2 dX10_advise_82 rfl ?_
      refine T_iret rfl rfl dX10_advise_83 ?_
      rw [hp]
      exact ⟨rfl, rfl, rfl, ⟨_, hP.rf⟩, ⟨_, _, _, _, _, hA.rf⟩, hF⟩
    ·
      have c32 : k ≠ 7 := fun e => c32 ((wk_3 k (by omega)).mpr e)
      refine T_aload0 dX10_advise_22 rfl ?_
      refine g10_34 _ rfl (hV.t_x) (hV.g_r2) dX10_advise_23 rfl ?_
      refine T_aload0 dX10_advise_26 rfl ?_
      refine g10_23 _ rfl (hV.t_x) (hV.g_r) dX10_advise_27 rfl ?_
      refine T_cV1 (c_X6_become hX hA.rf hR (by omega) hi.B) hX k10_126 (by first | exact Or.inl ⟨_, _, _, _, hR.t, by decide, rfl⟩ | exact Or.inl ⟨_, _, _, _, hA.t, by decide, rfl⟩) (by decide) (Nat.le_of_ble_eq_true rfl) dX10_advise_30 rfl ?_
      rintro _ _ _ M8 ⟨rfl, rfl, rfl, hN⟩
      have hV := hV.nx hN.frame (by omega)
      have hR := hR.nx hN.frame (by omega)
      have hP := hP.nx hN.frame (by omega)
      have hF := hF.rd hN.frame
      have hA := hN.rf
      refine T_aload0 dX10_advise_33 rfl ?_
      refine g10_34 _ rfl (hV.t_x) (hV.g_r2) dX10_advise_34 rfl ?_
      refine T_iload4 dX10_advise_37 rfl ?_
      first | refine p10_78 rfl hR.t dX10_advise_39 rfl ?_ | refine p10_78 rfl hA.t dX10_advise_39 rfl ?_
      refine T_nm (fun M1 e1 => ?_)
      have hV := hV.frU e1 (by omega)
      have hR := hR.frU e1 (by omega)
      have hA := LM.mv (hA.pr (by omega)) e1
      have hP := hP.frU e1 (by (try simp only [stA, hsA, lgA]); omega)
      have hF := hF.up e1 (by omega)
      refine T_aload0 dX10_advise_42 rfl ?_
      refine g10_34 _ rfl (hV.t_x) (hV.g_r2) dX10_advise_43 rfl ?_
      refine T_iload1 dX10_advise_46 rfl ?_
      refine T_aload0 dX10_advise_47 rfl ?_
      refine g10_30 _ rfl (hV.t_x) (hV.g_p) dX10_advise_48 rfl ?_
      refine T_cV2 (c_X6_goBy (ρ := u2 ρ 7 0 (wk k)) hX hd2 ho (hi.u (by decide)) (hs := hs) (by omega) hP.rf hA.rf (Fr2.rf _ _ _)) hX k10_122 (by first | exact Or.inl ⟨_, _, _, _, hR.t, by decide, rfl⟩ | exact Or.inl ⟨_, _, _, _, hA.t, by decide, rfl⟩) (by decide) (Nat.le_of_ble_eq_true rfl) dX10_advise_51 rfl ?_
      rintro _ _ _ M8 ⟨rfl, rfl, rfl, ⟨κ8, hP⟩, hA, hN⟩
      have hV := hV.nx2 hN (by omega) (by omega)
      have hR := hR.nx2 hN (by omega) (by omega)
      have hF := hF.tr hN
      refine T_aload0 dX10_advise_54 rfl ?_
      refine g10_34 _ rfl (hV.t_x) (hV.g_r2) dX10_advise_55 rfl ?_
      refine T_iconst (3) dX10_advise_58 rfl rfl ?_
      refine T_cV1 (c_X6_weightOf hX hA _) hX k10_119 (by first | exact Or.inl ⟨_, _, _, _, hR.t, by decide, rfl⟩ | exact Or.inl ⟨_, _, _, _, hA.t, by decide, rfl⟩) (by decide) (Nat.le_of_ble_eq_true rfl) dX10_advise_59 rfl ?_
      rintro _ _ _ _ ⟨rfl, rfl, rfl, rfl⟩
      rw [show wOf c (gbC a b c hc wc σ π (u2 ρ 7 0 (wk k)) hs) 3 = adI a b c hc wc σ π ρ hs k from rfl]
      refine T_istore5 rfl (by decide) dX10_advise_62 rfl ?_
      refine T_iload5 dX10_advise_64 rfl ?_
      refine T_iload3 dX10_advise_66 rfl ?_
      refine T_icmp_le 76 70 dX10_advise_67 (by decide) rfl (fun c67 => ?_) (fun c67 => ?_)
      ·
        refine T_iinc4 rfl (by decide) dX10_advise_76 rfl (wk_1 k (by omega)) ?_
        refine T_goto 16 dX10_advise_79 (by decide) ?_
        first
          | (have e : adS a b c hc wc σ π ρ hs (k + 1) = (wk k, adI a b c hc wc σ π ρ hs k) := if_pos (by rw [← hq]; exact Int32.not_le.mp c67)
             exact ih (k + 1) _ _ _ _ _ _ _ _ _ _ _ _ _ (by omega) (by rw [e]) (by rw [e]) hV hR hP hA hF (by omega))
          | (have e : adS a b c hc wc σ π ρ hs (k + 1) = adS a b c hc wc σ π ρ hs k := if_neg (by rw [← hq]; exact fun z => Int32.not_le.mpr z c67)
             exact ih (k + 1) _ _ _ _ _ _ _ _ _ _ _ _ _ (by omega) (by rw [e]; exact hq) (by rw [e]; exact hp) hV hR hP hA hF (by omega))
      ·
        refine T_iload5 dX10_advise_70 rfl ?_
        refine T_istore3 rfl (by decide) dX10_advise_72 rfl ?_
        refine T_iload4 dX10_advise_73 rfl ?_
        refine T_istore2 rfl (by decide) dX10_advise_75 rfl ?_
        refine T_iinc4 rfl (by decide) dX10_advise_76 rfl (wk_1 k (by omega)) ?_
        refine T_goto 16 dX10_advise_79 (by decide) ?_
        first
          | (have e : adS a b c hc wc σ π ρ hs (k + 1) = (wk k, adI a b c hc wc σ π ρ hs k) := if_pos (by rw [← hq]; exact Int32.not_le.mp c67)
             exact ih (k + 1) _ _ _ _ _ _ _ _ _ _ _ _ _ (by omega) (by rw [e]) (by rw [e]) hV hR hP hA hF (by omega))
          | (have e : adS a b c hc wc σ π ρ hs (k + 1) = adS a b c hc wc σ π ρ hs k := if_neg (by rw [← hq]; exact fun z => Int32.not_le.mpr z c67)
             exact ih (k + 1) _ _ _ _ _ _ _ _ _ _ _ _ _ (by omega) (by rw [e]; exact hq) (by rw [e]; exact hp) hV hR hP hA hF (by omega))
set_option maxHeartbeats 1000000 in
theorem c_X10_advise {l : Launch} {D : va_G} {cA : Nat → ClassId} {n0 : Nat} {sg adK adV : Nat → Nat} {sgA smA wdA bS LS : Nat} {xs : Nat → Int32} (hX : SF n0 (XW0 sg adK adV sgA smA wdA n0 bS LS xs)) (hl : l.stackTraces = false) {sz : Nat} {τ : TY} {N1 M : ME} {x r p r2 p2 n8 a b c hc wc sc : Nat} {ω ρ π : RH} {ν : NU} {σ : Nat → Nat} {κ : Nat → Int32} (hV : FV τ N1 M x r p r2 p2 n8 ω) (hR : LM τ M M r a b c ρ ν) (hP : PM τ M M p sg hc wc sc π σ κ) (ho : PlOK a b hc wc σ π) (hi : RI a b c ρ) (hd : p + 30 ≤ r ∨ r + 38 ≤ p) (hx : (r + 38 ≤ x ∨ x + 1 ≤ r) ∧ (p + 30 ≤ x ∨ x + 1 ≤ p)) {N3 : ME} {a2 b2 c2 : Nat} {ρ2 : RH} {ν2 : NU} (hA : LM τ N3 M r2 a2 b2 c2 ρ2 ν2) (hd2 : p + 30 ≤ r2 ∨ r2 + 38 ≤ p) (hd3 : r + 38 ≤ r2 ∨ r2 + 38 ≤ r) (hx2 : r2 + 38 ≤ x ∨ x + 1 ≤ r2) (w : Int32) : CX l D cA n0 (XW0 sg adK adV sgA smA wdA n0 bS LS xs) mX10_advise 9 1 6 sz τ M [.ref x, .int w] (fun v' sz' τ' M' => (v' = some (.int ((adS a b c hc wc σ π ρ w.toNatClampNeg 7).1)) ∧ ¬ iiF w 1 80 = 0) ∧ SB sg τ M p r2 hc wc sc π σ sz sz' τ' M') (fun E sz' τ' M' => ((E = "java/lang/IllegalArgumentException" ∧ iiF w 1 80 = 0)) ∧ sz ≤ sz' ∧ τ' = τ ∧ M' = M) := by
  refine CX.of (ls := [.ref x, .int w, UU, UU, UU, UU]) hl rfl ?_ (by decide) (Nat.le_of_ble_eq_true rfl) rfl ?_
  · intro q hq; exact absurd hq (List.not_mem_nil)
  obtain ⟨la, lb, lc⟩ := hR.ok
  have hF : Fr2 p r2 M M := Fr2.rf _ _ _
  refine T_iload1 dX10_advise_0 rfl ?_
  refine T_iconst (1) dX10_advise_1 rfl rfl ?_
  refine T_bipush (80) dX10_advise_2 rfl rfl ?_
  refine T_cXS3 (c_X10_checkRange hX hl _ _ _) hX k10_60 (by decide) (Nat.le_of_ble_eq_true rfl) dX10_advise_4 rfl ?_ (by
    rintro _ _ z2 _ _ ⟨rfl, rfl, rfl, rfl, h5⟩ hz
    exact ⟨⟨rfl, h5⟩, hz, rfl, rfl⟩)
  rintro _ _ _ _ ⟨rfl, rfl, rfl, rfl, h1⟩
  have h0 := h1
  obtain ⟨j, hj1, hj, rfl⟩ := ii_1n (n := 80) (by omega) h1
  rw [nI_cl (by omega)]
  refine T_bipush (-3) dX10_advise_7 rfl rfl ?_
  refine T_istore2 rfl (by decide) dX10_advise_9 rfl ?_
  refine T_iconst (-1) dX10_advise_10 rfl rfl ?_
  refine T_istore3 rfl (by decide) dX10_advise_11 rfl ?_
  refine T_bipush (-3) dX10_advise_12 rfl rfl ?_
  refine T_istore4 rfl (by decide) dX10_advise_14 rfl ?_
  rw [show (-3 : Int32) = wk 0 from by decide]
  refine T_cons ?_ (L_X10_advise hX ho hi hd hx hd2 hd3 hx2 hj 8 0 _ _ _ _ _ _ _ _ _ _ _ _ _ (by omega) rfl (by show wk 0 = -3; decide) hV hR hP hA.rf hF (by omega))
  intro v sz9 τ9 M9 hq
  exact ⟨⟨hq.1, h0⟩, hq.2⟩
set_option maxHeartbeats 1000000 in
theorem L_X10_choose {l : Launch} {D : va_G} {cA : Nat → ClassId} {n0 : Nat} {sg adK adV : Nat → Nat} {sgA smA wdA bS LS : Nat} {xs : Nat → Int32} (hX : SF n0 (XW0 sg adK adV sgA smA wdA n0 bS LS xs)) {sz : Nat} {τ : TY} {M : ME} {x r p r2 p2 n8 a b c hc wc sc : Nat} {ω ρ π : RH} {ν : NU} {σ : Nat → Nat} (ho : PlOK a b hc wc σ π) (hi : RI a b c ρ) (hd : p + 30 ≤ r ∨ r + 38 ≤ p) (hx : (r + 38 ≤ x ∨ x + 1 ≤ r) ∧ (p + 30 ≤ x ∨ x + 1 ≤ p)) (hd2 : p + 30 ≤ r2 ∨ r2 + 38 ≤ p) (hd3 : r + 38 ≤ r2 ∨ r2 + 38 ≤ r) (hx2 : r2 + 38 ≤ x ∨ x + 1 ≤ r2) {QX : QXT} {hs : Nat} (hs1 : hs ≤ 80) : ∀ (n : Nat) (k : Nat) (p9 q9 : Int32) (u : Value) (N1 N2 N3 Mk : ME) (κ : Nat → Int32) (ρ2 : RH) (ν2 : NU) (hk : k ≤ b) (hq : q9 = (chS a b c hc wc σ π ρ hs k).2) (hp : p9 = (chS a b c hc wc σ π ρ hs k).1) (hV : FV τ N1 Mk x r p r2 p2 n8 ω) (hR : LM τ N2 Mk r a b c ρ ν) (hP : PM τ N3 Mk p sg hc wc sc π σ κ) (hA : LM τ Mk Mk r2 a b c ρ2 ν2) (hF : Fr2 p r2 M Mk), b - k < n → T l D cA n0 (XW0 sg adK adV sgA smA wdA n0 bS LS xs) mX10_choose 9 0 0 sz τ Mk 44 [.ref x, .int (nI hs), .int q9, .int p9, .int (nI k), u] [] (fun v' sz' τ' M' => v' = some (.int ((chS a b c hc wc σ π ρ hs b).1)) ∧ SB sg τ M p r2 hc wc sc π σ sz sz' τ' M') QX := by
  intro n
  induction n with
  | zero => intros; omega
  | succ n ih =>
    intro k p9 q9 u N1 N2 N3 Mk κ ρ2 ν2 hk hq hp hV hR hP hA hF hn
    obtain ⟨la, lb, lc⟩ := hR.ok
    refine T_iload4 dX10_choose_44 rfl ?_
    refine T_aload0 dX10_choose_46 rfl ?_
    refine g10_23 _ rfl (hV.t_x) (hV.g_r) dX10_choose_47 rfl ?_
    first | refine g10_96 _ rfl hR.t hR.r4 dX10_choose_50 rfl ?_ | refine g10_96 _ rfl hA.t hA.r4 dX10_choose_50 rfl ?_
    refine T_icmp_ge 116 56 dX10_choose_53 (by decide) rfl (fun c42 => ?_) (fun c42 => ?_)
    ·
      have c42 := le_out rfl c42
      have hkk : k = b := by omega
      subst hkk
      refine T_iload3 dX10_choose_116 rfl ?_
      refine T_iret rfl rfl dX10_choose_117 ?_
      rw [hp]
      exact ⟨rfl, rfl, rfl, ⟨_, hP.rf⟩, ⟨_, _, _, _, _, hA.rf⟩, hF⟩
    ·
      have c42 := lt_in rfl c42
      refine T_aload0 dX10_choose_56 rfl ?_
      refine g10_34 _ rfl (hV.t_x) (hV.g_r2) dX10_choose_57 rfl ?_
      refine T_aload0 dX10_choose_60 rfl ?_
      refine g10_23 _ rfl (hV.t_x) (hV.g_r) dX10_choose_61 rfl ?_
      refine T_cV1 (c_X6_become hX hA.rf hR (by omega) hi.B) hX k10_126 (by first | exact Or.inl ⟨_, _, _, _, hR.t, by decide, rfl⟩ | exact Or.inl ⟨_, _, _, _, hA.t, by decide, rfl⟩) (by decide) (Nat.le_of_ble_eq_true rfl) dX10_choose_64 rfl ?_
      rintro _ _ _ M8 ⟨rfl, rfl, rfl, hN⟩
      have hV := hV.nx hN.frame (by omega)
      have hR := hR.nx hN.frame (by omega)
      have hP := hP.nx hN.frame (by omega)
      have hF := hF.rd hN.frame
      have hA := hN.rf
      refine T_aload0 dX10_choose_67 rfl ?_
      refine g10_34 _ rfl (hV.t_x) (hV.g_r2) dX10_choose_68 rfl ?_
      refine T_iload4 dX10_choose_71 rfl ?_
      refine T_cV1 (c_X6_strengthen hX hA c42) hX k10_143 (by first | exact Or.inl ⟨_, _, _, _, hR.t, by decide, rfl⟩ | exact Or.inl ⟨_, _, _, _, hA.t, by decide, rfl⟩) (by decide) (Nat.le_of_ble_eq_true rfl) dX10_choose_73 rfl ?_
      rintro _ _ _ M8 ⟨rfl, rfl, rfl, hN⟩
      have hV := hV.nx hN.frame (by omega)
      have hR := hR.nx hN.frame (by omega)
      have hP := hP.nx hN.frame (by omega)
      have hF := hF.rd hN.frame
      have hA := hN.rf
      refine T_aload0 dX10_choose_76 rfl ?_
      refine g10_34 _ rfl (hV.t_x) (hV.g_r2) dX10_choose_77 rfl ?_
      refine T_iload1 dX10_choose_80 rfl ?_
      refine T_aload0 dX10_choose_81 rfl ?_
      refine g10_30 _ rfl (hV.t_x) (hV.g_p) dX10_choose_82 rfl ?_
      refine T_cV2 (c_X6_goBy (ρ := u2 ρ 13 k (ρ 13 k + 10)) hX hd2 ho (hi.u (by decide)) (hs := hs) (by omega) hP.rf hA.rf (Fr2.rf _ _ _)) hX k10_122 (by first | exact Or.inl ⟨_, _, _, _, hR.t, by decide, rfl⟩ | exact Or.inl ⟨_, _, _, _, hA.t, by decide, rfl⟩) (by decide) (Nat.le_of_ble_eq_true rfl) dX10_choose_85 rfl ?_
      rintro _ _ _ M8 ⟨rfl, rfl, rfl, ⟨κ8, hP⟩, hA, hN⟩
      have hV := hV.nx2 hN (by omega) (by omega)
      have hR := hR.nx2 hN (by omega) (by omega)
      have hF := hF.tr hN
      refine T_aload0 dX10_choose_88 rfl ?_
      refine g10_34 _ rfl (hV.t_x) (hV.g_r2) dX10_choose_89 rfl ?_
      refine T_iconst (3) dX10_choose_92 rfl rfl ?_
      refine T_cV1 (c_X6_weightOf hX hA _) hX k10_119 (by first | exact Or.inl ⟨_, _, _, _, hR.t, by decide, rfl⟩ | exact Or.inl ⟨_, _, _, _, hA.t, by decide, rfl⟩) (by decide) (Nat.le_of_ble_eq_true rfl) dX10_choose_93 rfl ?_
      rintro _ _ _ _ ⟨rfl, rfl, rfl, rfl⟩
      rw [show wOf c (gbC a b c hc wc σ π (u2 ρ 13 k (ρ 13 k + 10)) hs) 3 = chI a b c hc wc σ π ρ hs k from rfl]
      refine T_istore5 rfl (by decide) dX10_choose_96 rfl ?_
      refine T_iload5 dX10_choose_98 rfl ?_
      refine T_iload2 dX10_choose_100 rfl ?_
      refine T_icmp_le 110 104 dX10_choose_101 (by decide) rfl (fun c67 => ?_) (fun c67 => ?_)
      ·
        first | refine T_iinc4 rfl (by decide) dX10_choose_110 rfl (inc1 _) ?_ | refine T_iinc4 rfl (by decide) dX10_choose_110 rfl rfl ?_
        refine T_goto 44 dX10_choose_113 (by decide) ?_
        first
          | (have e : chS a b c hc wc σ π ρ hs (k + 1) = (nI k, chI a b c hc wc σ π ρ hs k) := if_pos (by rw [← hq]; exact Int32.not_le.mp c67)
             exact ih (k + 1) _ _ _ _ _ _ _ _ _ _ (by omega) (by rw [e]) (by rw [e]) hV hR hP hA hF (by omega))
          | (have e : chS a b c hc wc σ π ρ hs (k + 1) = chS a b c hc wc σ π ρ hs k := if_neg (by rw [← hq]; exact fun z => Int32.not_le.mpr z c67)
             exact ih (k + 1) _ _ _ _ _ _ _ _ _ _ (by omega) (by rw [e]; exact hq) (by rw [e]; exact hp) hV hR hP hA hF (by omega))
      ·
        refine T_iload5 dX10_choose_104 rfl ?_
        refine T_istore2 rfl (by decide) dX10_choose_106 rfl ?_
        refine T_iload4 dX10_choose_107 rfl ?_
        refine T_istore3 rfl (by decide) dX10_choose_109 rfl ?_
        first | refine T_iinc4 rfl (by decide) dX10_choose_110 rfl (inc1 _) ?_ | refine T_iinc4 rfl (by decide) dX10_choose_110 rfl rfl ?_
        refine T_goto 44 dX10_choose_113 (by decide) ?_
        first
          | (have e : chS a b c hc wc σ π ρ hs (k + 1) = (nI k, chI a b c hc wc σ π ρ hs k) := if_pos (by rw [← hq]; exact Int32.not_le.mp c67)
             exact ih (k + 1) _ _ _ _ _ _ _ _ _ _ (by omega) (by rw [e]) (by rw [e]) hV hR hP hA hF (by omega))
          | (have e : chS a b c hc wc σ π ρ hs (k + 1) = chS a b c hc wc σ π ρ hs k := if_neg (by rw [← hq]; exact fun z => Int32.not_le.mpr z c67)
             exact ih (k + 1) _ _ _ _ _ _ _ _ _ _ (by omega) (by rw [e]; exact hq) (by rw [e]; exact hp) hV hR hP hA hF (by omega))
set_option maxHeartbeats 1000000 in
theorem c_X10_choose {l : Launch} {D : va_G} {cA : Nat → ClassId} {n0 : Nat} {sg adK adV : Nat → Nat} {sgA smA wdA bS LS : Nat} {xs : Nat → Int32} (hX : SF n0 (XW0 sg adK adV sgA smA wdA n0 bS LS xs)) (hl : l.stackTraces = false) {sz : Nat} {τ : TY} {N1 M : ME} {x r p r2 p2 n8 a b c hc wc sc : Nat} {ω ρ π : RH} {ν : NU} {σ : Nat → Nat} {κ : Nat → Int32} (hV : FV τ N1 M x r p r2 p2 n8 ω) (hR : LM τ M M r a b c ρ ν) (hP : PM τ M M p sg hc wc sc π σ κ) (ho : PlOK a b hc wc σ π) (hi : RI a b c ρ) (hd : p + 30 ≤ r ∨ r + 38 ≤ p) (hx : (r + 38 ≤ x ∨ x + 1 ≤ r) ∧ (p + 30 ≤ x ∨ x + 1 ≤ p)) {N3 : ME} {a2 b2 c2 : Nat} {ρ2 : RH} {ν2 : NU} (hA : LM τ N3 M r2 a2 b2 c2 ρ2 ν2) (hd2 : p + 30 ≤ r2 ∨ r2 + 38 ≤ p) (hd3 : r + 38 ≤ r2 ∨ r2 + 38 ≤ r) (hx2 : r2 + 38 ≤ x ∨ x + 1 ≤ r2) (w : Int32) : CX l D cA n0 (XW0 sg adK adV sgA smA wdA n0 bS LS xs) mX10_choose 9 1 6 sz τ M [.ref x, .int w] (fun v' sz' τ' M' => (v' = some (.int ((chS a b c hc wc σ π ρ w.toNatClampNeg b).1)) ∧ ¬ iiF w 1 80 = 0) ∧ SB sg τ M p r2 hc wc sc π σ sz sz' τ' M') (fun E sz' τ' M' => ((E = "java/lang/IllegalArgumentException" ∧ iiF w 1 80 = 0)) ∧ sz ≤ sz' ∧ τ' = τ ∧ M' = M) := by
  refine CX.of (ls := [.ref x, .int w, UU, UU, UU, UU]) hl rfl ?_ (by decide) (Nat.le_of_ble_eq_true rfl) rfl ?_
  · intro q hq; exact absurd hq (List.not_mem_nil)
  obtain ⟨la, lb, lc⟩ := hR.ok
  have hF : Fr2 p r2 M M := Fr2.rf _ _ _
  refine T_iload1 dX10_choose_0 rfl ?_
  refine T_iconst (1) dX10_choose_1 rfl rfl ?_
  refine T_bipush (80) dX10_choose_2 rfl rfl ?_
  refine T_cXS3 (c_X10_checkRange hX hl _ _ _) hX k10_60 (by decide) (Nat.le_of_ble_eq_true rfl) dX10_choose_4 rfl ?_ (by
    rintro _ _ z2 _ _ ⟨rfl, rfl, rfl, rfl, h5⟩ hz
    exact ⟨⟨rfl, h5⟩, hz, rfl, rfl⟩)
  rintro _ _ _ _ ⟨rfl, rfl, rfl, rfl, h1⟩
  have h0 := h1
  obtain ⟨j, hj1, hj, rfl⟩ := ii_1n (n := 80) (by omega) h1
  rw [nI_cl (by omega)]
  refine T_aload0 dX10_choose_7 rfl ?_
  refine g10_34 _ rfl (hV.t_x) (hV.g_r2) dX10_choose_8 rfl ?_
  refine T_aload0 dX10_choose_11 rfl ?_
  refine g10_23 _ rfl (hV.t_x) (hV.g_r) dX10_choose_12 rfl ?_
  refine T_cV1 (c_X6_become hX hA.rf hR (by omega) hi.B) hX k10_126 (by first | exact Or.inl ⟨_, _, _, _, hR.t, by decide, rfl⟩ | exact Or.inl ⟨_, _, _, _, hA.t, by decide, rfl⟩) (by decide) (Nat.le_of_ble_eq_true rfl) dX10_choose_15 rfl ?_
  rintro _ _ _ M8 ⟨rfl, rfl, rfl, hN⟩
  have hV := hV.nx hN.frame (by omega)
  have hR := hR.nx hN.frame (by omega)
  have hP := hP.nx hN.frame (by omega)
  have hF := hF.rd hN.frame
  have hA := hN.rf
  refine T_aload0 dX10_choose_18 rfl ?_
  refine g10_34 _ rfl (hV.t_x) (hV.g_r2) dX10_choose_19 rfl ?_
  refine T_iload1 dX10_choose_22 rfl ?_
  refine T_aload0 dX10_choose_23 rfl ?_
  refine g10_30 _ rfl (hV.t_x) (hV.g_p) dX10_choose_24 rfl ?_
  refine T_cV2 (c_X6_goBy hX hd2 ho hi (hs := j) (by omega) hP.rf hA.rf (Fr2.rf _ _ _)) hX k10_122 (by first | exact Or.inl ⟨_, _, _, _, hR.t, by decide, rfl⟩ | exact Or.inl ⟨_, _, _, _, hA.t, by decide, rfl⟩) (by decide) (Nat.le_of_ble_eq_true rfl) dX10_choose_27 rfl ?_
  rintro _ _ _ M8 ⟨rfl, rfl, rfl, ⟨κ8, hP⟩, hA, hN⟩
  have hV := hV.nx2 hN (by omega) (by omega)
  have hR := hR.nx2 hN (by omega) (by omega)
  have hF := hF.tr hN
  refine T_aload0 dX10_choose_30 rfl ?_
  refine g10_34 _ rfl (hV.t_x) (hV.g_r2) dX10_choose_31 rfl ?_
  refine T_iconst (3) dX10_choose_34 rfl rfl ?_
  refine T_cV1 (c_X6_weightOf hX hA _) hX k10_119 (by first | exact Or.inl ⟨_, _, _, _, hR.t, by decide, rfl⟩ | exact Or.inl ⟨_, _, _, _, hA.t, by decide, rfl⟩) (by decide) (Nat.le_of_ble_eq_true rfl) dX10_choose_35 rfl ?_
  rintro _ _ _ _ ⟨rfl, rfl, rfl, rfl⟩
  refine T_istore2 rfl (by decide) dX10_choose_38 rfl ?_
  refine T_iconst (-1) dX10_choose_39 rfl rfl ?_
  refine T_istore3 rfl (by decide) dX10_choose_40 rfl ?_
  refine T_iconst (0) dX10_choose_41 rfl rfl ?_
  refine T_istore4 rfl (by decide) dX10_choose_42 rfl ?_
  refine T_cons ?_ (L_X10_choose hX ho hi hd hx hd2 hd3 hx2 hj (b + 1) 0 _ _ _ _ _ _ _ _ _ _ (Nat.zero_le _) rfl rfl hV hR hP hA hF (by omega))
  intro v sz9 τ9 M9 hq
  exact ⟨⟨hq.1, h0⟩, hq.2⟩

