/-! the class is made -/
set_option maxHeartbeats 2000000 in
theorem c_X10_init {l : Launch} {D : va_G} {cA : Nat → ClassId} {n0 : Nat} {sg adK adV : Nat → Nat} {sgA smA wdA bS LS : Nat} {xs : Nat → Int32} (hX : SF n0 (XW0 sg adK adV sgA smA wdA n0 bS LS xs)) {τ : TY} {M : ME} {x : Nat} (ht : τ x = (8, 0)) (hm : M x = f0X10) : CT l D cA n0 (XW0 sg adK adV sgA smA wdA n0 bS LS xs) mX10_init 4 143 6405 (x + 1) τ M [.ref x] (fun v' sz' τ' M' => v' = none ∧ sz' = x + 144 ∧ CS sg τ' M' x (x + 2) (x + 40) (x + 70) (x + 108) 0 0 0 0 0 0 0 (fun _ _ => 0) (fun _ _ => 0) (fun _ _ => 0) (fun _ => 44) (fun _ => 0) (-1) ∧ ∀ b, b < x → τ' b = τ b ∧ M' b = M b) := by
  refine CT.of (ls := [.ref x]) (by decide) (Nat.le_of_ble_eq_true rfl) rfl ?_
  have hA := AL.nil (τ := τ) (M := M) (z := x) hm
  refine T_aload0 dX10_init_0 rfl ?_
  refine T_obj ko10_1 ko1 ko2 (by decide) (Nat.le_of_ble_eq_true rfl) dX10_init_1 rfl ?_
  refine T_aload0 dX10_init_4 rfl ?_
  refine T_sipush (2000) dX10_init_5 rfl rfl ?_
  refine T_newa (atype := .byte) (N := 2000) 1 (fun _ => .int 0) ka_byte (by decide) rfl rfl (by decide) rfl dX10_init_8 rfl ?_
  refine T_nt (fun τ1 eτ => ?_)
  refine T_nm (fun Mn en => ?_)
  have hA := hA.mv9 (n := 0) rfl (τ1 := τ1) (M1 := Mn) (fun b hb => ⟨by rw [eτ]; exact tyN_n (by omega), by rw [en]; exact meN_n (by omega)⟩)
  have hB : BM τ1 Mn Mn (x + 1) (fun _ => 0) := ⟨by rw [eτ]; exact tyN_s _ _ _, fun i _ => by rw [en, meN_s]; rfl, Fr.rf _ _ _⟩
  clear eτ en
  refine p10_9 rfl rfl (hA.2.2.2.trans ht) dX10_init_10 rfl ?_
  refine T_nm (fun M2 e2 => ?_)
  have hA := hA.pf (by decide) e2
  have hB := hB.fr (M1 := M2) (fun b q1 q2 => by rw [e2]; exact up_a (by omega))
  clear e2
  refine T_aload0 dX10_init_13 rfl ?_
  refine T_iconst (0) dX10_init_14 rfl rfl ?_
  refine p10_13 rfl (hA.2.2.2.trans ht) dX10_init_15 rfl ?_
  refine T_nm (fun M2 e2 => ?_)
  have hA := hA.pf (by decide) e2
  have hB := hB.fr (M1 := M2) (fun b q1 q2 => by rw [e2]; exact up_a (by omega))
  clear e2
  refine T_aload0 dX10_init_18 rfl ?_
  refine T_iconst (-1) dX10_init_19 rfl rfl ?_
  refine p10_17 rfl (hA.2.2.2.trans ht) dX10_init_20 rfl ?_
  refine T_nm (fun M2 e2 => ?_)
  have hA := hA.pf (by decide) e2
  have hB := hB.fr (M1 := M2) (fun b q1 q2 => by rw [e2]; exact up_a (by omega))
  clear e2
  refine T_aload0 dX10_init_23 rfl ?_
  refine n10_20 rfl dX10_init_24 rfl ?_
  refine T_nt (fun τ1 eτ => ?_)
  refine T_nm (fun Mn en => ?_)
  have hA := hA.mv9 (n := 0) rfl (τ1 := τ1) (M1 := Mn) (fun b hb => ⟨by rw [eτ]; exact tyN_n (by omega), by rw [en]; exact meN_n (by omega)⟩)
  have hB := (hB.tau (τ' := τ1) (fun b q1 q2 => by rw [eτ]; exact tyN_n (by omega))).fr (M1 := Mn) (fun b q1 q2 => by rw [en]; exact meN_n (by omega))
  refine T_dup dX10_init_27 rfl rfl ?_
  refine T_cI0 (c_X6_init hX (r := x + 2) (by rw [eτ]; exact tyN_s _ _ _) (by rw [en]; exact meN_s _ _ _)) hX k10_22 (by decide) (Nat.le_of_ble_eq_true rfl) dX10_init_28 rfl ?_
  rintro _ _ τ2 M9 ⟨rfl, rfl, hR, hfr⟩
  have hA := hA.mv9 (n := 0) rfl (τ1 := τ2) (M1 := M9) (fun b hb => ⟨(hfr b (by omega)).1, (hfr b (by omega)).2⟩)
  have hB := (hB.tau (τ' := τ2) (fun b q1 q2 => (hfr b (by omega)).1)).fr (M1 := M9) (fun b q1 q2 => (hfr b (by omega)).2)
  clear eτ en hfr
  refine p10_23 rfl (hA.2.2.2.trans ht) dX10_init_31 rfl ?_
  refine T_nm (fun M2 e2 => ?_)
  have hA := hA.pf (by decide) e2
  have hB := hB.fr (M1 := M2) (fun b q1 q2 => by rw [e2]; exact up_a (by omega))
  have hR := hR.fr (M' := M2) (fun b q1 q2 => by rw [e2]; exact up_a (by omega))
  clear e2
  refine T_aload0 dX10_init_34 rfl ?_
  refine n10_27 rfl dX10_init_35 rfl ?_
  refine T_nt (fun τ1 eτ => ?_)
  refine T_nm (fun Mn en => ?_)
  have hA := hA.mv9 (n := 0) rfl (τ1 := τ1) (M1 := Mn) (fun b hb => ⟨by rw [eτ]; exact tyN_n (by omega), by rw [en]; exact meN_n (by omega)⟩)
  have hB := (hB.tau (τ' := τ1) (fun b q1 q2 => by rw [eτ]; exact tyN_n (by omega))).fr (M1 := Mn) (fun b q1 q2 => by rw [en]; exact meN_n (by omega))
  have hR := (hR.tau (τ' := τ1) (fun b q1 q2 => by rw [eτ]; exact tyN_n (by omega))).fr (M' := Mn) (fun b q1 q2 => by rw [en]; exact meN_n (by omega))
  refine T_dup dX10_init_38 rfl rfl ?_
  refine T_cI0 (c_X4_init hX (p := x + 40) (by rw [eτ]; exact tyN_s _ _ _) (by rw [en]; exact meN_s _ _ _)) hX k10_29 (by decide) (Nat.le_of_ble_eq_true rfl) dX10_init_39 rfl ?_
  rintro _ _ τ2 M9 ⟨rfl, rfl, hP, hfr⟩
  have hA := hA.mv9 (n := 0) rfl (τ1 := τ2) (M1 := M9) (fun b hb => ⟨(hfr b (by omega)).1, (hfr b (by omega)).2⟩)
  have hB := (hB.tau (τ' := τ2) (fun b q1 q2 => (hfr b (by omega)).1)).fr (M1 := M9) (fun b q1 q2 => (hfr b (by omega)).2)
  have hR := (hR.tau (τ' := τ2) (fun b q1 q2 => (hfr b (by omega)).1)).fr (M' := M9) (fun b q1 q2 => (hfr b (by omega)).2)
  clear eτ en hfr
  refine p10_30 rfl (hA.2.2.2.trans ht) dX10_init_42 rfl ?_
  refine T_nm (fun M2 e2 => ?_)
  have hA := hA.pf (by decide) e2
  have hB := hB.fr (M1 := M2) (fun b q1 q2 => by rw [e2]; exact up_a (by omega))
  have hR := hR.fr (M' := M2) (fun b q1 q2 => by rw [e2]; exact up_a (by omega))
  have hP := hP.fr (M1 := M2) (fun b q1 q2 => by rw [e2]; exact up_a (by omega))
  clear e2
  refine T_aload0 dX10_init_45 rfl ?_
  refine n10_20 rfl dX10_init_46 rfl ?_
  refine T_nt (fun τ1 eτ => ?_)
  refine T_nm (fun Mn en => ?_)
  have hA := hA.mv9 (n := 0) rfl (τ1 := τ1) (M1 := Mn) (fun b hb => ⟨by rw [eτ]; exact tyN_n (by omega), by rw [en]; exact meN_n (by omega)⟩)
  have hB := (hB.tau (τ' := τ1) (fun b q1 q2 => by rw [eτ]; exact tyN_n (by omega))).fr (M1 := Mn) (fun b q1 q2 => by rw [en]; exact meN_n (by omega))
  have hR := (hR.tau (τ' := τ1) (fun b q1 q2 => by rw [eτ]; exact tyN_n (by omega))).fr (M' := Mn) (fun b q1 q2 => by rw [en]; exact meN_n (by omega))
  have hP := (hP.tau (τ' := τ1) (fun b q1 q2 => by rw [eτ]; exact tyN_n (by omega))).fr (M1 := Mn) (fun b q1 q2 => by rw [en]; exact meN_n (by omega))
  refine T_dup dX10_init_49 rfl rfl ?_
  refine T_cI0 (c_X6_init hX (r := x + 70) (by rw [eτ]; exact tyN_s _ _ _) (by rw [en]; exact meN_s _ _ _)) hX k10_22 (by decide) (Nat.le_of_ble_eq_true rfl) dX10_init_50 rfl ?_
  rintro _ _ τ2 M9 ⟨rfl, rfl, hR2, hfr⟩
  have hA := hA.mv9 (n := 0) rfl (τ1 := τ2) (M1 := M9) (fun b hb => ⟨(hfr b (by omega)).1, (hfr b (by omega)).2⟩)
  have hB := (hB.tau (τ' := τ2) (fun b q1 q2 => (hfr b (by omega)).1)).fr (M1 := M9) (fun b q1 q2 => (hfr b (by omega)).2)
  have hR := (hR.tau (τ' := τ2) (fun b q1 q2 => (hfr b (by omega)).1)).fr (M' := M9) (fun b q1 q2 => (hfr b (by omega)).2)
  have hP := (hP.tau (τ' := τ2) (fun b q1 q2 => (hfr b (by omega)).1)).fr (M1 := M9) (fun b q1 q2 => (hfr b (by omega)).2)
  clear eτ en hfr
  refine p10_34 rfl (hA.2.2.2.trans ht) dX10_init_53 rfl ?_
  refine T_nm (fun M2 e2 => ?_)
  have hA := hA.pf (by decide) e2
  have hB := hB.fr (M1 := M2) (fun b q1 q2 => by rw [e2]; exact up_a (by omega))
  have hR := hR.fr (M' := M2) (fun b q1 q2 => by rw [e2]; exact up_a (by omega))
  have hP := hP.fr (M1 := M2) (fun b q1 q2 => by rw [e2]; exact up_a (by omega))
  have hR2 := hR2.fr (M' := M2) (fun b q1 q2 => by rw [e2]; exact up_a (by omega))
  clear e2
  refine T_aload0 dX10_init_56 rfl ?_
  refine n10_27 rfl dX10_init_57 rfl ?_
  refine T_nt (fun τ1 eτ => ?_)
  refine T_nm (fun Mn en => ?_)
  have hA := hA.mv9 (n := 0) rfl (τ1 := τ1) (M1 := Mn) (fun b hb => ⟨by rw [eτ]; exact tyN_n (by omega), by rw [en]; exact meN_n (by omega)⟩)
  have hB := (hB.tau (τ' := τ1) (fun b q1 q2 => by rw [eτ]; exact tyN_n (by omega))).fr (M1 := Mn) (fun b q1 q2 => by rw [en]; exact meN_n (by omega))
  have hR := (hR.tau (τ' := τ1) (fun b q1 q2 => by rw [eτ]; exact tyN_n (by omega))).fr (M' := Mn) (fun b q1 q2 => by rw [en]; exact meN_n (by omega))
  have hP := (hP.tau (τ' := τ1) (fun b q1 q2 => by rw [eτ]; exact tyN_n (by omega))).fr (M1 := Mn) (fun b q1 q2 => by rw [en]; exact meN_n (by omega))
  have hR2 := (hR2.tau (τ' := τ1) (fun b q1 q2 => by rw [eτ]; exact tyN_n (by omega))).fr (M' := Mn) (fun b q1 q2 => by rw [en]; exact meN_n (by omega))
  refine T_dup dX10_init_60 rfl rfl ?_
  refine T_cI0 (c_X4_init hX (p := x + 108) (by rw [eτ]; exact tyN_s _ _ _) (by rw [en]; exact meN_s _ _ _)) hX k10_29 (by decide) (Nat.le_of_ble_eq_true rfl) dX10_init_61 rfl ?_
  rintro _ _ τ2 M9 ⟨rfl, rfl, hP2, hfr⟩
  have hA := hA.mv9 (n := 0) rfl (τ1 := τ2) (M1 := M9) (fun b hb => ⟨(hfr b (by omega)).1, (hfr b (by omega)).2⟩)
  have hB := (hB.tau (τ' := τ2) (fun b q1 q2 => (hfr b (by omega)).1)).fr (M1 := M9) (fun b q1 q2 => (hfr b (by omega)).2)
  have hR := (hR.tau (τ' := τ2) (fun b q1 q2 => (hfr b (by omega)).1)).fr (M' := M9) (fun b q1 q2 => (hfr b (by omega)).2)
  have hP := (hP.tau (τ' := τ2) (fun b q1 q2 => (hfr b (by omega)).1)).fr (M1 := M9) (fun b q1 q2 => (hfr b (by omega)).2)
  have hR2 := (hR2.tau (τ' := τ2) (fun b q1 q2 => (hfr b (by omega)).1)).fr (M' := M9) (fun b q1 q2 => (hfr b (by omega)).2)
  clear eτ en hfr
  refine p10_37 rfl (hA.2.2.2.trans ht) dX10_init_64 rfl ?_
  refine T_nm (fun M2 e2 => ?_)
  have hA := hA.pf (by decide) e2
  have hB := hB.fr (M1 := M2) (fun b q1 q2 => by rw [e2]; exact up_a (by omega))
  have hR := hR.fr (M' := M2) (fun b q1 q2 => by rw [e2]; exact up_a (by omega))
  have hP := hP.fr (M1 := M2) (fun b q1 q2 => by rw [e2]; exact up_a (by omega))
  have hR2 := hR2.fr (M' := M2) (fun b q1 q2 => by rw [e2]; exact up_a (by omega))
  have hP2 := hP2.fr (M1 := M2) (fun b q1 q2 => by rw [e2]; exact up_a (by omega))
  clear e2
  refine T_aload0 dX10_init_67 rfl ?_
  refine n10_40 rfl dX10_init_68 rfl ?_
  refine T_nt (fun τ1 eτ => ?_)
  refine T_nm (fun Mn en => ?_)
  have hA := hA.mv9 (n := 0) rfl (τ1 := τ1) (M1 := Mn) (fun b hb => ⟨by rw [eτ]; exact tyN_n (by omega), by rw [en]; exact meN_n (by omega)⟩)
  have hB := (hB.tau (τ' := τ1) (fun b q1 q2 => by rw [eτ]; exact tyN_n (by omega))).fr (M1 := Mn) (fun b q1 q2 => by rw [en]; exact meN_n (by omega))
  have hR := (hR.tau (τ' := τ1) (fun b q1 q2 => by rw [eτ]; exact tyN_n (by omega))).fr (M' := Mn) (fun b q1 q2 => by rw [en]; exact meN_n (by omega))
  have hP := (hP.tau (τ' := τ1) (fun b q1 q2 => by rw [eτ]; exact tyN_n (by omega))).fr (M1 := Mn) (fun b q1 q2 => by rw [en]; exact meN_n (by omega))
  have hR2 := (hR2.tau (τ' := τ1) (fun b q1 q2 => by rw [eτ]; exact tyN_n (by omega))).fr (M' := Mn) (fun b q1 q2 => by rw [en]; exact meN_n (by omega))
  have hP2 := (hP2.tau (τ' := τ1) (fun b q1 q2 => by rw [eτ]; exact tyN_n (by omega))).fr (M1 := Mn) (fun b q1 q2 => by rw [en]; exact meN_n (by omega))
  refine T_dup dX10_init_71 rfl rfl ?_
  refine T_aload0 dX10_init_72 rfl ?_
  refine g10_34 _ rfl (hA.2.2.2.trans ht) (hA.2.1 6 (by decide)) dX10_init_73 rfl ?_
  refine T_aload0 dX10_init_76 rfl ?_
  refine g10_37 _ rfl (hA.2.2.2.trans ht) (hA.2.1 7 (by decide)) dX10_init_77 rfl ?_
  refine T_cI2 (c_X5_init hX (j := x + 138) (r := x + 70) (p := x + 108) (by rw [eτ]; exact tyN_s _ _ _)) hX k10_42 (by decide) (Nat.le_of_ble_eq_true rfl) dX10_init_80 rfl ?_
  rintro _ _ τ2 M9 ⟨rfl, rfl, hE, hT, hfr⟩
  have hA := hA.mv9 (n := 0) rfl (τ1 := τ2) (M1 := M9) (fun b hb => ⟨(hfr b (by omega)).1, (hfr b (by omega)).2⟩)
  have hB := (hB.tau (τ' := τ2) (fun b q1 q2 => (hfr b (by omega)).1)).fr (M1 := M9) (fun b q1 q2 => (hfr b (by omega)).2)
  have hR := (hR.tau (τ' := τ2) (fun b q1 q2 => (hfr b (by omega)).1)).fr (M' := M9) (fun b q1 q2 => (hfr b (by omega)).2)
  have hP := (hP.tau (τ' := τ2) (fun b q1 q2 => (hfr b (by omega)).1)).fr (M1 := M9) (fun b q1 q2 => (hfr b (by omega)).2)
  have hR2 := (hR2.tau (τ' := τ2) (fun b q1 q2 => (hfr b (by omega)).1)).fr (M' := M9) (fun b q1 q2 => (hfr b (by omega)).2)
  have hP2 := (hP2.tau (τ' := τ2) (fun b q1 q2 => (hfr b (by omega)).1)).fr (M1 := M9) (fun b q1 q2 => (hfr b (by omega)).2)
  clear eτ en hfr
  refine p10_45 rfl rfl (hA.2.2.2.trans ht) dX10_init_83 rfl ?_
  refine T_nm (fun M2 e2 => ?_)
  have hA := hA.pf (by decide) e2
  have hB := hB.fr (M1 := M2) (fun b q1 q2 => by rw [e2]; exact up_a (by omega))
  have hR := hR.fr (M' := M2) (fun b q1 q2 => by rw [e2]; exact up_a (by omega))
  have hP := hP.fr (M1 := M2) (fun b q1 q2 => by rw [e2]; exact up_a (by omega))
  have hR2 := hR2.fr (M' := M2) (fun b q1 q2 => by rw [e2]; exact up_a (by omega))
  have hP2 := hP2.fr (M1 := M2) (fun b q1 q2 => by rw [e2]; exact up_a (by omega))
  have hE := hE.fr (M1 := M2) (fun b q1 q2 => by rw [e2]; exact up_a (by omega))
  have hT := hT.fr (M1 := M2) (fun b q1 q2 => by rw [e2]; exact up_a (by omega))
  clear e2
  refine T_vret rfl dX10_init_86 ?_
  exact ⟨rfl, rfl, ⟨⟨Or.inl ⟨rfl, rfl⟩, Or.inl ⟨rfl, rfl⟩⟩, ⟨fun _ _ => -1, ⟨hA.2.2.2.trans ht, hA.2.1 0 (by decide), hA.2.1 1 (by decide), hA.2.1 2 (by decide), hA.2.1 3 (by decide), hA.2.1 4 (by decide), hA.2.1 5 (by decide), hA.2.1 6 (by decide), hA.2.1 7 (by decide), Fr.rf _ _ _⟩, rfl⟩, ⟨⟨by decide, by decide, by decide⟩, _, _, hR, rfl, rfl, rfl, fun _ _ _ => rfl, fun _ _ q => absurd q (Nat.not_lt_zero _), fun _ _ q => absurd q (Nat.not_lt_zero _), fun _ _ q => absurd q (Nat.not_lt_zero _), fun _ q => absurd q (Nat.not_lt_zero _), fun _ q => absurd q (Nat.not_lt_zero _), fun _ q => absurd q (Nat.not_lt_zero _)⟩, ⟨_, hP⟩, ⟨0, 0, 0, fun _ _ => 0, fun _ _ => 0, ⟨⟨by decide, by decide, by decide⟩, _, _, hR2, rfl, rfl, rfl, fun _ _ _ => rfl, fun _ _ q => absurd q (Nat.not_lt_zero _), fun _ _ q => absurd q (Nat.not_lt_zero _), fun _ _ q => absurd q (Nat.not_lt_zero _), fun _ q => absurd q (Nat.not_lt_zero _), fun _ q => absurd q (Nat.not_lt_zero _), fun _ q => absurd q (Nat.not_lt_zero _)⟩⟩, ⟨_, _, _, _, _, _, hP2⟩, hB, ⟨_, _, _, _, _, _, _, hE⟩, _, _, _, _, _, _, hT⟩, fun b hb => hA.2.2.1 b hb⟩

