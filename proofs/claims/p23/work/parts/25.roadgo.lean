def toF (ρ : RH) (j t : Nat) : Int32 := nI t + (if ρ 16 j = 0 then -1 else 1)
/-- a horse comes to the end of its stretch -/
def lvC (a b c : Nat) (ρ : RH) (j t : Nat) (n : Int32) : RH :=
  if toF ρ j t < nI a then
    if toF ρ j t < 0 then standC ρ j (-1) 0 0
    else if cgF b ρ j (toF ρ j t) = 0 then u2 ρ 17 j (n - 1)
    else standC (soC ρ j (toF ρ j t) b) j (toF ρ j t) (ρ 16 j) 0
  else standC (ulC ρ j c) j (nI t) 0 0
def gdF (ρ : RH) (j t : Nat) : Int32 := if ¬ ρ 16 j = 0 ∧ ρ 42 t < 0 ∧ 5 < ρ 43 t then 2 else 1
def g2C (ρ : RH) (j t : Nat) (n : Int32) : RH := tireC (u2 ρ 17 j (ρ 17 j + gdF ρ j t)) j (if ρ 16 j = 0 then -1 else n / 8)
theorem gdF_12 (ρ : RH) (j t : Nat) : gdF ρ j t = 1 ∨ gdF ρ j t = 2 := by
  unfold gdF; split <;> simp
def goC (a b c : Nat) (ρ : RH) (j t : Nat) (n : Int32) : RH := if (g2C ρ j t n) 17 j < ρ 41 t then g2C ρ j t n else lvC a b c (g2C ρ j t n) j t (ρ 41 t)

set_option maxHeartbeats 1000000 in
theorem c_X6_leave {l : Launch} {D : va_G} {cA : Nat → ClassId} {n0 : Nat} {XW : State → Heap → Prop} (hX : SF n0 XW) {sz : Nat} {τ : TY} {M0 M : ME} {r a b c : Nat} {ρ : RH} {ν : NU} (hR : LM τ M0 M r a b c ρ ν) {j t : Nat} (hj : j < b) (ht : t < a) (hp : ρ 15 j = nI t) (hd : b01 (ρ 16 j)) (x : Int32) : CT l D cA n0 XW mX6_leave 3 0 0 sz τ M [.ref r, .int (nI j), .int x] (MUq none sz τ (fun M' => LM τ M0 M' r a b c (lvC a b c ρ j t x) (ν))) := by
  refine CT.of (ls := [.ref r, .int (nI j), .int x, UU, UU]) (by decide) (Nat.le_of_ble_eq_true rfl) rfl ?_
  obtain ⟨l3, l4, l5⟩ := hR.ok
  refine T_aload0 dX6_leave_0 rfl ?_
  refine g6_20 _ rfl hR.t hR.r1 dX6_leave_1 rfl ?_
  refine T_iload1 dX6_leave_4 rfl ?_
  refine T_aald 3 _ (by decide) hR.tH rfl (by omega) (by decide) dX6_leave_5 rfl (hR.H (by omega)) ?_
  refine T_astore3 rfl (by decide) dX6_leave_6 rfl ?_
  refine T_aload3 dX6_leave_7 rfl ?_
  refine g6_123 _ rfl (hR.th (by omega)) (hR.h5 (by omega)) dX6_leave_8 rfl ?_
  refine T_joinI 23 (fun y => y = if ρ 16 j = 0 then -1 else 1) (fun hJ => ?_) (fun x23 hx23 => ?_)
  ·
    refine T_aload3 dX6_leave_11 rfl ?_
    refine g6_126 _ rfl (hR.th (by omega)) (hR.h6 (by omega)) dX6_leave_12 rfl ?_
    refine T_if_eq 22 18 dX6_leave_15 (by decide) rfl (fun c15 => ?_) (fun c15 => ?_)
    ·
      refine T_iconst (-1) dX6_leave_22 rfl rfl ?_
      first | exact hJ (-1) (by rw [if_pos c15]) | exact hJ _ (by rw [if_neg c15])
    ·
      refine T_iconst (1) dX6_leave_18 rfl rfl ?_
      refine T_goto 23 dX6_leave_19 (by decide) ?_
      first | exact hJ (-1) (by rw [if_pos c15]) | exact hJ _ (by rw [if_neg c15])
  ·
    refine T_iadd dX6_leave_23 rfl ?_
    rw [show ρ 15 j + x23 = toF ρ j t from by unfold toF; rw [hp, hx23]]
    refine T_istore4 rfl (by decide) dX6_leave_24 rfl ?_
    refine T_iload4 dX6_leave_26 rfl ?_
    refine T_aload0 dX6_leave_28 rfl ?_
    refine g6_32 _ rfl hR.t hR.r3 dX6_leave_29 rfl ?_
    refine T_icmp_lt 53 35 dX6_leave_32 (by decide) rfl (fun c32 => ?_) (fun c32 => ?_)
    ·
      refine T_iload4 dX6_leave_53 rfl ?_
      refine T_if_ge 68 58 dX6_leave_55 (by decide) rfl (fun c55 => ?_) (fun c55 => ?_)
      ·
        refine T_aload0 dX6_leave_68 rfl ?_
        refine T_aload3 dX6_leave_69 rfl ?_
        refine T_iload4 dX6_leave_70 rfl ?_
        refine T_cV2 (c_X6_canGo hX hR (by omega) _) hX k6_216 (Or.inl ⟨_, _, _, _, hR.t, by decide, rfl⟩) (by decide) (Nat.le_of_ble_eq_true rfl) dX6_leave_72 rfl ?_
        rintro _ _ _ _ ⟨rfl, rfl, rfl, rfl⟩
        refine T_if_eq 99 78 dX6_leave_75 (by decide) rfl (fun c75 => ?_) (fun c75 => ?_)
        ·
          refine T_aload3 dX6_leave_99 rfl ?_
          refine T_iload2 dX6_leave_100 rfl ?_
          refine T_iconst (1) dX6_leave_101 rfl rfl ?_
          refine T_isub dX6_leave_102 rfl ?_
          refine p6_129 rfl (hR.th (by omega)) dX6_leave_103 rfl ?_
          refine T_nm (fun M1 e1 => ?_)
          have hR := LM.mv (hR.ph (by omega) (by omega)) e1
          refine T_vret rfl dX6_leave_106 ?_
          unfold lvC
          first | (rw [if_neg c32]; exact ⟨rfl, rfl, rfl, hR.cg (by rw [ulC_f (by decide) (by decide), hp]) rfl⟩) | (rw [if_pos c32, if_pos (Int32.not_le.mp c55)]; exact ⟨rfl, rfl, rfl, hR⟩) | (rw [if_pos c32, if_neg (fun q => Int32.not_lt.mpr c55 q), if_pos c75]; exact ⟨rfl, rfl, rfl, hR⟩) | (rw [if_pos c32, if_neg (fun q => Int32.not_lt.mpr c55 q), if_neg c75]; exact ⟨rfl, rfl, rfl, hR⟩)
        ·
          refine T_aload0 dX6_leave_78 rfl ?_
          refine T_aload3 dX6_leave_79 rfl ?_
          refine T_iload4 dX6_leave_80 rfl ?_
          refine T_cV2 (c_X6_stopOthers hX hR (by omega) _) hX k6_220 (Or.inl ⟨_, _, _, _, hR.t, by decide, rfl⟩) (by decide) (Nat.le_of_ble_eq_true rfl) dX6_leave_82 rfl ?_
          rintro _ _ _ M1 ⟨rfl, rfl, rfl, hR⟩
          refine T_aload3 dX6_leave_85 rfl ?_
          refine T_iload4 dX6_leave_86 rfl ?_
          refine T_aload3 dX6_leave_88 rfl ?_
          refine g6_126 _ rfl (hR.th (by omega)) (hR.h6 (by omega)) dX6_leave_89 rfl ?_
          refine T_iconst (0) dX6_leave_92 rfl rfl ?_
          refine T_cV3 (k_X1_stand hX hR (by omega) _ _ _ (by first | exact Or.inl rfl | exact Or.inr rfl | assumption)) hX k6_189 (Or.inl ⟨_, _, _, _, (hR.th (by omega)), by decide, rfl⟩) (by decide) (Nat.le_of_ble_eq_true rfl) dX6_leave_93 rfl ?_
          rintro _ _ _ M1 ⟨rfl, rfl, rfl, hR⟩
          refine T_goto 106 dX6_leave_96 (by decide) ?_
          refine T_vret rfl dX6_leave_106 ?_
          unfold lvC
          first | (rw [if_neg c32]; exact ⟨rfl, rfl, rfl, hR.cg (by rw [ulC_f (by decide) (by decide), hp]) rfl⟩) | (rw [if_pos c32, if_pos (Int32.not_le.mp c55)]; exact ⟨rfl, rfl, rfl, hR⟩) | (rw [if_pos c32, if_neg (fun q => Int32.not_lt.mpr c55 q), if_pos c75]; exact ⟨rfl, rfl, rfl, hR⟩) | (rw [if_pos c32, if_neg (fun q => Int32.not_lt.mpr c55 q), if_neg c75]; exact ⟨rfl, rfl, rfl, hR⟩)
      ·
        refine T_aload3 dX6_leave_58 rfl ?_
        refine T_iconst (-1) dX6_leave_59 rfl rfl ?_
        refine T_iconst (0) dX6_leave_60 rfl rfl ?_
        refine T_iconst (0) dX6_leave_61 rfl rfl ?_
        refine T_cV3 (k_X1_stand hX hR (by omega) _ _ _ (by first | exact Or.inl rfl | exact Or.inr rfl | assumption)) hX k6_189 (Or.inl ⟨_, _, _, _, (hR.th (by omega)), by decide, rfl⟩) (by decide) (Nat.le_of_ble_eq_true rfl) dX6_leave_62 rfl ?_
        rintro _ _ _ M1 ⟨rfl, rfl, rfl, hR⟩
        refine T_goto 106 dX6_leave_65 (by decide) ?_
        refine T_vret rfl dX6_leave_106 ?_
        unfold lvC
        first | (rw [if_neg c32]; exact ⟨rfl, rfl, rfl, hR.cg (by rw [ulC_f (by decide) (by decide), hp]) rfl⟩) | (rw [if_pos c32, if_pos (Int32.not_le.mp c55)]; exact ⟨rfl, rfl, rfl, hR⟩) | (rw [if_pos c32, if_neg (fun q => Int32.not_lt.mpr c55 q), if_pos c75]; exact ⟨rfl, rfl, rfl, hR⟩) | (rw [if_pos c32, if_neg (fun q => Int32.not_lt.mpr c55 q), if_neg c75]; exact ⟨rfl, rfl, rfl, hR⟩)
    ·
      refine T_aload0 dX6_leave_35 rfl ?_
      refine T_iload1 dX6_leave_36 rfl ?_
      refine T_cV1 (c_X6_unload hX hR (by omega)) hX k6_213 (Or.inl ⟨_, _, _, _, hR.t, by decide, rfl⟩) (by decide) (Nat.le_of_ble_eq_true rfl) dX6_leave_37 rfl ?_
      rintro _ _ _ M1 ⟨rfl, rfl, rfl, hR⟩
      refine T_aload3 dX6_leave_40 rfl ?_
      refine T_aload3 dX6_leave_41 rfl ?_
      refine g6_123 _ rfl (hR.th (by omega)) (hR.h5 (by omega)) dX6_leave_42 rfl ?_
      refine T_iconst (0) dX6_leave_45 rfl rfl ?_
      refine T_iconst (0) dX6_leave_46 rfl rfl ?_
      refine T_cV3 (k_X1_stand hX hR (by omega) _ _ _ (by first | exact Or.inl rfl | exact Or.inr rfl | assumption)) hX k6_189 (Or.inl ⟨_, _, _, _, (hR.th (by omega)), by decide, rfl⟩) (by decide) (Nat.le_of_ble_eq_true rfl) dX6_leave_47 rfl ?_
      rintro _ _ _ M1 ⟨rfl, rfl, rfl, hR⟩
      refine T_goto 106 dX6_leave_50 (by decide) ?_
      refine T_vret rfl dX6_leave_106 ?_
      unfold lvC
      first | (rw [if_neg c32]; exact ⟨rfl, rfl, rfl, hR.cg (by rw [ulC_f (by decide) (by decide), hp]) rfl⟩) | (rw [if_pos c32, if_pos (Int32.not_le.mp c55)]; exact ⟨rfl, rfl, rfl, hR⟩) | (rw [if_pos c32, if_neg (fun q => Int32.not_lt.mpr c55 q), if_pos c75]; exact ⟨rfl, rfl, rfl, hR⟩) | (rw [if_pos c32, if_neg (fun q => Int32.not_lt.mpr c55 q), if_neg c75]; exact ⟨rfl, rfl, rfl, hR⟩)
set_option maxHeartbeats 1000000 in
theorem c_X6_goOn {l : Launch} {D : va_G} {cA : Nat → ClassId} {n0 : Nat} {XW : State → Heap → Prop} (hX : SF n0 XW) {sz : Nat} {τ : TY} {M0 M : ME} {r a b c : Nat} {ρ : RH} {ν : NU} (hR : LM τ M0 M r a b c ρ ν) {j t : Nat} (hj : j < b) (ht : t < a) (hp : ρ 15 j = nI t) (hd : b01 (ρ 16 j)) (x : Int32) : CT l D cA n0 XW mX6_goOn 4 0 0 sz τ M [.ref r, .int (nI j), .int x] (MUq none sz τ (fun M' => LM τ M0 M' r a b c (goC a b c ρ j t x) (ν))) := by
  refine CT.of (ls := [.ref r, .int (nI j), .int x, UU, UU, UU]) (by decide) (Nat.le_of_ble_eq_true rfl) rfl ?_
  obtain ⟨l3, l4, l5⟩ := hR.ok
  refine T_aload0 dX6_goOn_0 rfl ?_
  refine g6_20 _ rfl hR.t hR.r1 dX6_goOn_1 rfl ?_
  refine T_iload1 dX6_goOn_4 rfl ?_
  refine T_aald 3 _ (by decide) hR.tH rfl (by omega) (by decide) dX6_goOn_5 rfl (hR.H (by omega)) ?_
  refine T_astore3 rfl (by decide) dX6_goOn_6 rfl ?_
  refine T_aload0 dX6_goOn_7 rfl ?_
  refine g6_11 _ rfl hR.t hR.r0 dX6_goOn_8 rfl ?_
  refine T_aload3 dX6_goOn_11 rfl ?_
  refine g6_123 _ rfl (hR.th (by omega)) (hR.h5 (by omega)) dX6_goOn_12 rfl ?_
  refine T_aald 6 _ (by decide) hR.tS hp (by omega) (by decide) dX6_goOn_15 rfl (hR.S (by omega)) ?_
  refine T_astore4 rfl (by decide) dX6_goOn_16 rfl ?_
  refine T_joinI 47 (fun y => y = gdF ρ j t - 1) (fun hJ => ?_) (fun x47 hx47 => ?_)
  ·
    refine T_aload3 dX6_goOn_18 rfl ?_
    refine g6_126 _ rfl (hR.th (by omega)) (hR.h6 (by omega)) dX6_goOn_19 rfl ?_
    refine T_if_eq 46 25 dX6_goOn_22 (by decide) rfl (fun c22 => ?_) (fun c22 => ?_)
    ·
      refine T_iconst (0) dX6_goOn_46 rfl rfl ?_
      refine hJ _ ?_
      unfold gdF
      first | (rw [if_pos ⟨c22, Int32.not_le.mp c30, Int32.not_le.mp c39⟩]; decide) | (rw [if_neg (fun q => by first | exact q.1 c22 | exact Int32.not_lt.mpr c30 q.2.1 | exact Int32.not_lt.mpr c39 q.2.2)]; decide)
    ·
      refine T_aload4 dX6_goOn_25 rfl ?_
      refine g6_98 _ rfl (hR.ts (by omega)) (hR.s2 (by omega)) dX6_goOn_27 rfl ?_
      refine T_if_ge 46 33 dX6_goOn_30 (by decide) rfl (fun c30 => ?_) (fun c30 => ?_)
      ·
        refine T_iconst (0) dX6_goOn_46 rfl rfl ?_
        refine hJ _ ?_
        unfold gdF
        first | (rw [if_pos ⟨c22, Int32.not_le.mp c30, Int32.not_le.mp c39⟩]; decide) | (rw [if_neg (fun q => by first | exact q.1 c22 | exact Int32.not_lt.mpr c30 q.2.1 | exact Int32.not_lt.mpr c39 q.2.2)]; decide)
      ·
        refine T_aload4 dX6_goOn_33 rfl ?_
        refine g6_101 _ rfl (hR.ts (by omega)) (hR.s3 (by omega)) dX6_goOn_35 rfl ?_
        refine T_iconst (5) dX6_goOn_38 rfl rfl ?_
        refine T_icmp_le 46 42 dX6_goOn_39 (by decide) rfl (fun c39 => ?_) (fun c39 => ?_)
        ·
          refine T_iconst (0) dX6_goOn_46 rfl rfl ?_
          refine hJ _ ?_
          unfold gdF
          first | (rw [if_pos ⟨c22, Int32.not_le.mp c30, Int32.not_le.mp c39⟩]; decide) | (rw [if_neg (fun q => by first | exact q.1 c22 | exact Int32.not_lt.mpr c30 q.2.1 | exact Int32.not_lt.mpr c39 q.2.2)]; decide)
        ·
          refine T_iconst (1) dX6_goOn_42 rfl rfl ?_
          refine T_goto 47 dX6_goOn_43 (by decide) ?_
          refine hJ _ ?_
          unfold gdF
          first | (rw [if_pos ⟨c22, Int32.not_le.mp c30, Int32.not_le.mp c39⟩]; decide) | (rw [if_neg (fun q => by first | exact q.1 c22 | exact Int32.not_lt.mpr c30 q.2.1 | exact Int32.not_lt.mpr c39 q.2.2)]; decide)
  ·
    refine T_istore5 rfl (by decide) dX6_goOn_47 rfl ?_
    refine T_aload3 dX6_goOn_49 rfl ?_
    refine T_dup dX6_goOn_50 rfl rfl ?_
    refine g6_129 _ rfl (hR.th (by omega)) (hR.h7 (by omega)) dX6_goOn_51 rfl ?_
    refine T_joinI 64 (fun y => y = gdF ρ j t) (fun hJ => ?_) (fun x64 hx64 => ?_)
    ·
      refine T_iload5 dX6_goOn_54 rfl ?_
      refine T_if_eq 63 59 dX6_goOn_56 (by decide) rfl (fun c56 => ?_) (fun c56 => ?_)
      ·
        refine T_iconst (1) dX6_goOn_63 rfl rfl ?_
        refine hJ _ ?_
        rcases gdF_12 ρ j t with e | e <;> rw [e] at hx47 ⊢ <;> subst hx47 <;> first | rfl | exact absurd c56 (by decide) | exact absurd (by decide) c56
      ·
        refine T_iconst (2) dX6_goOn_59 rfl rfl ?_
        refine T_goto 64 dX6_goOn_60 (by decide) ?_
        refine hJ _ ?_
        rcases gdF_12 ρ j t with e | e <;> rw [e] at hx47 ⊢ <;> subst hx47 <;> first | rfl | exact absurd c56 (by decide) | exact absurd (by decide) c56
    ·
      refine T_iadd dX6_goOn_64 rfl ?_
      subst hx64
      refine p6_129 rfl (hR.th (by omega)) dX6_goOn_65 rfl ?_
      refine T_nm (fun M1 e1 => ?_)
      have hR := LM.mv (hR.ph (by omega) (by omega)) e1
      refine T_aload3 dX6_goOn_68 rfl ?_
      refine T_joinI 84 (fun y => y = if ρ 16 j = 0 then -1 else x / 8) (fun hJ => ?_) (fun x84 hx84 => ?_)
      ·
        refine T_aload3 dX6_goOn_69 rfl ?_
        refine g6_126 _ rfl (hR.th (by omega)) (hR.h6 (by omega)) dX6_goOn_70 rfl ?_
        refine T_if_eq 83 76 dX6_goOn_73 (by decide) rfl (fun c73 => ?_) (fun c73 => ?_)
        ·
          refine T_iconst (-1) dX6_goOn_83 rfl rfl ?_
          first | exact hJ (-1) (by rw [if_pos (show ρ 16 j = 0 from c73)]) | exact hJ _ (by rw [if_neg (show ¬ ρ 16 j = 0 from c73)])
        ·
          refine T_iload2 dX6_goOn_76 rfl ?_
          refine T_bipush (8) dX6_goOn_77 rfl rfl ?_
          refine T_idiv dX6_goOn_79 rfl (by decide) ?_
          refine T_goto 84 dX6_goOn_80 (by decide) ?_
          first | exact hJ (-1) (by rw [if_pos (show ρ 16 j = 0 from c73)]) | exact hJ _ (by rw [if_neg (show ¬ ρ 16 j = 0 from c73)])
      ·
        subst hx84
        refine T_cV1 (k_X1_tire hX hR (by omega) _) hX k6_200 (Or.inl ⟨_, _, _, _, (hR.th (by omega)), by decide, rfl⟩) (by decide) (Nat.le_of_ble_eq_true rfl) dX6_goOn_84 rfl ?_
        rintro _ _ _ M1 ⟨rfl, rfl, rfl, hR⟩
        refine T_aload3 dX6_goOn_87 rfl ?_
        refine g6_129 _ rfl (hR.th (by omega)) (hR.h7 (by omega)) dX6_goOn_88 rfl ?_
        refine T_aload4 dX6_goOn_91 rfl ?_
        refine g6_95 _ rfl (hR.ts (by omega)) (hR.s1 (by omega)) dX6_goOn_93 rfl ?_
        refine T_icmp_lt 109 99 dX6_goOn_96 (by decide) rfl (fun c96 => ?_) (fun c96 => ?_)
        ·
          refine T_vret rfl dX6_goOn_109 ?_
          first | exact ⟨rfl, rfl, rfl, hR.cg (if_pos (show (g2C ρ j t x) 17 j < ρ 41 t from c96)).symm rfl⟩ | exact ⟨rfl, rfl, rfl, hR.cg (if_neg (show ¬ (g2C ρ j t x) 17 j < ρ 41 t from c96)).symm rfl⟩
        ·
          refine T_aload0 dX6_goOn_99 rfl ?_
          refine T_iload1 dX6_goOn_100 rfl ?_
          refine T_aload4 dX6_goOn_101 rfl ?_
          refine g6_95 _ rfl (hR.ts (by omega)) (hR.s1 (by omega)) dX6_goOn_103 rfl ?_
          refine T_cV2 (c_X6_leave hX hR hj ht hp hd _) hX k6_210 (Or.inl ⟨_, _, _, _, hR.t, by decide, rfl⟩) (by decide) (Nat.le_of_ble_eq_true rfl) dX6_goOn_106 rfl ?_
          rintro _ _ _ M1 ⟨rfl, rfl, rfl, hR⟩
          refine T_vret rfl dX6_goOn_109 ?_
          first | exact ⟨rfl, rfl, rfl, hR.cg (if_pos (show (g2C ρ j t x) 17 j < ρ 41 t from c96)).symm rfl⟩ | exact ⟨rfl, rfl, rfl, hR.cg (if_neg (show ¬ (g2C ρ j t x) 17 j < ρ 41 t from c96)).symm rfl⟩
theorem tellS_v {ρ ρ2 : RH} {k f : Nat} (h1 : 41 ≤ f) (h2 : f < 44) : bcS ρ ρ2 k f k = ρ2 f k := by
  rcases (show f = 41 ∨ f = 42 ∨ f = 43 by omega) with rfl | rfl | rfl <;> simp [bcS, tellS, u2]
theorem bcS_i {ρ ρ2 : RH} {k f s : Nat} (h : s ≠ k) : bcS ρ ρ2 k f s = ρ f s := tellS_i h
theorem bcS_f {ρ ρ2 : RH} {k f s : Nat} (h : f < 41 ∨ 43 < f) : bcS ρ ρ2 k f s = ρ f s := tellS_f h
theorem bcH_v {ρ ρ2 : RH} {k f : Nat} (h1 : 11 ≤ f) (h2 : f < 21) : bcH ρ ρ2 k f k = ρ2 f k := by
  rcases (show f = 11 ∨ f = 12 ∨ f = 13 ∨ f = 14 ∨ f = 15 ∨ f = 16 ∨ f = 17 ∨ f = 18 ∨ f = 19 ∨ f = 20 by omega) with rfl | rfl | rfl | rfl | rfl | rfl | rfl | rfl | rfl | rfl <;> simp [bcH, tellH, u2]
theorem bcH_i {ρ ρ2 : RH} {k f s : Nat} (h : s ≠ k) : bcH ρ ρ2 k f s = ρ f s := by
  unfold bcH; rw [u2_i h, u2_i h, u2_i h, u2_i h, u2_i h, u2_i h]; exact tellH_i h
theorem bcH_f {ρ ρ2 : RH} {k f s : Nat} (h : f < 11 ∨ 20 < f) : bcH ρ ρ2 k f s = ρ f s := by
  unfold bcH; rw [u2_f (by omega), u2_f (by omega), u2_f (by omega), u2_f (by omega), u2_f (by omega), u2_f (by omega)]; exact tellH_f h
theorem bcL_v {ρ ρ2 : RH} {k f : Nat} (h1 : 31 ≤ f) (h2 : f < 35) : bcL ρ ρ2 k f k = ρ2 f k := by
  rcases (show f = 31 ∨ f = 32 ∨ f = 33 ∨ f = 34 by omega) with rfl | rfl | rfl | rfl <;> simp [bcL, lieC, tellL, u2]
theorem bcL_i {ρ ρ2 : RH} {k f s : Nat} (h : s ≠ k) : bcL ρ ρ2 k f s = ρ f s := by
  unfold bcL lieC; rw [u2_i h, u2_i h, u2_i h]; exact tellL_i h
theorem bcL_f {ρ ρ2 : RH} {k f s : Nat} (h : f < 31 ∨ 34 < f) : bcL ρ ρ2 k f s = ρ f s := by
  unfold bcL lieC; rw [u2_f (by omega), u2_f (by omega), u2_f (by omega)]; exact tellL_f h
/-- how far a road has become another one -/
def BP (k3 k4 k5 : Nat) (ρ : RH) (ν : NU) (ρ2 : RH) (ν2 : NU) : Prop := (∀ f s, s < k3 → 41 ≤ f → f < 44 → ρ f s = ρ2 f s) ∧ (∀ f h, h < k4 → 11 ≤ f → f < 21 → ρ f h = ρ2 f h) ∧ (∀ f l, l < k5 → 31 ≤ f → f < 35 → ρ f l = ρ2 f l) ∧ (∀ s, s < k3 → ν 4 s = ν2 4 s) ∧ (∀ h, h < k4 → ν 1 h = ν2 1 h) ∧ (∀ l, l < k5 → ν 3 l = ν2 3 l)
theorem BP.s {k3 k4 k5 : Nat} {ρ ρ2 : RH} {ν ν2 : NU} (h : BP k3 k4 k5 ρ ν ρ2 ν2) : BP (k3 + 1) k4 k5 (bcS ρ ρ2 k3) (u2l ν 4 k3 (ν2 4 k3)) ρ2 ν2 := by
  obtain ⟨h1, h2, h3, h4, h5, h6⟩ := h
  refine ⟨fun f s hs p q => ?_, fun f s hs p q => ?_, fun f s hs p q => ?_, fun s hs => ?_, fun s hs => ?_, fun s hs => ?_⟩
  · by_cases e : s = k3
    · subst e; exact tellS_v p q
    · rw [bcS_i e]; exact h1 f s (by omega) p q
  · rw [bcS_f (by omega)]; exact h2 f s hs p q
  · rw [bcS_f (by omega)]; exact h3 f s hs p q
  · by_cases e : s = k3
    · subst e; exact u2l_s _ _ _ _
    · rw [u2l_i e]; exact h4 s (by omega)
  · rw [u2l_f (by omega)]; exact h5 s hs
  · rw [u2l_f (by omega)]; exact h6 s hs
theorem BP.h {k3 k4 k5 : Nat} {ρ ρ2 : RH} {ν ν2 : NU} (h : BP k3 k4 k5 ρ ν ρ2 ν2) : BP k3 (k4 + 1) k5 (bcH ρ ρ2 k4) (u2l ν 1 k4 (ν2 1 k4)) ρ2 ν2 := by
  obtain ⟨h1, h2, h3, h4, h5, h6⟩ := h
  refine ⟨fun f s hs p q => ?_, fun f s hs p q => ?_, fun f s hs p q => ?_, fun s hs => ?_, fun s hs => ?_, fun s hs => ?_⟩
  · rw [bcH_f (by omega)]; exact h1 f s hs p q
  · by_cases e : s = k4
    · subst e; exact bcH_v p q
    · rw [bcH_i e]; exact h2 f s (by omega) p q
  · rw [bcH_f (by omega)]; exact h3 f s hs p q
  · rw [u2l_f (by omega)]; exact h4 s hs
  · by_cases e : s = k4
    · subst e; exact u2l_s _ _ _ _
    · rw [u2l_i e]; exact h5 s (by omega)
  · rw [u2l_f (by omega)]; exact h6 s hs
theorem BP.l {k3 k4 k5 : Nat} {ρ ρ2 : RH} {ν ν2 : NU} (h : BP k3 k4 k5 ρ ν ρ2 ν2) : BP k3 k4 (k5 + 1) (bcL ρ ρ2 k5) (u2l ν 3 k5 (ν2 3 k5)) ρ2 ν2 := by
  obtain ⟨h1, h2, h3, h4, h5, h6⟩ := h
  refine ⟨fun f s hs p q => ?_, fun f s hs p q => ?_, fun f s hs p q => ?_, fun s hs => ?_, fun s hs => ?_, fun s hs => ?_⟩
  · rw [bcL_f (by omega)]; exact h1 f s hs p q
  · rw [bcL_f (by omega)]; exact h2 f s hs p q
  · by_cases e : s = k5
    · subst e; exact bcL_v p q
    · rw [bcL_i e]; exact h3 f s (by omega) p q
  · rw [u2l_f (by omega)]; exact h4 s hs
  · rw [u2l_f (by omega)]; exact h5 s hs
  · by_cases e : s = k5
    · subst e; exact u2l_s _ _ _ _
    · rw [u2l_i e]; exact h6 s (by omega)
theorem BP.c {k3 k4 k5 f : Nat} {x : Int32} {ρ ρ2 : RH} {ν ν2 : NU} (h : BP k3 k4 k5 ρ ν ρ2 ν2) (hf : f < 9) : BP k3 k4 k5 (u2 ρ f 0 x) ν ρ2 ν2 := by
  obtain ⟨h1, h2, h3, h4⟩ := h
  refine ⟨fun f s hs p q => ?_, fun f s hs p q => ?_, fun f s hs p q => ?_, h4⟩
  · rw [u2_f (by omega)]; exact h1 f s hs p q
  · rw [u2_f (by omega)]; exact h2 f s hs p q
  · rw [u2_f (by omega)]; exact h3 f s hs p q
set_option maxHeartbeats 1000000 in
theorem L3_X6_become {l : Launch} {D : va_G} {cA : Nat → ClassId} {n0 : Nat} {XW : State → Heap → Prop} (hX : SF n0 XW) {sz : Nat} {τ : TY} {M0 : ME} {r r2 a2 b2 c2 : Nat} {ρ2 : RH} {ν2 : NU} (hd : r + 38 ≤ r2 ∨ r2 + 38 ≤ r) (hB2 : RoadB b2 ρ2) : ∀ (n : Nat) (k : Nat) (ρk : RH) (νk : NU) (Mk : ME) (hk : k ≤ c2) (hR : RM τ M0 Mk r ρk νk) (hR2 : LM τ Mk Mk r2 a2 b2 c2 ρ2 ν2) (hP : BP a2 b2 k ρk νk ρ2 ν2) (h3 : ρk 3 0 = nI a2) (h4 : ρk 4 0 = nI b2) (h5 : ρk 5 0 = nI c2), c2 - k < n → T l D cA n0 XW mX6_become 4 0 0 sz τ Mk 88 [.ref r, .ref r2, .int (nI k)] [] (MUq none sz τ (fun M' => LM τ M0 M' r a2 b2 c2 (ρ2) (ν2))) (fun _ _ _ _ => False) := by
  intro n
  induction n with
  | zero => intros; omega
  | succ n ih =>
    intro k ρk νk Mk hk hR hR2 hP h3 h4 h5 hn
    obtain ⟨l3, l4, l5⟩ := hR2.ok
    refine T_iload2 dX6_become_88 rfl ?_
    refine T_aload0 dX6_become_89 rfl ?_
    first | refine g6_39 _ rfl hR.t hR.r5 dX6_become_90 rfl ?_ | refine g6_39 _ rfl hR2.t hR2.r5 dX6_become_90 rfl ?_
    refine T_icmp_ge 117 96 dX6_become_93 (by decide) rfl (fun c9 => ?_) (fun c9 => ?_)
    ·
      rw [h5] at c9
      have c9 := le_out rfl c9
      refine T_aload0 dX6_become_117 rfl ?_
      refine T_aload1 dX6_become_118 rfl ?_
      first | refine g6_42 _ rfl hR.t hR.r6 dX6_become_119 rfl ?_ | refine g6_42 _ rfl hR2.t hR2.r6 dX6_become_119 rfl ?_
      first | refine p6_42 rfl hR.t dX6_become_122 rfl ?_ | refine p6_42 rfl hR2.t dX6_become_122 rfl ?_
      refine T_nm (fun M1 e1 => ?_)
      have hR := RM.mv (hR.pr (by omega)) e1
      have hR2 := LM.frU hR2 e1 (by (try simp only [stA, hsA, lgA]); omega)
      refine T_aload0 dX6_become_125 rfl ?_
      refine T_aload1 dX6_become_126 rfl ?_
      first | refine g6_45 _ rfl hR.t hR.r7 dX6_become_127 rfl ?_ | refine g6_45 _ rfl hR2.t hR2.r7 dX6_become_127 rfl ?_
      first | refine p6_45 rfl hR.t dX6_become_130 rfl ?_ | refine p6_45 rfl hR2.t dX6_become_130 rfl ?_
      refine T_nm (fun M2 e2 => ?_)
      have hR := RM.mv (hR.pr (by omega)) e2
      have hR2 := LM.frU hR2 e2 (by (try simp only [stA, hsA, lgA]); omega)
      refine T_aload0 dX6_become_133 rfl ?_
      refine T_aload1 dX6_become_134 rfl ?_
      first | refine g6_48 _ rfl hR.t hR.r8 dX6_become_135 rfl ?_ | refine g6_48 _ rfl hR2.t hR2.r8 dX6_become_135 rfl ?_
      first | refine p6_48 rfl hR.t dX6_become_138 rfl ?_ | refine p6_48 rfl hR2.t dX6_become_138 rfl ?_
      refine T_nm (fun M3 e3 => ?_)
      have hR := RM.mv (hR.pr (by omega)) e3
      have hR2 := LM.frU hR2 e3 (by (try simp only [stA, hsA, lgA]); omega)
      refine T_vret rfl dX6_become_141 ?_
      have hkk : k = c2 := by omega
      subst hkk
      refine ⟨rfl, rfl, rfl, ⟨⟨by omega, by omega, by omega⟩, _, _, hR, ?_⟩⟩
      have hQ := ((hP.c (f := 6) (x := ρ2 6 0) (by omega)).c (f := 7) (x := ρ2 7 0) (by omega)).c (f := 8) (x := ρ2 8 0) (by omega)
      exact ⟨h3, h4, h5, fun f p q => by rcases (show f = 6 ∨ f = 7 ∨ f = 8 by omega) with rfl | rfl | rfl <;> rfl, hQ⟩
    ·
      rw [h5] at c9
      have c9 := lt_in rfl c9
      refine T_aload0 dX6_become_96 rfl ?_
      first | refine g6_27 _ rfl hR.t hR.r2 dX6_become_97 rfl ?_ | refine g6_27 _ rfl hR2.t hR2.r2 dX6_become_97 rfl ?_
      refine T_iload2 dX6_become_100 rfl ?_
      first | refine T_aald 4 _ (by decide) hR.tL rfl (by omega) (by decide) dX6_become_101 rfl (hR.L (by omega)) ?_ | refine T_aald 4 _ (by decide) hR2.tL rfl (by omega) (by decide) dX6_become_101 rfl (hR2.L (by omega)) ?_
      refine T_aload1 dX6_become_102 rfl ?_
      first | refine g6_27 _ rfl hR.t hR.r2 dX6_become_103 rfl ?_ | refine g6_27 _ rfl hR2.t hR2.r2 dX6_become_103 rfl ?_
      refine T_iload2 dX6_become_106 rfl ?_
      first | refine T_aald 4 _ (by decide) hR.tL rfl (by omega) (by decide) dX6_become_107 rfl (hR.L (by omega)) ?_ | refine T_aald 4 _ (by decide) hR2.tL rfl (by omega) (by decide) dX6_become_107 rfl (hR2.L (by omega)) ?_
      refine T_cV1 (c_X2_become hX hR.rf hR2 hd (by omega)) hX k6_58 (Or.inl ⟨_, _, _, _, (hR.tl (by omega)), by decide, rfl⟩) (by decide) (Nat.le_of_ble_eq_true rfl) dX6_become_108 rfl ?_
      rintro _ _ _ M1 ⟨rfl, rfl, rfl, hN⟩
      have hR2 := hR2.nx hN.2.2.2 (by omega)
      have hR := hN.base hR.2.2.2
      first | refine T_iinc2 rfl (by decide) dX6_become_111 rfl (inc1 _) ?_ | refine T_iinc2 rfl (by decide) dX6_become_111 rfl rfl ?_
      refine T_goto 88 dX6_become_114 (by decide) ?_
      exact ih (k + 1) _ _ _ (by omega) hR hR2 hP.l (by rw [bcL_f (by omega)]; exact h3) (by rw [bcL_f (by omega)]; exact h4) (by rw [bcL_f (by omega)]; exact h5) (by omega)
set_option maxHeartbeats 1000000 in
theorem L2_X6_become {l : Launch} {D : va_G} {cA : Nat → ClassId} {n0 : Nat} {XW : State → Heap → Prop} (hX : SF n0 XW) {sz : Nat} {τ : TY} {M0 : ME} {r r2 a2 b2 c2 : Nat} {ρ2 : RH} {ν2 : NU} (hd : r + 38 ≤ r2 ∨ r2 + 38 ≤ r) (hB2 : RoadB b2 ρ2) : ∀ (n : Nat) (k : Nat) (ρk : RH) (νk : NU) (Mk : ME) (hk : k ≤ b2) (hR : RM τ M0 Mk r ρk νk) (hR2 : LM τ Mk Mk r2 a2 b2 c2 ρ2 ν2) (hP : BP a2 k 0 ρk νk ρ2 ν2) (h3 : ρk 3 0 = nI a2) (h4 : ρk 4 0 = nI b2), b2 - k < n → T l D cA n0 XW mX6_become 4 0 0 sz τ Mk 49 [.ref r, .ref r2, .int (nI k)] [] (MUq none sz τ (fun M' => LM τ M0 M' r a2 b2 c2 (ρ2) (ν2))) (fun _ _ _ _ => False) := by
  intro n
  induction n with
  | zero => intros; omega
  | succ n ih =>
    intro k ρk νk Mk hk hR hR2 hP h3 h4 hn
    obtain ⟨l3, l4, l5⟩ := hR2.ok
    refine T_iload2 dX6_become_49 rfl ?_
    refine T_aload0 dX6_become_50 rfl ?_
    first | refine g6_36 _ rfl hR.t hR.r4 dX6_become_51 rfl ?_ | refine g6_36 _ rfl hR2.t hR2.r4 dX6_become_51 rfl ?_
    refine T_icmp_ge 78 57 dX6_become_54 (by decide) rfl (fun c9 => ?_) (fun c9 => ?_)
    ·
      rw [h4] at c9
      have c9 := le_out rfl c9
      refine T_aload0 dX6_become_78 rfl ?_
      refine T_aload1 dX6_become_79 rfl ?_
      first | refine g6_39 _ rfl hR.t hR.r5 dX6_become_80 rfl ?_ | refine g6_39 _ rfl hR2.t hR2.r5 dX6_become_80 rfl ?_
      first | refine p6_39 rfl hR.t dX6_become_83 rfl ?_ | refine p6_39 rfl hR2.t dX6_become_83 rfl ?_
      refine T_nm (fun M1 e1 => ?_)
      have hR := RM.mv (hR.pr (by omega)) e1
      have hR2 := LM.frU hR2 e1 (by (try simp only [stA, hsA, lgA]); omega)
      refine T_iconst (0) dX6_become_86 rfl rfl ?_
      refine T_istore2 rfl (by decide) dX6_become_87 rfl ?_
      have hkk : k = b2 := by omega
      subst hkk
      exact L3_X6_become hX hd hB2 (c2 + 1) 0 _ _ _ (Nat.zero_le _) hR hR2 (hP.c (f := 5) (by omega)) (by rw [u2_f (by decide)]; exact h3) (by rw [u2_f (by decide)]; exact h4) (u2_s _ _ _ _) (by omega)
    ·
      rw [h4] at c9
      have c9 := lt_in rfl c9
      refine T_aload0 dX6_become_57 rfl ?_
      first | refine g6_20 _ rfl hR.t hR.r1 dX6_become_58 rfl ?_ | refine g6_20 _ rfl hR2.t hR2.r1 dX6_become_58 rfl ?_
      refine T_iload2 dX6_become_61 rfl ?_
      first | refine T_aald 3 _ (by decide) hR.tH rfl (by omega) (by decide) dX6_become_62 rfl (hR.H (by omega)) ?_ | refine T_aald 3 _ (by decide) hR2.tH rfl (by omega) (by decide) dX6_become_62 rfl (hR2.H (by omega)) ?_
      refine T_aload1 dX6_become_63 rfl ?_
      first | refine g6_20 _ rfl hR.t hR.r1 dX6_become_64 rfl ?_ | refine g6_20 _ rfl hR2.t hR2.r1 dX6_become_64 rfl ?_
      refine T_iload2 dX6_become_67 rfl ?_
      first | refine T_aald 3 _ (by decide) hR.tH rfl (by omega) (by decide) dX6_become_68 rfl (hR.H (by omega)) ?_ | refine T_aald 3 _ (by decide) hR2.tH rfl (by omega) (by decide) dX6_become_68 rfl (hR2.H (by omega)) ?_
      refine T_cV1 (c_X1_become hX hR.rf hR2 hd hB2 (by omega)) hX k6_55 (Or.inl ⟨_, _, _, _, (hR.th (by omega)), by decide, rfl⟩) (by decide) (Nat.le_of_ble_eq_true rfl) dX6_become_69 rfl ?_
      rintro _ _ _ M1 ⟨rfl, rfl, rfl, hN⟩
      have hR2 := hR2.nx hN.2.2.2 (by omega)
      have hR := hN.base hR.2.2.2
      first | refine T_iinc2 rfl (by decide) dX6_become_72 rfl (inc1 _) ?_ | refine T_iinc2 rfl (by decide) dX6_become_72 rfl rfl ?_
      refine T_goto 49 dX6_become_75 (by decide) ?_
      exact ih (k + 1) _ _ _ (by omega) hR hR2 hP.h (by rw [bcH_f (by omega)]; exact h3) (by rw [bcH_f (by omega)]; exact h4) (by omega)
set_option maxHeartbeats 1000000 in
theorem L1_X6_become {l : Launch} {D : va_G} {cA : Nat → ClassId} {n0 : Nat} {XW : State → Heap → Prop} (hX : SF n0 XW) {sz : Nat} {τ : TY} {M0 : ME} {r r2 a2 b2 c2 : Nat} {ρ2 : RH} {ν2 : NU} (hd : r + 38 ≤ r2 ∨ r2 + 38 ≤ r) (hB2 : RoadB b2 ρ2) : ∀ (n : Nat) (k : Nat) (ρk : RH) (νk : NU) (Mk : ME) (hk : k ≤ a2) (hR : RM τ M0 Mk r ρk νk) (hR2 : LM τ Mk Mk r2 a2 b2 c2 ρ2 ν2) (hP : BP k 0 0 ρk νk ρ2 ν2) (h3 : ρk 3 0 = nI a2), a2 - k < n → T l D cA n0 XW mX6_become 4 0 0 sz τ Mk 10 [.ref r, .ref r2, .int (nI k)] [] (MUq none sz τ (fun M' => LM τ M0 M' r a2 b2 c2 (ρ2) (ν2))) (fun _ _ _ _ => False) := by
  intro n
  induction n with
  | zero => intros; omega
  | succ n ih =>
    intro k ρk νk Mk hk hR hR2 hP h3 hn
    obtain ⟨l3, l4, l5⟩ := hR2.ok
    refine T_iload2 dX6_become_10 rfl ?_
    refine T_aload0 dX6_become_11 rfl ?_
    first | refine g6_32 _ rfl hR.t hR.r3 dX6_become_12 rfl ?_ | refine g6_32 _ rfl hR2.t hR2.r3 dX6_become_12 rfl ?_
    refine T_icmp_ge 39 18 dX6_become_15 (by decide) rfl (fun c9 => ?_) (fun c9 => ?_)
    ·
      rw [h3] at c9
      have c9 := le_out rfl c9
      refine T_aload0 dX6_become_39 rfl ?_
      refine T_aload1 dX6_become_40 rfl ?_
      first | refine g6_36 _ rfl hR.t hR.r4 dX6_become_41 rfl ?_ | refine g6_36 _ rfl hR2.t hR2.r4 dX6_become_41 rfl ?_
      first | refine p6_36 rfl hR.t dX6_become_44 rfl ?_ | refine p6_36 rfl hR2.t dX6_become_44 rfl ?_
      refine T_nm (fun M1 e1 => ?_)
      have hR := RM.mv (hR.pr (by omega)) e1
      have hR2 := LM.frU hR2 e1 (by (try simp only [stA, hsA, lgA]); omega)
      refine T_iconst (0) dX6_become_47 rfl rfl ?_
      refine T_istore2 rfl (by decide) dX6_become_48 rfl ?_
      have hkk : k = a2 := by omega
      subst hkk
      exact L2_X6_become hX hd hB2 (b2 + 1) 0 _ _ _ (Nat.zero_le _) hR hR2 (hP.c (f := 4) (by omega)) (by rw [u2_f (by decide)]; exact h3) (u2_s _ _ _ _) (by omega)
    ·
      rw [h3] at c9
      have c9 := lt_in rfl c9
      refine T_aload0 dX6_become_18 rfl ?_
      first | refine g6_11 _ rfl hR.t hR.r0 dX6_become_19 rfl ?_ | refine g6_11 _ rfl hR2.t hR2.r0 dX6_become_19 rfl ?_
      refine T_iload2 dX6_become_22 rfl ?_
      first | refine T_aald 6 _ (by decide) hR.tS rfl (by omega) (by decide) dX6_become_23 rfl (hR.S (by omega)) ?_ | refine T_aald 6 _ (by decide) hR2.tS rfl (by omega) (by decide) dX6_become_23 rfl (hR2.S (by omega)) ?_
      refine T_aload1 dX6_become_24 rfl ?_
      first | refine g6_11 _ rfl hR.t hR.r0 dX6_become_25 rfl ?_ | refine g6_11 _ rfl hR2.t hR2.r0 dX6_become_25 rfl ?_
      refine T_iload2 dX6_become_28 rfl ?_
      first | refine T_aald 6 _ (by decide) hR.tS rfl (by omega) (by decide) dX6_become_29 rfl (hR.S (by omega)) ?_ | refine T_aald 6 _ (by decide) hR2.tS rfl (by omega) (by decide) dX6_become_29 rfl (hR2.S (by omega)) ?_
      refine T_cV1 (c_X8_become hX hR.rf hR2 hd (by omega)) hX k6_51 (Or.inl ⟨_, _, _, _, (hR.ts (by omega)), by decide, rfl⟩) (by decide) (Nat.le_of_ble_eq_true rfl) dX6_become_30 rfl ?_
      rintro _ _ _ M1 ⟨rfl, rfl, rfl, hN⟩
      have hR2 := hR2.nx hN.2.2.2 (by omega)
      have hR := hN.base hR.2.2.2
      first | refine T_iinc2 rfl (by decide) dX6_become_33 rfl (inc1 _) ?_ | refine T_iinc2 rfl (by decide) dX6_become_33 rfl rfl ?_
      refine T_goto 10 dX6_become_36 (by decide) ?_
      exact ih (k + 1) _ _ _ (by omega) hR hR2 hP.s (by rw [bcS_f (by omega)]; exact h3) (by omega)
set_option maxHeartbeats 1000000 in
theorem c_X6_become {l : Launch} {D : va_G} {cA : Nat → ClassId} {n0 : Nat} {XW : State → Heap → Prop} (hX : SF n0 XW) {sz : Nat} {τ : TY} {M0 M M2 : ME} {r a b c r2 a2 b2 c2 : Nat} {ρ ρ2 : RH} {ν ν2 : NU} (hR : LM τ M0 M r a b c ρ ν) (hR2 : LM τ M2 M r2 a2 b2 c2 ρ2 ν2) (hd : r + 38 ≤ r2 ∨ r2 + 38 ≤ r) (hB2 : RoadB b2 ρ2) : CT l D cA n0 XW mX6_become 4 0 0 sz τ M [.ref r, .ref r2] (MUq none sz τ (fun M' => LM τ M0 M' r a2 b2 c2 (ρ2) (ν2))) := by
  refine CT.of (ls := [.ref r, .ref r2, UU]) (by decide) (Nat.le_of_ble_eq_true rfl) rfl ?_
  obtain ⟨l3, l4, l5⟩ := hR2.ok
  obtain ⟨-, ρ', ν', hR, -⟩ := hR
  refine T_aload0 dX6_become_0 rfl ?_
  refine T_aload1 dX6_become_1 rfl ?_
  first | refine g6_32 _ rfl hR.t hR.r3 dX6_become_2 rfl ?_ | refine g6_32 _ rfl hR2.t hR2.r3 dX6_become_2 rfl ?_
  first | refine p6_32 rfl hR.t dX6_become_5 rfl ?_ | refine p6_32 rfl hR2.t dX6_become_5 rfl ?_
  refine T_nm (fun M1 e1 => ?_)
  have hR := RM.mv (hR.pr (by omega)) e1
  have hR2 := LM.frU hR2 e1 (by (try simp only [stA, hsA, lgA]); omega)
  refine T_iconst (0) dX6_become_8 rfl rfl ?_
  refine T_istore2 rfl (by decide) dX6_become_9 rfl ?_
  exact L1_X6_become hX hd hB2 (a2 + 1) 0 _ _ _ (Nat.zero_le _) hR hR2 ⟨fun _ _ h => absurd h (Nat.not_lt_zero _), fun _ _ h => absurd h (Nat.not_lt_zero _), fun _ _ h => absurd h (Nat.not_lt_zero _), fun _ h => absurd h (Nat.not_lt_zero _), fun _ h => absurd h (Nat.not_lt_zero _), fun _ h => absurd h (Nat.not_lt_zero _)⟩ (u2_s _ _ _ _) (by omega)
