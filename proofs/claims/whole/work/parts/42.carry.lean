def iiF (v x z : Int32) : Int32 := if x ≤ v ∧ v ≤ z then 1 else 0
def ofF (v : Int32) : Int32 := if v = 6 ∨ v = 3 ∨ ¬ iiF v 20 22 = 0 then 1 else 0
def puF (v : Int32) : Int32 := if v = 30 ∨ ¬ iiF v 16 19 = 0 ∨ ¬ ofF v = 0 then 1 else 0
def JbOK (o : Nat) : Prop := o = 34 ∨ o = 35 ∨ o = 36 ∨ o = 37 ∨ o = 26 ∨ o = 27 ∨ o = 38 ∨ o = 39 ∨ o = 40 ∨ o = 41 ∨ o = 42 ∨ o = 24 ∨ o = 25
theorem mk_st {a b o : Nat} {x : Int32} (h : StOK a b o x) : puF (nI (mkF o)) = 1 ∧ (wdF o = 2 → nI (mkF o) = 30 ∨ ¬ ofF (nI (mkF o)) = 0) ∧ (¬ wdF o = 2 → ¬ nI (mkF o) = 30 ∧ ofF (nI (mkF o)) = 0) := by
  rcases h with rfl | rfl | rfl | rfl | rfl | ⟨rfl, -⟩ | ⟨rfl, -⟩ | ⟨rfl, -⟩ | ⟨rfl, -⟩ | ⟨rfl, -⟩ <;> decide
theorem mk_jn {o : Nat} (h : JnOK o) : puF (nI (mkF o)) = 0 ∧ wdF o = 1 ∧ (nI (mkF o) = 31 → o = 47) ∧ (nI (mkF o) = 23 → o = 23) ∧ (¬ nI (mkF o) = 31 → ¬ nI (mkF o) = 23 → JbOK o ∧ tkN o = 2) := by
  rcases h with rfl | rfl | rfl | rfl | rfl | rfl | rfl | rfl | rfl | rfl | rfl | rfl | rfl | rfl | rfl <;> exact ⟨by decide, by decide, by decide, by decide, fun q1 q2 => by first | exact absurd (by decide) q1 | exact absurd (by decide) q2 | exact ⟨by unfold JbOK; omega, by decide⟩⟩
theorem ii_1 {v x z : Int32} (h : x ≤ v) (h2 : v ≤ z) : iiF v x z = 1 := if_pos ⟨h, h2⟩
set_option maxHeartbeats 1000000 in
theorem c_X13_isIn {l : Launch} {D : va_G} {cA : Nat → ClassId} {n0 : Nat} {sg adK adV : Nat → Nat} {sgA smA wdA bS LS : Nat} {xs : Nat → Int32} (hX : SF n0 (XW0 sg adK adV sgA smA wdA n0 bS LS xs)) {sz : Nat} {τ : TY} {M : ME} (v x z : Int32) : CT l D cA n0 (XW0 sg adK adV sgA smA wdA n0 bS LS xs) mX13_isIn 1 0 0 sz τ M [.int v, .int x, .int z] (ROq (.int (iiF v x z)) sz τ M) := by
  refine CT.of (ls := [.int v, .int x, .int z]) (by decide) (Nat.le_of_ble_eq_true rfl) rfl ?_
  refine T_iload0 dX13_isIn_0 rfl ?_
  refine T_iload1 dX13_isIn_1 rfl ?_
  refine T_icmp_lt 14 5 dX13_isIn_2 (by decide) rfl (fun c2 => ?_) (fun c2 => ?_)
  ·
    refine T_iconst (0) dX13_isIn_14 rfl rfl ?_
    refine T_iret rfl rfl dX13_isIn_15 ?_
    refine ⟨congrArg (fun z => some (Value.int z)) ?_, rfl, rfl, rfl⟩
    first | exact (if_neg (fun q => Int32.not_le.mpr c2 q.1)).symm | exact (if_neg (fun q => Int32.not_le.mpr c7 q.2)).symm | exact (if_pos (And.intro (Int32.not_lt.mp c2) (Int32.not_lt.mp c7))).symm
  ·
    refine T_iload0 dX13_isIn_5 rfl ?_
    refine T_iload2 dX13_isIn_6 rfl ?_
    refine T_icmp_gt 14 10 dX13_isIn_7 (by decide) rfl (fun c7 => ?_) (fun c7 => ?_)
    ·
      refine T_iconst (0) dX13_isIn_14 rfl rfl ?_
      refine T_iret rfl rfl dX13_isIn_15 ?_
      refine ⟨congrArg (fun z => some (Value.int z)) ?_, rfl, rfl, rfl⟩
      first | exact (if_neg (fun q => Int32.not_le.mpr c2 q.1)).symm | exact (if_neg (fun q => Int32.not_le.mpr c7 q.2)).symm | exact (if_pos (And.intro (Int32.not_lt.mp c2) (Int32.not_lt.mp c7))).symm
    ·
      refine T_iconst (1) dX13_isIn_10 rfl rfl ?_
      refine T_goto 15 dX13_isIn_11 (by decide) ?_
      refine T_iret rfl rfl dX13_isIn_15 ?_
      refine ⟨congrArg (fun z => some (Value.int z)) ?_, rfl, rfl, rfl⟩
      first | exact (if_neg (fun q => Int32.not_le.mpr c2 q.1)).symm | exact (if_neg (fun q => Int32.not_le.mpr c7 q.2)).symm | exact (if_pos (And.intro (Int32.not_lt.mp c2) (Int32.not_lt.mp c7))).symm
set_option maxHeartbeats 1000000 in
theorem c_X13_isOf {l : Launch} {D : va_G} {cA : Nat → ClassId} {n0 : Nat} {sg adK adV : Nat → Nat} {sgA smA wdA bS LS : Nat} {xs : Nat → Int32} (hX : SF n0 (XW0 sg adK adV sgA smA wdA n0 bS LS xs)) {sz : Nat} {τ : TY} {M : ME} (v : Int32) : CT l D cA n0 (XW0 sg adK adV sgA smA wdA n0 bS LS xs) mX13_isOf 2 0 0 sz τ M [.int v] (ROq (.int (ofF v)) sz τ M) := by
  refine CT.of (ls := [.int v]) (by decide) (Nat.le_of_ble_eq_true rfl) rfl ?_
  refine T_iload0 dX13_isOf_0 rfl ?_
  refine T_bipush (6) dX13_isOf_1 rfl rfl ?_
  refine T_icmp_eq 22 6 dX13_isOf_3 (by decide) rfl (fun c3 => ?_) (fun c3 => ?_)
  ·
    refine T_iconst (1) dX13_isOf_22 rfl rfl ?_
    refine T_goto 27 dX13_isOf_23 (by decide) ?_
    refine T_iret rfl rfl dX13_isOf_27 ?_
    refine ⟨congrArg (fun z => some (Value.int z)) ?_, rfl, rfl, rfl⟩
    first | exact (if_pos (Or.inl c3)).symm | exact (if_pos (Or.inr (Or.inl c8))).symm | exact (if_pos (Or.inr (Or.inr c19))).symm | exact (if_neg (fun q => q.elim c3 (fun y => y.elim c8 (fun w => w c19)))).symm
  ·
    refine T_iload0 dX13_isOf_6 rfl ?_
    refine T_iconst (3) dX13_isOf_7 rfl rfl ?_
    refine T_icmp_eq 22 11 dX13_isOf_8 (by decide) rfl (fun c8 => ?_) (fun c8 => ?_)
    ·
      refine T_iconst (1) dX13_isOf_22 rfl rfl ?_
      refine T_goto 27 dX13_isOf_23 (by decide) ?_
      refine T_iret rfl rfl dX13_isOf_27 ?_
      refine ⟨congrArg (fun z => some (Value.int z)) ?_, rfl, rfl, rfl⟩
      first | exact (if_pos (Or.inl c3)).symm | exact (if_pos (Or.inr (Or.inl c8))).symm | exact (if_pos (Or.inr (Or.inr c19))).symm | exact (if_neg (fun q => q.elim c3 (fun y => y.elim c8 (fun w => w c19)))).symm
    ·
      refine T_iload0 dX13_isOf_11 rfl ?_
      refine T_bipush (20) dX13_isOf_12 rfl rfl ?_
      refine T_bipush (22) dX13_isOf_14 rfl rfl ?_
      refine T_cS3 (c_X13_isIn hX _ _ _) hX k13_63 (by decide) (Nat.le_of_ble_eq_true rfl) dX13_isOf_16 rfl ?_
      rintro _ _ _ _ ⟨rfl, rfl, rfl, rfl⟩
      refine T_if_eq 26 22 dX13_isOf_19 (by decide) rfl (fun c19 => ?_) (fun c19 => ?_)
      ·
        refine T_iconst (0) dX13_isOf_26 rfl rfl ?_
        refine T_iret rfl rfl dX13_isOf_27 ?_
        refine ⟨congrArg (fun z => some (Value.int z)) ?_, rfl, rfl, rfl⟩
        first | exact (if_pos (Or.inl c3)).symm | exact (if_pos (Or.inr (Or.inl c8))).symm | exact (if_pos (Or.inr (Or.inr c19))).symm | exact (if_neg (fun q => q.elim c3 (fun y => y.elim c8 (fun w => w c19)))).symm
      ·
        refine T_iconst (1) dX13_isOf_22 rfl rfl ?_
        refine T_goto 27 dX13_isOf_23 (by decide) ?_
        refine T_iret rfl rfl dX13_isOf_27 ?_
        refine ⟨congrArg (fun z => some (Value.int z)) ?_, rfl, rfl, rfl⟩
        first | exact (if_pos (Or.inl c3)).symm | exact (if_pos (Or.inr (Or.inl c8))).symm | exact (if_pos (Or.inr (Or.inr c19))).symm | exact (if_neg (fun q => q.elim c3 (fun y => y.elim c8 (fun w => w c19)))).symm
set_option maxHeartbeats 1000000 in
theorem c_X13_isPushed {l : Launch} {D : va_G} {cA : Nat → ClassId} {n0 : Nat} {sg adK adV : Nat → Nat} {sgA smA wdA bS LS : Nat} {xs : Nat → Int32} (hX : SF n0 (XW0 sg adK adV sgA smA wdA n0 bS LS xs)) {sz : Nat} {τ : TY} {M : ME} (v : Int32) : CT l D cA n0 (XW0 sg adK adV sgA smA wdA n0 bS LS xs) mX13_isPushed 3 0 0 sz τ M [.int v] (ROq (.int (puF v)) sz τ M) := by
  refine CT.of (ls := [.int v]) (by decide) (Nat.le_of_ble_eq_true rfl) rfl ?_
  refine T_iload0 dX13_isPushed_0 rfl ?_
  refine T_bipush (30) dX13_isPushed_1 rfl rfl ?_
  refine T_icmp_eq 24 6 dX13_isPushed_3 (by decide) rfl (fun c3 => ?_) (fun c3 => ?_)
  ·
    refine T_iconst (1) dX13_isPushed_24 rfl rfl ?_
    refine T_goto 29 dX13_isPushed_25 (by decide) ?_
    refine T_iret rfl rfl dX13_isPushed_29 ?_
    refine ⟨congrArg (fun z => some (Value.int z)) ?_, rfl, rfl, rfl⟩
    first | exact (if_pos (Or.inl c3)).symm | exact (if_pos (Or.inr (Or.inl c14))).symm | exact (if_pos (Or.inr (Or.inr c21))).symm | exact (if_neg (fun q => q.elim c3 (fun y => y.elim (fun w => w c14) (fun w => w c21)))).symm
  ·
    refine T_iload0 dX13_isPushed_6 rfl ?_
    refine T_bipush (16) dX13_isPushed_7 rfl rfl ?_
    refine T_bipush (19) dX13_isPushed_9 rfl rfl ?_
    refine T_cS3 (c_X13_isIn hX _ _ _) hX k13_63 (by decide) (Nat.le_of_ble_eq_true rfl) dX13_isPushed_11 rfl ?_
    rintro _ _ _ _ ⟨rfl, rfl, rfl, rfl⟩
    refine T_if_ne 24 17 dX13_isPushed_14 (by decide) rfl (fun c14 => ?_) (fun c14 => ?_)
    ·
      refine T_iconst (1) dX13_isPushed_24 rfl rfl ?_
      refine T_goto 29 dX13_isPushed_25 (by decide) ?_
      refine T_iret rfl rfl dX13_isPushed_29 ?_
      refine ⟨congrArg (fun z => some (Value.int z)) ?_, rfl, rfl, rfl⟩
      first | exact (if_pos (Or.inl c3)).symm | exact (if_pos (Or.inr (Or.inl c14))).symm | exact (if_pos (Or.inr (Or.inr c21))).symm | exact (if_neg (fun q => q.elim c3 (fun y => y.elim (fun w => w c14) (fun w => w c21)))).symm
    ·
      refine T_iload0 dX13_isPushed_17 rfl ?_
      refine T_cS1 (c_X13_isOf hX _) hX k13_73 (by decide) (Nat.le_of_ble_eq_true rfl) dX13_isPushed_18 rfl ?_
      rintro _ _ _ _ ⟨rfl, rfl, rfl, rfl⟩
      refine T_if_eq 28 24 dX13_isPushed_21 (by decide) rfl (fun c21 => ?_) (fun c21 => ?_)
      ·
        refine T_iconst (0) dX13_isPushed_28 rfl rfl ?_
        refine T_iret rfl rfl dX13_isPushed_29 ?_
        refine ⟨congrArg (fun z => some (Value.int z)) ?_, rfl, rfl, rfl⟩
        first | exact (if_pos (Or.inl c3)).symm | exact (if_pos (Or.inr (Or.inl c14))).symm | exact (if_pos (Or.inr (Or.inr c21))).symm | exact (if_neg (fun q => q.elim c3 (fun y => y.elim (fun w => w c14) (fun w => w c21)))).symm
      ·
        refine T_iconst (1) dX13_isPushed_24 rfl rfl ?_
        refine T_goto 29 dX13_isPushed_25 (by decide) ?_
        refine T_iret rfl rfl dX13_isPushed_29 ?_
        refine ⟨congrArg (fun z => some (Value.int z)) ?_, rfl, rfl, rfl⟩
        first | exact (if_pos (Or.inl c3)).symm | exact (if_pos (Or.inr (Or.inl c14))).symm | exact (if_pos (Or.inr (Or.inr c21))).symm | exact (if_neg (fun q => q.elim c3 (fun y => y.elim (fun w => w c14) (fun w => w c21)))).symm
set_option maxHeartbeats 1000000 in
theorem c_X13_both {l : Launch} {D : va_G} {cA : Nat → ClassId} {n0 : Nat} {sg adK adV : Nat → Nat} {sgA smA wdA bS LS : Nat} {xs : Nat → Int32} (hX : SF n0 (XW0 sg adK adV sgA smA wdA n0 bS LS xs)) {sz : Nat} {τ : TY} {M : ME} {o : Nat} (hs : JbOK o) (x z : Int32) : CT l D cA n0 (XW0 sg adK adV sgA smA wdA n0 bS LS xs) mX13_both 2 0 0 sz τ M [.int (nI (mkF o)), .int x, .int z] (ROq (.int (jnF o x z)) sz τ M) := by
  refine CT.of (ls := [.int (nI (mkF o)), .int x, .int z]) (by decide) (Nat.le_of_ble_eq_true rfl) rfl ?_
  refine T_iload0 dX13_both_0 rfl ?_
  rcases hs with rfl | rfl | rfl | rfl | rfl | rfl | rfl | rfl | rfl | rfl | rfl | rfl | rfl
  ·
    refine T_tin (off := 83) 84 dX13_both_1 (by decide +kernel) (by decide +kernel) (by decide +kernel) (by decide) ?_
    refine T_iload1 dX13_both_84 rfl ?_
    refine T_iload2 dX13_both_85 rfl ?_
    refine T_iadd dX13_both_86 rfl ?_
    refine T_iret rfl rfl dX13_both_87 ?_
    refine ⟨congrArg (fun z => some (Value.int z)) ?_, rfl, rfl, rfl⟩
    first
      | rfl
      | exact (if_pos c1).symm
      | exact (if_neg c1).symm
      | exact (if_neg (fun q => absurd q c1)).symm
      | exact (if_pos (Int32.not_le.mp c1)).symm
      | exact (if_neg (fun q => Int32.not_lt.mpr c1 q)).symm
      | exact (if_pos (Int32.not_lt.mp c1)).symm
      | exact (if_neg (fun q => Int32.not_le.mpr c1 q)).symm
  ·
    refine T_tin (off := 87) 88 dX13_both_1 (by decide +kernel) (by decide +kernel) (by decide +kernel) (by decide) ?_
    refine T_iload1 dX13_both_88 rfl ?_
    refine T_iload2 dX13_both_89 rfl ?_
    refine T_isub dX13_both_90 rfl ?_
    refine T_iret rfl rfl dX13_both_91 ?_
    refine ⟨congrArg (fun z => some (Value.int z)) ?_, rfl, rfl, rfl⟩
    first
      | rfl
      | exact (if_pos c1).symm
      | exact (if_neg c1).symm
      | exact (if_neg (fun q => absurd q c1)).symm
      | exact (if_pos (Int32.not_le.mp c1)).symm
      | exact (if_neg (fun q => Int32.not_lt.mpr c1 q)).symm
      | exact (if_pos (Int32.not_lt.mp c1)).symm
      | exact (if_neg (fun q => Int32.not_le.mpr c1 q)).symm
  ·
    refine T_tin (off := 91) 92 dX13_both_1 (by decide +kernel) (by decide +kernel) (by decide +kernel) (by decide) ?_
    refine T_iload1 dX13_both_92 rfl ?_
    refine T_iload2 dX13_both_93 rfl ?_
    refine T_imul dX13_both_94 rfl ?_
    refine T_iret rfl rfl dX13_both_95 ?_
    refine ⟨congrArg (fun z => some (Value.int z)) ?_, rfl, rfl, rfl⟩
    first
      | rfl
      | exact (if_pos c1).symm
      | exact (if_neg c1).symm
      | exact (if_neg (fun q => absurd q c1)).symm
      | exact (if_pos (Int32.not_le.mp c1)).symm
      | exact (if_neg (fun q => Int32.not_lt.mpr c1 q)).symm
      | exact (if_pos (Int32.not_lt.mp c1)).symm
      | exact (if_neg (fun q => Int32.not_le.mpr c1 q)).symm
  ·
    refine T_tin (off := 95) 96 dX13_both_1 (by decide +kernel) (by decide +kernel) (by decide +kernel) (by decide) ?_
    refine T_iload2 dX13_both_96 rfl ?_
    refine T_if_ne 104 100 dX13_both_97 (by decide) rfl (fun c1 => ?_) (fun c1 => ?_)
    ·
      refine T_iload1 dX13_both_104 rfl ?_
      refine T_iload2 dX13_both_105 rfl ?_
      refine T_idiv dX13_both_106 rfl c1 ?_
      refine T_iret rfl rfl dX13_both_107 ?_
      refine ⟨congrArg (fun z => some (Value.int z)) ?_, rfl, rfl, rfl⟩
      first
        | rfl
        | exact (if_pos c1).symm
        | exact (if_neg c1).symm
        | exact (if_neg (fun q => absurd q c1)).symm
        | exact (if_pos (Int32.not_le.mp c1)).symm
        | exact (if_neg (fun q => Int32.not_lt.mpr c1 q)).symm
        | exact (if_pos (Int32.not_lt.mp c1)).symm
        | exact (if_neg (fun q => Int32.not_le.mpr c1 q)).symm
    ·
      refine T_iconst (0) dX13_both_100 rfl rfl ?_
      refine T_goto 107 dX13_both_101 (by decide) ?_
      refine T_iret rfl rfl dX13_both_107 ?_
      refine ⟨congrArg (fun z => some (Value.int z)) ?_, rfl, rfl, rfl⟩
      first
        | rfl
        | exact (if_pos c1).symm
        | exact (if_neg c1).symm
        | exact (if_neg (fun q => absurd q c1)).symm
        | exact (if_pos (Int32.not_le.mp c1)).symm
        | exact (if_neg (fun q => Int32.not_lt.mpr c1 q)).symm
        | exact (if_pos (Int32.not_lt.mp c1)).symm
        | exact (if_neg (fun q => Int32.not_le.mpr c1 q)).symm
  ·
    refine T_tin (off := 107) 108 dX13_both_1 (by decide +kernel) (by decide +kernel) (by decide +kernel) (by decide) ?_
    refine T_iload1 dX13_both_108 rfl ?_
    refine T_iload2 dX13_both_109 rfl ?_
    refine T_min km13_77 (by decide) (Nat.le_of_ble_eq_true rfl) dX13_both_110 rfl ?_
    refine T_iret rfl rfl dX13_both_113 ?_
    refine ⟨congrArg (fun z => some (Value.int z)) ?_, rfl, rfl, rfl⟩
    first
      | rfl
      | exact (if_pos c1).symm
      | exact (if_neg c1).symm
      | exact (if_neg (fun q => absurd q c1)).symm
      | exact (if_pos (Int32.not_le.mp c1)).symm
      | exact (if_neg (fun q => Int32.not_lt.mpr c1 q)).symm
      | exact (if_pos (Int32.not_lt.mp c1)).symm
      | exact (if_neg (fun q => Int32.not_le.mpr c1 q)).symm
  ·
    refine T_tin (off := 113) 114 dX13_both_1 (by decide +kernel) (by decide +kernel) (by decide +kernel) (by decide) ?_
    refine T_iload1 dX13_both_114 rfl ?_
    refine T_iload2 dX13_both_115 rfl ?_
    refine T_max km13_83 (by decide) (Nat.le_of_ble_eq_true rfl) dX13_both_116 rfl ?_
    refine T_iret rfl rfl dX13_both_119 ?_
    refine ⟨congrArg (fun z => some (Value.int z)) ?_, rfl, rfl, rfl⟩
    first
      | rfl
      | exact (if_pos c1).symm
      | exact (if_neg c1).symm
      | exact (if_neg (fun q => absurd q c1)).symm
      | exact (if_pos (Int32.not_le.mp c1)).symm
      | exact (if_neg (fun q => Int32.not_lt.mpr c1 q)).symm
      | exact (if_pos (Int32.not_lt.mp c1)).symm
      | exact (if_neg (fun q => Int32.not_le.mpr c1 q)).symm
  ·
    refine T_tin (off := 119) 120 dX13_both_1 (by decide +kernel) (by decide +kernel) (by decide +kernel) (by decide) ?_
    refine T_iload1 dX13_both_120 rfl ?_
    refine T_iload2 dX13_both_121 rfl ?_
    refine T_icmp_ge 129 125 dX13_both_122 (by decide) rfl (fun c1 => ?_) (fun c1 => ?_)
    ·
      refine T_iconst (0) dX13_both_129 rfl rfl ?_
      refine T_iret rfl rfl dX13_both_130 ?_
      refine ⟨congrArg (fun z => some (Value.int z)) ?_, rfl, rfl, rfl⟩
      first
        | rfl
        | exact (if_pos c1).symm
        | exact (if_neg c1).symm
        | exact (if_neg (fun q => absurd q c1)).symm
        | exact (if_pos (Int32.not_le.mp c1)).symm
        | exact (if_neg (fun q => Int32.not_lt.mpr c1 q)).symm
        | exact (if_pos (Int32.not_lt.mp c1)).symm
        | exact (if_neg (fun q => Int32.not_le.mpr c1 q)).symm
    ·
      refine T_iconst (1) dX13_both_125 rfl rfl ?_
      refine T_goto 130 dX13_both_126 (by decide) ?_
      refine T_iret rfl rfl dX13_both_130 ?_
      refine ⟨congrArg (fun z => some (Value.int z)) ?_, rfl, rfl, rfl⟩
      first
        | rfl
        | exact (if_pos c1).symm
        | exact (if_neg c1).symm
        | exact (if_neg (fun q => absurd q c1)).symm
        | exact (if_pos (Int32.not_le.mp c1)).symm
        | exact (if_neg (fun q => Int32.not_lt.mpr c1 q)).symm
        | exact (if_pos (Int32.not_lt.mp c1)).symm
        | exact (if_neg (fun q => Int32.not_le.mpr c1 q)).symm
  ·
    refine T_tin (off := 130) 131 dX13_both_1 (by decide +kernel) (by decide +kernel) (by decide +kernel) (by decide) ?_
    refine T_iload1 dX13_both_131 rfl ?_
    refine T_iload2 dX13_both_132 rfl ?_
    refine T_icmp_le 140 136 dX13_both_133 (by decide) rfl (fun c1 => ?_) (fun c1 => ?_)
    ·
      refine T_iconst (0) dX13_both_140 rfl rfl ?_
      refine T_iret rfl rfl dX13_both_141 ?_
      refine ⟨congrArg (fun z => some (Value.int z)) ?_, rfl, rfl, rfl⟩
      first
        | rfl
        | exact (if_pos c1).symm
        | exact (if_neg c1).symm
        | exact (if_neg (fun q => absurd q c1)).symm
        | exact (if_pos (Int32.not_le.mp c1)).symm
        | exact (if_neg (fun q => Int32.not_lt.mpr c1 q)).symm
        | exact (if_pos (Int32.not_lt.mp c1)).symm
        | exact (if_neg (fun q => Int32.not_le.mpr c1 q)).symm
    ·
      refine T_iconst (1) dX13_both_136 rfl rfl ?_
      refine T_goto 141 dX13_both_137 (by decide) ?_
      refine T_iret rfl rfl dX13_both_141 ?_
      refine ⟨congrArg (fun z => some (Value.int z)) ?_, rfl, rfl, rfl⟩
      first
        | rfl
        | exact (if_pos c1).symm
        | exact (if_neg c1).symm
        | exact (if_neg (fun q => absurd q c1)).symm
        | exact (if_pos (Int32.not_le.mp c1)).symm
        | exact (if_neg (fun q => Int32.not_lt.mpr c1 q)).symm
        | exact (if_pos (Int32.not_lt.mp c1)).symm
        | exact (if_neg (fun q => Int32.not_le.mpr c1 q)).symm
  ·
    refine T_tin (off := 141) 142 dX13_both_1 (by decide +kernel) (by decide +kernel) (by decide +kernel) (by decide) ?_
    refine T_iload1 dX13_both_142 rfl ?_
    refine T_iload2 dX13_both_143 rfl ?_
    refine T_icmp_ne 151 147 dX13_both_144 (by decide) rfl (fun c1 => ?_) (fun c1 => ?_)
    ·
      refine T_iconst (0) dX13_both_151 rfl rfl ?_
      refine T_iret rfl rfl dX13_both_152 ?_
      refine ⟨congrArg (fun z => some (Value.int z)) ?_, rfl, rfl, rfl⟩
      first
        | rfl
        | exact (if_pos c1).symm
        | exact (if_neg c1).symm
        | exact (if_neg (fun q => absurd q c1)).symm
        | exact (if_pos (Int32.not_le.mp c1)).symm
        | exact (if_neg (fun q => Int32.not_lt.mpr c1 q)).symm
        | exact (if_pos (Int32.not_lt.mp c1)).symm
        | exact (if_neg (fun q => Int32.not_le.mpr c1 q)).symm
    ·
      refine T_iconst (1) dX13_both_147 rfl rfl ?_
      refine T_goto 152 dX13_both_148 (by decide) ?_
      refine T_iret rfl rfl dX13_both_152 ?_
      refine ⟨congrArg (fun z => some (Value.int z)) ?_, rfl, rfl, rfl⟩
      first
        | rfl
        | exact (if_pos c1).symm
        | exact (if_neg c1).symm
        | exact (if_neg (fun q => absurd q c1)).symm
        | exact (if_pos (Int32.not_le.mp c1)).symm
        | exact (if_neg (fun q => Int32.not_lt.mpr c1 q)).symm
        | exact (if_pos (Int32.not_lt.mp c1)).symm
        | exact (if_neg (fun q => Int32.not_le.mpr c1 q)).symm
  ·
    refine T_tin (off := 152) 153 dX13_both_1 (by decide +kernel) (by decide +kernel) (by decide +kernel) (by decide) ?_
    refine T_iload1 dX13_both_153 rfl ?_
    refine T_iload2 dX13_both_154 rfl ?_
    refine T_icmp_gt 162 158 dX13_both_155 (by decide) rfl (fun c1 => ?_) (fun c1 => ?_)
    ·
      refine T_iconst (0) dX13_both_162 rfl rfl ?_
      refine T_iret rfl rfl dX13_both_163 ?_
      refine ⟨congrArg (fun z => some (Value.int z)) ?_, rfl, rfl, rfl⟩
      first
        | rfl
        | exact (if_pos c1).symm
        | exact (if_neg c1).symm
        | exact (if_neg (fun q => absurd q c1)).symm
        | exact (if_pos (Int32.not_le.mp c1)).symm
        | exact (if_neg (fun q => Int32.not_lt.mpr c1 q)).symm
        | exact (if_pos (Int32.not_lt.mp c1)).symm
        | exact (if_neg (fun q => Int32.not_le.mpr c1 q)).symm
    ·
      refine T_iconst (1) dX13_both_158 rfl rfl ?_
      refine T_goto 163 dX13_both_159 (by decide) ?_
      refine T_iret rfl rfl dX13_both_163 ?_
      refine ⟨congrArg (fun z => some (Value.int z)) ?_, rfl, rfl, rfl⟩
      first
        | rfl
        | exact (if_pos c1).symm
        | exact (if_neg c1).symm
        | exact (if_neg (fun q => absurd q c1)).symm
        | exact (if_pos (Int32.not_le.mp c1)).symm
        | exact (if_neg (fun q => Int32.not_lt.mpr c1 q)).symm
        | exact (if_pos (Int32.not_lt.mp c1)).symm
        | exact (if_neg (fun q => Int32.not_le.mpr c1 q)).symm
  ·
    refine T_tin (off := 163) 164 dX13_both_1 (by decide +kernel) (by decide +kernel) (by decide +kernel) (by decide) ?_
    refine T_iload1 dX13_both_164 rfl ?_
    refine T_iload2 dX13_both_165 rfl ?_
    refine T_icmp_lt 173 169 dX13_both_166 (by decide) rfl (fun c1 => ?_) (fun c1 => ?_)
    ·
      refine T_iconst (0) dX13_both_173 rfl rfl ?_
      refine T_iret rfl rfl dX13_both_174 ?_
      refine ⟨congrArg (fun z => some (Value.int z)) ?_, rfl, rfl, rfl⟩
      first
        | rfl
        | exact (if_pos c1).symm
        | exact (if_neg c1).symm
        | exact (if_neg (fun q => absurd q c1)).symm
        | exact (if_pos (Int32.not_le.mp c1)).symm
        | exact (if_neg (fun q => Int32.not_lt.mpr c1 q)).symm
        | exact (if_pos (Int32.not_lt.mp c1)).symm
        | exact (if_neg (fun q => Int32.not_le.mpr c1 q)).symm
    ·
      refine T_iconst (1) dX13_both_169 rfl rfl ?_
      refine T_goto 174 dX13_both_170 (by decide) ?_
      refine T_iret rfl rfl dX13_both_174 ?_
      refine ⟨congrArg (fun z => some (Value.int z)) ?_, rfl, rfl, rfl⟩
      first
        | rfl
        | exact (if_pos c1).symm
        | exact (if_neg c1).symm
        | exact (if_neg (fun q => absurd q c1)).symm
        | exact (if_pos (Int32.not_le.mp c1)).symm
        | exact (if_neg (fun q => Int32.not_lt.mpr c1 q)).symm
        | exact (if_pos (Int32.not_lt.mp c1)).symm
        | exact (if_neg (fun q => Int32.not_le.mpr c1 q)).symm
  ·
    refine T_tin (off := 174) 175 dX13_both_1 (by decide +kernel) (by decide +kernel) (by decide +kernel) (by decide) ?_
    refine T_iload1 dX13_both_175 rfl ?_
    refine T_iload2 dX13_both_176 rfl ?_
    refine T_iand dX13_both_177 rfl ?_
    refine T_iret rfl rfl dX13_both_178 ?_
    refine ⟨congrArg (fun z => some (Value.int z)) ?_, rfl, rfl, rfl⟩
    first
      | rfl
      | exact (if_pos c1).symm
      | exact (if_neg c1).symm
      | exact (if_neg (fun q => absurd q c1)).symm
      | exact (if_pos (Int32.not_le.mp c1)).symm
      | exact (if_neg (fun q => Int32.not_lt.mpr c1 q)).symm
      | exact (if_pos (Int32.not_lt.mp c1)).symm
      | exact (if_neg (fun q => Int32.not_le.mpr c1 q)).symm
  ·
    refine T_tin (off := 178) 179 dX13_both_1 (by decide +kernel) (by decide +kernel) (by decide +kernel) (by decide) ?_
    refine T_iload1 dX13_both_179 rfl ?_
    refine T_iload2 dX13_both_180 rfl ?_
    refine T_ior dX13_both_181 rfl ?_
    refine T_iret rfl rfl dX13_both_182 ?_
    refine ⟨congrArg (fun z => some (Value.int z)) ?_, rfl, rfl, rfl⟩
    first
      | rfl
      | exact (if_pos c1).symm
      | exact (if_neg c1).symm
      | exact (if_neg (fun q => absurd q c1)).symm
      | exact (if_pos (Int32.not_le.mp c1)).symm
      | exact (if_neg (fun q => Int32.not_lt.mpr c1 q)).symm
      | exact (if_pos (Int32.not_lt.mp c1)).symm
      | exact (if_neg (fun q => Int32.not_le.mpr c1 q)).symm
set_option maxHeartbeats 1000000 in
theorem c_X12_pushed {l : Launch} {D : va_G} {cA : Nat → ClassId} {n0 : Nat} {sg adK adV : Nat → Nat} {sgA smA wdA bS LS : Nat} {xs : Nat → Int32} (hX : SF n0 (XW0 sg adK adV sgA smA wdA n0 bS LS xs)) {sz : Nat} {τ : TY} {M0 M : ME} {m y s a b c hc wc sn : Nat} {ρ π : RH} {σ : Nat → Nat} {μ κ : Nat → Int32} (hS : SL τ M0 M s a b c ρ m μ κ) (hW : WN τ M m y s a b c hc wc sn ρ π σ) {o : Nat} {x : Int32} (hs : StOK a b o x) (v : Int32) (hv : wdF o = 2 → v = x) : CT l D cA n0 (XW0 sg adK adV sgA smA wdA n0 bS LS xs) mX12_pushed 3 0 0 sz τ M [.ref s, .int (nI (mkF o)), .int v] (ROq (.int (fdV c ρ o x)) sz τ M) := by
  refine CT.of (ls := [.ref s, .int (nI (mkF o)), .int v]) (by decide) (Nat.le_of_ble_eq_true rfl) rfl ?_
  obtain ⟨l3, l4, l5, l6, l7, l8⟩ := hW.ok
  refine T_iload1 dX12_pushed_0 rfl ?_
  rcases hs with rfl | rfl | rfl | rfl | rfl | ⟨rfl, j, hj, rfl⟩ | ⟨rfl, j, hj, rfl⟩ | ⟨rfl, j, hj, rfl⟩ | ⟨rfl, j, hj, rfl⟩ | ⟨rfl, j, hj, rfl⟩
  ·
    refine T_tin (off := 127) 128 dX12_pushed_1 (by decide +kernel) (by decide +kernel) (by decide +kernel) (by decide) ?_
    rw [hv (by decide)]
    refine T_iload2 dX12_pushed_128 rfl ?_
    refine T_iret rfl rfl dX12_pushed_129 ?_
    first
      | exact ⟨congrArg (fun z => some (Value.int z)) (by rfl), rfl, rfl, rfl⟩
      | exact ⟨congrArg (fun z => some (Value.int z)) wb_all, rfl, rfl, rfl⟩
      | exact ⟨congrArg (fun z => some (Value.int z)) (nb_2 (nI_m1 (by omega))), rfl, rfl, rfl⟩
      | exact ⟨congrArg (fun z => some (Value.int z)) (by rw [fdV]; simp [nI_cl (show j < 2 ^ 30 by omega)]), rfl, rfl, rfl⟩
  ·
    refine T_tin (off := 129) 130 dX12_pushed_1 (by decide +kernel) (by decide +kernel) (by decide +kernel) (by decide) ?_
    refine T_aload0 dX12_pushed_130 rfl ?_
    refine g12_61 _ rfl (hS.t_s) (hS.g_hour) dX12_pushed_131 rfl ?_
    refine T_iret rfl rfl dX12_pushed_134 ?_
    first
      | exact ⟨congrArg (fun z => some (Value.int z)) (by rfl), rfl, rfl, rfl⟩
      | exact ⟨congrArg (fun z => some (Value.int z)) wb_all, rfl, rfl, rfl⟩
      | exact ⟨congrArg (fun z => some (Value.int z)) (nb_2 (nI_m1 (by omega))), rfl, rfl, rfl⟩
      | exact ⟨congrArg (fun z => some (Value.int z)) (by rw [fdV]; simp [nI_cl (show j < 2 ^ 30 by omega)]), rfl, rfl, rfl⟩
  ·
    refine T_tin (off := 134) 135 dX12_pushed_1 (by decide +kernel) (by decide +kernel) (by decide +kernel) (by decide) ?_
    refine T_aload0 dX12_pushed_135 rfl ?_
    refine g12_65 _ rfl (hS.t_s) (hS.g_weat) dX12_pushed_136 rfl ?_
    refine T_iret rfl rfl dX12_pushed_139 ?_
    first
      | exact ⟨congrArg (fun z => some (Value.int z)) (by rfl), rfl, rfl, rfl⟩
      | exact ⟨congrArg (fun z => some (Value.int z)) wb_all, rfl, rfl, rfl⟩
      | exact ⟨congrArg (fun z => some (Value.int z)) (nb_2 (nI_m1 (by omega))), rfl, rfl, rfl⟩
      | exact ⟨congrArg (fun z => some (Value.int z)) (by rw [fdV]; simp [nI_cl (show j < 2 ^ 30 by omega)]), rfl, rfl, rfl⟩
  ·
    refine T_tin (off := 139) 140 dX12_pushed_1 (by decide +kernel) (by decide +kernel) (by decide +kernel) (by decide) ?_
    refine T_aload0 dX12_pushed_140 rfl ?_
    refine T_iconst (0) dX12_pushed_141 rfl rfl ?_
    refine T_iconst (-1) dX12_pushed_142 rfl rfl ?_
    refine T_cV2 (c_X12_weights hX hS hW _ _) hX k12_90 (Or.inl ⟨_, _, _, _, (hS.t_s), by decide, rfl⟩) (by decide) (Nat.le_of_ble_eq_true rfl) dX12_pushed_143 rfl ?_
    rintro _ _ _ _ ⟨rfl, rfl, rfl, rfl⟩
    refine T_iret rfl rfl dX12_pushed_146 ?_
    first
      | exact ⟨congrArg (fun z => some (Value.int z)) (by rfl), rfl, rfl, rfl⟩
      | exact ⟨congrArg (fun z => some (Value.int z)) wb_all, rfl, rfl, rfl⟩
      | exact ⟨congrArg (fun z => some (Value.int z)) (nb_2 (nI_m1 (by omega))), rfl, rfl, rfl⟩
      | exact ⟨congrArg (fun z => some (Value.int z)) (by rw [fdV]; simp [nI_cl (show j < 2 ^ 30 by omega)]), rfl, rfl, rfl⟩
  ·
    refine T_tin (off := 146) 147 dX12_pushed_1 (by decide +kernel) (by decide +kernel) (by decide +kernel) (by decide) ?_
    refine T_aload0 dX12_pushed_147 rfl ?_
    refine T_iconst (3) dX12_pushed_148 rfl rfl ?_
    refine T_iconst (-1) dX12_pushed_149 rfl rfl ?_
    refine T_cV2 (c_X12_weights hX hS hW _ _) hX k12_90 (Or.inl ⟨_, _, _, _, (hS.t_s), by decide, rfl⟩) (by decide) (Nat.le_of_ble_eq_true rfl) dX12_pushed_150 rfl ?_
    rintro _ _ _ _ ⟨rfl, rfl, rfl, rfl⟩
    refine T_iret rfl rfl dX12_pushed_153 ?_
    first
      | exact ⟨congrArg (fun z => some (Value.int z)) (by rfl), rfl, rfl, rfl⟩
      | exact ⟨congrArg (fun z => some (Value.int z)) wb_all, rfl, rfl, rfl⟩
      | exact ⟨congrArg (fun z => some (Value.int z)) (nb_2 (nI_m1 (by omega))), rfl, rfl, rfl⟩
      | exact ⟨congrArg (fun z => some (Value.int z)) (by rw [fdV]; simp [nI_cl (show j < 2 ^ 30 by omega)]), rfl, rfl, rfl⟩
  ·
    refine T_tin (off := 153) 154 dX12_pushed_1 (by decide +kernel) (by decide +kernel) (by decide +kernel) (by decide) ?_
    rw [hv (by decide)]
    refine T_aload0 dX12_pushed_154 rfl ?_
    refine g12_28 _ rfl (hS.t_s) (hS.g_a5) dX12_pushed_155 rfl ?_
    refine T_iload2 dX12_pushed_158 rfl ?_
    refine T_iald _ (hS.t_a5) rfl (by omega) (by decide) dX12_pushed_159 rfl (hS.g_tire (by omega)) ?_
    refine T_iret rfl rfl dX12_pushed_160 ?_
    first
      | exact ⟨congrArg (fun z => some (Value.int z)) (by rfl), rfl, rfl, rfl⟩
      | exact ⟨congrArg (fun z => some (Value.int z)) wb_all, rfl, rfl, rfl⟩
      | exact ⟨congrArg (fun z => some (Value.int z)) (nb_2 (nI_m1 (by omega))), rfl, rfl, rfl⟩
      | exact ⟨congrArg (fun z => some (Value.int z)) (by rw [fdV]; simp [nI_cl (show j < 2 ^ 30 by omega)]), rfl, rfl, rfl⟩
  ·
    refine T_tin (off := 160) 161 dX12_pushed_1 (by decide +kernel) (by decide +kernel) (by decide +kernel) (by decide) ?_
    rw [hv (by decide)]
    refine T_aload0 dX12_pushed_161 rfl ?_
    refine T_iload2 dX12_pushed_162 rfl ?_
    refine T_cV1 (c_X12_load hX hS hW (by omega)) hX k12_94 (Or.inl ⟨_, _, _, _, (hS.t_s), by decide, rfl⟩) (by decide) (Nat.le_of_ble_eq_true rfl) dX12_pushed_163 rfl ?_
    rintro _ _ _ _ ⟨rfl, rfl, rfl, rfl⟩
    refine T_iret rfl rfl dX12_pushed_166 ?_
    first
      | exact ⟨congrArg (fun z => some (Value.int z)) (by rfl), rfl, rfl, rfl⟩
      | exact ⟨congrArg (fun z => some (Value.int z)) wb_all, rfl, rfl, rfl⟩
      | exact ⟨congrArg (fun z => some (Value.int z)) (nb_2 (nI_m1 (by omega))), rfl, rfl, rfl⟩
      | exact ⟨congrArg (fun z => some (Value.int z)) (by rw [fdV]; simp [nI_cl (show j < 2 ^ 30 by omega)]), rfl, rfl, rfl⟩
  ·
    refine T_tin (off := 166) 167 dX12_pushed_1 (by decide +kernel) (by decide +kernel) (by decide +kernel) (by decide) ?_
    rw [hv (by decide)]
    refine T_aload0 dX12_pushed_167 rfl ?_
    refine g12_31 _ rfl (hS.t_s) (hS.g_a6) dX12_pushed_168 rfl ?_
    refine T_iload2 dX12_pushed_171 rfl ?_
    refine T_iald _ (hS.t_a6) rfl (by omega) (by decide) dX12_pushed_172 rfl (hS.g_link (by omega)) ?_
    refine T_iret rfl rfl dX12_pushed_173 ?_
    first
      | exact ⟨congrArg (fun z => some (Value.int z)) (by rfl), rfl, rfl, rfl⟩
      | exact ⟨congrArg (fun z => some (Value.int z)) wb_all, rfl, rfl, rfl⟩
      | exact ⟨congrArg (fun z => some (Value.int z)) (nb_2 (nI_m1 (by omega))), rfl, rfl, rfl⟩
      | exact ⟨congrArg (fun z => some (Value.int z)) (by rw [fdV]; simp [nI_cl (show j < 2 ^ 30 by omega)]), rfl, rfl, rfl⟩
  ·
    refine T_tin (off := 173) 174 dX12_pushed_1 (by decide +kernel) (by decide +kernel) (by decide +kernel) (by decide) ?_
    rw [hv (by decide)]
    refine T_aload0 dX12_pushed_174 rfl ?_
    refine g12_15 _ rfl (hS.t_s) (hS.g_a1) dX12_pushed_175 rfl ?_
    refine T_iload2 dX12_pushed_178 rfl ?_
    refine T_iald _ (hS.t_a1) rfl (by omega) (by decide) dX12_pushed_179 rfl (hS.g_fros (by omega)) ?_
    refine T_iret rfl rfl dX12_pushed_180 ?_
    first
      | exact ⟨congrArg (fun z => some (Value.int z)) (by rfl), rfl, rfl, rfl⟩
      | exact ⟨congrArg (fun z => some (Value.int z)) wb_all, rfl, rfl, rfl⟩
      | exact ⟨congrArg (fun z => some (Value.int z)) (nb_2 (nI_m1 (by omega))), rfl, rfl, rfl⟩
      | exact ⟨congrArg (fun z => some (Value.int z)) (by rw [fdV]; simp [nI_cl (show j < 2 ^ 30 by omega)]), rfl, rfl, rfl⟩
  ·
    refine T_tin (off := 180) 181 dX12_pushed_1 (by decide +kernel) (by decide +kernel) (by decide +kernel) (by decide) ?_
    rw [hv (by decide)]
    refine T_aload0 dX12_pushed_181 rfl ?_
    refine T_iconst (2) dX12_pushed_182 rfl rfl ?_
    refine T_iload2 dX12_pushed_183 rfl ?_
    refine T_cV2 (c_X12_logs hX hS hW _ _) hX k12_214 (Or.inl ⟨_, _, _, _, (hS.t_s), by decide, rfl⟩) (by decide) (Nat.le_of_ble_eq_true rfl) dX12_pushed_184 rfl ?_
    rintro _ _ _ _ ⟨rfl, rfl, rfl, rfl⟩
    refine T_iret rfl rfl dX12_pushed_187 ?_
    first
      | exact ⟨congrArg (fun z => some (Value.int z)) (by rfl), rfl, rfl, rfl⟩
      | exact ⟨congrArg (fun z => some (Value.int z)) wb_all, rfl, rfl, rfl⟩
      | exact ⟨congrArg (fun z => some (Value.int z)) (nb_2 (nI_m1 (by omega))), rfl, rfl, rfl⟩
      | exact ⟨congrArg (fun z => some (Value.int z)) (by rw [fdV]; simp [nI_cl (show j < 2 ^ 30 by omega)]), rfl, rfl, rfl⟩
