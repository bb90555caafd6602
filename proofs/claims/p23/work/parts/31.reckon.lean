theorem kord4_87 : Cond.methodLink RX4 87 ⟨RX7, "ordinal", "()I"⟩ ∈ GW := inGW (List.mem_of_getElem? (i := 590) (by decide +kernel)) (by decide +kernel)
theorem kord5_67 : Cond.methodLink RX5 67 ⟨RX7, "ordinal", "()I"⟩ ∈ GW := inGW (List.mem_of_getElem? (i := 961) (by decide +kernel)) (by decide +kernel)
/-- a step that puts something found -/
def StOK (a b o : Nat) (x : Int32) : Prop := o = 44 ∨ o = 16 ∨ o = 17 ∨ o = 18 ∨ o = 19 ∨ (o = 20 ∧ ∃ j, j < b ∧ x = nI j) ∨ (o = 21 ∧ ∃ j, j < b ∧ x = nI j) ∨ (o = 6 ∧ ∃ j, j < b ∧ x = nI j) ∨ (o = 3 ∧ ∃ j, j < a ∧ x = nI j) ∨ (o = 22 ∧ ∃ j, j < a ∧ x = nI j)
/-- a step that joins -/
def JnOK (o : Nat) : Prop := o = 34 ∨ o = 35 ∨ o = 36 ∨ o = 37 ∨ o = 47 ∨ o = 26 ∨ o = 27 ∨ o = 38 ∨ o = 39 ∨ o = 40 ∨ o = 41 ∨ o = 42 ∨ o = 23 ∨ o = 24 ∨ o = 25
def fdV (c : Nat) (ρ : RH) (o : Nat) (x : Int32) : Int32 :=
  if o = 44 then x else if o = 16 then ρ 6 0 else if o = 17 then ρ 7 0 else if o = 18 then wOf c ρ 0 else if o = 19 then wOf c ρ 3 else if o = 20 then ρ 18 x.toNatClampNeg else if o = 21 then ldOf c ρ x else if o = 6 then ρ 12 x.toNatClampNeg else if o = 3 then ρ 43 x.toNatClampNeg else flOf c ρ x
def jnF (o : Nat) (x y : Int32) : Int32 :=
  if o = 34 then x + y else if o = 35 then x - y else if o = 36 then x * y else if o = 37 then (if y = 0 then 0 else x / y) else if o = 47 then -x else if o = 26 then minI y x else if o = 27 then maxI x y
  else if o = 38 then (if x < y then 1 else 0) else if o = 39 then (if y < x then 1 else 0) else if o = 40 then (if x = y then 1 else 0) else if o = 41 then (if x ≤ y then 1 else 0) else if o = 42 then (if y ≤ x then 1 else 0)
  else if o = 23 then 1 - x else if o = 24 then x &&& y else x ||| y
theorem nI_cl {j : Nat} (h : j < 2 ^ 30) : (nI j).toNatClampNeg = j := (nI_in' (i := nI j) (n := 2 ^ 30) rfl h (by decide)).2
set_option maxHeartbeats 1000000 in
theorem c_X4_found {l : Launch} {D : va_G} {cA : Nat → ClassId} {n0 : Nat} {sg adK adV : Nat → Nat} {sgA smA wdA bS LS : Nat} {xs : Nat → Int32} (hX : SF n0 (XW0 sg adK adV sgA smA wdA n0 bS LS xs)) {sz : Nat} {τ : TY} {M0 M : ME} {r a b c : Nat} {ρ : RH} {ν : NU} (hR : LM τ M0 M r a b c ρ ν) {o : Nat} {x : Int32} (hs : StOK a b o x) : CT l D cA n0 (XW0 sg adK adV sgA smA wdA n0 bS LS xs) mX4_found 3 0 0 sz τ M [.ref (sg o), .int x, .ref r] (ROq (.int (fdV c ρ o x)) sz τ M) := by
  refine CT.of (ls := [.ref (sg o), .int x, .ref r]) (by decide) (Nat.le_of_ble_eq_true rfl) rfl ?_
  obtain ⟨l3, l4, l5⟩ := hR.ok
  have ho : o < 48 := by unfold StOK at hs; omega
  refine T_smap ks4_82 dX4_found_0 rfl ?_
  refine T_aload0 dX4_found_3 rfl ?_
  refine T_ord (by omega) kord4_87 (by decide) (Nat.le_of_ble_eq_true rfl) dX4_found_4 rfl ?_
  refine T_smld (by omega) dX4_found_7 rfl ?_
  rcases hs with rfl | rfl | rfl | rfl | rfl | ⟨rfl, j, hj, rfl⟩ | ⟨rfl, j, hj, rfl⟩ | ⟨rfl, j, hj, rfl⟩ | ⟨rfl, j, hj, rfl⟩ | ⟨rfl, j, hj, rfl⟩
  ·
    refine T_tin (off := 56) 64 dX4_found_8 (by decide +kernel) (by decide +kernel) (by decide +kernel) (by decide) ?_
    refine T_iload1 dX4_found_64 rfl ?_
    refine T_iret rfl rfl dX4_found_65 ?_
    first
      | exact ⟨congrArg (fun z => some (Value.int z)) (by rfl), rfl, rfl, rfl⟩
      | exact ⟨congrArg (fun z => some (Value.int z)) (by rw [fdV]; simp [nI_cl (show j < 2 ^ 30 by omega)]), rfl, rfl, rfl⟩
  ·
    refine T_tin (off := 58) 66 dX4_found_8 (by decide +kernel) (by decide +kernel) (by decide +kernel) (by decide) ?_
    refine T_aload2 dX4_found_66 rfl ?_
    refine g4_91 _ rfl hR.t hR.r6 dX4_found_67 rfl ?_
    refine T_iret rfl rfl dX4_found_70 ?_
    first
      | exact ⟨congrArg (fun z => some (Value.int z)) (by rfl), rfl, rfl, rfl⟩
      | exact ⟨congrArg (fun z => some (Value.int z)) (by rw [fdV]; simp [nI_cl (show j < 2 ^ 30 by omega)]), rfl, rfl, rfl⟩
  ·
    refine T_tin (off := 63) 71 dX4_found_8 (by decide +kernel) (by decide +kernel) (by decide +kernel) (by decide) ?_
    refine T_aload2 dX4_found_71 rfl ?_
    refine g4_96 _ rfl hR.t hR.r7 dX4_found_72 rfl ?_
    refine T_iret rfl rfl dX4_found_75 ?_
    first
      | exact ⟨congrArg (fun z => some (Value.int z)) (by rfl), rfl, rfl, rfl⟩
      | exact ⟨congrArg (fun z => some (Value.int z)) (by rw [fdV]; simp [nI_cl (show j < 2 ^ 30 by omega)]), rfl, rfl, rfl⟩
  ·
    refine T_tin (off := 68) 76 dX4_found_8 (by decide +kernel) (by decide +kernel) (by decide +kernel) (by decide) ?_
    refine T_aload2 dX4_found_76 rfl ?_
    refine T_iconst (0) dX4_found_77 rfl rfl ?_
    refine T_cV1 (c_X6_weightOf hX hR _) hX k4_101 (Or.inl ⟨_, _, _, _, hR.t, by decide, rfl⟩) (by decide) (Nat.le_of_ble_eq_true rfl) dX4_found_78 rfl ?_
    rintro _ _ _ _ ⟨rfl, rfl, rfl, rfl⟩
    refine T_iret rfl rfl dX4_found_81 ?_
    first
      | exact ⟨congrArg (fun z => some (Value.int z)) (by rfl), rfl, rfl, rfl⟩
      | exact ⟨congrArg (fun z => some (Value.int z)) (by rw [fdV]; simp [nI_cl (show j < 2 ^ 30 by omega)]), rfl, rfl, rfl⟩
  ·
    refine T_tin (off := 74) 82 dX4_found_8 (by decide +kernel) (by decide +kernel) (by decide +kernel) (by decide) ?_
    refine T_aload2 dX4_found_82 rfl ?_
    refine T_iconst (3) dX4_found_83 rfl rfl ?_
    refine T_cV1 (c_X6_weightOf hX hR _) hX k4_101 (Or.inl ⟨_, _, _, _, hR.t, by decide, rfl⟩) (by decide) (Nat.le_of_ble_eq_true rfl) dX4_found_84 rfl ?_
    rintro _ _ _ _ ⟨rfl, rfl, rfl, rfl⟩
    refine T_iret rfl rfl dX4_found_87 ?_
    first
      | exact ⟨congrArg (fun z => some (Value.int z)) (by rfl), rfl, rfl, rfl⟩
      | exact ⟨congrArg (fun z => some (Value.int z)) (by rw [fdV]; simp [nI_cl (show j < 2 ^ 30 by omega)]), rfl, rfl, rfl⟩
  ·
    refine T_tin (off := 80) 88 dX4_found_8 (by decide +kernel) (by decide +kernel) (by decide +kernel) (by decide) ?_
    refine T_aload2 dX4_found_88 rfl ?_
    refine T_iload1 dX4_found_89 rfl ?_
    refine T_cV1 (c_X6_tiredOf hX hR (by omega)) hX k4_105 (Or.inl ⟨_, _, _, _, hR.t, by decide, rfl⟩) (by decide) (Nat.le_of_ble_eq_true rfl) dX4_found_90 rfl ?_
    rintro _ _ _ _ ⟨rfl, rfl, rfl, rfl⟩
    refine T_iret rfl rfl dX4_found_93 ?_
    first
      | exact ⟨congrArg (fun z => some (Value.int z)) (by rfl), rfl, rfl, rfl⟩
      | exact ⟨congrArg (fun z => some (Value.int z)) (by rw [fdV]; simp [nI_cl (show j < 2 ^ 30 by omega)]), rfl, rfl, rfl⟩
  ·
    refine T_tin (off := 86) 94 dX4_found_8 (by decide +kernel) (by decide +kernel) (by decide +kernel) (by decide) ?_
    refine T_aload2 dX4_found_94 rfl ?_
    refine T_iload1 dX4_found_95 rfl ?_
    refine T_cV1 (c_X6_loadOf hX hR _) hX k4_108 (Or.inl ⟨_, _, _, _, hR.t, by decide, rfl⟩) (by decide) (Nat.le_of_ble_eq_true rfl) dX4_found_96 rfl ?_
    rintro _ _ _ _ ⟨rfl, rfl, rfl, rfl⟩
    refine T_iret rfl rfl dX4_found_99 ?_
    first
      | exact ⟨congrArg (fun z => some (Value.int z)) (by rfl), rfl, rfl, rfl⟩
      | exact ⟨congrArg (fun z => some (Value.int z)) (by rw [fdV]; simp [nI_cl (show j < 2 ^ 30 by omega)]), rfl, rfl, rfl⟩
  ·
    refine T_tin (off := 92) 100 dX4_found_8 (by decide +kernel) (by decide +kernel) (by decide +kernel) (by decide) ?_
    refine T_aload2 dX4_found_100 rfl ?_
    refine T_iload1 dX4_found_101 rfl ?_
    refine T_cV1 (c_X6_linksOf hX hR (by omega)) hX k4_111 (Or.inl ⟨_, _, _, _, hR.t, by decide, rfl⟩) (by decide) (Nat.le_of_ble_eq_true rfl) dX4_found_102 rfl ?_
    rintro _ _ _ _ ⟨rfl, rfl, rfl, rfl⟩
    refine T_iret rfl rfl dX4_found_105 ?_
    first
      | exact ⟨congrArg (fun z => some (Value.int z)) (by rfl), rfl, rfl, rfl⟩
      | exact ⟨congrArg (fun z => some (Value.int z)) (by rw [fdV]; simp [nI_cl (show j < 2 ^ 30 by omega)]), rfl, rfl, rfl⟩
  ·
    refine T_tin (off := 98) 106 dX4_found_8 (by decide +kernel) (by decide +kernel) (by decide +kernel) (by decide) ?_
    refine T_aload2 dX4_found_106 rfl ?_
    refine T_iload1 dX4_found_107 rfl ?_
    refine T_cV1 (c_X6_frostOf hX hR (by omega)) hX k4_114 (Or.inl ⟨_, _, _, _, hR.t, by decide, rfl⟩) (by decide) (Nat.le_of_ble_eq_true rfl) dX4_found_108 rfl ?_
    rintro _ _ _ _ ⟨rfl, rfl, rfl, rfl⟩
    refine T_iret rfl rfl dX4_found_111 ?_
    first
      | exact ⟨congrArg (fun z => some (Value.int z)) (by rfl), rfl, rfl, rfl⟩
      | exact ⟨congrArg (fun z => some (Value.int z)) (by rw [fdV]; simp [nI_cl (show j < 2 ^ 30 by omega)]), rfl, rfl, rfl⟩
  ·
    refine T_tin (off := 104) 112 dX4_found_8 (by decide +kernel) (by decide +kernel) (by decide +kernel) (by decide) ?_
    refine T_aload2 dX4_found_112 rfl ?_
    refine T_iload1 dX4_found_113 rfl ?_
    refine T_cV1 (c_X6_fallenOn hX hR _) hX k4_117 (Or.inl ⟨_, _, _, _, hR.t, by decide, rfl⟩) (by decide) (Nat.le_of_ble_eq_true rfl) dX4_found_114 rfl ?_
    rintro _ _ _ _ ⟨rfl, rfl, rfl, rfl⟩
    refine T_iret rfl rfl dX4_found_117 ?_
    first
      | exact ⟨congrArg (fun z => some (Value.int z)) (by rfl), rfl, rfl, rfl⟩
      | exact ⟨congrArg (fun z => some (Value.int z)) (by rw [fdV]; simp [nI_cl (show j < 2 ^ 30 by omega)]), rfl, rfl, rfl⟩
set_option maxHeartbeats 1000000 in
theorem c_X4_joined {l : Launch} {D : va_G} {cA : Nat → ClassId} {n0 : Nat} {sg adK adV : Nat → Nat} {sgA smA wdA bS LS : Nat} {xs : Nat → Int32} (hX : SF n0 (XW0 sg adK adV sgA smA wdA n0 bS LS xs)) {sz : Nat} {τ : TY} {M : ME} {o : Nat} (hs : JnOK o) (x y : Int32) : CT l D cA n0 (XW0 sg adK adV sgA smA wdA n0 bS LS xs) mX4_joined 2 0 0 sz τ M [.ref (sg o), .int x, .int y] (ROq (.int (jnF o x y)) sz τ M) := by
  refine CT.of (ls := [.ref (sg o), .int x, .int y]) (by decide) (Nat.le_of_ble_eq_true rfl) rfl ?_
  have ho : o < 48 := by unfold JnOK at hs; omega
  refine T_smap ks4_82 dX4_joined_0 rfl ?_
  refine T_aload0 dX4_joined_3 rfl ?_
  refine T_ord (by omega) kord4_87 (by decide) (Nat.le_of_ble_eq_true rfl) dX4_joined_4 rfl ?_
  refine T_smld (by omega) dX4_joined_7 rfl ?_
  rcases hs with rfl | rfl | rfl | rfl | rfl | rfl | rfl | rfl | rfl | rfl | rfl | rfl | rfl | rfl | rfl
  ·
    refine T_tin (off := 80) 88 dX4_joined_8 (by decide +kernel) (by decide +kernel) (by decide +kernel) (by decide) ?_
    refine T_iload1 dX4_joined_88 rfl ?_
    refine T_iload2 dX4_joined_89 rfl ?_
    refine T_iadd dX4_joined_90 rfl ?_
    refine T_iret rfl rfl dX4_joined_91 ?_
    refine ⟨congrArg (fun z => some (Value.int z)) ?_, rfl, rfl, rfl⟩
    first
      | rfl
      | exact (if_pos c1).symm
      | exact (if_neg c1).symm
      | exact (if_neg (fun q => absurd q c1)).symm
      | exact (if_pos (Int32.not_le.mp c1)).symm
      | exact (if_neg (fun q => Int32.not_lt.mpr c1 q)).symm
      | exact (if_pos (Int32.not_lt.mp c1)).symm
      | exact (if_neg (fun q => Int32.not_le.mpr c1 q)).symm
      | exact (if_neg (fun q => Int32.not_lt.mpr (Int32.not_lt.mp c1) q)).symm
      | exact (if_pos c1).symm
  ·
    refine T_tin (off := 84) 92 dX4_joined_8 (by decide +kernel) (by decide +kernel) (by decide +kernel) (by decide) ?_
    refine T_iload1 dX4_joined_92 rfl ?_
    refine T_iload2 dX4_joined_93 rfl ?_
    refine T_isub dX4_joined_94 rfl ?_
    refine T_iret rfl rfl dX4_joined_95 ?_
    refine ⟨congrArg (fun z => some (Value.int z)) ?_, rfl, rfl, rfl⟩
    first
      | rfl
      | exact (if_pos c1).symm
      | exact (if_neg c1).symm
      | exact (if_neg (fun q => absurd q c1)).symm
      | exact (if_pos (Int32.not_le.mp c1)).symm
      | exact (if_neg (fun q => Int32.not_lt.mpr c1 q)).symm
      | exact (if_pos (Int32.not_lt.mp c1)).symm
      | exact (if_neg (fun q => Int32.not_le.mpr c1 q)).symm
      | exact (if_neg (fun q => Int32.not_lt.mpr (Int32.not_lt.mp c1) q)).symm
      | exact (if_pos c1).symm
  ·
    refine T_tin (off := 88) 96 dX4_joined_8 (by decide +kernel) (by decide +kernel) (by decide +kernel) (by decide) ?_
    refine T_iload1 dX4_joined_96 rfl ?_
    refine T_iload2 dX4_joined_97 rfl ?_
    refine T_imul dX4_joined_98 rfl ?_
    refine T_iret rfl rfl dX4_joined_99 ?_
    refine ⟨congrArg (fun z => some (Value.int z)) ?_, rfl, rfl, rfl⟩
    first
      | rfl
      | exact (if_pos c1).symm
      | exact (if_neg c1).symm
      | exact (if_neg (fun q => absurd q c1)).symm
      | exact (if_pos (Int32.not_le.mp c1)).symm
      | exact (if_neg (fun q => Int32.not_lt.mpr c1 q)).symm
      | exact (if_pos (Int32.not_lt.mp c1)).symm
      | exact (if_neg (fun q => Int32.not_le.mpr c1 q)).symm
      | exact (if_neg (fun q => Int32.not_lt.mpr (Int32.not_lt.mp c1) q)).symm
      | exact (if_pos c1).symm
  ·
    refine T_tin (off := 92) 100 dX4_joined_8 (by decide +kernel) (by decide +kernel) (by decide +kernel) (by decide) ?_
    refine T_iload2 dX4_joined_100 rfl ?_
    refine T_if_ne 108 104 dX4_joined_101 (by decide) rfl (fun c1 => ?_) (fun c1 => ?_)
    ·
      refine T_iload1 dX4_joined_108 rfl ?_
      refine T_iload2 dX4_joined_109 rfl ?_
      refine T_idiv dX4_joined_110 rfl c1 ?_
      refine T_iret rfl rfl dX4_joined_111 ?_
      refine ⟨congrArg (fun z => some (Value.int z)) ?_, rfl, rfl, rfl⟩
      first
        | rfl
        | exact (if_pos c1).symm
        | exact (if_neg c1).symm
        | exact (if_neg (fun q => absurd q c1)).symm
        | exact (if_pos (Int32.not_le.mp c1)).symm
        | exact (if_neg (fun q => Int32.not_lt.mpr c1 q)).symm
        | exact (if_pos (Int32.not_lt.mp c1)).symm
        | exact (if_neg (fun q => Int32.not_le.mpr c1 q)).symm
        | exact (if_neg (fun q => Int32.not_lt.mpr (Int32.not_lt.mp c1) q)).symm
        | exact (if_pos c1).symm
    ·
      refine T_iconst (0) dX4_joined_104 rfl rfl ?_
      refine T_goto 111 dX4_joined_105 (by decide) ?_
      refine T_iret rfl rfl dX4_joined_111 ?_
      refine ⟨congrArg (fun z => some (Value.int z)) ?_, rfl, rfl, rfl⟩
      first
        | rfl
        | exact (if_pos c1).symm
        | exact (if_neg c1).symm
        | exact (if_neg (fun q => absurd q c1)).symm
        | exact (if_pos (Int32.not_le.mp c1)).symm
        | exact (if_neg (fun q => Int32.not_lt.mpr c1 q)).symm
        | exact (if_pos (Int32.not_lt.mp c1)).symm
        | exact (if_neg (fun q => Int32.not_le.mpr c1 q)).symm
        | exact (if_neg (fun q => Int32.not_lt.mpr (Int32.not_lt.mp c1) q)).symm
        | exact (if_pos c1).symm
  ·
    refine T_tin (off := 104) 112 dX4_joined_8 (by decide +kernel) (by decide +kernel) (by decide +kernel) (by decide) ?_
    refine T_iload1 dX4_joined_112 rfl ?_
    refine T_ineg dX4_joined_113 rfl ?_
    refine T_iret rfl rfl dX4_joined_114 ?_
    refine ⟨congrArg (fun z => some (Value.int z)) ?_, rfl, rfl, rfl⟩
    first
      | rfl
      | exact (if_pos c1).symm
      | exact (if_neg c1).symm
      | exact (if_neg (fun q => absurd q c1)).symm
      | exact (if_pos (Int32.not_le.mp c1)).symm
      | exact (if_neg (fun q => Int32.not_lt.mpr c1 q)).symm
      | exact (if_pos (Int32.not_lt.mp c1)).symm
      | exact (if_neg (fun q => Int32.not_le.mpr c1 q)).symm
      | exact (if_neg (fun q => Int32.not_lt.mpr (Int32.not_lt.mp c1) q)).symm
      | exact (if_pos c1).symm
  ·
    refine T_tin (off := 107) 115 dX4_joined_8 (by decide +kernel) (by decide +kernel) (by decide +kernel) (by decide) ?_
    refine T_iload1 dX4_joined_115 rfl ?_
    refine T_iload2 dX4_joined_116 rfl ?_
    refine T_min km4_120 (by decide) (Nat.le_of_ble_eq_true rfl) dX4_joined_117 rfl ?_
    refine T_iret rfl rfl dX4_joined_120 ?_
    refine ⟨congrArg (fun z => some (Value.int z)) ?_, rfl, rfl, rfl⟩
    first
      | rfl
      | exact (if_pos c1).symm
      | exact (if_neg c1).symm
      | exact (if_neg (fun q => absurd q c1)).symm
      | exact (if_pos (Int32.not_le.mp c1)).symm
      | exact (if_neg (fun q => Int32.not_lt.mpr c1 q)).symm
      | exact (if_pos (Int32.not_lt.mp c1)).symm
      | exact (if_neg (fun q => Int32.not_le.mpr c1 q)).symm
      | exact (if_neg (fun q => Int32.not_lt.mpr (Int32.not_lt.mp c1) q)).symm
      | exact (if_pos c1).symm
  ·
    refine T_tin (off := 113) 121 dX4_joined_8 (by decide +kernel) (by decide +kernel) (by decide +kernel) (by decide) ?_
    refine T_iload1 dX4_joined_121 rfl ?_
    refine T_iload2 dX4_joined_122 rfl ?_
    refine T_max km4_126 (by decide) (Nat.le_of_ble_eq_true rfl) dX4_joined_123 rfl ?_
    refine T_iret rfl rfl dX4_joined_126 ?_
    refine ⟨congrArg (fun z => some (Value.int z)) ?_, rfl, rfl, rfl⟩
    first
      | rfl
      | exact (if_pos c1).symm
      | exact (if_neg c1).symm
      | exact (if_neg (fun q => absurd q c1)).symm
      | exact (if_pos (Int32.not_le.mp c1)).symm
      | exact (if_neg (fun q => Int32.not_lt.mpr c1 q)).symm
      | exact (if_pos (Int32.not_lt.mp c1)).symm
      | exact (if_neg (fun q => Int32.not_le.mpr c1 q)).symm
      | exact (if_neg (fun q => Int32.not_lt.mpr (Int32.not_lt.mp c1) q)).symm
      | exact (if_pos c1).symm
  ·
    refine T_tin (off := 119) 127 dX4_joined_8 (by decide +kernel) (by decide +kernel) (by decide +kernel) (by decide) ?_
    refine T_iload1 dX4_joined_127 rfl ?_
    refine T_iload2 dX4_joined_128 rfl ?_
    refine T_icmp_ge 136 132 dX4_joined_129 (by decide) rfl (fun c1 => ?_) (fun c1 => ?_)
    ·
      refine T_iconst (0) dX4_joined_136 rfl rfl ?_
      refine T_iret rfl rfl dX4_joined_137 ?_
      refine ⟨congrArg (fun z => some (Value.int z)) ?_, rfl, rfl, rfl⟩
      first
        | rfl
        | exact (if_pos c1).symm
        | exact (if_neg c1).symm
        | exact (if_neg (fun q => absurd q c1)).symm
        | exact (if_pos (Int32.not_le.mp c1)).symm
        | exact (if_neg (fun q => Int32.not_lt.mpr c1 q)).symm
        | exact (if_pos (Int32.not_lt.mp c1)).symm
        | exact (if_neg (fun q => Int32.not_le.mpr c1 q)).symm
        | exact (if_neg (fun q => Int32.not_lt.mpr (Int32.not_lt.mp c1) q)).symm
        | exact (if_pos c1).symm
    ·
      refine T_iconst (1) dX4_joined_132 rfl rfl ?_
      refine T_goto 137 dX4_joined_133 (by decide) ?_
      refine T_iret rfl rfl dX4_joined_137 ?_
      refine ⟨congrArg (fun z => some (Value.int z)) ?_, rfl, rfl, rfl⟩
      first
        | rfl
        | exact (if_pos c1).symm
        | exact (if_neg c1).symm
        | exact (if_neg (fun q => absurd q c1)).symm
        | exact (if_pos (Int32.not_le.mp c1)).symm
        | exact (if_neg (fun q => Int32.not_lt.mpr c1 q)).symm
        | exact (if_pos (Int32.not_lt.mp c1)).symm
        | exact (if_neg (fun q => Int32.not_le.mpr c1 q)).symm
        | exact (if_neg (fun q => Int32.not_lt.mpr (Int32.not_lt.mp c1) q)).symm
        | exact (if_pos c1).symm
  ·
    refine T_tin (off := 130) 138 dX4_joined_8 (by decide +kernel) (by decide +kernel) (by decide +kernel) (by decide) ?_
    refine T_iload1 dX4_joined_138 rfl ?_
    refine T_iload2 dX4_joined_139 rfl ?_
    refine T_icmp_le 147 143 dX4_joined_140 (by decide) rfl (fun c1 => ?_) (fun c1 => ?_)
    ·
      refine T_iconst (0) dX4_joined_147 rfl rfl ?_
      refine T_iret rfl rfl dX4_joined_148 ?_
      refine ⟨congrArg (fun z => some (Value.int z)) ?_, rfl, rfl, rfl⟩
      first
        | rfl
        | exact (if_pos c1).symm
        | exact (if_neg c1).symm
        | exact (if_neg (fun q => absurd q c1)).symm
        | exact (if_pos (Int32.not_le.mp c1)).symm
        | exact (if_neg (fun q => Int32.not_lt.mpr c1 q)).symm
        | exact (if_pos (Int32.not_lt.mp c1)).symm
        | exact (if_neg (fun q => Int32.not_le.mpr c1 q)).symm
        | exact (if_neg (fun q => Int32.not_lt.mpr (Int32.not_lt.mp c1) q)).symm
        | exact (if_pos c1).symm
    ·
      refine T_iconst (1) dX4_joined_143 rfl rfl ?_
      refine T_goto 148 dX4_joined_144 (by decide) ?_
      refine T_iret rfl rfl dX4_joined_148 ?_
      refine ⟨congrArg (fun z => some (Value.int z)) ?_, rfl, rfl, rfl⟩
      first
        | rfl
        | exact (if_pos c1).symm
        | exact (if_neg c1).symm
        | exact (if_neg (fun q => absurd q c1)).symm
        | exact (if_pos (Int32.not_le.mp c1)).symm
        | exact (if_neg (fun q => Int32.not_lt.mpr c1 q)).symm
        | exact (if_pos (Int32.not_lt.mp c1)).symm
        | exact (if_neg (fun q => Int32.not_le.mpr c1 q)).symm
        | exact (if_neg (fun q => Int32.not_lt.mpr (Int32.not_lt.mp c1) q)).symm
        | exact (if_pos c1).symm
  ·
    refine T_tin (off := 141) 149 dX4_joined_8 (by decide +kernel) (by decide +kernel) (by decide +kernel) (by decide) ?_
    refine T_iload1 dX4_joined_149 rfl ?_
    refine T_iload2 dX4_joined_150 rfl ?_
    refine T_icmp_ne 158 154 dX4_joined_151 (by decide) rfl (fun c1 => ?_) (fun c1 => ?_)
    ·
      refine T_iconst (0) dX4_joined_158 rfl rfl ?_
      refine T_iret rfl rfl dX4_joined_159 ?_
      refine ⟨congrArg (fun z => some (Value.int z)) ?_, rfl, rfl, rfl⟩
      first
        | rfl
        | exact (if_pos c1).symm
        | exact (if_neg c1).symm
        | exact (if_neg (fun q => absurd q c1)).symm
        | exact (if_pos (Int32.not_le.mp c1)).symm
        | exact (if_neg (fun q => Int32.not_lt.mpr c1 q)).symm
        | exact (if_pos (Int32.not_lt.mp c1)).symm
        | exact (if_neg (fun q => Int32.not_le.mpr c1 q)).symm
        | exact (if_neg (fun q => Int32.not_lt.mpr (Int32.not_lt.mp c1) q)).symm
        | exact (if_pos c1).symm
    ·
      refine T_iconst (1) dX4_joined_154 rfl rfl ?_
      refine T_goto 159 dX4_joined_155 (by decide) ?_
      refine T_iret rfl rfl dX4_joined_159 ?_
      refine ⟨congrArg (fun z => some (Value.int z)) ?_, rfl, rfl, rfl⟩
      first
        | rfl
        | exact (if_pos c1).symm
        | exact (if_neg c1).symm
        | exact (if_neg (fun q => absurd q c1)).symm
        | exact (if_pos (Int32.not_le.mp c1)).symm
        | exact (if_neg (fun q => Int32.not_lt.mpr c1 q)).symm
        | exact (if_pos (Int32.not_lt.mp c1)).symm
        | exact (if_neg (fun q => Int32.not_le.mpr c1 q)).symm
        | exact (if_neg (fun q => Int32.not_lt.mpr (Int32.not_lt.mp c1) q)).symm
        | exact (if_pos c1).symm
  ·
    refine T_tin (off := 152) 160 dX4_joined_8 (by decide +kernel) (by decide +kernel) (by decide +kernel) (by decide) ?_
    refine T_iload1 dX4_joined_160 rfl ?_
    refine T_iload2 dX4_joined_161 rfl ?_
    refine T_icmp_gt 169 165 dX4_joined_162 (by decide) rfl (fun c1 => ?_) (fun c1 => ?_)
    ·
      refine T_iconst (0) dX4_joined_169 rfl rfl ?_
      refine T_iret rfl rfl dX4_joined_170 ?_
      refine ⟨congrArg (fun z => some (Value.int z)) ?_, rfl, rfl, rfl⟩
      first
        | rfl
        | exact (if_pos c1).symm
        | exact (if_neg c1).symm
        | exact (if_neg (fun q => absurd q c1)).symm
        | exact (if_pos (Int32.not_le.mp c1)).symm
        | exact (if_neg (fun q => Int32.not_lt.mpr c1 q)).symm
        | exact (if_pos (Int32.not_lt.mp c1)).symm
        | exact (if_neg (fun q => Int32.not_le.mpr c1 q)).symm
        | exact (if_neg (fun q => Int32.not_lt.mpr (Int32.not_lt.mp c1) q)).symm
        | exact (if_pos c1).symm
    ·
      refine T_iconst (1) dX4_joined_165 rfl rfl ?_
      refine T_goto 170 dX4_joined_166 (by decide) ?_
      refine T_iret rfl rfl dX4_joined_170 ?_
      refine ⟨congrArg (fun z => some (Value.int z)) ?_, rfl, rfl, rfl⟩
      first
        | rfl
        | exact (if_pos c1).symm
        | exact (if_neg c1).symm
        | exact (if_neg (fun q => absurd q c1)).symm
        | exact (if_pos (Int32.not_le.mp c1)).symm
        | exact (if_neg (fun q => Int32.not_lt.mpr c1 q)).symm
        | exact (if_pos (Int32.not_lt.mp c1)).symm
        | exact (if_neg (fun q => Int32.not_le.mpr c1 q)).symm
        | exact (if_neg (fun q => Int32.not_lt.mpr (Int32.not_lt.mp c1) q)).symm
        | exact (if_pos c1).symm
  ·
    refine T_tin (off := 163) 171 dX4_joined_8 (by decide +kernel) (by decide +kernel) (by decide +kernel) (by decide) ?_
    refine T_iload1 dX4_joined_171 rfl ?_
    refine T_iload2 dX4_joined_172 rfl ?_
    refine T_icmp_lt 180 176 dX4_joined_173 (by decide) rfl (fun c1 => ?_) (fun c1 => ?_)
    ·
      refine T_iconst (0) dX4_joined_180 rfl rfl ?_
      refine T_iret rfl rfl dX4_joined_181 ?_
      refine ⟨congrArg (fun z => some (Value.int z)) ?_, rfl, rfl, rfl⟩
      first
        | rfl
        | exact (if_pos c1).symm
        | exact (if_neg c1).symm
        | exact (if_neg (fun q => absurd q c1)).symm
        | exact (if_pos (Int32.not_le.mp c1)).symm
        | exact (if_neg (fun q => Int32.not_lt.mpr c1 q)).symm
        | exact (if_pos (Int32.not_lt.mp c1)).symm
        | exact (if_neg (fun q => Int32.not_le.mpr c1 q)).symm
        | exact (if_neg (fun q => Int32.not_lt.mpr (Int32.not_lt.mp c1) q)).symm
        | exact (if_pos c1).symm
    ·
      refine T_iconst (1) dX4_joined_176 rfl rfl ?_
      refine T_goto 181 dX4_joined_177 (by decide) ?_
      refine T_iret rfl rfl dX4_joined_181 ?_
      refine ⟨congrArg (fun z => some (Value.int z)) ?_, rfl, rfl, rfl⟩
      first
        | rfl
        | exact (if_pos c1).symm
        | exact (if_neg c1).symm
        | exact (if_neg (fun q => absurd q c1)).symm
        | exact (if_pos (Int32.not_le.mp c1)).symm
        | exact (if_neg (fun q => Int32.not_lt.mpr c1 q)).symm
        | exact (if_pos (Int32.not_lt.mp c1)).symm
        | exact (if_neg (fun q => Int32.not_le.mpr c1 q)).symm
        | exact (if_neg (fun q => Int32.not_lt.mpr (Int32.not_lt.mp c1) q)).symm
        | exact (if_pos c1).symm
  ·
    refine T_tin (off := 174) 182 dX4_joined_8 (by decide +kernel) (by decide +kernel) (by decide +kernel) (by decide) ?_
    refine T_iconst (1) dX4_joined_182 rfl rfl ?_
    refine T_iload1 dX4_joined_183 rfl ?_
    refine T_isub dX4_joined_184 rfl ?_
    refine T_iret rfl rfl dX4_joined_185 ?_
    refine ⟨congrArg (fun z => some (Value.int z)) ?_, rfl, rfl, rfl⟩
    first
      | rfl
      | exact (if_pos c1).symm
      | exact (if_neg c1).symm
      | exact (if_neg (fun q => absurd q c1)).symm
      | exact (if_pos (Int32.not_le.mp c1)).symm
      | exact (if_neg (fun q => Int32.not_lt.mpr c1 q)).symm
      | exact (if_pos (Int32.not_lt.mp c1)).symm
      | exact (if_neg (fun q => Int32.not_le.mpr c1 q)).symm
      | exact (if_neg (fun q => Int32.not_lt.mpr (Int32.not_lt.mp c1) q)).symm
      | exact (if_pos c1).symm
  ·
    refine T_tin (off := 178) 186 dX4_joined_8 (by decide +kernel) (by decide +kernel) (by decide +kernel) (by decide) ?_
    refine T_iload1 dX4_joined_186 rfl ?_
    refine T_iload2 dX4_joined_187 rfl ?_
    refine T_iand dX4_joined_188 rfl ?_
    refine T_iret rfl rfl dX4_joined_189 ?_
    refine ⟨congrArg (fun z => some (Value.int z)) ?_, rfl, rfl, rfl⟩
    first
      | rfl
      | exact (if_pos c1).symm
      | exact (if_neg c1).symm
      | exact (if_neg (fun q => absurd q c1)).symm
      | exact (if_pos (Int32.not_le.mp c1)).symm
      | exact (if_neg (fun q => Int32.not_lt.mpr c1 q)).symm
      | exact (if_pos (Int32.not_lt.mp c1)).symm
      | exact (if_neg (fun q => Int32.not_le.mpr c1 q)).symm
      | exact (if_neg (fun q => Int32.not_lt.mpr (Int32.not_lt.mp c1) q)).symm
      | exact (if_pos c1).symm
  ·
    refine T_tin (off := 182) 190 dX4_joined_8 (by decide +kernel) (by decide +kernel) (by decide +kernel) (by decide) ?_
    refine T_iload1 dX4_joined_190 rfl ?_
    refine T_iload2 dX4_joined_191 rfl ?_
    refine T_ior dX4_joined_192 rfl ?_
    refine T_iret rfl rfl dX4_joined_193 ?_
    refine ⟨congrArg (fun z => some (Value.int z)) ?_, rfl, rfl, rfl⟩
    first
      | rfl
      | exact (if_pos c1).symm
      | exact (if_neg c1).symm
      | exact (if_neg (fun q => absurd q c1)).symm
      | exact (if_pos (Int32.not_le.mp c1)).symm
      | exact (if_neg (fun q => Int32.not_lt.mpr c1 q)).symm
      | exact (if_pos (Int32.not_lt.mp c1)).symm
      | exact (if_neg (fun q => Int32.not_le.mpr c1 q)).symm
      | exact (if_neg (fun q => Int32.not_lt.mpr (Int32.not_lt.mp c1) q)).symm
      | exact (if_pos c1).symm
/-- how many a sign takes -/
def tkN (o : Nat) : Nat := (sgK.getD o 0).toNatClampNeg
/-- a step -/
def stpF (c : Nat) (ρ : RH) (o : Nat) (x : Int32) (q : (Nat → Int32) × Nat) : (Nat → Int32) × Nat :=
  (uI q.1 (q.2 - tkN o) (if tkN o = 0 then fdV c ρ o x else jnF o (q.1 (q.2 - tkN o)) (q.1 (q.2 - tkN o + 1))), q.2 - tkN o + 1)
/-- n steps from f on -/
def evF (c : Nat) (ρ : RH) (σ : Nat → Nat) (w : Nat → Int32) (f : Nat) (κ : Nat → Int32) : Nat → (Nat → Int32) × Nat
  | 0 => (κ, 0)
  | n + 1 => stpF c ρ (σ (f + n)) (w (f + n)) (evF c ρ σ w f κ n)
def hgF (σ : Nat → Nat) (f : Nat) : Nat → Nat
  | 0 => 0
  | n + 1 => hgF σ f n - tkN (σ (f + n)) + 1
/-- steps that can be carried out -/
def SgOK (a b : Nat) (σ : Nat → Nat) (w : Nat → Int32) (f t : Nat) : Prop := f < t ∧ t ≤ 400 ∧ ∀ n, f + n < t → tkN (σ (f + n)) ≤ hgF σ f n ∧ (StOK a b (σ (f + n)) (w (f + n)) ∨ JnOK (σ (f + n)))
theorem hg_le {σ : Nat → Nat} {f : Nat} : ∀ n, hgF σ f n ≤ n
  | 0 => Nat.le_refl _
  | n + 1 => by
    have := hg_le (σ := σ) (f := f) n
    unfold hgF
    omega
theorem ev_hg {c : Nat} {ρ : RH} {σ : Nat → Nat} {w : Nat → Int32} {f : Nat} {κ : Nat → Int32} : ∀ n, (evF c ρ σ w f κ n).2 = hgF σ f n
  | 0 => rfl
  | n + 1 => by
    show (evF c ρ σ w f κ n).2 - _ + 1 = _
    rw [ev_hg n]; rfl
theorem tk_st {a b o : Nat} {x : Int32} (h : StOK a b o x) : tkN o = 0 ∧ sgK.getD o 0 = 0 := by
  rcases h with rfl | rfl | rfl | rfl | rfl | ⟨rfl, -⟩ | ⟨rfl, -⟩ | ⟨rfl, -⟩ | ⟨rfl, -⟩ | ⟨rfl, -⟩ <;> decide
theorem tk_jn {o : Nat} (h : JnOK o) : (sgK.getD o 0 = nI (tkN o)) ∧ ¬ sgK.getD o 0 = 0 ∧ 1 ≤ tkN o ∧ tkN o ≤ 2 := by
  rcases h with rfl | rfl | rfl | rfl | rfl | rfl | rfl | rfl | rfl | rfl | rfl | rfl | rfl | rfl | rfl <;> decide
theorem tk_48 {a b o : Nat} {x : Int32} (h : StOK a b o x ∨ JnOK o) : o < 48 ∧ sgK.getD o 0 = nI (tkN o) ∧ tkN o ≤ 2 ∧ (¬ sgK.getD o 0 = 0 → JnOK o ∧ ¬ tkN o = 0) ∧ (sgK.getD o 0 = 0 → StOK a b o x ∧ tkN o = 0) := by
  rcases h with h | h
  · obtain ⟨h1, h2⟩ := tk_st h
    refine ⟨by unfold StOK at h; omega, by rw [h1, h2]; rfl, by omega, fun q => absurd h2 q, fun _ => ⟨h, h1⟩⟩
  · obtain ⟨h1, h2, h3, h4⟩ := tk_jn h
    exact ⟨by unfold JnOK at h; omega, h1, h4, fun _ => ⟨h, by omega⟩, fun q => absurd q h2⟩
theorem nI_sub {m n : Nat} (h : n ≤ m) (hm : m < 2 ^ 31) : nI m - nI n = nI (m - n) := by
  have e : m = m - n + n := by omega
  have e2 : nI m = nI (m - n) + nI n := by
    rw [nI_add]; exact congrArg nI e
  rw [e2]
  exact Int32.add_sub_cancel _ _
set_option maxHeartbeats 1000000 in
theorem L_X4_reckon {l : Launch} {D : va_G} {cA : Nat → ClassId} {n0 : Nat} {sg adK adV : Nat → Nat} {sgA smA wdA bS LS : Nat} {xs : Nat → Int32} (hX : SF n0 (XW0 sg adK adV sgA smA wdA n0 bS LS xs)) {sz : Nat} {τ : TY} {M0 : ME} {r p a b c hc wc sc : Nat} {ρ π : RH} {ν : NU} {σ : Nat → Nat} {f t : Nat} (hd : p + 30 ≤ r ∨ r + 38 ≤ p) (hs : SgOK a b σ (π 70) f t) {κ0 : Nat → Int32} : ∀ (n : Nat) (n1 : Nat) (κ : Nat → Int32) (N0 : ME) (u : Value) (Mk : ME) (hk : f + n1 ≤ t) (hκ : κ = (evF c ρ σ (π 70) f κ0 n1).1) (hP : PM τ M0 Mk p sg hc wc sc π σ κ) (hR : LM τ N0 Mk r a b c ρ ν), t - (f + n1) < n → T l D cA n0 (XW0 sg adK adV sgA smA wdA n0 bS LS xs) mX4_reckon 4 0 0 sz τ Mk 6 [.ref p, .int (nI f), .int (nI t), .ref r, .int (nI (hgF σ f n1)), .int (nI (f + n1)), u] [] (fun v' sz' τ' M' => v' = some (.int ((evF c ρ σ (π 70) f κ0 (t - f)).1 0)) ∧ sz' = sz ∧ τ' = τ ∧ ∃ κ', PM τ M0 M' p sg hc wc sc π σ κ') (fun _ _ _ _ => False) := by
  intro n
  induction n with
  | zero => intros; omega
  | succ n ih =>
    intro n1 κ N0 u Mk hk hκ hP hR hn
    obtain ⟨l3, l4, l5⟩ := hR.ok
    obtain ⟨hft, ht4, hs⟩ := id hs
    have h9 := hg_le (σ := σ) (f := f) n1
    refine T_iload5 dX4_reckon_6 rfl ?_
    refine T_iload2 dX4_reckon_8 rfl ?_
    refine T_icmp_ge 107 12 dX4_reckon_9 (by decide) rfl (fun c9 => ?_) (fun c9 => ?_)
    ·
      have c9 := le_out rfl c9
      refine T_aload0 dX4_reckon_107 rfl ?_
      refine g4_35 _ rfl (hP.t_p) (hP.g_ka) dX4_reckon_108 rfl ?_
      refine T_iconst (0) dX4_reckon_111 rfl rfl ?_
      refine T_iald _ (hP.t_ka) (show (0 : Int32) = nI 0 from rfl) (by omega) (by decide) dX4_reckon_112 rfl (hP.g_st (by omega)) ?_
      refine T_iret rfl rfl dX4_reckon_113 ?_
      have e : t - f = n1 := by omega
      rw [e, ← hκ]
      exact ⟨rfl, rfl, rfl, _, hP⟩
    ·
      have c9 := lt_in rfl c9
      obtain ⟨q1, q2⟩ := hs n1 c9
      obtain ⟨q3, q4, q5, q6, q7⟩ := tk_48 q2
      refine T_aload0 dX4_reckon_12 rfl ?_
      refine g4_23 _ rfl (hP.t_p) (hP.g_sa) dX4_reckon_13 rfl ?_
      refine T_iload5 dX4_reckon_16 rfl ?_
      refine T_aald 7 _ (by decide) (hP.t_sa) rfl (by omega) (by decide) dX4_reckon_18 rfl (hP.g_sg (by omega)) ?_
      refine T_astore6 rfl (by decide) dX4_reckon_19 rfl ?_
      refine T_iload4 dX4_reckon_21 rfl ?_
      refine T_aload6 dX4_reckon_23 rfl ?_
      refine T_tks (by omega) kf4_71 dX4_reckon_25 rfl ?_
      refine T_isub dX4_reckon_28 rfl ?_
      rw [q4, nI_sub q1 (by omega)]
      refine T_istore4 rfl (by decide) dX4_reckon_29 rfl ?_
      refine T_iload4 dX4_reckon_31 rfl ?_
      refine T_if_lt_f 44 36 dX4_reckon_33 (by decide) rfl (nI_pos (by omega)) ?_
      refine T_iload4 dX4_reckon_36 rfl ?_
      refine T_sipush (400) dX4_reckon_38 rfl rfl ?_
      refine T_icmp_lt_t 46 dX4_reckon_41 (by decide) (show _ < nI 400 from nI_lt (by omega) (by omega)) ?_
      refine T_aload0 dX4_reckon_46 rfl ?_
      refine g4_35 _ rfl (hP.t_p) (hP.g_ka) dX4_reckon_47 rfl ?_
      refine T_iload4 dX4_reckon_50 rfl ?_
      refine T_aload6 dX4_reckon_52 rfl ?_
      refine T_tks (by omega) kf4_71 dX4_reckon_54 rfl ?_
      refine T_if_ne 76 60 dX4_reckon_57 (by decide) rfl (fun c57 => ?_) (fun c57 => ?_)
      ·
        refine T_aload6 dX4_reckon_76 rfl ?_
        refine T_aload0 dX4_reckon_78 rfl ?_
        refine g4_35 _ rfl (hP.t_p) (hP.g_ka) dX4_reckon_79 rfl ?_
        refine T_iload4 dX4_reckon_82 rfl ?_
        refine T_iald _ (hP.t_ka) rfl (by omega) (by decide) dX4_reckon_84 rfl (hP.g_st (by omega)) ?_
        refine T_aload0 dX4_reckon_85 rfl ?_
        refine g4_35 _ rfl (hP.t_p) (hP.g_ka) dX4_reckon_86 rfl ?_
        refine T_iload4 dX4_reckon_89 rfl ?_
        refine T_iconst (1) dX4_reckon_91 rfl rfl ?_
        refine T_iadd dX4_reckon_92 rfl ?_
        refine T_iald _ (hP.t_ka) (inc1 _) (by omega) (by decide) dX4_reckon_93 rfl (hP.g_st (by omega)) ?_
        refine T_cS3 (c_X4_joined hX (q6 c57).1 _ _) hX k4_78 (by decide) (Nat.le_of_ble_eq_true rfl) dX4_reckon_94 rfl ?_
        rintro _ _ _ _ ⟨rfl, rfl, rfl, rfl⟩
        refine T_iast _ (hP.t_ka) rfl (by omega) (by decide) dX4_reckon_97 rfl ?_
        refine T_nm (fun M1 e1 => ?_)
        have hP := PM.mv (hP.p_st (by omega)) e1
        have hR := LM.frU hR e1 (by (try simp only [stA, hsA, lgA]); omega)
        first | refine T_iinc4 rfl (by decide) dX4_reckon_98 rfl (inc1 _) ?_ | refine T_iinc4 rfl (by decide) dX4_reckon_98 rfl rfl ?_
        first | refine T_iinc5 rfl (by decide) dX4_reckon_101 rfl (inc1 _) ?_ | refine T_iinc5 rfl (by decide) dX4_reckon_101 rfl rfl ?_
        refine T_goto 6 dX4_reckon_104 (by decide) ?_
        have e2 := ev_hg (c := c) (ρ := ρ) (σ := σ) (w := π 70) (f := f) (κ := κ0) n1
        first
          | exact ih (n1 + 1) _ _ _ _ (by omega) (by rw [hκ]; show _ = (stpF _ _ _ _ _).1; unfold stpF; rw [if_pos (q7 c57).2, e2]) hP hR (by omega)
          | exact ih (n1 + 1) _ _ _ _ (by omega) (by rw [hκ]; show _ = (stpF _ _ _ _ _).1; unfold stpF; rw [if_neg (q6 c57).2, e2]) hP hR (by omega)
      ·
        refine T_aload6 dX4_reckon_60 rfl ?_
        refine T_aload0 dX4_reckon_62 rfl ?_
        refine g4_31 _ rfl (hP.t_p) (hP.g_na) dX4_reckon_63 rfl ?_
        refine T_iload5 dX4_reckon_66 rfl ?_
        refine T_iald _ (hP.t_na) rfl (by omega) (by decide) dX4_reckon_68 rfl (hP.g_nu (by omega)) ?_
        refine T_aload3 dX4_reckon_69 rfl ?_
        refine T_cS3 (c_X4_found hX hR (q7 c57).1) hX k4_74 (by decide) (Nat.le_of_ble_eq_true rfl) dX4_reckon_70 rfl ?_
        rintro _ _ _ _ ⟨rfl, rfl, rfl, rfl⟩
        refine T_goto 97 dX4_reckon_73 (by decide) ?_
        refine T_iast _ (hP.t_ka) rfl (by omega) (by decide) dX4_reckon_97 rfl ?_
        refine T_nm (fun M2 e2 => ?_)
        have hP := PM.mv (hP.p_st (by omega)) e2
        have hR := LM.frU hR e2 (by (try simp only [stA, hsA, lgA]); omega)
        first | refine T_iinc4 rfl (by decide) dX4_reckon_98 rfl (inc1 _) ?_ | refine T_iinc4 rfl (by decide) dX4_reckon_98 rfl rfl ?_
        first | refine T_iinc5 rfl (by decide) dX4_reckon_101 rfl (inc1 _) ?_ | refine T_iinc5 rfl (by decide) dX4_reckon_101 rfl rfl ?_
        refine T_goto 6 dX4_reckon_104 (by decide) ?_
        have e2 := ev_hg (c := c) (ρ := ρ) (σ := σ) (w := π 70) (f := f) (κ := κ0) n1
        first
          | exact ih (n1 + 1) _ _ _ _ (by omega) (by rw [hκ]; show _ = (stpF _ _ _ _ _).1; unfold stpF; rw [if_pos (q7 c57).2, e2]) hP hR (by omega)
          | exact ih (n1 + 1) _ _ _ _ (by omega) (by rw [hκ]; show _ = (stpF _ _ _ _ _).1; unfold stpF; rw [if_neg (q6 c57).2, e2]) hP hR (by omega)
set_option maxHeartbeats 1000000 in
theorem c_X4_reckon {l : Launch} {D : va_G} {cA : Nat → ClassId} {n0 : Nat} {sg adK adV : Nat → Nat} {sgA smA wdA bS LS : Nat} {xs : Nat → Int32} (hX : SF n0 (XW0 sg adK adV sgA smA wdA n0 bS LS xs)) {sz : Nat} {τ : TY} {M0 : ME} {r p a b c hc wc sc : Nat} {ρ π : RH} {ν : NU} {σ : Nat → Nat} {f t : Nat} {N0 M : ME} {κ : Nat → Int32} (hd : p + 30 ≤ r ∨ r + 38 ≤ p) (hs : SgOK a b σ (π 70) f t) (hP : PM τ M0 M p sg hc wc sc π σ κ) (hR : LM τ N0 M r a b c ρ ν) : CT l D cA n0 (XW0 sg adK adV sgA smA wdA n0 bS LS xs) mX4_reckon 4 0 0 sz τ M [.ref p, .int (nI f), .int (nI t), .ref r] (fun v' sz' τ' M' => v' = some (.int ((evF c ρ σ (π 70) f κ (t - f)).1 0)) ∧ sz' = sz ∧ τ' = τ ∧ ∃ κ', PM τ M0 M' p sg hc wc sc π σ κ') := by
  refine CT.of (ls := [.ref p, .int (nI f), .int (nI t), .ref r, UU, UU, UU]) (by decide) (Nat.le_of_ble_eq_true rfl) rfl ?_
  refine T_iconst (0) dX4_reckon_0 rfl rfl ?_
  refine T_istore4 rfl (by decide) dX4_reckon_1 rfl ?_
  refine T_iload1 dX4_reckon_3 rfl ?_
  refine T_istore5 rfl (by decide) dX4_reckon_4 rfl ?_
  exact L_X4_reckon hX hd hs (t - f + 1) 0 κ N0 UU M (by have := hs.1; omega) rfl hP hR (by omega)
