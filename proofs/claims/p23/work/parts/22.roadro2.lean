def needF (c : Nat) (ρ : RH) (x : Int32) (j : Nat) : Int32 := maxI 0 (ldOf c ρ x * (10 + ρ 42 j) / 10 - ρ 43 j)
def totF (a b c : Nat) (ρ : RH) (j : Nat) : Int32 := match j with
  | 0 => ρ 6 0
  | 1 => ρ 7 0
  | 2 => nI a
  | 3 => nI b
  | 4 => nI c
  | 5 => wOf c ρ 0
  | 6 => wOf c ρ 3
  | 7 => nOf c ρ 3
  | 8 => nOf c ρ 2
  | 9 => nI b - hsOn b ρ (-1)
  | 10 => lkAll b ρ
  | _ => ρ 8 0
def stF (b c : Nat) (ρ : RH) (i j : Nat) : Int32 := match j with
  | 0 => ρ 41 i
  | 1 => ρ 42 i
  | 2 => ρ 43 i
  | 3 => hsOn b ρ (nI i)
  | _ => flOf c ρ (nI i)
def lgF (ρ : RH) (i j : Nat) : Int32 := match j with
  | 0 => ρ 31 i
  | 1 => ρ 32 i
  | 2 => ρ 33 i
  | _ => ρ 34 i
def hsF (c : Nat) (ρ : RH) (i j : Nat) : Int32 := match j with
  | 0 => ρ 11 i
  | 1 => ρ 12 i
  | 2 => ρ 13 i
  | 3 => ρ 14 i
  | 4 => ρ 15 i
  | 5 => ρ 16 i
  | 6 => ρ 17 i
  | 7 => ldOf c ρ (nI i)
  | 8 => ρ 18 i
  | _ => ρ 19 i
def RoadB (b : Nat) (ρ : RH) : Prop := ∀ h, h < b → b01 (ρ 14 h) ∧ b01 (ρ 16 h) ∧ b01 (ρ 20 h)
/-- the first place with this name, or -1 -/
def fdF (f : Nat → Int64) (x : Int64) : Nat → Int32
  | 0 => -1
  | n + 1 => if fdF f x n = -1 then (if f n = x then nI n else -1) else fdF f x n
theorem fdF_no {f : Nat → Int64} {x : Int64} : ∀ {n : Nat}, (∀ i, i < n → f i ≠ x) → fdF f x n = -1
  | 0, _ => rfl
  | n + 1, h => by rw [fdF, fdF_no (fun i hi => h i (by omega)), if_pos rfl, if_neg (h n (by omega))]
theorem nI_m1 {n : Nat} (h : n < 2 ^ 31) : ¬ nI n = -1 := fun q => by
  have h1 := congrArg Int32.toInt q
  rw [nI_toInt h] at h1
  have h2 : (-1 : Int32).toInt = -1 := by decide
  omega
theorem fdF_at {f : Nat → Int64} {x : Int64} {k n : Nat} (hk : k < n) (h : ∀ i, i < k → f i ≠ x) (he : f k = x) (hn : n < 2 ^ 31 := by omega) : fdF f x n = nI k := by
  induction n with
  | zero => omega
  | succ n ih =>
    rw [fdF]
    by_cases e : k = n
    · subst e
      rw [fdF_no h, if_pos rfl, if_pos he]
    · have h1 := ih (by omega) (by omega)
      rw [h1, if_neg (nI_m1 (by omega))]
theorem lg_cmp_0 {x y : Int64} (h : lg_cmp x y = 0) : x = y := (lg_cmp_eq _ _).mp h
set_option maxHeartbeats 1000000 in
theorem c_X6_tiredOf {l : Launch} {D : va_G} {cA : Nat → ClassId} {n0 : Nat} {XW : State → Heap → Prop} (hX : SF n0 XW) {sz : Nat} {τ : TY} {M0 M : ME} {r a b c : Nat} {ρ : RH} {ν : NU} (hR : LM τ M0 M r a b c ρ ν) {j : Nat} (hj : j < b) : CT l D cA n0 XW mX6_tiredOf 2 0 0 sz τ M [.ref r, .int (nI j)] (ROq (.int (ρ 18 j)) sz τ M) := by
  refine CT.of (ls := [.ref r, .int (nI j)]) (by decide) (Nat.le_of_ble_eq_true rfl) rfl ?_
  obtain ⟨l3, l4, l5⟩ := hR.ok
  refine T_aload0 dX6_tiredOf_0 rfl ?_
  refine T_iload1 dX6_tiredOf_1 rfl ?_
  refine T_cV1 (c_X6_hasHorse hX hR _) hX k6_107 (Or.inl ⟨_, _, _, _, hR.t, by decide, rfl⟩) (by decide) (Nat.le_of_ble_eq_true rfl) dX6_tiredOf_2 rfl ?_
  rintro _ _ _ _ ⟨rfl, rfl, rfl, rfl⟩
  refine T_if_eq_f 20 8 dX6_tiredOf_5 (by decide) rfl (by rw [hasI_t rfl rfl hj]; decide) ?_
  refine T_aload0 dX6_tiredOf_8 rfl ?_
  refine g6_20 _ rfl hR.t hR.r1 dX6_tiredOf_9 rfl ?_
  refine T_iload1 dX6_tiredOf_12 rfl ?_
  refine T_aald 3 _ (by decide) hR.tH rfl (by omega) (by decide) dX6_tiredOf_13 rfl (hR.H (by omega)) ?_
  refine g6_135 _ rfl (hR.th (by omega)) (hR.h8 (by omega)) dX6_tiredOf_14 rfl ?_
  refine T_goto 21 dX6_tiredOf_17 (by decide) ?_
  refine T_iret rfl rfl dX6_tiredOf_21 ?_
  exact ⟨congrArg (fun z => some (Value.int z)) (rfl), rfl, rfl, rfl⟩
set_option maxHeartbeats 1000000 in
theorem c_X6_linksOf {l : Launch} {D : va_G} {cA : Nat → ClassId} {n0 : Nat} {XW : State → Heap → Prop} (hX : SF n0 XW) {sz : Nat} {τ : TY} {M0 M : ME} {r a b c : Nat} {ρ : RH} {ν : NU} (hR : LM τ M0 M r a b c ρ ν) {j : Nat} (hj : j < b) : CT l D cA n0 XW mX6_linksOf 2 0 0 sz τ M [.ref r, .int (nI j)] (ROq (.int (ρ 12 j)) sz τ M) := by
  refine CT.of (ls := [.ref r, .int (nI j)]) (by decide) (Nat.le_of_ble_eq_true rfl) rfl ?_
  obtain ⟨l3, l4, l5⟩ := hR.ok
  refine T_aload0 dX6_linksOf_0 rfl ?_
  refine T_iload1 dX6_linksOf_1 rfl ?_
  refine T_cV1 (c_X6_hasHorse hX hR _) hX k6_107 (Or.inl ⟨_, _, _, _, hR.t, by decide, rfl⟩) (by decide) (Nat.le_of_ble_eq_true rfl) dX6_linksOf_2 rfl ?_
  rintro _ _ _ _ ⟨rfl, rfl, rfl, rfl⟩
  refine T_if_eq_f 20 8 dX6_linksOf_5 (by decide) rfl (by rw [hasI_t rfl rfl hj]; decide) ?_
  refine T_aload0 dX6_linksOf_8 rfl ?_
  refine g6_20 _ rfl hR.t hR.r1 dX6_linksOf_9 rfl ?_
  refine T_iload1 dX6_linksOf_12 rfl ?_
  refine T_aald 3 _ (by decide) hR.tH rfl (by omega) (by decide) dX6_linksOf_13 rfl (hR.H (by omega)) ?_
  refine g6_113 _ rfl (hR.th (by omega)) (hR.h2 (by omega)) dX6_linksOf_14 rfl ?_
  refine T_goto 21 dX6_linksOf_17 (by decide) ?_
  refine T_iret rfl rfl dX6_linksOf_21 ?_
  exact ⟨congrArg (fun z => some (Value.int z)) (rfl), rfl, rfl, rfl⟩
set_option maxHeartbeats 1000000 in
theorem c_X6_frostOf {l : Launch} {D : va_G} {cA : Nat → ClassId} {n0 : Nat} {XW : State → Heap → Prop} (hX : SF n0 XW) {sz : Nat} {τ : TY} {M0 M : ME} {r a b c : Nat} {ρ : RH} {ν : NU} (hR : LM τ M0 M r a b c ρ ν) {j : Nat} (hj : j < a) : CT l D cA n0 XW mX6_frostOf 2 0 0 sz τ M [.ref r, .int (nI j)] (ROq (.int (ρ 43 j)) sz τ M) := by
  refine CT.of (ls := [.ref r, .int (nI j)]) (by decide) (Nat.le_of_ble_eq_true rfl) rfl ?_
  obtain ⟨l3, l4, l5⟩ := hR.ok
  refine T_aload0 dX6_frostOf_0 rfl ?_
  refine T_iload1 dX6_frostOf_1 rfl ?_
  refine T_cV1 (c_X6_hasStretch hX hR _) hX k6_91 (Or.inl ⟨_, _, _, _, hR.t, by decide, rfl⟩) (by decide) (Nat.le_of_ble_eq_true rfl) dX6_frostOf_2 rfl ?_
  rintro _ _ _ _ ⟨rfl, rfl, rfl, rfl⟩
  refine T_if_eq_f 20 8 dX6_frostOf_5 (by decide) rfl (by rw [hasI_t rfl rfl hj]; decide) ?_
  refine T_aload0 dX6_frostOf_8 rfl ?_
  refine g6_11 _ rfl hR.t hR.r0 dX6_frostOf_9 rfl ?_
  refine T_iload1 dX6_frostOf_12 rfl ?_
  refine T_aald 6 _ (by decide) hR.tS rfl (by omega) (by decide) dX6_frostOf_13 rfl (hR.S (by omega)) ?_
  refine g6_101 _ rfl (hR.ts (by omega)) (hR.s3 (by omega)) dX6_frostOf_14 rfl ?_
  refine T_goto 21 dX6_frostOf_17 (by decide) ?_
  refine T_iret rfl rfl dX6_frostOf_21 ?_
  exact ⟨congrArg (fun z => some (Value.int z)) (rfl), rfl, rfl, rfl⟩
set_option maxHeartbeats 1000000 in
theorem c_X6_isAtRaft {l : Launch} {D : va_G} {cA : Nat → ClassId} {n0 : Nat} {XW : State → Heap → Prop} (hX : SF n0 XW) {sz : Nat} {τ : TY} {M0 M : ME} {r a b c : Nat} {ρ : RH} {ν : NU} (hR : LM τ M0 M r a b c ρ ν) {j : Nat} (hj : j < c) : CT l D cA n0 XW mX6_isAtRaft 1 0 0 sz τ M [.ref r, .int (nI j)] (ROq (.int (if ρ 32 j = 3 then 1 else 0)) sz τ M) := by
  refine CT.of (ls := [.ref r, .int (nI j)]) (by decide) (Nat.le_of_ble_eq_true rfl) rfl ?_
  obtain ⟨l3, l4, l5⟩ := hR.ok
  refine T_iload1 dX6_isAtRaft_0 rfl ?_
  refine T_if_lt_f 29 4 dX6_isAtRaft_1 (by decide) rfl (nI_pos (by omega)) ?_
  refine T_iload1 dX6_isAtRaft_4 rfl ?_
  refine T_aload0 dX6_isAtRaft_5 rfl ?_
  refine g6_39 _ rfl hR.t hR.r5 dX6_isAtRaft_6 rfl ?_
  refine T_icmp_ge_f 29 12 dX6_isAtRaft_9 (by decide) rfl (fun q => absurd (le_out rfl q) (by omega)) ?_
  refine T_aload0 dX6_isAtRaft_12 rfl ?_
  refine g6_27 _ rfl hR.t hR.r2 dX6_isAtRaft_13 rfl ?_
  refine T_iload1 dX6_isAtRaft_16 rfl ?_
  refine T_aald 4 _ (by decide) hR.tL rfl (by omega) (by decide) dX6_isAtRaft_17 rfl (hR.L (by omega)) ?_
  refine g6_144 _ rfl (hR.tl (by omega)) (hR.l2 (by omega)) dX6_isAtRaft_18 rfl ?_
  refine T_iconst (3) dX6_isAtRaft_21 rfl rfl ?_
  refine T_icmp_ne 29 25 dX6_isAtRaft_22 (by decide) rfl (fun c22 => ?_) (fun c22 => ?_)
  ·
    refine T_iconst (0) dX6_isAtRaft_29 rfl rfl ?_
    refine T_iret rfl rfl dX6_isAtRaft_30 ?_
    exact ⟨congrArg (fun z => some (Value.int z)) (by simp [c22]), rfl, rfl, rfl⟩
  ·
    refine T_iconst (1) dX6_isAtRaft_25 rfl rfl ?_
    refine T_goto 30 dX6_isAtRaft_26 (by decide) ?_
    refine T_iret rfl rfl dX6_isAtRaft_30 ?_
    exact ⟨congrArg (fun z => some (Value.int z)) (by simp [c22]), rfl, rfl, rfl⟩
set_option maxHeartbeats 1000000 in
theorem c_X6_need {l : Launch} {D : va_G} {cA : Nat → ClassId} {n0 : Nat} {XW : State → Heap → Prop} (hX : SF n0 XW) {sz : Nat} {τ : TY} {M0 M : ME} {r a b c : Nat} {ρ : RH} {ν : NU} (hR : LM τ M0 M r a b c ρ ν) (x : Int32) {j : Nat} (hj : j < a) : CT l D cA n0 XW mX6_need 2 0 0 sz τ M [.ref r, .int x, .int (nI j)] (ROq (.int (needF c ρ x j)) sz τ M) := by
  refine CT.of (ls := [.ref r, .int x, .int (nI j)]) (by decide) (Nat.le_of_ble_eq_true rfl) rfl ?_
  obtain ⟨l3, l4, l5⟩ := hR.ok
  refine T_aload0 dX6_need_0 rfl ?_
  refine T_iload2 dX6_need_1 rfl ?_
  refine T_cV1 (c_X6_hasStretch hX hR _) hX k6_91 (Or.inl ⟨_, _, _, _, hR.t, by decide, rfl⟩) (by decide) (Nat.le_of_ble_eq_true rfl) dX6_need_2 rfl ?_
  rintro _ _ _ _ ⟨rfl, rfl, rfl, rfl⟩
  refine T_if_ne_t 10 dX6_need_5 (by decide) (by rw [hasI_t rfl rfl hj]; decide) ?_
  refine T_iconst (0) dX6_need_10 rfl rfl ?_
  refine T_aload0 dX6_need_11 rfl ?_
  refine T_iload1 dX6_need_12 rfl ?_
  refine T_cV1 (c_X6_loadOf hX hR _) hX k6_132 (Or.inl ⟨_, _, _, _, hR.t, by decide, rfl⟩) (by decide) (Nat.le_of_ble_eq_true rfl) dX6_need_13 rfl ?_
  rintro _ _ _ _ ⟨rfl, rfl, rfl, rfl⟩
  refine T_bipush (10) dX6_need_16 rfl rfl ?_
  refine T_aload0 dX6_need_18 rfl ?_
  refine g6_11 _ rfl hR.t hR.r0 dX6_need_19 rfl ?_
  refine T_iload2 dX6_need_22 rfl ?_
  refine T_aald 6 _ (by decide) hR.tS rfl (by omega) (by decide) dX6_need_23 rfl (hR.S (by omega)) ?_
  refine g6_98 _ rfl (hR.ts (by omega)) (hR.s2 (by omega)) dX6_need_24 rfl ?_
  refine T_iadd dX6_need_27 rfl ?_
  refine T_imul dX6_need_28 rfl ?_
  refine T_bipush (10) dX6_need_29 rfl rfl ?_
  refine T_idiv dX6_need_31 rfl (by decide) ?_
  refine T_aload0 dX6_need_32 rfl ?_
  refine g6_11 _ rfl hR.t hR.r0 dX6_need_33 rfl ?_
  refine T_iload2 dX6_need_36 rfl ?_
  refine T_aald 6 _ (by decide) hR.tS rfl (by omega) (by decide) dX6_need_37 rfl (hR.S (by omega)) ?_
  refine g6_101 _ rfl (hR.ts (by omega)) (hR.s3 (by omega)) dX6_need_38 rfl ?_
  refine T_isub dX6_need_41 rfl ?_
  refine T_max km6_153 (by decide) (Nat.le_of_ble_eq_true rfl) dX6_need_42 rfl ?_
  refine T_iret rfl rfl dX6_need_45 ?_
  exact ⟨congrArg (fun z => some (Value.int z)) (rfl), rfl, rfl, rfl⟩
set_option maxHeartbeats 1000000 in
theorem c_X6_total {l : Launch} {D : va_G} {cA : Nat → ClassId} {n0 : Nat} {XW : State → Heap → Prop} (hX : SF n0 XW) {sz : Nat} {τ : TY} {M0 M : ME} {r a b c : Nat} {ρ : RH} {ν : NU} (hR : LM τ M0 M r a b c ρ ν) {j : Nat} (hj : j < 12) : CT l D cA n0 XW mX6_total 2 0 0 sz τ M [.ref r, .int (nI j)] (ROq (.int (totF a b c ρ j)) sz τ M) := by
  refine CT.of (ls := [.ref r, .int (nI j)]) (by decide) (Nat.le_of_ble_eq_true rfl) rfl ?_
  obtain ⟨l3, l4, l5⟩ := hR.ok
  refine T_iload1 dX6_total_0 rfl ?_
  rcases (show j = 0 ∨ j = 1 ∨ j = 2 ∨ j = 3 ∨ j = 4 ∨ j = 5 ∨ j = 6 ∨ j = 7 ∨ j = 8 ∨ j = 9 ∨ j = 10 ∨ j = 11 by omega) with rfl | rfl | rfl | rfl | rfl | rfl | rfl | rfl | rfl | rfl | rfl | rfl
  ·
    refine T_tin (off := 59) 60 dX6_total_1 (by decide +kernel) (by decide +kernel) (by decide +kernel) (by decide) ?_
    refine T_aload0 dX6_total_60 rfl ?_
    refine g6_42 _ rfl hR.t hR.r6 dX6_total_61 rfl ?_
    refine T_iret rfl rfl dX6_total_64 ?_
    exact ⟨congrArg (fun z => some (Value.int z)) (rfl), rfl, rfl, rfl⟩
  ·
    refine T_tin (off := 64) 65 dX6_total_1 (by decide +kernel) (by decide +kernel) (by decide +kernel) (by decide) ?_
    refine T_aload0 dX6_total_65 rfl ?_
    refine g6_45 _ rfl hR.t hR.r7 dX6_total_66 rfl ?_
    refine T_iret rfl rfl dX6_total_69 ?_
    exact ⟨congrArg (fun z => some (Value.int z)) (rfl), rfl, rfl, rfl⟩
  ·
    refine T_tin (off := 69) 70 dX6_total_1 (by decide +kernel) (by decide +kernel) (by decide +kernel) (by decide) ?_
    refine T_aload0 dX6_total_70 rfl ?_
    refine g6_32 _ rfl hR.t hR.r3 dX6_total_71 rfl ?_
    refine T_iret rfl rfl dX6_total_74 ?_
    exact ⟨congrArg (fun z => some (Value.int z)) (rfl), rfl, rfl, rfl⟩
  ·
    refine T_tin (off := 74) 75 dX6_total_1 (by decide +kernel) (by decide +kernel) (by decide +kernel) (by decide) ?_
    refine T_aload0 dX6_total_75 rfl ?_
    refine g6_36 _ rfl hR.t hR.r4 dX6_total_76 rfl ?_
    refine T_iret rfl rfl dX6_total_79 ?_
    exact ⟨congrArg (fun z => some (Value.int z)) (rfl), rfl, rfl, rfl⟩
  ·
    refine T_tin (off := 79) 80 dX6_total_1 (by decide +kernel) (by decide +kernel) (by decide +kernel) (by decide) ?_
    refine T_aload0 dX6_total_80 rfl ?_
    refine g6_39 _ rfl hR.t hR.r5 dX6_total_81 rfl ?_
    refine T_iret rfl rfl dX6_total_84 ?_
    exact ⟨congrArg (fun z => some (Value.int z)) (rfl), rfl, rfl, rfl⟩
  ·
    refine T_tin (off := 84) 85 dX6_total_1 (by decide +kernel) (by decide +kernel) (by decide +kernel) (by decide) ?_
    refine T_aload0 dX6_total_85 rfl ?_
    refine T_iconst (0) dX6_total_86 rfl rfl ?_
    refine T_cV1 (c_X6_weightOf hX hR _) hX k6_77 (Or.inl ⟨_, _, _, _, hR.t, by decide, rfl⟩) (by decide) (Nat.le_of_ble_eq_true rfl) dX6_total_87 rfl ?_
    rintro _ _ _ _ ⟨rfl, rfl, rfl, rfl⟩
    refine T_iret rfl rfl dX6_total_90 ?_
    exact ⟨congrArg (fun z => some (Value.int z)) (rfl), rfl, rfl, rfl⟩
  ·
    refine T_tin (off := 90) 91 dX6_total_1 (by decide +kernel) (by decide +kernel) (by decide +kernel) (by decide) ?_
    refine T_aload0 dX6_total_91 rfl ?_
    refine T_iconst (3) dX6_total_92 rfl rfl ?_
    refine T_cV1 (c_X6_weightOf hX hR _) hX k6_77 (Or.inl ⟨_, _, _, _, hR.t, by decide, rfl⟩) (by decide) (Nat.le_of_ble_eq_true rfl) dX6_total_93 rfl ?_
    rintro _ _ _ _ ⟨rfl, rfl, rfl, rfl⟩
    refine T_iret rfl rfl dX6_total_96 ?_
    exact ⟨congrArg (fun z => some (Value.int z)) (rfl), rfl, rfl, rfl⟩
  ·
    refine T_tin (off := 96) 97 dX6_total_1 (by decide +kernel) (by decide +kernel) (by decide +kernel) (by decide) ?_
    refine T_aload0 dX6_total_97 rfl ?_
    refine T_iconst (3) dX6_total_98 rfl rfl ?_
    refine T_cV1 (c_X6_logsIn hX hR _) hX k6_81 (Or.inl ⟨_, _, _, _, hR.t, by decide, rfl⟩) (by decide) (Nat.le_of_ble_eq_true rfl) dX6_total_99 rfl ?_
    rintro _ _ _ _ ⟨rfl, rfl, rfl, rfl⟩
    refine T_iret rfl rfl dX6_total_102 ?_
    exact ⟨congrArg (fun z => some (Value.int z)) (rfl), rfl, rfl, rfl⟩
  ·
    refine T_tin (off := 102) 103 dX6_total_1 (by decide +kernel) (by decide +kernel) (by decide +kernel) (by decide) ?_
    refine T_aload0 dX6_total_103 rfl ?_
    refine T_iconst (2) dX6_total_104 rfl rfl ?_
    refine T_cV1 (c_X6_logsIn hX hR _) hX k6_81 (Or.inl ⟨_, _, _, _, hR.t, by decide, rfl⟩) (by decide) (Nat.le_of_ble_eq_true rfl) dX6_total_105 rfl ?_
    rintro _ _ _ _ ⟨rfl, rfl, rfl, rfl⟩
    refine T_iret rfl rfl dX6_total_108 ?_
    exact ⟨congrArg (fun z => some (Value.int z)) (rfl), rfl, rfl, rfl⟩
  ·
    refine T_tin (off := 108) 109 dX6_total_1 (by decide +kernel) (by decide +kernel) (by decide +kernel) (by decide) ?_
    refine T_aload0 dX6_total_109 rfl ?_
    refine g6_36 _ rfl hR.t hR.r4 dX6_total_110 rfl ?_
    refine T_aload0 dX6_total_113 rfl ?_
    refine T_iconst (-1) dX6_total_114 rfl rfl ?_
    refine T_cV1 (c_X6_horsesOn hX hR _) hX k6_84 (Or.inl ⟨_, _, _, _, hR.t, by decide, rfl⟩) (by decide) (Nat.le_of_ble_eq_true rfl) dX6_total_115 rfl ?_
    rintro _ _ _ _ ⟨rfl, rfl, rfl, rfl⟩
    refine T_isub dX6_total_118 rfl ?_
    refine T_iret rfl rfl dX6_total_119 ?_
    exact ⟨congrArg (fun z => some (Value.int z)) (rfl), rfl, rfl, rfl⟩
  ·
    refine T_tin (off := 119) 120 dX6_total_1 (by decide +kernel) (by decide +kernel) (by decide +kernel) (by decide) ?_
    refine T_aload0 dX6_total_120 rfl ?_
    refine T_cV0 (c_X6_allLinks hX hR) hX k6_87 (Or.inl ⟨_, _, _, _, hR.t, by decide, rfl⟩) (by decide) (Nat.le_of_ble_eq_true rfl) dX6_total_121 rfl ?_
    rintro _ _ _ _ ⟨rfl, rfl, rfl, rfl⟩
    refine T_iret rfl rfl dX6_total_124 ?_
    exact ⟨congrArg (fun z => some (Value.int z)) (rfl), rfl, rfl, rfl⟩
  ·
    refine T_tout 125 dX6_total_1 (by decide +kernel) (by decide) ?_
    refine T_aload0 dX6_total_125 rfl ?_
    refine g6_48 _ rfl hR.t hR.r8 dX6_total_126 rfl ?_
    refine T_iret rfl rfl dX6_total_129 ?_
    exact ⟨congrArg (fun z => some (Value.int z)) (rfl), rfl, rfl, rfl⟩
set_option maxHeartbeats 1000000 in
theorem c_X6_stretchFact {l : Launch} {D : va_G} {cA : Nat → ClassId} {n0 : Nat} {XW : State → Heap → Prop} (hX : SF n0 XW) {sz : Nat} {τ : TY} {M0 M : ME} {r a b c : Nat} {ρ : RH} {ν : NU} (hR : LM τ M0 M r a b c ρ ν) {i j : Nat} (hi : i < a) (hj : j < 5) : CT l D cA n0 XW mX6_stretchFact 2 0 0 sz τ M [.ref r, .int (nI i), .int (nI j)] (ROq (.int (stF b c ρ i j)) sz τ M) := by
  refine CT.of (ls := [.ref r, .int (nI i), .int (nI j), UU]) (by decide) (Nat.le_of_ble_eq_true rfl) rfl ?_
  obtain ⟨l3, l4, l5⟩ := hR.ok
  refine T_aload0 dX6_stretchFact_0 rfl ?_
  refine T_iload1 dX6_stretchFact_1 rfl ?_
  refine T_cV1 (c_X6_hasStretch hX hR _) hX k6_91 (Or.inl ⟨_, _, _, _, hR.t, by decide, rfl⟩) (by decide) (Nat.le_of_ble_eq_true rfl) dX6_stretchFact_2 rfl ?_
  rintro _ _ _ _ ⟨rfl, rfl, rfl, rfl⟩
  refine T_if_ne_t 10 dX6_stretchFact_5 (by decide) (by rw [hasI_t rfl rfl hi]; decide) ?_
  refine T_aload0 dX6_stretchFact_10 rfl ?_
  refine g6_11 _ rfl hR.t hR.r0 dX6_stretchFact_11 rfl ?_
  refine T_iload1 dX6_stretchFact_14 rfl ?_
  refine T_aald 6 _ (by decide) hR.tS rfl (by omega) (by decide) dX6_stretchFact_15 rfl (hR.S (by omega)) ?_
  refine T_astore3 rfl (by decide) dX6_stretchFact_16 rfl ?_
  refine T_iload2 dX6_stretchFact_17 rfl ?_
  rcases (show j = 0 ∨ j = 1 ∨ j = 2 ∨ j = 3 ∨ j = 4 by omega) with rfl | rfl | rfl | rfl | rfl
  ·
    refine T_tin (off := 30) 48 dX6_stretchFact_18 (by decide +kernel) (by decide +kernel) (by decide +kernel) (by decide) ?_
    refine T_aload3 dX6_stretchFact_48 rfl ?_
    refine g6_95 _ rfl (hR.ts (by omega)) (hR.s1 (by omega)) dX6_stretchFact_49 rfl ?_
    refine T_iret rfl rfl dX6_stretchFact_52 ?_
    exact ⟨congrArg (fun z => some (Value.int z)) (rfl), rfl, rfl, rfl⟩
  ·
    refine T_tin (off := 35) 53 dX6_stretchFact_18 (by decide +kernel) (by decide +kernel) (by decide +kernel) (by decide) ?_
    refine T_aload3 dX6_stretchFact_53 rfl ?_
    refine g6_98 _ rfl (hR.ts (by omega)) (hR.s2 (by omega)) dX6_stretchFact_54 rfl ?_
    refine T_iret rfl rfl dX6_stretchFact_57 ?_
    exact ⟨congrArg (fun z => some (Value.int z)) (rfl), rfl, rfl, rfl⟩
  ·
    refine T_tin (off := 40) 58 dX6_stretchFact_18 (by decide +kernel) (by decide +kernel) (by decide +kernel) (by decide) ?_
    refine T_aload3 dX6_stretchFact_58 rfl ?_
    refine g6_101 _ rfl (hR.ts (by omega)) (hR.s3 (by omega)) dX6_stretchFact_59 rfl ?_
    refine T_iret rfl rfl dX6_stretchFact_62 ?_
    exact ⟨congrArg (fun z => some (Value.int z)) (rfl), rfl, rfl, rfl⟩
  ·
    refine T_tin (off := 45) 63 dX6_stretchFact_18 (by decide +kernel) (by decide +kernel) (by decide +kernel) (by decide) ?_
    refine T_aload0 dX6_stretchFact_63 rfl ?_
    refine T_iload1 dX6_stretchFact_64 rfl ?_
    refine T_cV1 (c_X6_horsesOn hX hR _) hX k6_84 (Or.inl ⟨_, _, _, _, hR.t, by decide, rfl⟩) (by decide) (Nat.le_of_ble_eq_true rfl) dX6_stretchFact_65 rfl ?_
    rintro _ _ _ _ ⟨rfl, rfl, rfl, rfl⟩
    refine T_iret rfl rfl dX6_stretchFact_68 ?_
    exact ⟨congrArg (fun z => some (Value.int z)) (rfl), rfl, rfl, rfl⟩
  ·
    refine T_tout 69 dX6_stretchFact_18 (by decide +kernel) (by decide) ?_
    refine T_aload0 dX6_stretchFact_69 rfl ?_
    refine T_iload1 dX6_stretchFact_70 rfl ?_
    refine T_cV1 (c_X6_fallenOn hX hR _) hX k6_104 (Or.inl ⟨_, _, _, _, hR.t, by decide, rfl⟩) (by decide) (Nat.le_of_ble_eq_true rfl) dX6_stretchFact_71 rfl ?_
    rintro _ _ _ _ ⟨rfl, rfl, rfl, rfl⟩
    refine T_iret rfl rfl dX6_stretchFact_74 ?_
    exact ⟨congrArg (fun z => some (Value.int z)) (rfl), rfl, rfl, rfl⟩
set_option maxHeartbeats 1000000 in
theorem c_X6_logFact {l : Launch} {D : va_G} {cA : Nat → ClassId} {n0 : Nat} {XW : State → Heap → Prop} (hX : SF n0 XW) {sz : Nat} {τ : TY} {M0 M : ME} {r a b c : Nat} {ρ : RH} {ν : NU} (hR : LM τ M0 M r a b c ρ ν) {i j : Nat} (hi : i < c) (hj : j < 4) : CT l D cA n0 XW mX6_logFact 1 0 0 sz τ M [.ref r, .int (nI i), .int (nI j)] (ROq (.int (lgF ρ i j)) sz τ M) := by
  refine CT.of (ls := [.ref r, .int (nI i), .int (nI j), UU]) (by decide) (Nat.le_of_ble_eq_true rfl) rfl ?_
  obtain ⟨l3, l4, l5⟩ := hR.ok
  refine T_iload1 dX6_logFact_0 rfl ?_
  refine T_if_lt_f 12 4 dX6_logFact_1 (by decide) rfl (nI_pos (by omega)) ?_
  refine T_iload1 dX6_logFact_4 rfl ?_
  refine T_aload0 dX6_logFact_5 rfl ?_
  refine g6_39 _ rfl hR.t hR.r5 dX6_logFact_6 rfl ?_
  refine T_icmp_lt_t 14 dX6_logFact_9 (by decide) (nI_lt hi (by omega)) ?_
  refine T_aload0 dX6_logFact_14 rfl ?_
  refine g6_27 _ rfl hR.t hR.r2 dX6_logFact_15 rfl ?_
  refine T_iload1 dX6_logFact_18 rfl ?_
  refine T_aald 4 _ (by decide) hR.tL rfl (by omega) (by decide) dX6_logFact_19 rfl (hR.L (by omega)) ?_
  refine T_astore3 rfl (by decide) dX6_logFact_20 rfl ?_
  refine T_iload2 dX6_logFact_21 rfl ?_
  rcases (show j = 0 ∨ j = 1 ∨ j = 2 ∨ j = 3 by omega) with rfl | rfl | rfl | rfl
  ·
    refine T_tin (off := 26) 48 dX6_logFact_22 (by decide +kernel) (by decide +kernel) (by decide +kernel) (by decide) ?_
    refine T_aload3 dX6_logFact_48 rfl ?_
    refine g6_141 _ rfl (hR.tl (by omega)) (hR.l1 (by omega)) dX6_logFact_49 rfl ?_
    refine T_iret rfl rfl dX6_logFact_52 ?_
    exact ⟨congrArg (fun z => some (Value.int z)) (rfl), rfl, rfl, rfl⟩
  ·
    refine T_tin (off := 31) 53 dX6_logFact_22 (by decide +kernel) (by decide +kernel) (by decide +kernel) (by decide) ?_
    refine T_aload3 dX6_logFact_53 rfl ?_
    refine g6_144 _ rfl (hR.tl (by omega)) (hR.l2 (by omega)) dX6_logFact_54 rfl ?_
    refine T_iret rfl rfl dX6_logFact_57 ?_
    exact ⟨congrArg (fun z => some (Value.int z)) (rfl), rfl, rfl, rfl⟩
  ·
    refine T_tin (off := 36) 58 dX6_logFact_22 (by decide +kernel) (by decide +kernel) (by decide +kernel) (by decide) ?_
    refine T_aload3 dX6_logFact_58 rfl ?_
    refine g6_147 _ rfl (hR.tl (by omega)) (hR.l3 (by omega)) dX6_logFact_59 rfl ?_
    refine T_iret rfl rfl dX6_logFact_62 ?_
    exact ⟨congrArg (fun z => some (Value.int z)) (rfl), rfl, rfl, rfl⟩
  ·
    refine T_tout 63 dX6_logFact_22 (by decide +kernel) (by decide) ?_
    refine T_aload3 dX6_logFact_63 rfl ?_
    refine g6_150 _ rfl (hR.tl (by omega)) (hR.l4 (by omega)) dX6_logFact_64 rfl ?_
    refine T_iret rfl rfl dX6_logFact_67 ?_
    exact ⟨congrArg (fun z => some (Value.int z)) (rfl), rfl, rfl, rfl⟩
set_option maxHeartbeats 1000000 in
theorem c_X6_horseFact {l : Launch} {D : va_G} {cA : Nat → ClassId} {n0 : Nat} {XW : State → Heap → Prop} (hX : SF n0 XW) {sz : Nat} {τ : TY} {M0 M : ME} {r a b c : Nat} {ρ : RH} {ν : NU} (hR : LM τ M0 M r a b c ρ ν) (hB : RoadB b ρ) {i j : Nat} (hi : i < b) (hj : j < 10) : CT l D cA n0 XW mX6_horseFact 2 0 0 sz τ M [.ref r, .int (nI i), .int (nI j)] (ROq (.int (hsF c ρ i j)) sz τ M) := by
  refine CT.of (ls := [.ref r, .int (nI i), .int (nI j), UU]) (by decide) (Nat.le_of_ble_eq_true rfl) rfl ?_
  obtain ⟨l3, l4, l5⟩ := hR.ok
  obtain ⟨b1, b2, b3⟩ := hB i (by omega)
  refine T_aload0 dX6_horseFact_0 rfl ?_
  refine T_iload1 dX6_horseFact_1 rfl ?_
  refine T_cV1 (c_X6_hasHorse hX hR _) hX k6_107 (Or.inl ⟨_, _, _, _, hR.t, by decide, rfl⟩) (by decide) (Nat.le_of_ble_eq_true rfl) dX6_horseFact_2 rfl ?_
  rintro _ _ _ _ ⟨rfl, rfl, rfl, rfl⟩
  refine T_if_ne_t 10 dX6_horseFact_5 (by decide) (by rw [hasI_t rfl rfl hi]; decide) ?_
  refine T_aload0 dX6_horseFact_10 rfl ?_
  refine g6_20 _ rfl hR.t hR.r1 dX6_horseFact_11 rfl ?_
  refine T_iload1 dX6_horseFact_14 rfl ?_
  refine T_aald 3 _ (by decide) hR.tH rfl (by omega) (by decide) dX6_horseFact_15 rfl (hR.H (by omega)) ?_
  refine T_astore3 rfl (by decide) dX6_horseFact_16 rfl ?_
  refine T_iload2 dX6_horseFact_17 rfl ?_
  rcases (show j = 0 ∨ j = 1 ∨ j = 2 ∨ j = 3 ∨ j = 4 ∨ j = 5 ∨ j = 6 ∨ j = 7 ∨ j = 8 ∨ j = 9 by omega) with rfl | rfl | rfl | rfl | rfl | rfl | rfl | rfl | rfl | rfl
  ·
    refine T_tin (off := 50) 68 dX6_horseFact_18 (by decide +kernel) (by decide +kernel) (by decide +kernel) (by decide) ?_
    refine T_aload3 dX6_horseFact_68 rfl ?_
    refine g6_110 _ rfl (hR.th (by omega)) (hR.h1 (by omega)) dX6_horseFact_69 rfl ?_
    refine T_iret rfl rfl dX6_horseFact_72 ?_
    exact ⟨congrArg (fun z => some (Value.int z)) (by first | rfl | (rcases b1 with q | q <;> simp_all [hsF]; done) | (rcases b2 with q | q <;> simp_all [hsF]; done)), rfl, rfl, rfl⟩
  ·
    refine T_tin (off := 55) 73 dX6_horseFact_18 (by decide +kernel) (by decide +kernel) (by decide +kernel) (by decide) ?_
    refine T_aload3 dX6_horseFact_73 rfl ?_
    refine g6_113 _ rfl (hR.th (by omega)) (hR.h2 (by omega)) dX6_horseFact_74 rfl ?_
    refine T_iret rfl rfl dX6_horseFact_77 ?_
    exact ⟨congrArg (fun z => some (Value.int z)) (by first | rfl | (rcases b1 with q | q <;> simp_all [hsF]; done) | (rcases b2 with q | q <;> simp_all [hsF]; done)), rfl, rfl, rfl⟩
  ·
    refine T_tin (off := 60) 78 dX6_horseFact_18 (by decide +kernel) (by decide +kernel) (by decide +kernel) (by decide) ?_
    refine T_aload3 dX6_horseFact_78 rfl ?_
    refine g6_116 _ rfl (hR.th (by omega)) (hR.h3 (by omega)) dX6_horseFact_79 rfl ?_
    refine T_iret rfl rfl dX6_horseFact_82 ?_
    exact ⟨congrArg (fun z => some (Value.int z)) (by first | rfl | (rcases b1 with q | q <;> simp_all [hsF]; done) | (rcases b2 with q | q <;> simp_all [hsF]; done)), rfl, rfl, rfl⟩
  ·
    refine T_tin (off := 65) 83 dX6_horseFact_18 (by decide +kernel) (by decide +kernel) (by decide +kernel) (by decide) ?_
    refine T_aload3 dX6_horseFact_83 rfl ?_
    refine g6_119 _ rfl (hR.th (by omega)) (hR.h4 (by omega)) dX6_horseFact_84 rfl ?_
    refine T_if_eq 94 90 dX6_horseFact_87 (by decide) rfl (fun c87 => ?_) (fun c87 => ?_)
    ·
      refine T_iconst (0) dX6_horseFact_94 rfl rfl ?_
      refine T_iret rfl rfl dX6_horseFact_95 ?_
      exact ⟨congrArg (fun z => some (Value.int z)) (by first | rfl | (rcases b1 with q | q <;> simp_all [hsF]; done) | (rcases b2 with q | q <;> simp_all [hsF]; done)), rfl, rfl, rfl⟩
    ·
      refine T_iconst (1) dX6_horseFact_90 rfl rfl ?_
      refine T_goto 95 dX6_horseFact_91 (by decide) ?_
      refine T_iret rfl rfl dX6_horseFact_95 ?_
      exact ⟨congrArg (fun z => some (Value.int z)) (by first | rfl | (rcases b1 with q | q <;> simp_all [hsF]; done) | (rcases b2 with q | q <;> simp_all [hsF]; done)), rfl, rfl, rfl⟩
  ·
    refine T_tin (off := 78) 96 dX6_horseFact_18 (by decide +kernel) (by decide +kernel) (by decide +kernel) (by decide) ?_
    refine T_aload3 dX6_horseFact_96 rfl ?_
    refine g6_123 _ rfl (hR.th (by omega)) (hR.h5 (by omega)) dX6_horseFact_97 rfl ?_
    refine T_iret rfl rfl dX6_horseFact_100 ?_
    exact ⟨congrArg (fun z => some (Value.int z)) (by first | rfl | (rcases b1 with q | q <;> simp_all [hsF]; done) | (rcases b2 with q | q <;> simp_all [hsF]; done)), rfl, rfl, rfl⟩
  ·
    refine T_tin (off := 83) 101 dX6_horseFact_18 (by decide +kernel) (by decide +kernel) (by decide +kernel) (by decide) ?_
    refine T_aload3 dX6_horseFact_101 rfl ?_
    refine g6_126 _ rfl (hR.th (by omega)) (hR.h6 (by omega)) dX6_horseFact_102 rfl ?_
    refine T_if_eq 112 108 dX6_horseFact_105 (by decide) rfl (fun c105 => ?_) (fun c105 => ?_)
    ·
      refine T_iconst (0) dX6_horseFact_112 rfl rfl ?_
      refine T_iret rfl rfl dX6_horseFact_113 ?_
      exact ⟨congrArg (fun z => some (Value.int z)) (by first | rfl | (rcases b1 with q | q <;> simp_all [hsF]; done) | (rcases b2 with q | q <;> simp_all [hsF]; done)), rfl, rfl, rfl⟩
    ·
      refine T_iconst (1) dX6_horseFact_108 rfl rfl ?_
      refine T_goto 113 dX6_horseFact_109 (by decide) ?_
      refine T_iret rfl rfl dX6_horseFact_113 ?_
      exact ⟨congrArg (fun z => some (Value.int z)) (by first | rfl | (rcases b1 with q | q <;> simp_all [hsF]; done) | (rcases b2 with q | q <;> simp_all [hsF]; done)), rfl, rfl, rfl⟩
  ·
    refine T_tin (off := 96) 114 dX6_horseFact_18 (by decide +kernel) (by decide +kernel) (by decide +kernel) (by decide) ?_
    refine T_aload3 dX6_horseFact_114 rfl ?_
    refine g6_129 _ rfl (hR.th (by omega)) (hR.h7 (by omega)) dX6_horseFact_115 rfl ?_
    refine T_iret rfl rfl dX6_horseFact_118 ?_
    exact ⟨congrArg (fun z => some (Value.int z)) (by first | rfl | (rcases b1 with q | q <;> simp_all [hsF]; done) | (rcases b2 with q | q <;> simp_all [hsF]; done)), rfl, rfl, rfl⟩
  ·
    refine T_tin (off := 101) 119 dX6_horseFact_18 (by decide +kernel) (by decide +kernel) (by decide +kernel) (by decide) ?_
    refine T_aload0 dX6_horseFact_119 rfl ?_
    refine T_iload1 dX6_horseFact_120 rfl ?_
    refine T_cV1 (c_X6_loadOf hX hR _) hX k6_132 (Or.inl ⟨_, _, _, _, hR.t, by decide, rfl⟩) (by decide) (Nat.le_of_ble_eq_true rfl) dX6_horseFact_121 rfl ?_
    rintro _ _ _ _ ⟨rfl, rfl, rfl, rfl⟩
    refine T_iret rfl rfl dX6_horseFact_124 ?_
    exact ⟨congrArg (fun z => some (Value.int z)) (by first | rfl | (rcases b1 with q | q <;> simp_all [hsF]; done) | (rcases b2 with q | q <;> simp_all [hsF]; done)), rfl, rfl, rfl⟩
  ·
    refine T_tin (off := 107) 125 dX6_horseFact_18 (by decide +kernel) (by decide +kernel) (by decide +kernel) (by decide) ?_
    refine T_aload3 dX6_horseFact_125 rfl ?_
    refine g6_135 _ rfl (hR.th (by omega)) (hR.h8 (by omega)) dX6_horseFact_126 rfl ?_
    refine T_iret rfl rfl dX6_horseFact_129 ?_
    exact ⟨congrArg (fun z => some (Value.int z)) (by first | rfl | (rcases b1 with q | q <;> simp_all [hsF]; done) | (rcases b2 with q | q <;> simp_all [hsF]; done)), rfl, rfl, rfl⟩
  ·
    refine T_tout 130 dX6_horseFact_18 (by decide +kernel) (by decide) ?_
    refine T_aload3 dX6_horseFact_130 rfl ?_
    refine g6_138 _ rfl (hR.th (by omega)) (hR.h9 (by omega)) dX6_horseFact_131 rfl ?_
    refine T_iret rfl rfl dX6_horseFact_134 ?_
    exact ⟨congrArg (fun z => some (Value.int z)) (by first | rfl | (rcases b1 with q | q <;> simp_all [hsF]; done) | (rcases b2 with q | q <;> simp_all [hsF]; done)), rfl, rfl, rfl⟩
set_option maxHeartbeats 1000000 in
theorem L_X6_findStretch {l : Launch} {D : va_G} {cA : Nat → ClassId} {n0 : Nat} {XW : State → Heap → Prop} (hX : SF n0 XW) {sz : Nat} {τ : TY} {M0 M : ME} {r a b c : Nat} {ρ : RH} {ν : NU} (hR : LM τ M0 M r a b c ρ ν) (x : Int64) : ∀ (n : Nat) (k : Nat) (hk : k ≤ a) (ha : ∀ i, i < k → ν 4 i ≠ x), a - k < n → T l D cA n0 XW mX6_findStretch 1 0 0 sz τ M 2 [.ref r, .long x, UU, .int (nI k)] [] (ROq (.int (fdF (ν 4) x a)) sz τ M) (fun _ _ _ _ => False) := by
  intro n
  induction n with
  | zero => intros; omega
  | succ n ih =>
    intro k hk ha hn
    obtain ⟨l3, l4, l5⟩ := hR.ok
    refine T_iload3 dX6_findStretch_2 rfl ?_
    refine T_aload0 dX6_findStretch_3 rfl ?_
    refine g6_32 _ rfl hR.t hR.r3 dX6_findStretch_4 rfl ?_
    refine T_icmp_ge 32 10 dX6_findStretch_7 (by decide) rfl (fun c7 => ?_) (fun c7 => ?_)
    ·
      have c7 := le_out rfl c7
      refine T_iconst (-1) dX6_findStretch_32 rfl rfl ?_
      refine T_iret rfl rfl dX6_findStretch_33 ?_
      exact ⟨congrArg (fun z => some (Value.int z)) (by rw [fdF_no (fun i hi => ha i (by omega))]), rfl, rfl, rfl⟩
    ·
      have c7 := lt_in rfl c7
      refine T_aload0 dX6_findStretch_10 rfl ?_
      refine g6_11 _ rfl hR.t hR.r0 dX6_findStretch_11 rfl ?_
      refine T_iload3 dX6_findStretch_14 rfl ?_
      refine T_aald 6 _ (by decide) hR.tS rfl (by omega) (by decide) dX6_findStretch_15 rfl (hR.S (by omega)) ?_
      refine g6_71 _ rfl (hR.ts (by omega)) (hR.s0 (by omega)) dX6_findStretch_16 rfl ?_
      refine T_lload1 dX6_findStretch_19 rfl ?_
      refine T_lcmp dX6_findStretch_20 rfl ?_
      refine T_if_ne 26 24 dX6_findStretch_21 (by decide) rfl (fun c21 => ?_) (fun c21 => ?_)
      ·
        first | refine T_iinc3 rfl (by decide) dX6_findStretch_26 rfl (inc1 _) ?_ | refine T_iinc3 rfl (by decide) dX6_findStretch_26 rfl rfl ?_
        refine T_goto 2 dX6_findStretch_29 (by decide) ?_
        exact ih (k + 1) (by omega) (fun i hi => (Nat.lt_succ_iff_lt_or_eq.mp hi).elim (ha i) (fun q => by subst q; exact fun z => c21 ((lg_cmp_eq _ _).mpr z))) (by omega)
      ·
        refine T_iload3 dX6_findStretch_24 rfl ?_
        refine T_iret rfl rfl dX6_findStretch_25 ?_
        exact ⟨congrArg (fun z => some (Value.int z)) (by rw [fdF_at c7 ha (lg_cmp_0 c21)]), rfl, rfl, rfl⟩
set_option maxHeartbeats 1000000 in
theorem c_X6_findStretch {l : Launch} {D : va_G} {cA : Nat → ClassId} {n0 : Nat} {XW : State → Heap → Prop} (hX : SF n0 XW) {sz : Nat} {τ : TY} {M0 M : ME} {r a b c : Nat} {ρ : RH} {ν : NU} (hR : LM τ M0 M r a b c ρ ν) (x : Int64) : CT l D cA n0 XW mX6_findStretch 1 0 0 sz τ M [.ref r, .long x] (ROq (.int (fdF (ν 4) x a)) sz τ M) := by
  refine CT.of (ls := [.ref r, .long x, UU, UU]) (by decide) (Nat.le_of_ble_eq_true rfl) rfl ?_
  refine T_iconst (0) dX6_findStretch_0 rfl rfl ?_
  refine T_istore3 rfl (by decide) dX6_findStretch_1 rfl ?_
  exact L_X6_findStretch hX hR x (a + 1) 0 (Nat.zero_le _) (fun _ h => absurd h (Nat.not_lt_zero _)) (by omega)
set_option maxHeartbeats 1000000 in
theorem L_X6_findHorse {l : Launch} {D : va_G} {cA : Nat → ClassId} {n0 : Nat} {XW : State → Heap → Prop} (hX : SF n0 XW) {sz : Nat} {τ : TY} {M0 M : ME} {r a b c : Nat} {ρ : RH} {ν : NU} (hR : LM τ M0 M r a b c ρ ν) (x : Int64) : ∀ (n : Nat) (k : Nat) (hk : k ≤ b) (ha : ∀ i, i < k → ν 1 i ≠ x), b - k < n → T l D cA n0 XW mX6_findHorse 1 0 0 sz τ M 2 [.ref r, .long x, UU, .int (nI k)] [] (ROq (.int (fdF (ν 1) x b)) sz τ M) (fun _ _ _ _ => False) := by
  intro n
  induction n with
  | zero => intros; omega
  | succ n ih =>
    intro k hk ha hn
    obtain ⟨l3, l4, l5⟩ := hR.ok
    refine T_iload3 dX6_findHorse_2 rfl ?_
    refine T_aload0 dX6_findHorse_3 rfl ?_
    refine g6_36 _ rfl hR.t hR.r4 dX6_findHorse_4 rfl ?_
    refine T_icmp_ge 32 10 dX6_findHorse_7 (by decide) rfl (fun c7 => ?_) (fun c7 => ?_)
    ·
      have c7 := le_out rfl c7
      refine T_iconst (-1) dX6_findHorse_32 rfl rfl ?_
      refine T_iret rfl rfl dX6_findHorse_33 ?_
      exact ⟨congrArg (fun z => some (Value.int z)) (by rw [fdF_no (fun i hi => ha i (by omega))]), rfl, rfl, rfl⟩
    ·
      have c7 := lt_in rfl c7
      refine T_aload0 dX6_findHorse_10 rfl ?_
      refine g6_20 _ rfl hR.t hR.r1 dX6_findHorse_11 rfl ?_
      refine T_iload3 dX6_findHorse_14 rfl ?_
      refine T_aald 3 _ (by decide) hR.tH rfl (by omega) (by decide) dX6_findHorse_15 rfl (hR.H (by omega)) ?_
      refine g6_75 _ rfl (hR.th (by omega)) (hR.h0 (by omega)) dX6_findHorse_16 rfl ?_
      refine T_lload1 dX6_findHorse_19 rfl ?_
      refine T_lcmp dX6_findHorse_20 rfl ?_
      refine T_if_ne 26 24 dX6_findHorse_21 (by decide) rfl (fun c21 => ?_) (fun c21 => ?_)
      ·
        first | refine T_iinc3 rfl (by decide) dX6_findHorse_26 rfl (inc1 _) ?_ | refine T_iinc3 rfl (by decide) dX6_findHorse_26 rfl rfl ?_
        refine T_goto 2 dX6_findHorse_29 (by decide) ?_
        exact ih (k + 1) (by omega) (fun i hi => (Nat.lt_succ_iff_lt_or_eq.mp hi).elim (ha i) (fun q => by subst q; exact fun z => c21 ((lg_cmp_eq _ _).mpr z))) (by omega)
      ·
        refine T_iload3 dX6_findHorse_24 rfl ?_
        refine T_iret rfl rfl dX6_findHorse_25 ?_
        exact ⟨congrArg (fun z => some (Value.int z)) (by rw [fdF_at c7 ha (lg_cmp_0 c21)]), rfl, rfl, rfl⟩
set_option maxHeartbeats 1000000 in
theorem c_X6_findHorse {l : Launch} {D : va_G} {cA : Nat → ClassId} {n0 : Nat} {XW : State → Heap → Prop} (hX : SF n0 XW) {sz : Nat} {τ : TY} {M0 M : ME} {r a b c : Nat} {ρ : RH} {ν : NU} (hR : LM τ M0 M r a b c ρ ν) (x : Int64) : CT l D cA n0 XW mX6_findHorse 1 0 0 sz τ M [.ref r, .long x] (ROq (.int (fdF (ν 1) x b)) sz τ M) := by
  refine CT.of (ls := [.ref r, .long x, UU, UU]) (by decide) (Nat.le_of_ble_eq_true rfl) rfl ?_
  refine T_iconst (0) dX6_findHorse_0 rfl rfl ?_
  refine T_istore3 rfl (by decide) dX6_findHorse_1 rfl ?_
  exact L_X6_findHorse hX hR x (b + 1) 0 (Nat.zero_le _) (fun _ h => absurd h (Nat.not_lt_zero _)) (by omega)
set_option maxHeartbeats 1000000 in
theorem L_X6_findLog {l : Launch} {D : va_G} {cA : Nat → ClassId} {n0 : Nat} {XW : State → Heap → Prop} (hX : SF n0 XW) {sz : Nat} {τ : TY} {M0 M : ME} {r a b c : Nat} {ρ : RH} {ν : NU} (hR : LM τ M0 M r a b c ρ ν) (x : Int64) : ∀ (n : Nat) (k : Nat) (hk : k ≤ c) (ha : ∀ i, i < k → ν 3 i ≠ x), c - k < n → T l D cA n0 XW mX6_findLog 1 0 0 sz τ M 2 [.ref r, .long x, UU, .int (nI k)] [] (ROq (.int (fdF (ν 3) x c)) sz τ M) (fun _ _ _ _ => False) := by
  intro n
  induction n with
  | zero => intros; omega
  | succ n ih =>
    intro k hk ha hn
    obtain ⟨l3, l4, l5⟩ := hR.ok
    refine T_iload3 dX6_findLog_2 rfl ?_
    refine T_aload0 dX6_findLog_3 rfl ?_
    refine g6_39 _ rfl hR.t hR.r5 dX6_findLog_4 rfl ?_
    refine T_icmp_ge 32 10 dX6_findLog_7 (by decide) rfl (fun c7 => ?_) (fun c7 => ?_)
    ·
      have c7 := le_out rfl c7
      refine T_iconst (-1) dX6_findLog_32 rfl rfl ?_
      refine T_iret rfl rfl dX6_findLog_33 ?_
      exact ⟨congrArg (fun z => some (Value.int z)) (by rw [fdF_no (fun i hi => ha i (by omega))]), rfl, rfl, rfl⟩
    ·
      have c7 := lt_in rfl c7
      refine T_aload0 dX6_findLog_10 rfl ?_
      refine g6_27 _ rfl hR.t hR.r2 dX6_findLog_11 rfl ?_
      refine T_iload3 dX6_findLog_14 rfl ?_
      refine T_aald 4 _ (by decide) hR.tL rfl (by omega) (by decide) dX6_findLog_15 rfl (hR.L (by omega)) ?_
      refine g6_76 _ rfl (hR.tl (by omega)) (hR.l0 (by omega)) dX6_findLog_16 rfl ?_
      refine T_lload1 dX6_findLog_19 rfl ?_
      refine T_lcmp dX6_findLog_20 rfl ?_
      refine T_if_ne 26 24 dX6_findLog_21 (by decide) rfl (fun c21 => ?_) (fun c21 => ?_)
      ·
        first | refine T_iinc3 rfl (by decide) dX6_findLog_26 rfl (inc1 _) ?_ | refine T_iinc3 rfl (by decide) dX6_findLog_26 rfl rfl ?_
        refine T_goto 2 dX6_findLog_29 (by decide) ?_
        exact ih (k + 1) (by omega) (fun i hi => (Nat.lt_succ_iff_lt_or_eq.mp hi).elim (ha i) (fun q => by subst q; exact fun z => c21 ((lg_cmp_eq _ _).mpr z))) (by omega)
      ·
        refine T_iload3 dX6_findLog_24 rfl ?_
        refine T_iret rfl rfl dX6_findLog_25 ?_
        exact ⟨congrArg (fun z => some (Value.int z)) (by rw [fdF_at c7 ha (lg_cmp_0 c21)]), rfl, rfl, rfl⟩
set_option maxHeartbeats 1000000 in
theorem c_X6_findLog {l : Launch} {D : va_G} {cA : Nat → ClassId} {n0 : Nat} {XW : State → Heap → Prop} (hX : SF n0 XW) {sz : Nat} {τ : TY} {M0 M : ME} {r a b c : Nat} {ρ : RH} {ν : NU} (hR : LM τ M0 M r a b c ρ ν) (x : Int64) : CT l D cA n0 XW mX6_findLog 1 0 0 sz τ M [.ref r, .long x] (ROq (.int (fdF (ν 3) x c)) sz τ M) := by
  refine CT.of (ls := [.ref r, .long x, UU, UU]) (by decide) (Nat.le_of_ble_eq_true rfl) rfl ?_
  refine T_iconst (0) dX6_findLog_0 rfl rfl ?_
  refine T_istore3 rfl (by decide) dX6_findLog_1 rfl ?_
  exact L_X6_findLog hX hR x (c + 1) 0 (Nat.zero_le _) (fun _ h => absurd h (Nat.not_lt_zero _)) (by omega)
