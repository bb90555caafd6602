theorem bmod_nat {k : Nat} (h : k < 2 ^ 31) : ((k : Nat) : Int).bmod (2 ^ 32) = ((k : Nat) : Int) := Int.bmod_eq_of_le (by omega) (by omega)
theorem nI_div {a b : Nat} (ha : a < 2 ^ 31) (hb : b < 2 ^ 31) : nI a / nI b = nI (a / b) := by
  have hq : a / b ≤ a := Nat.div_le_self a b
  apply Int32.toInt_inj.mp
  rw [Int32.toInt_div, nI_toInt ha, nI_toInt hb, nI_toInt (n := a / b) (by omega)]
  have e : ((a : Int).tdiv (b : Int)) = ((a / b : Nat) : Int) := rfl
  rw [e]
  exact bmod_nat (by omega)
theorem nI_mod {a b : Nat} (ha : a < 2 ^ 31) (hb : b < 2 ^ 31) : nI a - nI a / nI b * nI b = nI (a % b) := by
  rw [nI_div ha hb, show nI (a / b) * nI b = nI (a / b * b) from (Int32.ofNat_mul (a / b) b).symm]
  have h1 := Nat.div_add_mod a b
  have h2 : a / b * b = b * (a / b) := Nat.mul_comm _ _
  rw [nI_sub (by omega) ha]
  exact congrArg nI (by omega)
def smF (cn : Nat → Nat) (ρ : RH) (kd n v : Nat) : Int32 := match kd with
  | 0 => nI n
  | 1 => minI (nI n) (wOf (cn 5) ρ 0 / 2)
  | 2 => nI n - ρ 18 (v % cn 4)
  | 3 => ρ 12 (v % cn 4) * nI n / 9 + ρ 43 (v % cn 3)
  | 4 => nI n + ρ 7 0 * 5 - ρ 6 0 / 10
  | _ => maxI (wOf (cn 5) ρ 3) (nI n) - ldOf (cn 5) ρ (nI (v % cn 4))
def hlF (cn : Nat → Nat) (ρ : RH) (kd n v : Nat) : Int32 := match kd with
  | 0 => if ρ 6 0 ≤ nI n then 0 else 1
  | 1 => if ρ 18 (v % cn 4) < nI n - nI n / 20 * 20 then 0 else 1
  | 2 => if wOf (cn 5) ρ 0 < nI n * 3 ∧ wOf (cn 5) ρ 3 ≤ nI n then 1 else 0
  | 3 => if 0 < flOf (cn 5) ρ (nI (v % cn 3)) ∨ ρ 43 (v % cn 3) - ρ 43 (v % cn 3) / 2 * 2 = 0 then 1 else 0
  | 4 => if ldOf (cn 5) ρ (nI (v % cn 4)) ≤ nI n then 0 else 1
  | 5 => if ¬ ρ 12 (v % cn 4) < nI n - nI n / 9 * 9 ∧ ¬ nI n - nI n / 3 * 3 < ρ 7 0 then 1 else 0
  | _ => if maxI (ρ 18 (v % cn 4)) (ldOf (cn 5) ρ (nI (n % cn 4))) - 1 ≤ nI n then 0 else 1
set_option maxHeartbeats 1000000 in
theorem c_X11_sum {l : Launch} {D : va_G} {cA : Nat → ClassId} {n0 : Nat} {XW : State → Heap → Prop} (hX : SF n0 XW) {sz : Nat} {τ : TY} {M0 M : ME} {j e : Nat} {A : Nat → Nat} {Rw : Nat → Nat → Nat} {cn : Nat → Nat} {ρ : RH} {μ : Nat → Int32} {κ ω : Nat → Nat → Int32} (hS : SM τ M0 M j e A Rw cn ρ μ κ ω) {i kd n v : Nat} (hi : i < cn 6) (h1 : κ i 1 = nI kd) (hkd : kd < 6) (h2 : κ i 2 = nI n) (h3 : κ i 3 = nI v) (hv : v < 10) : CT l D cA n0 XW mX11_sum 3 0 0 sz τ M [.ref j, .ref (Rw 6 i)] (ROq (.int (smF cn ρ kd n v)) sz τ M) := by
  refine CT.of (ls := [.ref j, .ref (Rw 6 i), UU, UU, UU]) (by decide) (Nat.le_of_ble_eq_true rfl) rfl ?_
  have hok := hS.ok
  unfold CnOK at hok
  have m4 : v % cn 4 < cn 4 := Nat.mod_lt _ (by omega)
  have m3 : v % cn 3 < cn 3 := Nat.mod_lt _ (by omega)
  refine T_aload1 dX11_sum_0 rfl ?_
  refine T_iconst (2) dX11_sum_1 rfl rfl ?_
  refine T_iald 2 (hS.tr6 hi) rfl (by decide) (by decide) dX11_sum_2 rfl (hS.g6_2 hi) ?_
  rw [h2]
  refine T_istore2 rfl (by decide) dX11_sum_3 rfl ?_
  refine T_aload1 dX11_sum_4 rfl ?_
  refine T_iconst (3) dX11_sum_5 rfl rfl ?_
  refine T_iald 3 (hS.tr6 hi) rfl (by decide) (by decide) dX11_sum_6 rfl (hS.g6_3 hi) ?_
  refine T_aload0 dX11_sum_7 rfl ?_
  refine g11_15 _ rfl hS.t0 (hS.pa (f := 4) (by decide) (by decide)) dX11_sum_8 rfl ?_
  refine T_alen (j := 8) hS.ta4 (by decide) dX11_sum_11 rfl ?_
  rw [h3]
  refine T_irem dX11_sum_12 rfl (fun q => by have := (nI_eq (a := cn 4) (b := 0) (by omega) (by omega)).mp q; omega) ?_
  rw [nI_mod (by omega) (by omega)]
  refine T_istore3 rfl (by decide) dX11_sum_13 rfl ?_
  refine T_aload1 dX11_sum_14 rfl ?_
  refine T_iconst (3) dX11_sum_15 rfl rfl ?_
  refine T_iald 3 (hS.tr6 hi) rfl (by decide) (by decide) dX11_sum_16 rfl (hS.g6_3 hi) ?_
  refine T_aload0 dX11_sum_17 rfl ?_
  refine g11_9 _ rfl hS.t0 (hS.pa (f := 3) (by decide) (by decide)) dX11_sum_18 rfl ?_
  refine T_alen (j := 8) hS.ta3 (by decide) dX11_sum_21 rfl ?_
  rw [h3]
  refine T_irem dX11_sum_22 rfl (fun q => by have := (nI_eq (a := cn 3) (b := 0) (by omega) (by omega)).mp q; omega) ?_
  rw [nI_mod (by omega) (by omega)]
  refine T_istore4 rfl (by decide) dX11_sum_23 rfl ?_
  refine T_aload1 dX11_sum_25 rfl ?_
  refine T_iconst (1) dX11_sum_26 rfl rfl ?_
  refine T_iald 1 (hS.tr6 hi) rfl (by decide) (by decide) dX11_sum_27 rfl (hS.g6_1 hi) ?_
  rw [h1]
  rcases (show kd = 0 ∨ kd = 1 ∨ kd = 2 ∨ kd = 3 ∨ kd = 4 ∨ kd = 5 by omega) with rfl | rfl | rfl | rfl | rfl | rfl
  ·
    refine T_tin (off := 36) 64 dX11_sum_28 (by decide +kernel) (by decide +kernel) (by decide +kernel) (by decide) ?_
    refine T_iload2 dX11_sum_64 rfl ?_
    refine T_iret rfl rfl dX11_sum_65 ?_
    exact ⟨rfl, rfl, rfl, rfl⟩
  ·
    refine T_tin (off := 38) 66 dX11_sum_28 (by decide +kernel) (by decide +kernel) (by decide +kernel) (by decide) ?_
    refine T_aload0 dX11_sum_66 rfl ?_
    refine T_iconst (0) dX11_sum_67 rfl rfl ?_
    refine T_iconst (-1) dX11_sum_68 rfl rfl ?_
    refine T_cV2 (c_X11_weigh hX hS 0 (-1)) hX k11_27 (Or.inl ⟨_, _, _, _, hS.t0, by decide, rfl⟩) (by decide) (Nat.le_of_ble_eq_true rfl) dX11_sum_69 rfl ?_
    rintro _ _ _ _ ⟨rfl, rfl, rfl, rfl⟩
    rw [wg_w]
    refine T_iconst (2) dX11_sum_72 rfl rfl ?_
    refine T_idiv dX11_sum_73 rfl (by decide) ?_
    refine T_iload2 dX11_sum_74 rfl ?_
    refine T_min km11_35 (by decide) (Nat.le_of_ble_eq_true rfl) dX11_sum_75 rfl ?_
    refine T_iret rfl rfl dX11_sum_78 ?_
    exact ⟨rfl, rfl, rfl, rfl⟩
  ·
    refine T_tin (off := 51) 79 dX11_sum_28 (by decide +kernel) (by decide +kernel) (by decide +kernel) (by decide) ?_
    refine T_iload2 dX11_sum_79 rfl ?_
    refine T_aload0 dX11_sum_80 rfl ?_
    refine g11_15 _ rfl hS.t0 (hS.pa (f := 4) (by decide) (by decide)) dX11_sum_81 rfl ?_
    refine T_iload3 dX11_sum_84 rfl ?_
    refine T_aaldA _ hS.ta4 rfl (by omega) (by omega) dX11_sum_85 rfl (hS.pr (f := 4) (by decide) (by decide) (by omega)) ?_
    refine T_bipush (7) dX11_sum_86 rfl rfl ?_
    refine T_iald 7 (hS.tr4 (by omega)) rfl (by decide) (by decide) dX11_sum_88 rfl (hS.g4_7 (by omega)) ?_
    refine T_isub dX11_sum_89 rfl ?_
    refine T_iret rfl rfl dX11_sum_90 ?_
    exact ⟨rfl, rfl, rfl, rfl⟩
  ·
    refine T_tin (off := 63) 91 dX11_sum_28 (by decide +kernel) (by decide +kernel) (by decide +kernel) (by decide) ?_
    refine T_aload0 dX11_sum_91 rfl ?_
    refine g11_15 _ rfl hS.t0 (hS.pa (f := 4) (by decide) (by decide)) dX11_sum_92 rfl ?_
    refine T_iload3 dX11_sum_95 rfl ?_
    refine T_aaldA _ hS.ta4 rfl (by omega) (by omega) dX11_sum_96 rfl (hS.pr (f := 4) (by decide) (by decide) (by omega)) ?_
    refine T_iconst (1) dX11_sum_97 rfl rfl ?_
    refine T_iald 1 (hS.tr4 (by omega)) rfl (by decide) (by decide) dX11_sum_98 rfl (hS.g4_1 (by omega)) ?_
    refine T_iload2 dX11_sum_99 rfl ?_
    refine T_imul dX11_sum_100 rfl ?_
    refine T_bipush (9) dX11_sum_101 rfl rfl ?_
    refine T_idiv dX11_sum_103 rfl (by decide) ?_
    refine T_aload0 dX11_sum_104 rfl ?_
    refine g11_9 _ rfl hS.t0 (hS.pa (f := 3) (by decide) (by decide)) dX11_sum_105 rfl ?_
    refine T_iload4 dX11_sum_108 rfl ?_
    refine T_aaldA _ hS.ta3 rfl (by omega) (by omega) dX11_sum_110 rfl (hS.pr (f := 3) (by decide) (by decide) (by omega)) ?_
    refine T_iconst (2) dX11_sum_111 rfl rfl ?_
    refine T_iald 2 (hS.tr3 (by omega)) rfl (by decide) (by decide) dX11_sum_112 rfl (hS.g3_2 (by omega)) ?_
    refine T_iadd dX11_sum_113 rfl ?_
    refine T_iret rfl rfl dX11_sum_114 ?_
    exact ⟨rfl, rfl, rfl, rfl⟩
  ·
    refine T_tin (off := 87) 115 dX11_sum_28 (by decide +kernel) (by decide +kernel) (by decide +kernel) (by decide) ?_
    refine T_iload2 dX11_sum_115 rfl ?_
    refine T_aload0 dX11_sum_116 rfl ?_
    refine g11_40 _ rfl hS.t0 hS.g0_1 dX11_sum_117 rfl ?_
    refine T_iconst (5) dX11_sum_120 rfl rfl ?_
    refine T_imul dX11_sum_121 rfl ?_
    refine T_iadd dX11_sum_122 rfl ?_
    refine T_aload0 dX11_sum_123 rfl ?_
    refine g11_44 _ rfl hS.t0 hS.g0_0 dX11_sum_124 rfl ?_
    refine T_bipush (10) dX11_sum_127 rfl rfl ?_
    refine T_idiv dX11_sum_129 rfl (by decide) ?_
    refine T_isub dX11_sum_130 rfl ?_
    refine T_iret rfl rfl dX11_sum_131 ?_
    exact ⟨rfl, rfl, rfl, rfl⟩
  ·
    refine T_tout 132 dX11_sum_28 (by decide +kernel) (by decide) ?_
    refine T_aload0 dX11_sum_132 rfl ?_
    refine T_iconst (3) dX11_sum_133 rfl rfl ?_
    refine T_iconst (-1) dX11_sum_134 rfl rfl ?_
    refine T_cV2 (c_X11_weigh hX hS 3 (-1)) hX k11_27 (Or.inl ⟨_, _, _, _, hS.t0, by decide, rfl⟩) (by decide) (Nat.le_of_ble_eq_true rfl) dX11_sum_135 rfl ?_
    rintro _ _ _ _ ⟨rfl, rfl, rfl, rfl⟩
    rw [wg_w]
    refine T_iload2 dX11_sum_138 rfl ?_
    refine T_max km11_47 (by decide) (Nat.le_of_ble_eq_true rfl) dX11_sum_139 rfl ?_
    refine T_aload0 dX11_sum_142 rfl ?_
    refine T_iload3 dX11_sum_143 rfl ?_
    refine T_cV1 (c_X11_load hX hS (nI_pos (by omega))) hX k11_31 (Or.inl ⟨_, _, _, _, hS.t0, by decide, rfl⟩) (by decide) (Nat.le_of_ble_eq_true rfl) dX11_sum_144 rfl ?_
    rintro _ _ _ _ ⟨rfl, rfl, rfl, rfl⟩
    refine T_isub dX11_sum_147 rfl ?_
    refine T_iret rfl rfl dX11_sum_148 ?_
    exact ⟨rfl, rfl, rfl, rfl⟩
set_option maxHeartbeats 1000000 in
theorem c_X11_holds {l : Launch} {D : va_G} {cA : Nat → ClassId} {n0 : Nat} {XW : State → Heap → Prop} (hX : SF n0 XW) {sz : Nat} {τ : TY} {M0 M : ME} {j e : Nat} {A : Nat → Nat} {Rw : Nat → Nat → Nat} {cn : Nat → Nat} {ρ : RH} {μ : Nat → Int32} {κ ω : Nat → Nat → Int32} (hS : SM τ M0 M j e A Rw cn ρ μ κ ω) {kd n v : Nat} (hkd : kd < 7) (hn : n < 60) (hv : v < 10) : CT l D cA n0 XW mX11_holds 3 0 0 sz τ M [.ref j, .int (nI kd), .int (nI n), .int (nI v)] (ROq (.int (hlF cn ρ kd n v)) sz τ M) := by
  refine CT.of (ls := [.ref j, .int (nI kd), .int (nI n), .int (nI v), UU, UU, UU]) (by decide) (Nat.le_of_ble_eq_true rfl) rfl ?_
  have hok := hS.ok
  unfold CnOK at hok
  have m4 : v % cn 4 < cn 4 := Nat.mod_lt _ (by omega)
  have m3 : v % cn 3 < cn 3 := Nat.mod_lt _ (by omega)
  have m5 : n % cn 4 < cn 4 := Nat.mod_lt _ (by omega)
  refine T_iload3 dX11_holds_0 rfl ?_
  refine T_aload0 dX11_holds_1 rfl ?_
  refine g11_15 _ rfl hS.t0 (hS.pa (f := 4) (by decide) (by decide)) dX11_holds_2 rfl ?_
  refine T_alen (j := 8) hS.ta4 (by decide) dX11_holds_5 rfl ?_
  refine T_irem dX11_holds_6 rfl (fun q => by have := (nI_eq (a := cn 4) (b := 0) (by omega) (by omega)).mp q; omega) ?_
  rw [nI_mod (by omega) (by omega)]
  refine T_istore4 rfl (by decide) dX11_holds_7 rfl ?_
  refine T_iload2 dX11_holds_9 rfl ?_
  refine T_aload0 dX11_holds_10 rfl ?_
  refine g11_15 _ rfl hS.t0 (hS.pa (f := 4) (by decide) (by decide)) dX11_holds_11 rfl ?_
  refine T_alen (j := 8) hS.ta4 (by decide) dX11_holds_14 rfl ?_
  refine T_irem dX11_holds_15 rfl (fun q => by have := (nI_eq (a := cn 4) (b := 0) (by omega) (by omega)).mp q; omega) ?_
  rw [nI_mod (by omega) (by omega)]
  refine T_istore5 rfl (by decide) dX11_holds_16 rfl ?_
  refine T_iload3 dX11_holds_18 rfl ?_
  refine T_aload0 dX11_holds_19 rfl ?_
  refine g11_9 _ rfl hS.t0 (hS.pa (f := 3) (by decide) (by decide)) dX11_holds_20 rfl ?_
  refine T_alen (j := 8) hS.ta3 (by decide) dX11_holds_23 rfl ?_
  refine T_irem dX11_holds_24 rfl (fun q => by have := (nI_eq (a := cn 3) (b := 0) (by omega) (by omega)).mp q; omega) ?_
  rw [nI_mod (by omega) (by omega)]
  refine T_istore6 rfl (by decide) dX11_holds_25 rfl ?_
  refine T_iload1 dX11_holds_27 rfl ?_
  rcases (show kd = 0 ∨ kd = 1 ∨ kd = 2 ∨ kd = 3 ∨ kd = 4 ∨ kd = 5 ∨ kd = 6 by omega) with rfl | rfl | rfl | rfl | rfl | rfl | rfl
  ·
    refine T_tin (off := 40) 68 dX11_holds_28 (by decide +kernel) (by decide +kernel) (by decide +kernel) (by decide) ?_
    refine T_aload0 dX11_holds_68 rfl ?_
    refine g11_44 _ rfl hS.t0 hS.g0_0 dX11_holds_69 rfl ?_
    refine T_iload2 dX11_holds_72 rfl ?_
    refine T_icmp_le 80 76 dX11_holds_73 (by decide) rfl (fun c73 => ?_) (fun c73 => ?_)
    ·
      refine T_iconst (0) dX11_holds_80 rfl rfl ?_
      refine T_iret rfl rfl dX11_holds_81 ?_
      refine ⟨congrArg (fun w9 => some (Value.int w9)) ?_, rfl, rfl, rfl⟩
      first | exact (if_pos c73).symm | exact (if_neg c73).symm
    ·
      refine T_iconst (1) dX11_holds_76 rfl rfl ?_
      refine T_goto 81 dX11_holds_77 (by decide) ?_
      refine T_iret rfl rfl dX11_holds_81 ?_
      refine ⟨congrArg (fun w9 => some (Value.int w9)) ?_, rfl, rfl, rfl⟩
      first | exact (if_pos c73).symm | exact (if_neg c73).symm
  ·
    refine T_tin (off := 54) 82 dX11_holds_28 (by decide +kernel) (by decide +kernel) (by decide +kernel) (by decide) ?_
    refine T_aload0 dX11_holds_82 rfl ?_
    refine g11_15 _ rfl hS.t0 (hS.pa (f := 4) (by decide) (by decide)) dX11_holds_83 rfl ?_
    refine T_iload4 dX11_holds_86 rfl ?_
    refine T_aaldA _ hS.ta4 rfl (by omega) (by omega) dX11_holds_88 rfl (hS.pr (f := 4) (by decide) (by decide) (by omega)) ?_
    refine T_bipush (7) dX11_holds_89 rfl rfl ?_
    refine T_iald 7 (hS.tr4 (by omega)) rfl (by decide) (by decide) dX11_holds_91 rfl (hS.g4_7 (by omega)) ?_
    refine T_iload2 dX11_holds_92 rfl ?_
    refine T_bipush (20) dX11_holds_93 rfl rfl ?_
    refine T_irem dX11_holds_95 rfl (by decide) ?_
    refine T_icmp_lt 103 99 dX11_holds_96 (by decide) rfl (fun c96 => ?_) (fun c96 => ?_)
    ·
      refine T_iconst (0) dX11_holds_103 rfl rfl ?_
      refine T_iret rfl rfl dX11_holds_104 ?_
      refine ⟨congrArg (fun w9 => some (Value.int w9)) ?_, rfl, rfl, rfl⟩
      first | exact (if_pos c96).symm | exact (if_neg c96).symm
    ·
      refine T_iconst (1) dX11_holds_99 rfl rfl ?_
      refine T_goto 104 dX11_holds_100 (by decide) ?_
      refine T_iret rfl rfl dX11_holds_104 ?_
      refine ⟨congrArg (fun w9 => some (Value.int w9)) ?_, rfl, rfl, rfl⟩
      first | exact (if_pos c96).symm | exact (if_neg c96).symm
  ·
    refine T_tin (off := 77) 105 dX11_holds_28 (by decide +kernel) (by decide +kernel) (by decide +kernel) (by decide) ?_
    refine T_aload0 dX11_holds_105 rfl ?_
    refine T_iconst (0) dX11_holds_106 rfl rfl ?_
    refine T_iconst (-1) dX11_holds_107 rfl rfl ?_
    refine T_cV2 (c_X11_weigh hX hS 0 (-1)) hX k11_27 (Or.inl ⟨_, _, _, _, hS.t0, by decide, rfl⟩) (by decide) (Nat.le_of_ble_eq_true rfl) dX11_holds_108 rfl ?_
    rintro _ _ _ _ ⟨rfl, rfl, rfl, rfl⟩
    rw [wg_w]
    refine T_iload2 dX11_holds_111 rfl ?_
    refine T_iconst (3) dX11_holds_112 rfl rfl ?_
    refine T_imul dX11_holds_113 rfl ?_
    refine T_icmp_ge 131 117 dX11_holds_114 (by decide) rfl (fun c114 => ?_) (fun c114 => ?_)
    ·
      refine T_iconst (0) dX11_holds_131 rfl rfl ?_
      refine T_iret rfl rfl dX11_holds_132 ?_
      refine ⟨congrArg (fun w9 => some (Value.int w9)) ?_, rfl, rfl, rfl⟩
      first | exact (if_pos (And.intro (Int32.not_le.mp c114) (Int32.not_lt.mp c124))).symm | exact (if_neg (fun q => absurd q.1 (Int32.not_lt.mpr c114))).symm | exact (if_neg (fun q => absurd q.2 (Int32.not_le.mpr c124))).symm
    ·
      refine T_aload0 dX11_holds_117 rfl ?_
      refine T_iconst (3) dX11_holds_118 rfl rfl ?_
      refine T_iconst (-1) dX11_holds_119 rfl rfl ?_
      refine T_cV2 (c_X11_weigh hX hS 3 (-1)) hX k11_27 (Or.inl ⟨_, _, _, _, hS.t0, by decide, rfl⟩) (by decide) (Nat.le_of_ble_eq_true rfl) dX11_holds_120 rfl ?_
      rintro _ _ _ _ ⟨rfl, rfl, rfl, rfl⟩
      rw [wg_w]
      refine T_iload2 dX11_holds_123 rfl ?_
      refine T_icmp_gt 131 127 dX11_holds_124 (by decide) rfl (fun c124 => ?_) (fun c124 => ?_)
      ·
        refine T_iconst (0) dX11_holds_131 rfl rfl ?_
        refine T_iret rfl rfl dX11_holds_132 ?_
        refine ⟨congrArg (fun w9 => some (Value.int w9)) ?_, rfl, rfl, rfl⟩
        first | exact (if_pos (And.intro (Int32.not_le.mp c114) (Int32.not_lt.mp c124))).symm | exact (if_neg (fun q => absurd q.1 (Int32.not_lt.mpr c114))).symm | exact (if_neg (fun q => absurd q.2 (Int32.not_le.mpr c124))).symm
      ·
        refine T_iconst (1) dX11_holds_127 rfl rfl ?_
        refine T_goto 132 dX11_holds_128 (by decide) ?_
        refine T_iret rfl rfl dX11_holds_132 ?_
        refine ⟨congrArg (fun w9 => some (Value.int w9)) ?_, rfl, rfl, rfl⟩
        first | exact (if_pos (And.intro (Int32.not_le.mp c114) (Int32.not_lt.mp c124))).symm | exact (if_neg (fun q => absurd q.1 (Int32.not_lt.mpr c114))).symm | exact (if_neg (fun q => absurd q.2 (Int32.not_le.mpr c124))).symm
  ·
    refine T_tin (off := 105) 133 dX11_holds_28 (by decide +kernel) (by decide +kernel) (by decide +kernel) (by decide) ?_
    refine T_aload0 dX11_holds_133 rfl ?_
    refine T_iconst (2) dX11_holds_134 rfl rfl ?_
    refine T_iload6 dX11_holds_135 rfl ?_
    refine T_cV2 (c_X11_number hX hS 2 (nI (v % cn 3))) hX k11_50 (Or.inl ⟨_, _, _, _, hS.t0, by decide, rfl⟩) (by decide) (Nat.le_of_ble_eq_true rfl) dX11_holds_137 rfl ?_
    rintro _ _ _ _ ⟨rfl, rfl, rfl, rfl⟩
    rw [nu_f (nI_pos (by omega))]
    refine T_if_gt 157 143 dX11_holds_140 (by decide) rfl (fun c140 => ?_) (fun c140 => ?_)
    ·
      refine T_iconst (1) dX11_holds_157 rfl rfl ?_
      refine T_goto 162 dX11_holds_158 (by decide) ?_
      refine T_iret rfl rfl dX11_holds_162 ?_
      refine ⟨congrArg (fun w9 => some (Value.int w9)) ?_, rfl, rfl, rfl⟩
      first | exact (if_pos (Or.inl c140)).symm | exact (if_pos (Or.inr c154)).symm | exact (if_neg (fun q => q.elim c140 c154)).symm
    ·
      refine T_aload0 dX11_holds_143 rfl ?_
      refine g11_9 _ rfl hS.t0 (hS.pa (f := 3) (by decide) (by decide)) dX11_holds_144 rfl ?_
      refine T_iload6 dX11_holds_147 rfl ?_
      refine T_aaldA _ hS.ta3 rfl (by omega) (by omega) dX11_holds_149 rfl (hS.pr (f := 3) (by decide) (by decide) (by omega)) ?_
      refine T_iconst (2) dX11_holds_150 rfl rfl ?_
      refine T_iald 2 (hS.tr3 (by omega)) rfl (by decide) (by decide) dX11_holds_151 rfl (hS.g3_2 (by omega)) ?_
      refine T_iconst (2) dX11_holds_152 rfl rfl ?_
      refine T_irem dX11_holds_153 rfl (by decide) ?_
      refine T_if_ne 161 157 dX11_holds_154 (by decide) rfl (fun c154 => ?_) (fun c154 => ?_)
      ·
        refine T_iconst (0) dX11_holds_161 rfl rfl ?_
        refine T_iret rfl rfl dX11_holds_162 ?_
        refine ⟨congrArg (fun w9 => some (Value.int w9)) ?_, rfl, rfl, rfl⟩
        first | exact (if_pos (Or.inl c140)).symm | exact (if_pos (Or.inr c154)).symm | exact (if_neg (fun q => q.elim c140 c154)).symm
      ·
        refine T_iconst (1) dX11_holds_157 rfl rfl ?_
        refine T_goto 162 dX11_holds_158 (by decide) ?_
        refine T_iret rfl rfl dX11_holds_162 ?_
        refine ⟨congrArg (fun w9 => some (Value.int w9)) ?_, rfl, rfl, rfl⟩
        first | exact (if_pos (Or.inl c140)).symm | exact (if_pos (Or.inr c154)).symm | exact (if_neg (fun q => q.elim c140 c154)).symm
  ·
    refine T_tin (off := 135) 163 dX11_holds_28 (by decide +kernel) (by decide +kernel) (by decide +kernel) (by decide) ?_
    refine T_aload0 dX11_holds_163 rfl ?_
    refine T_iload4 dX11_holds_164 rfl ?_
    refine T_cV1 (c_X11_load hX hS (nI_pos (by omega))) hX k11_31 (Or.inl ⟨_, _, _, _, hS.t0, by decide, rfl⟩) (by decide) (Nat.le_of_ble_eq_true rfl) dX11_holds_166 rfl ?_
    rintro _ _ _ _ ⟨rfl, rfl, rfl, rfl⟩
    refine T_iload2 dX11_holds_169 rfl ?_
    refine T_icmp_le 177 173 dX11_holds_170 (by decide) rfl (fun c170 => ?_) (fun c170 => ?_)
    ·
      refine T_iconst (0) dX11_holds_177 rfl rfl ?_
      refine T_iret rfl rfl dX11_holds_178 ?_
      refine ⟨congrArg (fun w9 => some (Value.int w9)) ?_, rfl, rfl, rfl⟩
      first | exact (if_pos c170).symm | exact (if_neg c170).symm
    ·
      refine T_iconst (1) dX11_holds_173 rfl rfl ?_
      refine T_goto 178 dX11_holds_174 (by decide) ?_
      refine T_iret rfl rfl dX11_holds_178 ?_
      refine ⟨congrArg (fun w9 => some (Value.int w9)) ?_, rfl, rfl, rfl⟩
      first | exact (if_pos c170).symm | exact (if_neg c170).symm
  ·
    refine T_tin (off := 151) 179 dX11_holds_28 (by decide +kernel) (by decide +kernel) (by decide +kernel) (by decide) ?_
    refine T_aload0 dX11_holds_179 rfl ?_
    refine g11_15 _ rfl hS.t0 (hS.pa (f := 4) (by decide) (by decide)) dX11_holds_180 rfl ?_
    refine T_iload4 dX11_holds_183 rfl ?_
    refine T_aaldA _ hS.ta4 rfl (by omega) (by omega) dX11_holds_185 rfl (hS.pr (f := 4) (by decide) (by decide) (by omega)) ?_
    refine T_iconst (1) dX11_holds_186 rfl rfl ?_
    refine T_iald 1 (hS.tr4 (by omega)) rfl (by decide) (by decide) dX11_holds_187 rfl (hS.g4_1 (by omega)) ?_
    refine T_iload2 dX11_holds_188 rfl ?_
    refine T_bipush (9) dX11_holds_189 rfl rfl ?_
    refine T_irem dX11_holds_191 rfl (by decide) ?_
    refine T_icmp_lt 209 195 dX11_holds_192 (by decide) rfl (fun c192 => ?_) (fun c192 => ?_)
    ·
      refine T_iconst (0) dX11_holds_209 rfl rfl ?_
      refine T_iret rfl rfl dX11_holds_210 ?_
      refine ⟨congrArg (fun w9 => some (Value.int w9)) ?_, rfl, rfl, rfl⟩
      show _ = if _ then _ else _
      first | (rw [if_pos (And.intro c192 c202)]; done) | (rw [if_neg (fun q => q.1 c192)]; done) | (rw [if_neg (fun q => q.2 c202)]; done)
    ·
      refine T_aload0 dX11_holds_195 rfl ?_
      refine g11_40 _ rfl hS.t0 hS.g0_1 dX11_holds_196 rfl ?_
      refine T_iload2 dX11_holds_199 rfl ?_
      refine T_iconst (3) dX11_holds_200 rfl rfl ?_
      refine T_irem dX11_holds_201 rfl (by decide) ?_
      refine T_icmp_gt 209 205 dX11_holds_202 (by decide) rfl (fun c202 => ?_) (fun c202 => ?_)
      ·
        refine T_iconst (0) dX11_holds_209 rfl rfl ?_
        refine T_iret rfl rfl dX11_holds_210 ?_
        refine ⟨congrArg (fun w9 => some (Value.int w9)) ?_, rfl, rfl, rfl⟩
        show _ = if _ then _ else _
        first | (rw [if_pos (And.intro c192 c202)]; done) | (rw [if_neg (fun q => q.1 c192)]; done) | (rw [if_neg (fun q => q.2 c202)]; done)
      ·
        refine T_iconst (1) dX11_holds_205 rfl rfl ?_
        refine T_goto 210 dX11_holds_206 (by decide) ?_
        refine T_iret rfl rfl dX11_holds_210 ?_
        refine ⟨congrArg (fun w9 => some (Value.int w9)) ?_, rfl, rfl, rfl⟩
        show _ = if _ then _ else _
        first | (rw [if_pos (And.intro c192 c202)]; done) | (rw [if_neg (fun q => q.1 c192)]; done) | (rw [if_neg (fun q => q.2 c202)]; done)
  ·
    refine T_tout 211 dX11_holds_28 (by decide +kernel) (by decide) ?_
    refine T_aload0 dX11_holds_211 rfl ?_
    refine g11_15 _ rfl hS.t0 (hS.pa (f := 4) (by decide) (by decide)) dX11_holds_212 rfl ?_
    refine T_iload4 dX11_holds_215 rfl ?_
    refine T_aaldA _ hS.ta4 rfl (by omega) (by omega) dX11_holds_217 rfl (hS.pr (f := 4) (by decide) (by decide) (by omega)) ?_
    refine T_bipush (7) dX11_holds_218 rfl rfl ?_
    refine T_iald 7 (hS.tr4 (by omega)) rfl (by decide) (by decide) dX11_holds_220 rfl (hS.g4_7 (by omega)) ?_
    refine T_aload0 dX11_holds_221 rfl ?_
    refine T_iload5 dX11_holds_222 rfl ?_
    refine T_cV1 (c_X11_load hX hS (nI_pos (by omega))) hX k11_31 (Or.inl ⟨_, _, _, _, hS.t0, by decide, rfl⟩) (by decide) (Nat.le_of_ble_eq_true rfl) dX11_holds_224 rfl ?_
    rintro _ _ _ _ ⟨rfl, rfl, rfl, rfl⟩
    refine T_max km11_47 (by decide) (Nat.le_of_ble_eq_true rfl) dX11_holds_227 rfl ?_
    refine T_iconst (1) dX11_holds_230 rfl rfl ?_
    refine T_isub dX11_holds_231 rfl ?_
    refine T_iload2 dX11_holds_232 rfl ?_
    refine T_icmp_le 240 236 dX11_holds_233 (by decide) rfl (fun c233 => ?_) (fun c233 => ?_)
    ·
      refine T_iconst (0) dX11_holds_240 rfl rfl ?_
      refine T_iret rfl rfl dX11_holds_241 ?_
      refine ⟨congrArg (fun w9 => some (Value.int w9)) ?_, rfl, rfl, rfl⟩
      first | exact (if_pos c233).symm | exact (if_neg c233).symm
    ·
      refine T_iconst (1) dX11_holds_236 rfl rfl ?_
      refine T_goto 241 dX11_holds_237 (by decide) ?_
      refine T_iret rfl rfl dX11_holds_241 ?_
      refine ⟨congrArg (fun w9 => some (Value.int w9)) ?_, rfl, rfl, rfl⟩
      first | exact (if_pos c233).symm | exact (if_neg c233).symm
