set_option maxHeartbeats 1000000 in
theorem c_X6_hasStretch {l : Launch} {D : va_G} {cA : Nat → ClassId} {n0 : Nat} {XW : State → Heap → Prop} (hX : SF n0 XW) {sz : Nat} {τ : TY} {M0 M : ME} {r a b c : Nat} {ρ : RH} {ν : NU} (hR : LM τ M0 M r a b c ρ ν) (x : Int32) : CT l D cA n0 XW mX6_hasStretch 1 0 0 sz τ M [.ref r, .int x] (ROq (.int (hasI x (nI a))) sz τ M) := by
  refine CT.of (ls := [.ref r, .int x]) (by decide) (Nat.le_of_ble_eq_true rfl) rfl ?_
  refine T_iload1 dX6_hasStretch_0 rfl ?_
  refine T_if_lt 16 4 dX6_hasStretch_1 (by decide) rfl (fun c1 => ?_) (fun c1 => ?_)
  ·
    refine T_iconst (0) dX6_hasStretch_16 rfl rfl ?_
    refine T_iret rfl rfl dX6_hasStretch_17 ?_
    exact ⟨congrArg (fun z => some (Value.int z)) (by first | exact hasI_1 c1 c9 | exact hasI_0b c9 | exact hasI_0a c1), rfl, rfl, rfl⟩
  ·
    refine T_iload1 dX6_hasStretch_4 rfl ?_
    refine T_aload0 dX6_hasStretch_5 rfl ?_
    refine g6_32 _ rfl hR.t hR.r3 dX6_hasStretch_6 rfl ?_
    refine T_icmp_ge 16 12 dX6_hasStretch_9 (by decide) rfl (fun c9 => ?_) (fun c9 => ?_)
    ·
      refine T_iconst (0) dX6_hasStretch_16 rfl rfl ?_
      refine T_iret rfl rfl dX6_hasStretch_17 ?_
      exact ⟨congrArg (fun z => some (Value.int z)) (by first | exact hasI_1 c1 c9 | exact hasI_0b c9 | exact hasI_0a c1), rfl, rfl, rfl⟩
    ·
      refine T_iconst (1) dX6_hasStretch_12 rfl rfl ?_
      refine T_goto 17 dX6_hasStretch_13 (by decide) ?_
      refine T_iret rfl rfl dX6_hasStretch_17 ?_
      exact ⟨congrArg (fun z => some (Value.int z)) (by first | exact hasI_1 c1 c9 | exact hasI_0b c9 | exact hasI_0a c1), rfl, rfl, rfl⟩
set_option maxHeartbeats 1000000 in
theorem c_X6_hasHorse {l : Launch} {D : va_G} {cA : Nat → ClassId} {n0 : Nat} {XW : State → Heap → Prop} (hX : SF n0 XW) {sz : Nat} {τ : TY} {M0 M : ME} {r a b c : Nat} {ρ : RH} {ν : NU} (hR : LM τ M0 M r a b c ρ ν) (x : Int32) : CT l D cA n0 XW mX6_hasHorse 1 0 0 sz τ M [.ref r, .int x] (ROq (.int (hasI x (nI b))) sz τ M) := by
  refine CT.of (ls := [.ref r, .int x]) (by decide) (Nat.le_of_ble_eq_true rfl) rfl ?_
  refine T_iload1 dX6_hasHorse_0 rfl ?_
  refine T_if_lt 16 4 dX6_hasHorse_1 (by decide) rfl (fun c1 => ?_) (fun c1 => ?_)
  ·
    refine T_iconst (0) dX6_hasHorse_16 rfl rfl ?_
    refine T_iret rfl rfl dX6_hasHorse_17 ?_
    exact ⟨congrArg (fun z => some (Value.int z)) (by first | exact hasI_1 c1 c9 | exact hasI_0b c9 | exact hasI_0a c1), rfl, rfl, rfl⟩
  ·
    refine T_iload1 dX6_hasHorse_4 rfl ?_
    refine T_aload0 dX6_hasHorse_5 rfl ?_
    refine g6_36 _ rfl hR.t hR.r4 dX6_hasHorse_6 rfl ?_
    refine T_icmp_ge 16 12 dX6_hasHorse_9 (by decide) rfl (fun c9 => ?_) (fun c9 => ?_)
    ·
      refine T_iconst (0) dX6_hasHorse_16 rfl rfl ?_
      refine T_iret rfl rfl dX6_hasHorse_17 ?_
      exact ⟨congrArg (fun z => some (Value.int z)) (by first | exact hasI_1 c1 c9 | exact hasI_0b c9 | exact hasI_0a c1), rfl, rfl, rfl⟩
    ·
      refine T_iconst (1) dX6_hasHorse_12 rfl rfl ?_
      refine T_goto 17 dX6_hasHorse_13 (by decide) ?_
      refine T_iret rfl rfl dX6_hasHorse_17 ?_
      exact ⟨congrArg (fun z => some (Value.int z)) (by first | exact hasI_1 c1 c9 | exact hasI_0b c9 | exact hasI_0a c1), rfl, rfl, rfl⟩
set_option maxHeartbeats 1000000 in
theorem L_X6_weightOf {l : Launch} {D : va_G} {cA : Nat → ClassId} {n0 : Nat} {XW : State → Heap → Prop} (hX : SF n0 XW) {sz : Nat} {τ : TY} {M0 M : ME} {r a b c : Nat} {ρ : RH} {ν : NU} (hR : LM τ M0 M r a b c ρ ν) (x : Int32) : ∀ (n : Nat) (k : Nat) (acc : Int32) (hk : k ≤ c) (ha : acc = sm (fun l => if ρ 32 l = x then ρ 31 l else 0) k), c - k < n → T l D cA n0 XW mX6_weightOf 1 0 0 sz τ M 4 [.ref r, .int x, .int acc, .int (nI k)] [] (ROq (.int (wOf c ρ x)) sz τ M) (fun _ _ _ _ => False) := by
  intro n
  induction n with
  | zero => intros; omega
  | succ n ih =>
    intro k acc hk ha hn
    obtain ⟨l3, l4, l5⟩ := hR.ok
    refine T_iload3 dX6_weightOf_4 rfl ?_
    refine T_aload0 dX6_weightOf_5 rfl ?_
    refine g6_39 _ rfl hR.t hR.r5 dX6_weightOf_6 rfl ?_
    refine T_icmp_ge 47 12 dX6_weightOf_9 (by decide) rfl (fun c9 => ?_) (fun c9 => ?_)
    ·
      have c9 := le_out rfl c9
      refine T_iload2 dX6_weightOf_47 rfl ?_
      refine T_iret rfl rfl dX6_weightOf_48 ?_
      have hkk : k = c := by omega
      subst hkk
      exact ⟨congrArg (fun z => some (Value.int z)) ha, rfl, rfl, rfl⟩
    ·
      have c9 := lt_in rfl c9
      refine T_iload2 dX6_weightOf_12 rfl ?_
      refine T_aload0 dX6_weightOf_13 rfl ?_
      refine g6_27 _ rfl hR.t hR.r2 dX6_weightOf_14 rfl ?_
      refine T_iload3 dX6_weightOf_17 rfl ?_
      refine T_aald 4 _ (by decide) hR.tL rfl (by omega) (by decide) dX6_weightOf_18 rfl (hR.L (by omega)) ?_
      refine g6_144 _ rfl (hR.tl (by omega)) (hR.l2 (by omega)) dX6_weightOf_19 rfl ?_
      refine T_iload1 dX6_weightOf_22 rfl ?_
      refine T_icmp_ne 38 26 dX6_weightOf_23 (by decide) rfl (fun c23 => ?_) (fun c23 => ?_)
      ·
        refine T_iconst (0) dX6_weightOf_38 rfl rfl ?_
        refine T_iadd dX6_weightOf_39 rfl ?_
        refine T_istore2 rfl (by decide) dX6_weightOf_40 rfl ?_
        first | refine T_iinc3 rfl (by decide) dX6_weightOf_41 rfl (inc1 _) ?_ | refine T_iinc3 rfl (by decide) dX6_weightOf_41 rfl rfl ?_
        refine T_goto 4 dX6_weightOf_44 (by decide) ?_
        exact ih (k + 1) _ (by omega) (by rw [sm, ha]; simp [c23]) (by omega)
      ·
        refine T_aload0 dX6_weightOf_26 rfl ?_
        refine g6_27 _ rfl hR.t hR.r2 dX6_weightOf_27 rfl ?_
        refine T_iload3 dX6_weightOf_30 rfl ?_
        refine T_aald 4 _ (by decide) hR.tL rfl (by omega) (by decide) dX6_weightOf_31 rfl (hR.L (by omega)) ?_
        refine g6_141 _ rfl (hR.tl (by omega)) (hR.l1 (by omega)) dX6_weightOf_32 rfl ?_
        refine T_goto 39 dX6_weightOf_35 (by decide) ?_
        refine T_iadd dX6_weightOf_39 rfl ?_
        refine T_istore2 rfl (by decide) dX6_weightOf_40 rfl ?_
        first | refine T_iinc3 rfl (by decide) dX6_weightOf_41 rfl (inc1 _) ?_ | refine T_iinc3 rfl (by decide) dX6_weightOf_41 rfl rfl ?_
        refine T_goto 4 dX6_weightOf_44 (by decide) ?_
        exact ih (k + 1) _ (by omega) (by rw [sm, ha]; simp [c23]) (by omega)
set_option maxHeartbeats 1000000 in
theorem c_X6_weightOf {l : Launch} {D : va_G} {cA : Nat → ClassId} {n0 : Nat} {XW : State → Heap → Prop} (hX : SF n0 XW) {sz : Nat} {τ : TY} {M0 M : ME} {r a b c : Nat} {ρ : RH} {ν : NU} (hR : LM τ M0 M r a b c ρ ν) (x : Int32) : CT l D cA n0 XW mX6_weightOf 1 0 0 sz τ M [.ref r, .int x] (ROq (.int (wOf c ρ x)) sz τ M) := by
  refine CT.of (ls := [.ref r, .int x, UU, UU]) (by decide) (Nat.le_of_ble_eq_true rfl) rfl ?_
  refine T_iconst (0) dX6_weightOf_0 rfl rfl ?_
  refine T_istore2 rfl (by decide) dX6_weightOf_1 rfl ?_
  refine T_iconst (0) dX6_weightOf_2 rfl rfl ?_
  refine T_istore3 rfl (by decide) dX6_weightOf_3 rfl ?_
  exact L_X6_weightOf hX hR x (c + 1) 0 0 (Nat.zero_le _) rfl (by omega)
set_option maxHeartbeats 1000000 in
theorem L_X6_logsIn {l : Launch} {D : va_G} {cA : Nat → ClassId} {n0 : Nat} {XW : State → Heap → Prop} (hX : SF n0 XW) {sz : Nat} {τ : TY} {M0 M : ME} {r a b c : Nat} {ρ : RH} {ν : NU} (hR : LM τ M0 M r a b c ρ ν) (x : Int32) : ∀ (n : Nat) (k : Nat) (acc : Int32) (hk : k ≤ c) (ha : acc = sm (fun l => if ρ 32 l = x then 1 else 0) k), c - k < n → T l D cA n0 XW mX6_logsIn 1 0 0 sz τ M 4 [.ref r, .int x, .int acc, .int (nI k)] [] (ROq (.int (nOf c ρ x)) sz τ M) (fun _ _ _ _ => False) := by
  intro n
  induction n with
  | zero => intros; omega
  | succ n ih =>
    intro k acc hk ha hn
    obtain ⟨l3, l4, l5⟩ := hR.ok
    refine T_iload3 dX6_logsIn_4 rfl ?_
    refine T_aload0 dX6_logsIn_5 rfl ?_
    refine g6_39 _ rfl hR.t hR.r5 dX6_logsIn_6 rfl ?_
    refine T_icmp_ge 39 12 dX6_logsIn_9 (by decide) rfl (fun c9 => ?_) (fun c9 => ?_)
    ·
      have c9 := le_out rfl c9
      refine T_iload2 dX6_logsIn_39 rfl ?_
      refine T_iret rfl rfl dX6_logsIn_40 ?_
      have hkk : k = c := by omega
      subst hkk
      exact ⟨congrArg (fun z => some (Value.int z)) ha, rfl, rfl, rfl⟩
    ·
      have c9 := lt_in rfl c9
      refine T_iload2 dX6_logsIn_12 rfl ?_
      refine T_aload0 dX6_logsIn_13 rfl ?_
      refine g6_27 _ rfl hR.t hR.r2 dX6_logsIn_14 rfl ?_
      refine T_iload3 dX6_logsIn_17 rfl ?_
      refine T_aald 4 _ (by decide) hR.tL rfl (by omega) (by decide) dX6_logsIn_18 rfl (hR.L (by omega)) ?_
      refine g6_144 _ rfl (hR.tl (by omega)) (hR.l2 (by omega)) dX6_logsIn_19 rfl ?_
      refine T_iload1 dX6_logsIn_22 rfl ?_
      refine T_icmp_ne 30 26 dX6_logsIn_23 (by decide) rfl (fun c23 => ?_) (fun c23 => ?_)
      ·
        refine T_iconst (0) dX6_logsIn_30 rfl rfl ?_
        refine T_iadd dX6_logsIn_31 rfl ?_
        refine T_istore2 rfl (by decide) dX6_logsIn_32 rfl ?_
        first | refine T_iinc3 rfl (by decide) dX6_logsIn_33 rfl (inc1 _) ?_ | refine T_iinc3 rfl (by decide) dX6_logsIn_33 rfl rfl ?_
        refine T_goto 4 dX6_logsIn_36 (by decide) ?_
        exact ih (k + 1) _ (by omega) (by rw [sm, ha]; simp [c23]) (by omega)
      ·
        refine T_iconst (1) dX6_logsIn_26 rfl rfl ?_
        refine T_goto 31 dX6_logsIn_27 (by decide) ?_
        refine T_iadd dX6_logsIn_31 rfl ?_
        refine T_istore2 rfl (by decide) dX6_logsIn_32 rfl ?_
        first | refine T_iinc3 rfl (by decide) dX6_logsIn_33 rfl (inc1 _) ?_ | refine T_iinc3 rfl (by decide) dX6_logsIn_33 rfl rfl ?_
        refine T_goto 4 dX6_logsIn_36 (by decide) ?_
        exact ih (k + 1) _ (by omega) (by rw [sm, ha]; simp [c23]) (by omega)
set_option maxHeartbeats 1000000 in
theorem c_X6_logsIn {l : Launch} {D : va_G} {cA : Nat → ClassId} {n0 : Nat} {XW : State → Heap → Prop} (hX : SF n0 XW) {sz : Nat} {τ : TY} {M0 M : ME} {r a b c : Nat} {ρ : RH} {ν : NU} (hR : LM τ M0 M r a b c ρ ν) (x : Int32) : CT l D cA n0 XW mX6_logsIn 1 0 0 sz τ M [.ref r, .int x] (ROq (.int (nOf c ρ x)) sz τ M) := by
  refine CT.of (ls := [.ref r, .int x, UU, UU]) (by decide) (Nat.le_of_ble_eq_true rfl) rfl ?_
  refine T_iconst (0) dX6_logsIn_0 rfl rfl ?_
  refine T_istore2 rfl (by decide) dX6_logsIn_1 rfl ?_
  refine T_iconst (0) dX6_logsIn_2 rfl rfl ?_
  refine T_istore3 rfl (by decide) dX6_logsIn_3 rfl ?_
  exact L_X6_logsIn hX hR x (c + 1) 0 0 (Nat.zero_le _) rfl (by omega)
set_option maxHeartbeats 1000000 in
theorem L_X6_horsesOn {l : Launch} {D : va_G} {cA : Nat → ClassId} {n0 : Nat} {XW : State → Heap → Prop} (hX : SF n0 XW) {sz : Nat} {τ : TY} {M0 M : ME} {r a b c : Nat} {ρ : RH} {ν : NU} (hR : LM τ M0 M r a b c ρ ν) (x : Int32) : ∀ (n : Nat) (k : Nat) (acc : Int32) (hk : k ≤ b) (ha : acc = sm (fun l => if ρ 15 l = x then 1 else 0) k), b - k < n → T l D cA n0 XW mX6_horsesOn 1 0 0 sz τ M 4 [.ref r, .int x, .int acc, .int (nI k)] [] (ROq (.int (hsOn b ρ x)) sz τ M) (fun _ _ _ _ => False) := by
  intro n
  induction n with
  | zero => intros; omega
  | succ n ih =>
    intro k acc hk ha hn
    obtain ⟨l3, l4, l5⟩ := hR.ok
    refine T_iload3 dX6_horsesOn_4 rfl ?_
    refine T_aload0 dX6_horsesOn_5 rfl ?_
    refine g6_36 _ rfl hR.t hR.r4 dX6_horsesOn_6 rfl ?_
    refine T_icmp_ge 39 12 dX6_horsesOn_9 (by decide) rfl (fun c9 => ?_) (fun c9 => ?_)
    ·
      have c9 := le_out rfl c9
      refine T_iload2 dX6_horsesOn_39 rfl ?_
      refine T_iret rfl rfl dX6_horsesOn_40 ?_
      have hkk : k = b := by omega
      subst hkk
      exact ⟨congrArg (fun z => some (Value.int z)) ha, rfl, rfl, rfl⟩
    ·
      have c9 := lt_in rfl c9
      refine T_iload2 dX6_horsesOn_12 rfl ?_
      refine T_aload0 dX6_horsesOn_13 rfl ?_
      refine g6_20 _ rfl hR.t hR.r1 dX6_horsesOn_14 rfl ?_
      refine T_iload3 dX6_horsesOn_17 rfl ?_
      refine T_aald 3 _ (by decide) hR.tH rfl (by omega) (by decide) dX6_horsesOn_18 rfl (hR.H (by omega)) ?_
      refine g6_123 _ rfl (hR.th (by omega)) (hR.h5 (by omega)) dX6_horsesOn_19 rfl ?_
      refine T_iload1 dX6_horsesOn_22 rfl ?_
      refine T_icmp_ne 30 26 dX6_horsesOn_23 (by decide) rfl (fun c23 => ?_) (fun c23 => ?_)
      ·
        refine T_iconst (0) dX6_horsesOn_30 rfl rfl ?_
        refine T_iadd dX6_horsesOn_31 rfl ?_
        refine T_istore2 rfl (by decide) dX6_horsesOn_32 rfl ?_
        first | refine T_iinc3 rfl (by decide) dX6_horsesOn_33 rfl (inc1 _) ?_ | refine T_iinc3 rfl (by decide) dX6_horsesOn_33 rfl rfl ?_
        refine T_goto 4 dX6_horsesOn_36 (by decide) ?_
        exact ih (k + 1) _ (by omega) (by rw [sm, ha]; simp [c23]) (by omega)
      ·
        refine T_iconst (1) dX6_horsesOn_26 rfl rfl ?_
        refine T_goto 31 dX6_horsesOn_27 (by decide) ?_
        refine T_iadd dX6_horsesOn_31 rfl ?_
        refine T_istore2 rfl (by decide) dX6_horsesOn_32 rfl ?_
        first | refine T_iinc3 rfl (by decide) dX6_horsesOn_33 rfl (inc1 _) ?_ | refine T_iinc3 rfl (by decide) dX6_horsesOn_33 rfl rfl ?_
        refine T_goto 4 dX6_horsesOn_36 (by decide) ?_
        exact ih (k + 1) _ (by omega) (by rw [sm, ha]; simp [c23]) (by omega)
set_option maxHeartbeats 1000000 in
theorem c_X6_horsesOn {l : Launch} {D : va_G} {cA : Nat → ClassId} {n0 : Nat} {XW : State → Heap → Prop} (hX : SF n0 XW) {sz : Nat} {τ : TY} {M0 M : ME} {r a b c : Nat} {ρ : RH} {ν : NU} (hR : LM τ M0 M r a b c ρ ν) (x : Int32) : CT l D cA n0 XW mX6_horsesOn 1 0 0 sz τ M [.ref r, .int x] (ROq (.int (hsOn b ρ x)) sz τ M) := by
  refine CT.of (ls := [.ref r, .int x, UU, UU]) (by decide) (Nat.le_of_ble_eq_true rfl) rfl ?_
  refine T_iconst (0) dX6_horsesOn_0 rfl rfl ?_
  refine T_istore2 rfl (by decide) dX6_horsesOn_1 rfl ?_
  refine T_iconst (0) dX6_horsesOn_2 rfl rfl ?_
  refine T_istore3 rfl (by decide) dX6_horsesOn_3 rfl ?_
  exact L_X6_horsesOn hX hR x (b + 1) 0 0 (Nat.zero_le _) rfl (by omega)
set_option maxHeartbeats 1000000 in
theorem L_X6_loadOf {l : Launch} {D : va_G} {cA : Nat → ClassId} {n0 : Nat} {XW : State → Heap → Prop} (hX : SF n0 XW) {sz : Nat} {τ : TY} {M0 M : ME} {r a b c : Nat} {ρ : RH} {ν : NU} (hR : LM τ M0 M r a b c ρ ν) (x : Int32) : ∀ (n : Nat) (k : Nat) (acc : Int32) (u : Value) (hk : k ≤ c) (ha : acc = sm (fun l => if ρ 32 l = 1 ∧ ρ 33 l = x then ρ 31 l else 0) k), c - k < n → T l D cA n0 XW mX6_loadOf 1 0 0 sz τ M 4 [.ref r, .int x, .int acc, .int (nI k), u] [] (ROq (.int (ldOf c ρ x)) sz τ M) (fun _ _ _ _ => False) := by
  intro n
  induction n with
  | zero => intros; omega
  | succ n ih =>
    intro k acc u hk ha hn
    obtain ⟨l3, l4, l5⟩ := hR.ok
    refine T_iload3 dX6_loadOf_4 rfl ?_
    refine T_aload0 dX6_loadOf_5 rfl ?_
    refine g6_39 _ rfl hR.t hR.r5 dX6_loadOf_6 rfl ?_
    refine T_icmp_ge 56 12 dX6_loadOf_9 (by decide) rfl (fun c9 => ?_) (fun c9 => ?_)
    ·
      have c9 := le_out rfl c9
      refine T_iload2 dX6_loadOf_56 rfl ?_
      refine T_iret rfl rfl dX6_loadOf_57 ?_
      have hkk : k = c := by omega
      subst hkk
      exact ⟨congrArg (fun z => some (Value.int z)) ha, rfl, rfl, rfl⟩
    ·
      have c9 := lt_in rfl c9
      refine T_aload0 dX6_loadOf_12 rfl ?_
      refine g6_27 _ rfl hR.t hR.r2 dX6_loadOf_13 rfl ?_
      refine T_iload3 dX6_loadOf_16 rfl ?_
      refine T_aald 4 _ (by decide) hR.tL rfl (by omega) (by decide) dX6_loadOf_17 rfl (hR.L (by omega)) ?_
      refine T_astore4 rfl (by decide) dX6_loadOf_18 rfl ?_
      refine T_iload2 dX6_loadOf_20 rfl ?_
      refine T_aload4 dX6_loadOf_21 rfl ?_
      refine g6_144 _ rfl (hR.tl (by omega)) (hR.l2 (by omega)) dX6_loadOf_23 rfl ?_
      refine T_iconst (1) dX6_loadOf_26 rfl rfl ?_
      refine T_icmp_ne 47 30 dX6_loadOf_27 (by decide) rfl (fun c27 => ?_) (fun c27 => ?_)
      ·
        refine T_iconst (0) dX6_loadOf_47 rfl rfl ?_
        refine T_iadd dX6_loadOf_48 rfl ?_
        refine T_istore2 rfl (by decide) dX6_loadOf_49 rfl ?_
        first | refine T_iinc3 rfl (by decide) dX6_loadOf_50 rfl (inc1 _) ?_ | refine T_iinc3 rfl (by decide) dX6_loadOf_50 rfl rfl ?_
        refine T_goto 4 dX6_loadOf_53 (by decide) ?_
        exact ih (k + 1) _ _ (by omega) (by rw [sm, ha]; first | (simp [c27, c36]; done) | (simp [c27]; done)) (by omega)
      ·
        refine T_aload4 dX6_loadOf_30 rfl ?_
        refine g6_147 _ rfl (hR.tl (by omega)) (hR.l3 (by omega)) dX6_loadOf_32 rfl ?_
        refine T_iload1 dX6_loadOf_35 rfl ?_
        refine T_icmp_ne 47 39 dX6_loadOf_36 (by decide) rfl (fun c36 => ?_) (fun c36 => ?_)
        ·
          refine T_iconst (0) dX6_loadOf_47 rfl rfl ?_
          refine T_iadd dX6_loadOf_48 rfl ?_
          refine T_istore2 rfl (by decide) dX6_loadOf_49 rfl ?_
          first | refine T_iinc3 rfl (by decide) dX6_loadOf_50 rfl (inc1 _) ?_ | refine T_iinc3 rfl (by decide) dX6_loadOf_50 rfl rfl ?_
          refine T_goto 4 dX6_loadOf_53 (by decide) ?_
          exact ih (k + 1) _ _ (by omega) (by rw [sm, ha]; first | (simp [c27, c36]; done) | (simp [c27]; done)) (by omega)
        ·
          refine T_aload4 dX6_loadOf_39 rfl ?_
          refine g6_141 _ rfl (hR.tl (by omega)) (hR.l1 (by omega)) dX6_loadOf_41 rfl ?_
          refine T_goto 48 dX6_loadOf_44 (by decide) ?_
          refine T_iadd dX6_loadOf_48 rfl ?_
          refine T_istore2 rfl (by decide) dX6_loadOf_49 rfl ?_
          first | refine T_iinc3 rfl (by decide) dX6_loadOf_50 rfl (inc1 _) ?_ | refine T_iinc3 rfl (by decide) dX6_loadOf_50 rfl rfl ?_
          refine T_goto 4 dX6_loadOf_53 (by decide) ?_
          exact ih (k + 1) _ _ (by omega) (by rw [sm, ha]; first | (simp [c27, c36]; done) | (simp [c27]; done)) (by omega)
set_option maxHeartbeats 1000000 in
theorem c_X6_loadOf {l : Launch} {D : va_G} {cA : Nat → ClassId} {n0 : Nat} {XW : State → Heap → Prop} (hX : SF n0 XW) {sz : Nat} {τ : TY} {M0 M : ME} {r a b c : Nat} {ρ : RH} {ν : NU} (hR : LM τ M0 M r a b c ρ ν) (x : Int32) : CT l D cA n0 XW mX6_loadOf 1 0 0 sz τ M [.ref r, .int x] (ROq (.int (ldOf c ρ x)) sz τ M) := by
  refine CT.of (ls := [.ref r, .int x, UU, UU, UU]) (by decide) (Nat.le_of_ble_eq_true rfl) rfl ?_
  refine T_iconst (0) dX6_loadOf_0 rfl rfl ?_
  refine T_istore2 rfl (by decide) dX6_loadOf_1 rfl ?_
  refine T_iconst (0) dX6_loadOf_2 rfl rfl ?_
  refine T_istore3 rfl (by decide) dX6_loadOf_3 rfl ?_
  exact L_X6_loadOf hX hR x (c + 1) 0 0 UU (Nat.zero_le _) rfl (by omega)
set_option maxHeartbeats 1000000 in
theorem L_X6_fallenOn {l : Launch} {D : va_G} {cA : Nat → ClassId} {n0 : Nat} {XW : State → Heap → Prop} (hX : SF n0 XW) {sz : Nat} {τ : TY} {M0 M : ME} {r a b c : Nat} {ρ : RH} {ν : NU} (hR : LM τ M0 M r a b c ρ ν) (x : Int32) : ∀ (n : Nat) (k : Nat) (acc : Int32) (u : Value) (hk : k ≤ c) (ha : acc = sm (fun l => if ρ 32 l = 2 ∧ ρ 33 l = x then 1 else 0) k), c - k < n → T l D cA n0 XW mX6_fallenOn 1 0 0 sz τ M 4 [.ref r, .int x, .int acc, .int (nI k), u] [] (ROq (.int (flOf c ρ x)) sz τ M) (fun _ _ _ _ => False) := by
  intro n
  induction n with
  | zero => intros; omega
  | succ n ih =>
    intro k acc u hk ha hn
    obtain ⟨l3, l4, l5⟩ := hR.ok
    refine T_iload3 dX6_fallenOn_4 rfl ?_
    refine T_aload0 dX6_fallenOn_5 rfl ?_
    refine g6_39 _ rfl hR.t hR.r5 dX6_fallenOn_6 rfl ?_
    refine T_icmp_ge 52 12 dX6_fallenOn_9 (by decide) rfl (fun c9 => ?_) (fun c9 => ?_)
    ·
      have c9 := le_out rfl c9
      refine T_iload2 dX6_fallenOn_52 rfl ?_
      refine T_iret rfl rfl dX6_fallenOn_53 ?_
      have hkk : k = c := by omega
      subst hkk
      exact ⟨congrArg (fun z => some (Value.int z)) ha, rfl, rfl, rfl⟩
    ·
      have c9 := lt_in rfl c9
      refine T_aload0 dX6_fallenOn_12 rfl ?_
      refine g6_27 _ rfl hR.t hR.r2 dX6_fallenOn_13 rfl ?_
      refine T_iload3 dX6_fallenOn_16 rfl ?_
      refine T_aald 4 _ (by decide) hR.tL rfl (by omega) (by decide) dX6_fallenOn_17 rfl (hR.L (by omega)) ?_
      refine T_astore4 rfl (by decide) dX6_fallenOn_18 rfl ?_
      refine T_iload2 dX6_fallenOn_20 rfl ?_
      refine T_aload4 dX6_fallenOn_21 rfl ?_
      refine g6_144 _ rfl (hR.tl (by omega)) (hR.l2 (by omega)) dX6_fallenOn_23 rfl ?_
      refine T_iconst (2) dX6_fallenOn_26 rfl rfl ?_
      refine T_icmp_ne 43 30 dX6_fallenOn_27 (by decide) rfl (fun c27 => ?_) (fun c27 => ?_)
      ·
        refine T_iconst (0) dX6_fallenOn_43 rfl rfl ?_
        refine T_iadd dX6_fallenOn_44 rfl ?_
        refine T_istore2 rfl (by decide) dX6_fallenOn_45 rfl ?_
        first | refine T_iinc3 rfl (by decide) dX6_fallenOn_46 rfl (inc1 _) ?_ | refine T_iinc3 rfl (by decide) dX6_fallenOn_46 rfl rfl ?_
        refine T_goto 4 dX6_fallenOn_49 (by decide) ?_
        exact ih (k + 1) _ _ (by omega) (by rw [sm, ha]; first | (simp [c27, c36]; done) | (simp [c27]; done)) (by omega)
      ·
        refine T_aload4 dX6_fallenOn_30 rfl ?_
        refine g6_147 _ rfl (hR.tl (by omega)) (hR.l3 (by omega)) dX6_fallenOn_32 rfl ?_
        refine T_iload1 dX6_fallenOn_35 rfl ?_
        refine T_icmp_ne 43 39 dX6_fallenOn_36 (by decide) rfl (fun c36 => ?_) (fun c36 => ?_)
        ·
          refine T_iconst (0) dX6_fallenOn_43 rfl rfl ?_
          refine T_iadd dX6_fallenOn_44 rfl ?_
          refine T_istore2 rfl (by decide) dX6_fallenOn_45 rfl ?_
          first | refine T_iinc3 rfl (by decide) dX6_fallenOn_46 rfl (inc1 _) ?_ | refine T_iinc3 rfl (by decide) dX6_fallenOn_46 rfl rfl ?_
          refine T_goto 4 dX6_fallenOn_49 (by decide) ?_
          exact ih (k + 1) _ _ (by omega) (by rw [sm, ha]; first | (simp [c27, c36]; done) | (simp [c27]; done)) (by omega)
        ·
          refine T_iconst (1) dX6_fallenOn_39 rfl rfl ?_
          refine T_goto 44 dX6_fallenOn_40 (by decide) ?_
          refine T_iadd dX6_fallenOn_44 rfl ?_
          refine T_istore2 rfl (by decide) dX6_fallenOn_45 rfl ?_
          first | refine T_iinc3 rfl (by decide) dX6_fallenOn_46 rfl (inc1 _) ?_ | refine T_iinc3 rfl (by decide) dX6_fallenOn_46 rfl rfl ?_
          refine T_goto 4 dX6_fallenOn_49 (by decide) ?_
          exact ih (k + 1) _ _ (by omega) (by rw [sm, ha]; first | (simp [c27, c36]; done) | (simp [c27]; done)) (by omega)
set_option maxHeartbeats 1000000 in
theorem c_X6_fallenOn {l : Launch} {D : va_G} {cA : Nat → ClassId} {n0 : Nat} {XW : State → Heap → Prop} (hX : SF n0 XW) {sz : Nat} {τ : TY} {M0 M : ME} {r a b c : Nat} {ρ : RH} {ν : NU} (hR : LM τ M0 M r a b c ρ ν) (x : Int32) : CT l D cA n0 XW mX6_fallenOn 1 0 0 sz τ M [.ref r, .int x] (ROq (.int (flOf c ρ x)) sz τ M) := by
  refine CT.of (ls := [.ref r, .int x, UU, UU, UU]) (by decide) (Nat.le_of_ble_eq_true rfl) rfl ?_
  refine T_iconst (0) dX6_fallenOn_0 rfl rfl ?_
  refine T_istore2 rfl (by decide) dX6_fallenOn_1 rfl ?_
  refine T_iconst (0) dX6_fallenOn_2 rfl rfl ?_
  refine T_istore3 rfl (by decide) dX6_fallenOn_3 rfl ?_
  exact L_X6_fallenOn hX hR x (c + 1) 0 0 UU (Nat.zero_le _) rfl (by omega)
set_option maxHeartbeats 1000000 in
theorem L_X6_allLinks {l : Launch} {D : va_G} {cA : Nat → ClassId} {n0 : Nat} {XW : State → Heap → Prop} (hX : SF n0 XW) {sz : Nat} {τ : TY} {M0 M : ME} {r a b c : Nat} {ρ : RH} {ν : NU} (hR : LM τ M0 M r a b c ρ ν) : ∀ (n : Nat) (k : Nat) (acc : Int32) (hk : k ≤ b) (ha : acc = sm (fun h => ρ 12 h) k), b - k < n → T l D cA n0 XW mX6_allLinks 1 0 0 sz τ M 4 [.ref r, .int acc, .int (nI k)] [] (ROq (.int (lkAll b ρ)) sz τ M) (fun _ _ _ _ => False) := by
  intro n
  induction n with
  | zero => intros; omega
  | succ n ih =>
    intro k acc hk ha hn
    obtain ⟨l3, l4, l5⟩ := hR.ok
    refine T_iload2 dX6_allLinks_4 rfl ?_
    refine T_aload0 dX6_allLinks_5 rfl ?_
    refine g6_36 _ rfl hR.t hR.r4 dX6_allLinks_6 rfl ?_
    refine T_icmp_ge 30 12 dX6_allLinks_9 (by decide) rfl (fun c9 => ?_) (fun c9 => ?_)
    ·
      have c9 := le_out rfl c9
      refine T_iload1 dX6_allLinks_30 rfl ?_
      refine T_iret rfl rfl dX6_allLinks_31 ?_
      have hkk : k = b := by omega
      subst hkk
      exact ⟨congrArg (fun z => some (Value.int z)) ha, rfl, rfl, rfl⟩
    ·
      have c9 := lt_in rfl c9
      refine T_iload1 dX6_allLinks_12 rfl ?_
      refine T_aload0 dX6_allLinks_13 rfl ?_
      refine g6_20 _ rfl hR.t hR.r1 dX6_allLinks_14 rfl ?_
      refine T_iload2 dX6_allLinks_17 rfl ?_
      refine T_aald 3 _ (by decide) hR.tH rfl (by omega) (by decide) dX6_allLinks_18 rfl (hR.H (by omega)) ?_
      refine g6_113 _ rfl (hR.th (by omega)) (hR.h2 (by omega)) dX6_allLinks_19 rfl ?_
      refine T_iadd dX6_allLinks_22 rfl ?_
      refine T_istore1 rfl (by decide) dX6_allLinks_23 rfl ?_
      first | refine T_iinc2 rfl (by decide) dX6_allLinks_24 rfl (inc1 _) ?_ | refine T_iinc2 rfl (by decide) dX6_allLinks_24 rfl rfl ?_
      refine T_goto 4 dX6_allLinks_27 (by decide) ?_
      exact ih (k + 1) _ (by omega) (by rw [sm, ha]) (by omega)
set_option maxHeartbeats 1000000 in
theorem c_X6_allLinks {l : Launch} {D : va_G} {cA : Nat → ClassId} {n0 : Nat} {XW : State → Heap → Prop} (hX : SF n0 XW) {sz : Nat} {τ : TY} {M0 M : ME} {r a b c : Nat} {ρ : RH} {ν : NU} (hR : LM τ M0 M r a b c ρ ν) : CT l D cA n0 XW mX6_allLinks 1 0 0 sz τ M [.ref r] (ROq (.int (lkAll b ρ)) sz τ M) := by
  refine CT.of (ls := [.ref r, UU, UU]) (by decide) (Nat.le_of_ble_eq_true rfl) rfl ?_
  refine T_iconst (0) dX6_allLinks_0 rfl rfl ?_
  refine T_istore1 rfl (by decide) dX6_allLinks_1 rfl ?_
  refine T_iconst (0) dX6_allLinks_2 rfl rfl ?_
  refine T_istore2 rfl (by decide) dX6_allLinks_3 rfl ?_
  exact L_X6_allLinks hX hR (b + 1) 0 0 (Nat.zero_le _) rfl (by omega)
