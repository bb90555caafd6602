def wgF (ρ : RH) (x z : Int32) : Nat → Int32 := fun i => if ρ 32 i = x ∧ (z < 0 ∨ ρ 33 i = z) then ρ 31 i else 0
def nuF (ρ : RH) (x z : Int32) : Nat → Int32 := fun i => if ρ 32 i = x ∧ (z < 0 ∨ ρ 33 i = z) then 1 else 0
def wgG (c : Nat) (ρ : RH) (x z : Int32) : Int32 := sm (wgF ρ x z) c
def nuG (c : Nat) (ρ : RH) (x z : Int32) : Int32 := sm (nuF ρ x z) c
theorem wg_w {c : Nat} {ρ : RH} {x : Int32} : wgG c ρ x (-1) = wOf c ρ x := sm_cong (fun k _ => by
  show (if ρ 32 k = x ∧ ((-1 : Int32) < 0 ∨ ρ 33 k = -1) then ρ 31 k else 0) = if ρ 32 k = x then ρ 31 k else 0
  by_cases h : ρ 32 k = x
  · rw [if_pos h, if_pos ⟨h, Or.inl (by decide)⟩]
  · rw [if_neg h, if_neg (fun q => h q.1)])
theorem nu_w {c : Nat} {ρ : RH} {x : Int32} : nuG c ρ x (-1) = nOf c ρ x := sm_cong (fun k _ => by
  show (if ρ 32 k = x ∧ ((-1 : Int32) < 0 ∨ ρ 33 k = -1) then 1 else 0) = if ρ 32 k = x then 1 else 0
  by_cases h : ρ 32 k = x
  · rw [if_pos h, if_pos ⟨h, Or.inl (by decide)⟩]
  · rw [if_neg h, if_neg (fun q => h q.1)])
theorem wg_l {c : Nat} {ρ : RH} {x : Int32} (hx : ¬ x < 0) : wgG c ρ 1 x = ldOf c ρ x := sm_cong (fun k _ => by
  show (if ρ 32 k = 1 ∧ (x < 0 ∨ ρ 33 k = x) then ρ 31 k else 0) = if ρ 32 k = 1 ∧ ρ 33 k = x then ρ 31 k else 0
  by_cases h : ρ 32 k = 1 ∧ ρ 33 k = x
  · rw [if_pos h, if_pos ⟨h.1, Or.inr h.2⟩]
  · rw [if_neg h, if_neg (fun q => h ⟨q.1, q.2.resolve_left hx⟩)])
theorem nu_f {c : Nat} {ρ : RH} {x : Int32} (hx : ¬ x < 0) : nuG c ρ 2 x = flOf c ρ x := sm_cong (fun k _ => by
  show (if ρ 32 k = 2 ∧ (x < 0 ∨ ρ 33 k = x) then 1 else 0) = if ρ 32 k = 2 ∧ ρ 33 k = x then 1 else 0
  by_cases h : ρ 32 k = 2 ∧ ρ 33 k = x
  · rw [if_pos h, if_pos ⟨h.1, Or.inr h.2⟩]
  · rw [if_neg h, if_neg (fun q => h ⟨q.1, q.2.resolve_left hx⟩)])
theorem max_ite {x : Int32} : (if x < 0 then 0 else x) = maxI 0 x := by
  unfold maxI
  by_cases h : x < 0
  · rw [if_pos h, if_neg (fun q => absurd (Int32.lt_trans h q) (Int32.lt_irrefl))]
  · rw [if_neg h]
    by_cases h2 : 0 < x
    · rw [if_pos h2]
    · rw [if_neg h2]
      exact Int32.le_antisymm (Int32.not_lt.mp h2) (Int32.not_lt.mp h)
set_option maxHeartbeats 1000000 in
theorem L_X11_weigh {l : Launch} {D : va_G} {cA : Nat → ClassId} {n0 : Nat} {XW : State → Heap → Prop} (hX : SF n0 XW) {sz : Nat} {τ : TY} {M0 M : ME} {j e : Nat} {A : Nat → Nat} {Rw : Nat → Nat → Nat} {cn : Nat → Nat} {ρ : RH} {μ : Nat → Int32} {κ ω : Nat → Nat → Int32} (hS : SM τ M0 M j e A Rw cn ρ μ κ ω) (x z : Int32) : ∀ (n : Nat) (k : Nat) (acc : Int32) (u : Value) (hk : k ≤ cn 5) (ha : acc = sm (wgF ρ x z) k), cn 5 - k < n → T l D cA n0 XW mX11_weigh 1 0 0 sz τ M 16 [.ref j, .int x, .int z, .int acc, .ref (A 5), .int (nI (cn 5)), .int (nI k), u] [] (ROq (.int (wgG (cn 5) ρ x z)) sz τ M) (fun _ _ _ _ => False) := by
  intro n
  induction n with
  | zero => intros; omega
  | succ n ih =>
    intro k acc u hk ha hn
    have hok := hS.ok
    unfold CnOK at hok
    refine T_iload6 dX11_weigh_16 rfl ?_
    refine T_iload5 dX11_weigh_18 rfl ?_
    refine T_icmp_ge 67 23 dX11_weigh_20 (by decide) rfl (fun c9 => ?_) (fun c9 => ?_)
    ·
      have c9 := le_out rfl c9
      refine T_iload3 dX11_weigh_67 rfl ?_
      refine T_iret rfl rfl dX11_weigh_68 ?_
      have hkk : k = cn 5 := by omega
      subst hkk
      exact ⟨congrArg (fun w9 => some (Value.int w9)) ha, rfl, rfl, rfl⟩
    ·
      have c9 := lt_in rfl c9
      refine T_aload4 dX11_weigh_23 rfl ?_
      refine T_iload6 dX11_weigh_25 rfl ?_
      refine T_aaldA _ hS.ta5 rfl (by omega) (by omega) dX11_weigh_27 rfl (hS.pr (f := 5) (by decide) (by decide) (by omega)) ?_
      refine T_astore7 rfl (by decide) dX11_weigh_28 rfl ?_
      refine T_iload3 dX11_weigh_30 rfl ?_
      refine T_joinI 59 (fun v => v = wgF ρ x z k) (fun hJ => ?_) (fun x59 hx59 => ?_)
      ·
        refine T_aload7 dX11_weigh_31 rfl ?_
        refine T_iconst (1) dX11_weigh_33 rfl rfl ?_
        refine T_iald 1 (hS.tr5 (by omega)) rfl (by decide) (by decide) dX11_weigh_34 rfl (hS.g5_1 (by omega)) ?_
        refine T_iload1 dX11_weigh_35 rfl ?_
        refine T_icmp_ne 58 39 dX11_weigh_36 (by decide) rfl (fun c36 => ?_) (fun c36 => ?_)
        ·
          refine T_iconst (0) dX11_weigh_58 rfl rfl ?_
          refine hJ _ ?_
          first | exact (if_neg (fun q => c36 q.1)).symm | exact (if_pos (And.intro c36 (Or.inl c40))).symm | exact (if_pos (And.intro c36 (Or.inr c48))).symm | exact (if_neg (fun q => q.2.elim c40 c48)).symm
        ·
          refine T_iload2 dX11_weigh_39 rfl ?_
          refine T_if_lt 51 43 dX11_weigh_40 (by decide) rfl (fun c40 => ?_) (fun c40 => ?_)
          ·
            refine T_aload7 dX11_weigh_51 rfl ?_
            refine T_iconst (0) dX11_weigh_53 rfl rfl ?_
            refine T_iald 0 (hS.tr5 (by omega)) rfl (by decide) (by decide) dX11_weigh_54 rfl (hS.g5_0 (by omega)) ?_
            refine T_goto 59 dX11_weigh_55 (by decide) ?_
            refine hJ _ ?_
            first | exact (if_neg (fun q => c36 q.1)).symm | exact (if_pos (And.intro c36 (Or.inl c40))).symm | exact (if_pos (And.intro c36 (Or.inr c48))).symm | exact (if_neg (fun q => q.2.elim c40 c48)).symm
          ·
            refine T_aload7 dX11_weigh_43 rfl ?_
            refine T_iconst (2) dX11_weigh_45 rfl rfl ?_
            refine T_iald 2 (hS.tr5 (by omega)) rfl (by decide) (by decide) dX11_weigh_46 rfl (hS.g5_2 (by omega)) ?_
            refine T_iload2 dX11_weigh_47 rfl ?_
            refine T_icmp_ne 58 51 dX11_weigh_48 (by decide) rfl (fun c48 => ?_) (fun c48 => ?_)
            ·
              refine T_iconst (0) dX11_weigh_58 rfl rfl ?_
              refine hJ _ ?_
              first | exact (if_neg (fun q => c36 q.1)).symm | exact (if_pos (And.intro c36 (Or.inl c40))).symm | exact (if_pos (And.intro c36 (Or.inr c48))).symm | exact (if_neg (fun q => q.2.elim c40 c48)).symm
            ·
              refine T_aload7 dX11_weigh_51 rfl ?_
              refine T_iconst (0) dX11_weigh_53 rfl rfl ?_
              refine T_iald 0 (hS.tr5 (by omega)) rfl (by decide) (by decide) dX11_weigh_54 rfl (hS.g5_0 (by omega)) ?_
              refine T_goto 59 dX11_weigh_55 (by decide) ?_
              refine hJ _ ?_
              first | exact (if_neg (fun q => c36 q.1)).symm | exact (if_pos (And.intro c36 (Or.inl c40))).symm | exact (if_pos (And.intro c36 (Or.inr c48))).symm | exact (if_neg (fun q => q.2.elim c40 c48)).symm
      ·
        refine T_iadd dX11_weigh_59 rfl ?_
        refine T_istore3 rfl (by decide) dX11_weigh_60 rfl ?_
        first | refine T_iinc6 rfl (by decide) dX11_weigh_61 rfl (inc1 _) ?_ | refine T_iinc6 rfl (by decide) dX11_weigh_61 rfl rfl ?_
        refine T_goto 16 dX11_weigh_64 (by decide) ?_
        exact ih (k + 1) _ _ (by omega) (by rw [sm, ← ha, hx59]) (by omega)
set_option maxHeartbeats 1000000 in
theorem c_X11_weigh {l : Launch} {D : va_G} {cA : Nat → ClassId} {n0 : Nat} {XW : State → Heap → Prop} (hX : SF n0 XW) {sz : Nat} {τ : TY} {M0 M : ME} {j e : Nat} {A : Nat → Nat} {Rw : Nat → Nat → Nat} {cn : Nat → Nat} {ρ : RH} {μ : Nat → Int32} {κ ω : Nat → Nat → Int32} (hS : SM τ M0 M j e A Rw cn ρ μ κ ω) (x z : Int32) : CT l D cA n0 XW mX11_weigh 1 0 0 sz τ M [.ref j, .int x, .int z] (ROq (.int (wgG (cn 5) ρ x z)) sz τ M) := by
  refine CT.of (ls := [.ref j, .int x, .int z, UU, UU, UU, UU, UU]) (by decide) (Nat.le_of_ble_eq_true rfl) rfl ?_
  refine T_iconst (0) dX11_weigh_0 rfl rfl ?_
  refine T_istore3 rfl (by decide) dX11_weigh_1 rfl ?_
  refine T_aload0 dX11_weigh_2 rfl ?_
  refine g11_18 _ rfl hS.t0 (hS.pa (f := 5) (by decide) (by decide)) dX11_weigh_3 rfl ?_
  refine T_astore4 rfl (by decide) dX11_weigh_6 rfl ?_
  refine T_aload4 dX11_weigh_8 rfl ?_
  refine T_alen (j := 8) hS.ta5 (by decide) dX11_weigh_10 rfl ?_
  refine T_istore5 rfl (by decide) dX11_weigh_11 rfl ?_
  refine T_iconst (0) dX11_weigh_13 rfl rfl ?_
  refine T_istore6 rfl (by decide) dX11_weigh_14 rfl ?_
  exact L_X11_weigh hX hS x z (cn 5 + 1) 0 0 UU (Nat.zero_le _) rfl (by omega)
set_option maxHeartbeats 1000000 in
theorem L_X11_number {l : Launch} {D : va_G} {cA : Nat → ClassId} {n0 : Nat} {XW : State → Heap → Prop} (hX : SF n0 XW) {sz : Nat} {τ : TY} {M0 M : ME} {j e : Nat} {A : Nat → Nat} {Rw : Nat → Nat → Nat} {cn : Nat → Nat} {ρ : RH} {μ : Nat → Int32} {κ ω : Nat → Nat → Int32} (hS : SM τ M0 M j e A Rw cn ρ μ κ ω) (x z : Int32) : ∀ (n : Nat) (k : Nat) (acc : Int32) (u : Value) (hk : k ≤ cn 5) (ha : acc = sm (nuF ρ x z) k), cn 5 - k < n → T l D cA n0 XW mX11_number 1 0 0 sz τ M 16 [.ref j, .int x, .int z, .int acc, .ref (A 5), .int (nI (cn 5)), .int (nI k), u] [] (ROq (.int (nuG (cn 5) ρ x z)) sz τ M) (fun _ _ _ _ => False) := by
  intro n
  induction n with
  | zero => intros; omega
  | succ n ih =>
    intro k acc u hk ha hn
    have hok := hS.ok
    unfold CnOK at hok
    refine T_iload6 dX11_number_16 rfl ?_
    refine T_iload5 dX11_number_18 rfl ?_
    refine T_icmp_ge 64 23 dX11_number_20 (by decide) rfl (fun c9 => ?_) (fun c9 => ?_)
    ·
      have c9 := le_out rfl c9
      refine T_iload3 dX11_number_64 rfl ?_
      refine T_iret rfl rfl dX11_number_65 ?_
      have hkk : k = cn 5 := by omega
      subst hkk
      exact ⟨congrArg (fun w9 => some (Value.int w9)) ha, rfl, rfl, rfl⟩
    ·
      have c9 := lt_in rfl c9
      refine T_aload4 dX11_number_23 rfl ?_
      refine T_iload6 dX11_number_25 rfl ?_
      refine T_aaldA _ hS.ta5 rfl (by omega) (by omega) dX11_number_27 rfl (hS.pr (f := 5) (by decide) (by decide) (by omega)) ?_
      refine T_astore7 rfl (by decide) dX11_number_28 rfl ?_
      refine T_iload3 dX11_number_30 rfl ?_
      refine T_joinI 56 (fun v => v = nuF ρ x z k) (fun hJ => ?_) (fun x56 hx56 => ?_)
      ·
        refine T_aload7 dX11_number_31 rfl ?_
        refine T_iconst (1) dX11_number_33 rfl rfl ?_
        refine T_iald 1 (hS.tr5 (by omega)) rfl (by decide) (by decide) dX11_number_34 rfl (hS.g5_1 (by omega)) ?_
        refine T_iload1 dX11_number_35 rfl ?_
        refine T_icmp_ne 55 39 dX11_number_36 (by decide) rfl (fun c36 => ?_) (fun c36 => ?_)
        ·
          refine T_iconst (0) dX11_number_55 rfl rfl ?_
          refine hJ _ ?_
          first | exact (if_neg (fun q => c36 q.1)).symm | exact (if_pos (And.intro c36 (Or.inl c40))).symm | exact (if_pos (And.intro c36 (Or.inr c48))).symm | exact (if_neg (fun q => q.2.elim c40 c48)).symm
        ·
          refine T_iload2 dX11_number_39 rfl ?_
          refine T_if_lt 51 43 dX11_number_40 (by decide) rfl (fun c40 => ?_) (fun c40 => ?_)
          ·
            refine T_iconst (1) dX11_number_51 rfl rfl ?_
            refine T_goto 56 dX11_number_52 (by decide) ?_
            refine hJ _ ?_
            first | exact (if_neg (fun q => c36 q.1)).symm | exact (if_pos (And.intro c36 (Or.inl c40))).symm | exact (if_pos (And.intro c36 (Or.inr c48))).symm | exact (if_neg (fun q => q.2.elim c40 c48)).symm
          ·
            refine T_aload7 dX11_number_43 rfl ?_
            refine T_iconst (2) dX11_number_45 rfl rfl ?_
            refine T_iald 2 (hS.tr5 (by omega)) rfl (by decide) (by decide) dX11_number_46 rfl (hS.g5_2 (by omega)) ?_
            refine T_iload2 dX11_number_47 rfl ?_
            refine T_icmp_ne 55 51 dX11_number_48 (by decide) rfl (fun c48 => ?_) (fun c48 => ?_)
            ·
              refine T_iconst (0) dX11_number_55 rfl rfl ?_
              refine hJ _ ?_
              first | exact (if_neg (fun q => c36 q.1)).symm | exact (if_pos (And.intro c36 (Or.inl c40))).symm | exact (if_pos (And.intro c36 (Or.inr c48))).symm | exact (if_neg (fun q => q.2.elim c40 c48)).symm
            ·
              refine T_iconst (1) dX11_number_51 rfl rfl ?_
              refine T_goto 56 dX11_number_52 (by decide) ?_
              refine hJ _ ?_
              first | exact (if_neg (fun q => c36 q.1)).symm | exact (if_pos (And.intro c36 (Or.inl c40))).symm | exact (if_pos (And.intro c36 (Or.inr c48))).symm | exact (if_neg (fun q => q.2.elim c40 c48)).symm
      ·
        refine T_iadd dX11_number_56 rfl ?_
        refine T_istore3 rfl (by decide) dX11_number_57 rfl ?_
        first | refine T_iinc6 rfl (by decide) dX11_number_58 rfl (inc1 _) ?_ | refine T_iinc6 rfl (by decide) dX11_number_58 rfl rfl ?_
        refine T_goto 16 dX11_number_61 (by decide) ?_
        exact ih (k + 1) _ _ (by omega) (by rw [sm, ← ha, hx56]) (by omega)
set_option maxHeartbeats 1000000 in
theorem c_X11_number {l : Launch} {D : va_G} {cA : Nat → ClassId} {n0 : Nat} {XW : State → Heap → Prop} (hX : SF n0 XW) {sz : Nat} {τ : TY} {M0 M : ME} {j e : Nat} {A : Nat → Nat} {Rw : Nat → Nat → Nat} {cn : Nat → Nat} {ρ : RH} {μ : Nat → Int32} {κ ω : Nat → Nat → Int32} (hS : SM τ M0 M j e A Rw cn ρ μ κ ω) (x z : Int32) : CT l D cA n0 XW mX11_number 1 0 0 sz τ M [.ref j, .int x, .int z] (ROq (.int (nuG (cn 5) ρ x z)) sz τ M) := by
  refine CT.of (ls := [.ref j, .int x, .int z, UU, UU, UU, UU, UU]) (by decide) (Nat.le_of_ble_eq_true rfl) rfl ?_
  refine T_iconst (0) dX11_number_0 rfl rfl ?_
  refine T_istore3 rfl (by decide) dX11_number_1 rfl ?_
  refine T_aload0 dX11_number_2 rfl ?_
  refine g11_18 _ rfl hS.t0 (hS.pa (f := 5) (by decide) (by decide)) dX11_number_3 rfl ?_
  refine T_astore4 rfl (by decide) dX11_number_6 rfl ?_
  refine T_aload4 dX11_number_8 rfl ?_
  refine T_alen (j := 8) hS.ta5 (by decide) dX11_number_10 rfl ?_
  refine T_istore5 rfl (by decide) dX11_number_11 rfl ?_
  refine T_iconst (0) dX11_number_13 rfl rfl ?_
  refine T_istore6 rfl (by decide) dX11_number_14 rfl ?_
  exact L_X11_number hX hS x z (cn 5 + 1) 0 0 UU (Nat.zero_le _) rfl (by omega)
set_option maxHeartbeats 1000000 in
theorem c_X11_load {l : Launch} {D : va_G} {cA : Nat → ClassId} {n0 : Nat} {XW : State → Heap → Prop} (hX : SF n0 XW) {sz : Nat} {τ : TY} {M0 M : ME} {j e : Nat} {A : Nat → Nat} {Rw : Nat → Nat → Nat} {cn : Nat → Nat} {ρ : RH} {μ : Nat → Int32} {κ ω : Nat → Nat → Int32} (hS : SM τ M0 M j e A Rw cn ρ μ κ ω) {x : Int32} (hx : ¬ x < 0) : CT l D cA n0 XW mX11_load 2 0 0 sz τ M [.ref j, .int x] (ROq (.int (ldOf (cn 5) ρ x)) sz τ M) := by
  refine CT.of (ls := [.ref j, .int x]) (by decide) (Nat.le_of_ble_eq_true rfl) rfl ?_
  refine T_aload0 dX11_load_0 rfl ?_
  refine T_iconst (1) dX11_load_1 rfl rfl ?_
  refine T_iload1 dX11_load_2 rfl ?_
  refine T_cV2 (c_X11_weigh hX hS 1 x) hX k11_27 (Or.inl ⟨_, _, _, _, hS.t0, by decide, rfl⟩) (by decide) (Nat.le_of_ble_eq_true rfl) dX11_load_3 rfl ?_
  rintro _ _ _ _ ⟨rfl, rfl, rfl, rfl⟩
  refine T_iret rfl rfl dX11_load_6 ?_
  exact ⟨congrArg (fun w9 => some (Value.int w9)) (wg_l hx), rfl, rfl, rfl⟩
set_option maxHeartbeats 1000000 in
theorem c_X11_needs {l : Launch} {D : va_G} {cA : Nat → ClassId} {n0 : Nat} {XW : State → Heap → Prop} (hX : SF n0 XW) {sz : Nat} {τ : TY} {M0 M : ME} {j e : Nat} {A : Nat → Nat} {Rw : Nat → Nat → Nat} {cn : Nat → Nat} {ρ : RH} {μ : Nat → Int32} {κ ω : Nat → Nat → Int32} (hS : SM τ M0 M j e A Rw cn ρ μ κ ω) {x : Int32} (hx : ¬ x < 0) {t : Nat} (ht : t < cn 3) : CT l D cA n0 XW mX11_needs 3 0 0 sz τ M [.ref j, .int x, .int (nI t)] (ROq (.int (needF (cn 5) ρ x t)) sz τ M) := by
  refine CT.of (ls := [.ref j, .int x, .int (nI t), UU]) (by decide) (Nat.le_of_ble_eq_true rfl) rfl ?_
  have hok := hS.ok
  unfold CnOK at hok
  refine T_aload0 dX11_needs_0 rfl ?_
  refine T_iload1 dX11_needs_1 rfl ?_
  refine T_cV1 (c_X11_load hX hS hx) hX k11_31 (Or.inl ⟨_, _, _, _, hS.t0, by decide, rfl⟩) (by decide) (Nat.le_of_ble_eq_true rfl) dX11_needs_2 rfl ?_
  rintro _ _ _ _ ⟨rfl, rfl, rfl, rfl⟩
  refine T_bipush (10) dX11_needs_5 rfl rfl ?_
  refine T_aload0 dX11_needs_7 rfl ?_
  refine g11_9 _ rfl hS.t0 (hS.pa (f := 3) (by decide) (by decide)) dX11_needs_8 rfl ?_
  refine T_iload2 dX11_needs_11 rfl ?_
  refine T_aaldA _ hS.ta3 rfl (by omega) (by omega) dX11_needs_12 rfl (hS.pr (f := 3) (by decide) (by decide) (by omega)) ?_
  refine T_iconst (1) dX11_needs_13 rfl rfl ?_
  refine T_iald 1 (hS.tr3 (by omega)) rfl (by decide) (by decide) dX11_needs_14 rfl (hS.g3_1 (by omega)) ?_
  refine T_iadd dX11_needs_15 rfl ?_
  refine T_imul dX11_needs_16 rfl ?_
  refine T_bipush (10) dX11_needs_17 rfl rfl ?_
  refine T_idiv dX11_needs_19 rfl (by decide) ?_
  refine T_aload0 dX11_needs_20 rfl ?_
  refine g11_9 _ rfl hS.t0 (hS.pa (f := 3) (by decide) (by decide)) dX11_needs_21 rfl ?_
  refine T_iload2 dX11_needs_24 rfl ?_
  refine T_aaldA _ hS.ta3 rfl (by omega) (by omega) dX11_needs_25 rfl (hS.pr (f := 3) (by decide) (by decide) (by omega)) ?_
  refine T_iconst (2) dX11_needs_26 rfl rfl ?_
  refine T_iald 2 (hS.tr3 (by omega)) rfl (by decide) (by decide) dX11_needs_27 rfl (hS.g3_2 (by omega)) ?_
  refine T_isub dX11_needs_28 rfl ?_
  refine T_istore3 rfl (by decide) dX11_needs_29 rfl ?_
  refine T_iload3 dX11_needs_30 rfl ?_
  refine T_if_ge 38 34 dX11_needs_31 (by decide) rfl (fun c31 => ?_) (fun c31 => ?_)
  ·
    refine T_iload3 dX11_needs_38 rfl ?_
    refine T_iret rfl rfl dX11_needs_39 ?_
    refine ⟨congrArg (fun w9 => some (Value.int w9)) ?_, rfl, rfl, rfl⟩
    unfold needF
    rw [← max_ite]
    first | (rw [if_neg (Int32.not_lt.mpr c31)]; done) | (rw [if_pos (Int32.not_le.mp c31)]; done)
  ·
    refine T_iconst (0) dX11_needs_34 rfl rfl ?_
    refine T_goto 39 dX11_needs_35 (by decide) ?_
    refine T_iret rfl rfl dX11_needs_39 ?_
    refine ⟨congrArg (fun w9 => some (Value.int w9)) ?_, rfl, rfl, rfl⟩
    unfold needF
    rw [← max_ite]
    first | (rw [if_neg (Int32.not_lt.mpr c31)]; done) | (rw [if_pos (Int32.not_le.mp c31)]; done)
theorem tire_ite {x : Int32} : (if x < 0 then 0 else if 60 < x then 60 else x) = maxI 0 (minI x 60) := by
  unfold maxI minI
  by_cases h : x < 0
  · have h2 : x < 60 := Int32.lt_trans h (by decide)
    rw [if_pos h, if_pos h2, if_neg (fun q => absurd (Int32.lt_trans h q) (Int32.lt_irrefl))]
  · rw [if_neg h]
    by_cases h2 : 60 < x
    · rw [if_pos h2, if_neg (fun q => absurd (Int32.lt_trans h2 q) (Int32.lt_irrefl)), if_pos (by decide)]
    · rw [if_neg h2]
      by_cases h3 : x < 60
      · rw [if_pos h3]
        by_cases h4 : 0 < x
        · rw [if_pos h4]
        · rw [if_neg h4]; exact Int32.le_antisymm (Int32.not_lt.mp h4) (Int32.not_lt.mp h)
      · rw [if_neg h3, if_pos (by decide)]
        exact Int32.le_antisymm (Int32.not_lt.mp h2) (Int32.not_lt.mp h3)
set_option maxHeartbeats 1000000 in
theorem c_X11_tire {l : Launch} {D : va_G} {cA : Nat → ClassId} {n0 : Nat} {XW : State → Heap → Prop} (hX : SF n0 XW) {sz : Nat} {τ : TY} {M0 M : ME} {j e : Nat} {A : Nat → Nat} {Rw : Nat → Nat → Nat} {cn : Nat → Nat} {ρ : RH} {μ : Nat → Int32} {κ ω : Nat → Nat → Int32} (hS : SM τ M0 M j e A Rw cn ρ μ κ ω) {i : Nat} (hi : i < cn 4) (x : Int32) : CT l D cA n0 XW mX11_tire 1 0 0 sz τ M [.ref j, .int (nI i), .int x] (fun v' sz' τ' M' => v' = none ∧ sz' = sz ∧ τ' = τ ∧ SM τ M0 M' j e A Rw cn (tireC ρ i x) (μ) κ ω) := by
  refine CT.of (ls := [.ref j, .int (nI i), .int x, UU]) (by decide) (Nat.le_of_ble_eq_true rfl) rfl ?_
  have hok := hS.ok
  unfold CnOK at hok
  refine T_aload0 dX11_tire_0 rfl ?_
  refine g11_15 _ rfl hS.t0 (hS.pa (f := 4) (by decide) (by decide)) dX11_tire_1 rfl ?_
  refine T_iload1 dX11_tire_4 rfl ?_
  refine T_aaldA _ hS.ta4 rfl (by omega) (by omega) dX11_tire_5 rfl (hS.pr (f := 4) (by decide) (by decide) (by omega)) ?_
  refine T_bipush (7) dX11_tire_6 rfl rfl ?_
  refine T_iald 7 (hS.tr4 (by omega)) rfl (by decide) (by decide) dX11_tire_8 rfl (hS.g4_7 (by omega)) ?_
  refine T_iload2 dX11_tire_9 rfl ?_
  refine T_iadd dX11_tire_10 rfl ?_
  refine T_istore3 rfl (by decide) dX11_tire_11 rfl ?_
  refine T_aload0 dX11_tire_12 rfl ?_
  refine g11_15 _ rfl hS.t0 (hS.pa (f := 4) (by decide) (by decide)) dX11_tire_13 rfl ?_
  refine T_iload1 dX11_tire_16 rfl ?_
  refine T_aaldA _ hS.ta4 rfl (by omega) (by omega) dX11_tire_17 rfl (hS.pr (f := 4) (by decide) (by decide) (by omega)) ?_
  refine T_bipush (7) dX11_tire_18 rfl rfl ?_
  refine T_joinI 40 (fun v => v = maxI 0 (minI (ρ 18 i + x) 60)) (fun hJ => ?_) (fun x40 hx40 => ?_)
  ·
    refine T_iload3 dX11_tire_20 rfl ?_
    refine T_if_ge 28 24 dX11_tire_21 (by decide) rfl (fun c21 => ?_) (fun c21 => ?_)
    ·
      refine T_iload3 dX11_tire_28 rfl ?_
      refine T_bipush (60) dX11_tire_29 rfl rfl ?_
      refine T_icmp_le 39 34 dX11_tire_31 (by decide) rfl (fun c31 => ?_) (fun c31 => ?_)
      ·
        refine T_iload3 dX11_tire_39 rfl ?_
        refine hJ _ ?_
        rw [← tire_ite]
        first | (rw [if_pos (Int32.not_le.mp c21)]; done) | (rw [if_neg (Int32.not_lt.mpr c21), if_pos (Int32.not_le.mp c31)]; done) | (rw [if_neg (Int32.not_lt.mpr c21), if_neg (Int32.not_lt.mpr c31)]; done)
      ·
        refine T_bipush (60) dX11_tire_34 rfl rfl ?_
        refine T_goto 40 dX11_tire_36 (by decide) ?_
        refine hJ _ ?_
        rw [← tire_ite]
        first | (rw [if_pos (Int32.not_le.mp c21)]; done) | (rw [if_neg (Int32.not_lt.mpr c21), if_pos (Int32.not_le.mp c31)]; done) | (rw [if_neg (Int32.not_lt.mpr c21), if_neg (Int32.not_lt.mpr c31)]; done)
    ·
      refine T_iconst (0) dX11_tire_24 rfl rfl ?_
      refine T_goto 40 dX11_tire_25 (by decide) ?_
      refine hJ _ ?_
      rw [← tire_ite]
      first | (rw [if_pos (Int32.not_le.mp c21)]; done) | (rw [if_neg (Int32.not_lt.mpr c21), if_pos (Int32.not_le.mp c31)]; done) | (rw [if_neg (Int32.not_lt.mpr c21), if_neg (Int32.not_lt.mpr c31)]; done)
  ·
    refine T_iast 7 (hS.tr4 (by omega)) rfl (by decide) (by decide) dX11_tire_40 rfl ?_
    refine T_nm (fun M1 e1 => ?_)
    have hS := SM.mv (hS.p4_7 (by omega)) e1
    refine T_vret rfl dX11_tire_41 ?_
    refine ⟨rfl, rfl, rfl, ?_⟩
    rw [hx40] at hS
    exact hS
