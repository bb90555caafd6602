/-- logs that lie so (s0, w0) come to lie so (s1, w1), the first k -/
def mpL (ρ : RH) (s0 w0 s1 w1 : Int32) (k : Nat) : RH := fun f l => if l < k ∧ ρ 32 l = s0 ∧ ρ 33 l = w0 ∧ (f = 32 ∨ f = 33) then (if f = 32 then s1 else w1) else ρ f l
theorem mpL_0 {ρ : RH} {s0 w0 s1 w1 : Int32} : mpL ρ s0 w0 s1 w1 0 = ρ := by
  funext f l; simp [mpL]
theorem mpL_at {ρ : RH} {s0 w0 s1 w1 : Int32} {k f l : Nat} (h : k ≤ l) : mpL ρ s0 w0 s1 w1 k f l = ρ f l := if_neg (fun q => absurd q.1 (Nat.not_lt.mpr h))
theorem mpL_f {ρ : RH} {s0 w0 s1 w1 : Int32} {k f l : Nat} (h : f ≠ 32 ∧ f ≠ 33) : mpL ρ s0 w0 s1 w1 k f l = ρ f l := if_neg (fun q => q.2.2.2.elim h.1 h.2)
theorem mpL_y {ρ : RH} {s0 w0 s1 w1 : Int32} {k : Nat} (h : ρ 32 k = s0) (h2 : ρ 33 k = w0) : lieC (mpL ρ s0 w0 s1 w1 k) k s1 w1 = mpL ρ s0 w0 s1 w1 (k + 1) := by
  funext f l
  simp only [lieC, u2, mpL]
  by_cases e : l = k
  · subst e
    by_cases e3 : f = 33
    · simp [e3, h, h2]
    · by_cases e2 : f = 32
      · simp [e2, h, h2]
      · simp [e2, e3]
  · have e4 : (l < k + 1) = (l < k) := propext ⟨fun q => by omega, fun q => by omega⟩
    simp [e, e4]
theorem mpL_n {ρ : RH} {s0 w0 s1 w1 : Int32} {k : Nat} (h : ¬ (ρ 32 k = s0 ∧ ρ 33 k = w0)) : mpL ρ s0 w0 s1 w1 (k + 1) = mpL ρ s0 w0 s1 w1 k := by
  funext f l
  simp only [mpL]
  by_cases e : l = k
  · subst e
    rw [if_neg (fun q => h ⟨q.2.1, q.2.2.1⟩), if_neg (fun q => absurd q.1 (Nat.lt_irrefl _))]
  · have e4 : (l < k + 1) = (l < k) := propext ⟨fun q => by omega, fun q => by omega⟩
    simp only [e4]
/-- logs are put on a sledge, the first k -/
def psC (ρ : RH) (x m : Int32) : Nat → RH × Int32 × Nat
  | 0 => (ρ, 0, 0)
  | k + 1 => if (psC ρ x m k).2.2 < 5 ∧ ρ 32 k = 0 ∧ (psC ρ x m k).2.1 + ρ 31 k ≤ m then (lieC (psC ρ x m k).1 k 1 x, (psC ρ x m k).2.1 + ρ 31 k, (psC ρ x m k).2.2 + 1) else psC ρ x m k
theorem psC_y {ρ : RH} {x m : Int32} {k : Nat} (h : (psC ρ x m k).2.2 < 5) (h2 : ρ 32 k = 0) (h3 : (psC ρ x m k).2.1 + ρ 31 k ≤ m) : psC ρ x m (k + 1) = (lieC (psC ρ x m k).1 k 1 x, (psC ρ x m k).2.1 + ρ 31 k, (psC ρ x m k).2.2 + 1) := if_pos ⟨h, h2, h3⟩
theorem psC_n {ρ : RH} {x m : Int32} {k : Nat} (h : ¬ ((psC ρ x m k).2.2 < 5 ∧ ρ 32 k = 0 ∧ (psC ρ x m k).2.1 + ρ 31 k ≤ m)) : psC ρ x m (k + 1) = psC ρ x m k := if_neg h
theorem psC_at {ρ : RH} {x m : Int32} {f l : Nat} : ∀ {k : Nat}, k ≤ l → (psC ρ x m k).1 f l = ρ f l
  | 0, _ => rfl
  | k + 1, h => by
    rw [psC]
    split
    · show lieC _ k 1 x f l = _
      unfold lieC
      rw [u2_i (by omega), u2_i (by omega)]; exact psC_at (by omega)
    · exact psC_at (by omega)
theorem psC_f {ρ : RH} {x m : Int32} {f l : Nat} (h : f ≠ 32 ∧ f ≠ 33) : ∀ {k : Nat}, (psC ρ x m k).1 f l = ρ f l
  | 0 => rfl
  | k + 1 => by
    rw [psC]
    split
    · show lieC _ k 1 x f l = _
      unfold lieC
      rw [u2_f (by omega), u2_f (by omega)]; exact psC_f h
    · exact psC_f h
theorem psC_full {ρ : RH} {x m : Int32} {k : Nat} (h : 5 ≤ (psC ρ x m k).2.2) : ∀ {n : Nat}, k ≤ n → psC ρ x m n = psC ρ x m k
  | 0, h2 => by rw [Nat.le_zero.mp h2]
  | n + 1, h2 => by
    by_cases e : k = n + 1
    · rw [e]
    · have e2 := psC_full h (n := n) (by omega)
      rw [psC_n (fun q => by rw [e2] at q; omega), e2]
theorem psC_5 {ρ : RH} {x m : Int32} : ∀ {k : Nat}, (psC ρ x m k).2.2 ≤ 5
  | 0 => Nat.zero_le _
  | k + 1 => by
    rw [psC]
    split
    · show _ + 1 ≤ 5
      omega
    · exact psC_5
def psR (ρ : RH) (x m : Int32) (c : Nat) : Int32 := if (psC ρ x m c).2.2 = 0 then 0 else 1
/-- whether a horse can go there -/
def cgF (b : Nat) (ρ : RH) (j : Nat) (x : Int32) : Int32 := if ∀ o, o < b → ¬ (ρ 15 o = x ∧ ¬ ρ 16 o = ρ 16 j ∧ (ρ 14 j = 0 ∨ ¬ ρ 14 o = 0)) then 1 else 0
def soC (ρ : RH) (j : Nat) (x : Int32) (k : Nat) : RH := fun f o => if f = 20 ∧ o < k ∧ ρ 15 o = x ∧ ¬ ρ 16 o = ρ 16 j then 1 else ρ f o
theorem soC_0 {ρ : RH} {j : Nat} {x : Int32} : soC ρ j x 0 = ρ := by funext f l; simp [soC]
theorem soC_y {ρ : RH} {j k : Nat} {x : Int32} (h : ρ 15 k = x) (h2 : ¬ ρ 16 k = ρ 16 j) : u2 (soC ρ j x k) 20 k 1 = soC ρ j x (k + 1) := by
  funext f o
  simp only [u2, soC]
  by_cases e : o = k
  · subst e
    by_cases e3 : f = 20
    · simp [e3, h, h2]
    · simp [e3]
  · have e4 : (o < k + 1) = (o < k) := propext ⟨fun q => by omega, fun q => by omega⟩
    simp [e, e4]
theorem soC_n {ρ : RH} {j k : Nat} {x : Int32} (h : ¬ (ρ 15 k = x ∧ ¬ ρ 16 k = ρ 16 j)) : soC ρ j x (k + 1) = soC ρ j x k := by
  funext f o
  simp only [soC]
  by_cases e : o = k
  · subst e
    rw [if_neg (fun q => h q.2.2), if_neg (fun q => absurd q.2.1 (Nat.lt_irrefl _))]
  · have e4 : (o < k + 1) = (o < k) := propext ⟨fun q => by omega, fun q => by omega⟩
    simp only [e4]
/-- frost -/
def fzC (ρ : RH) (k : Nat) : RH := fun f s => if f = 43 ∧ s < k then maxI 0 (minI (ρ 43 s + ρ 7 0) 9) else ρ f s
theorem fzC_0 {ρ : RH} : fzC ρ 0 = ρ := by funext f l; simp [fzC]
theorem fzC_s {ρ : RH} {k : Nat} : u2 (fzC ρ k) 43 k (maxI 0 (minI (ρ 43 k + ρ 7 0) 9)) = fzC ρ (k + 1) := by
  funext f o
  simp only [u2, fzC]
  by_cases e : o = k
  · subst e
    by_cases e3 : f = 43
    · simp [e3]
    · simp [e3]
  · have e4 : (o < k + 1) = (o < k) := propext ⟨fun q => by omega, fun q => by omega⟩
    simp [e, e4]
def frC (a : Nat) (ρ : RH) : RH := if ρ 6 0 - ρ 6 0 / 6 * 6 = 0 then fzC ρ a else ρ
/-- what is on the sledge comes to the raft, of the first k -/
def ulC (ρ : RH) (j k : Nat) : RH := fun f l => if f = 19 ∧ l = j then ρ 19 j + ldOf k ρ (nI j) else if l < k ∧ ρ 32 l = 1 ∧ ρ 33 l = nI j ∧ (f = 32 ∨ f = 33 ∨ f = 34) then (if f = 32 then 3 else if f = 33 then -1 else ρ 6 0) else ρ f l
theorem ulC_0 {ρ : RH} {j : Nat} : ulC ρ j 0 = ρ := by
  funext f l
  by_cases e : f = 19 ∧ l = j
  · simp [ulC, e, ldOf, sm]
  · simp [ulC, e]
theorem ulC_at {ρ : RH} {j k f l : Nat} (h : f ≠ 19) (h2 : k ≤ l) : ulC ρ j k f l = ρ f l := by
  unfold ulC
  rw [if_neg (fun q => h q.1), if_neg (fun q => absurd q.1 (Nat.not_lt.mpr h2))]
theorem ulC_f {ρ : RH} {j k f l : Nat} (h : f ≠ 19) (h2 : f < 32 ∨ 34 < f) : ulC ρ j k f l = ρ f l := by
  unfold ulC
  rw [if_neg (fun q => h q.1), if_neg (fun q => by omega)]
theorem ulC_19 {ρ : RH} {j k : Nat} : ulC ρ j k 19 j = ρ 19 j + ldOf k ρ (nI j) := if_pos ⟨rfl, rfl⟩
theorem ulC_y {ρ : RH} {j k : Nat} (h : ρ 32 k = 1) (h2 : ρ 33 k = nI j) : u2 (u2 (lieC (ulC ρ j k) k 3 (-1)) 34 k (ρ 6 0)) 19 j (ρ 19 j + ldOf k ρ (nI j) + ρ 31 k) = ulC ρ j (k + 1) := by
  have e5 : ldOf (k + 1) ρ (nI j) = ldOf k ρ (nI j) + ρ 31 k := by simp [ldOf, sm, h, h2]
  funext f l
  simp only [lieC, u2, ulC, e5]
  by_cases e19 : f = 19 ∧ l = j
  · simp [e19, Int32.add_assoc]
  · by_cases e : l = k
    · subst e
      by_cases e3 : f = 33
      · simp [e3, h, h2]
      · by_cases e2 : f = 32
        · simp [e2, h, h2]
        · by_cases e34 : f = 34
          · simp [e34, h, h2]
          · by_cases e9 : f = 19
            · have : ¬ l = j := fun q => e19 ⟨e9, q⟩
              simp [e9, this]
            · simp [e2, e3, e34, e9]
    · have e4 : (l < k + 1) = (l < k) := propext ⟨fun q => by omega, fun q => by omega⟩
      simp [e19, e, e4]
theorem ulC_n {ρ : RH} {j k : Nat} (h : ¬ (ρ 32 k = 1 ∧ ρ 33 k = nI j)) : ulC ρ j (k + 1) = ulC ρ j k := by
  have e5 : ldOf (k + 1) ρ (nI j) = ldOf k ρ (nI j) := by simp [ldOf, sm, h]
  funext f l
  simp only [ulC, e5]
  by_cases e : l = k
  · subst e
    have h8 : ∀ p : Prop, ¬ (l < l + 1 ∧ ρ 32 l = 1 ∧ ρ 33 l = nI j ∧ p) := fun p q => h ⟨q.2.1, q.2.2.1⟩
    have h9 : ∀ p : Prop, ¬ (l < l ∧ p) := fun p q => absurd q.1 (Nat.lt_irrefl _)
    simp only [h8, h9, if_false]
  · have e4 : (l < k + 1) = (l < k) := propext ⟨fun q => by omega, fun q => by omega⟩
    simp only [e4]

set_option maxHeartbeats 1000000 in
theorem k_X2_lie {l : Launch} {D : va_G} {cA : Nat → ClassId} {n0 : Nat} {XW : State → Heap → Prop} (hX : SF n0 XW) {sz : Nat} {τ : TY} {M0 M : ME} {r a b c : Nat} {ρ : RH} {ν : NU} (hR : LM τ M0 M r a b c ρ ν) {j : Nat} (hj : j < c) (x y : Int32) : CT l D cA n0 XW mX2_lie 1 0 0 sz τ M [.ref (lgA r j), .int x, .int y] (MUq none sz τ (fun M' => LM τ M0 M' r a b c (lieC ρ j x y) (ν))) := by
  refine CT.of (ls := [.ref (lgA r j), .int x, .int y]) (by decide) (Nat.le_of_ble_eq_true rfl) rfl ?_
  refine T_aload0 dX2_lie_0 rfl ?_
  refine T_iload1 dX2_lie_1 rfl ?_
  refine p2_28 rfl (hR.tl (by omega)) dX2_lie_2 rfl ?_
  refine T_nm (fun M1 e1 => ?_)
  have hR := LM.mv (hR.pl (by omega) (by omega)) e1
  refine T_aload0 dX2_lie_5 rfl ?_
  refine T_iload2 dX2_lie_6 rfl ?_
  refine p2_31 rfl (hR.tl (by omega)) dX2_lie_7 rfl ?_
  refine T_nm (fun M2 e2 => ?_)
  have hR := LM.mv (hR.pl (by omega) (by omega)) e2
  refine T_vret rfl dX2_lie_10 ?_
  exact ⟨rfl, rfl, rfl, hR⟩
set_option maxHeartbeats 1000000 in
theorem k_X1_stand {l : Launch} {D : va_G} {cA : Nat → ClassId} {n0 : Nat} {XW : State → Heap → Prop} (hX : SF n0 XW) {sz : Nat} {τ : TY} {M0 M : ME} {r a b c : Nat} {ρ : RH} {ν : NU} (hR : LM τ M0 M r a b c ρ ν) {h : Nat} (hh : h < b) (p d u : Int32) (hb : b01 d) : CT l D cA n0 XW mX1_stand 1 0 0 sz τ M [.ref (hsA r h), .int p, .int d, .int u] (MUq none sz τ (fun M' => LM τ M0 M' r a b c (standC ρ h p d u) (ν))) := by
  refine CT.of (ls := [.ref (hsA r h), .int p, .int d, .int u]) (by decide) (Nat.le_of_ble_eq_true rfl) rfl ?_
  refine T_aload0 dX1_stand_0 rfl ?_
  refine T_iload1 dX1_stand_1 rfl ?_
  refine p1_29 rfl (hR.th (by omega)) dX1_stand_2 rfl ?_
  refine T_nm (fun M1 e1 => ?_)
  have hR := LM.mv (hR.ph (by omega) (by omega)) e1
  refine T_aload0 dX1_stand_5 rfl ?_
  refine T_iload2 dX1_stand_6 rfl ?_
  refine p1_32 (by first | exact Or.inl rfl | exact Or.inr rfl | assumption) rfl (hR.th (by omega)) dX1_stand_7 rfl ?_
  refine T_nm (fun M2 e2 => ?_)
  have hR := LM.mv (hR.ph (by omega) (by omega)) e2
  refine T_aload0 dX1_stand_10 rfl ?_
  refine T_iload3 dX1_stand_11 rfl ?_
  refine p1_35 rfl (hR.th (by omega)) dX1_stand_12 rfl ?_
  refine T_nm (fun M3 e3 => ?_)
  have hR := LM.mv (hR.ph (by omega) (by omega)) e3
  refine T_vret rfl dX1_stand_15 ?_
  exact ⟨rfl, rfl, rfl, hR⟩
set_option maxHeartbeats 1000000 in
theorem k_X1_tire {l : Launch} {D : va_G} {cA : Nat → ClassId} {n0 : Nat} {XW : State → Heap → Prop} (hX : SF n0 XW) {sz : Nat} {τ : TY} {M0 M : ME} {r a b c : Nat} {ρ : RH} {ν : NU} (hR : LM τ M0 M r a b c ρ ν) {h : Nat} (hh : h < b) (x : Int32) : CT l D cA n0 XW mX1_tire 2 0 0 sz τ M [.ref (hsA r h), .int x] (MUq none sz τ (fun M' => LM τ M0 M' r a b c (tireC ρ h x) (ν))) := by
  refine CT.of (ls := [.ref (hsA r h), .int x]) (by decide) (Nat.le_of_ble_eq_true rfl) rfl ?_
  refine T_aload0 dX1_tire_0 rfl ?_
  refine T_iconst (0) dX1_tire_1 rfl rfl ?_
  refine T_bipush (60) dX1_tire_2 rfl rfl ?_
  refine T_aload0 dX1_tire_4 rfl ?_
  refine g1_38 _ rfl (hR.th (by omega)) (hR.h8 (by omega)) dX1_tire_5 rfl ?_
  refine T_iload1 dX1_tire_8 rfl ?_
  refine T_iadd dX1_tire_9 rfl ?_
  refine T_min km1_51 (by decide) (Nat.le_of_ble_eq_true rfl) dX1_tire_10 rfl ?_
  refine T_max km1_57 (by decide) (Nat.le_of_ble_eq_true rfl) dX1_tire_13 rfl ?_
  refine p1_38 rfl (hR.th (by omega)) dX1_tire_16 rfl ?_
  refine T_nm (fun M1 e1 => ?_)
  have hR := LM.mv (hR.ph (by omega) (by omega)) e1
  refine T_vret rfl dX1_tire_19 ?_
  exact ⟨rfl, rfl, rfl, hR⟩
set_option maxHeartbeats 1000000 in
theorem c_X6_addLinks {l : Launch} {D : va_G} {cA : Nat → ClassId} {n0 : Nat} {XW : State → Heap → Prop} (hX : SF n0 XW) {sz : Nat} {τ : TY} {M0 M : ME} {r a b c : Nat} {ρ : RH} {ν : NU} (hR : LM τ M0 M r a b c ρ ν) {j : Nat} (hj : j < b) (x : Int32) : CT l D cA n0 XW mX6_addLinks 2 0 0 sz τ M [.ref r, .int (nI j), .int x] (MUq (some (.int (minI (ρ 12 j + x) 9))) sz τ (fun M' => LM τ M0 M' r a b c (u2 ρ 12 j (minI (ρ 12 j + x) 9)) (ν))) := by
  refine CT.of (ls := [.ref r, .int (nI j), .int x]) (by decide) (Nat.le_of_ble_eq_true rfl) rfl ?_
  obtain ⟨l3, l4, l5⟩ := hR.ok
  refine T_aload0 dX6_addLinks_0 rfl ?_
  refine T_iload1 dX6_addLinks_1 rfl ?_
  refine T_cV1 (c_X6_hasHorse hX hR _) hX k6_107 (Or.inl ⟨_, _, _, _, hR.t, by decide, rfl⟩) (by decide) (Nat.le_of_ble_eq_true rfl) dX6_addLinks_2 rfl ?_
  rintro _ _ _ _ ⟨rfl, rfl, rfl, rfl⟩
  refine T_if_ne_t 10 dX6_addLinks_5 (by decide) (by rw [hasI_t rfl rfl hj]; decide) ?_
  refine T_aload0 dX6_addLinks_10 rfl ?_
  refine g6_20 _ rfl hR.t hR.r1 dX6_addLinks_11 rfl ?_
  refine T_iload1 dX6_addLinks_14 rfl ?_
  refine T_aald 3 _ (by decide) hR.tH rfl (by omega) (by decide) dX6_addLinks_15 rfl (hR.H (by omega)) ?_
  refine T_bipush (9) dX6_addLinks_16 rfl rfl ?_
  refine T_aload0 dX6_addLinks_18 rfl ?_
  refine g6_20 _ rfl hR.t hR.r1 dX6_addLinks_19 rfl ?_
  refine T_iload1 dX6_addLinks_22 rfl ?_
  refine T_aald 3 _ (by decide) hR.tH rfl (by omega) (by decide) dX6_addLinks_23 rfl (hR.H (by omega)) ?_
  refine g6_113 _ rfl (hR.th (by omega)) (hR.h2 (by omega)) dX6_addLinks_24 rfl ?_
  refine T_iload2 dX6_addLinks_27 rfl ?_
  refine T_iadd dX6_addLinks_28 rfl ?_
  refine T_min km6_159 (by decide) (Nat.le_of_ble_eq_true rfl) dX6_addLinks_29 rfl ?_
  refine p6_113 rfl (hR.th (by omega)) dX6_addLinks_32 rfl ?_
  refine T_nm (fun M1 e1 => ?_)
  have hR := LM.mv (hR.ph (by omega) (by omega)) e1
  refine T_aload0 dX6_addLinks_35 rfl ?_
  refine g6_20 _ rfl hR.t hR.r1 dX6_addLinks_36 rfl ?_
  refine T_iload1 dX6_addLinks_39 rfl ?_
  refine T_aald 3 _ (by decide) hR.tH rfl (by omega) (by decide) dX6_addLinks_40 rfl (hR.H (by omega)) ?_
  refine g6_113 _ rfl (hR.th (by omega)) (hR.h2 (by omega)) dX6_addLinks_41 rfl ?_
  refine T_iret rfl rfl dX6_addLinks_44 ?_
  refine ⟨congrArg (fun z => some (Value.int z)) ?_, rfl, rfl, hR⟩
  exact u2_s _ 12 _ _
set_option maxHeartbeats 1000000 in
theorem c_X6_strengthen {l : Launch} {D : va_G} {cA : Nat → ClassId} {n0 : Nat} {XW : State → Heap → Prop} (hX : SF n0 XW) {sz : Nat} {τ : TY} {M0 M : ME} {r a b c : Nat} {ρ : RH} {ν : NU} (hR : LM τ M0 M r a b c ρ ν) {j : Nat} (hj : j < b) : CT l D cA n0 XW mX6_strengthen 2 0 0 sz τ M [.ref r, .int (nI j)] (MUq none sz τ (fun M' => LM τ M0 M' r a b c (u2 ρ 13 j (ρ 13 j + 10)) (ν))) := by
  refine CT.of (ls := [.ref r, .int (nI j)]) (by decide) (Nat.le_of_ble_eq_true rfl) rfl ?_
  obtain ⟨l3, l4, l5⟩ := hR.ok
  refine T_aload0 dX6_strengthen_0 rfl ?_
  refine T_iload1 dX6_strengthen_1 rfl ?_
  refine T_cV1 (c_X6_hasHorse hX hR _) hX k6_107 (Or.inl ⟨_, _, _, _, hR.t, by decide, rfl⟩) (by decide) (Nat.le_of_ble_eq_true rfl) dX6_strengthen_2 rfl ?_
  rintro _ _ _ _ ⟨rfl, rfl, rfl, rfl⟩
  refine T_if_eq_f 24 8 dX6_strengthen_5 (by decide) rfl (by rw [hasI_t rfl rfl hj]; decide) ?_
  refine T_aload0 dX6_strengthen_8 rfl ?_
  refine g6_20 _ rfl hR.t hR.r1 dX6_strengthen_9 rfl ?_
  refine T_iload1 dX6_strengthen_12 rfl ?_
  refine T_aald 3 _ (by decide) hR.tH rfl (by omega) (by decide) dX6_strengthen_13 rfl (hR.H (by omega)) ?_
  refine T_dup dX6_strengthen_14 rfl rfl ?_
  refine g6_116 _ rfl (hR.th (by omega)) (hR.h3 (by omega)) dX6_strengthen_15 rfl ?_
  refine T_bipush (10) dX6_strengthen_18 rfl rfl ?_
  refine T_iadd dX6_strengthen_20 rfl ?_
  refine p6_116 rfl (hR.th (by omega)) dX6_strengthen_21 rfl ?_
  refine T_nm (fun M1 e1 => ?_)
  have hR := LM.mv (hR.ph (by omega) (by omega)) e1
  refine T_vret rfl dX6_strengthen_24 ?_
  exact ⟨rfl, rfl, rfl, hR⟩
set_option maxHeartbeats 1000000 in
theorem L_X6_bringBack {l : Launch} {D : va_G} {cA : Nat → ClassId} {n0 : Nat} {XW : State → Heap → Prop} (hX : SF n0 XW) {sz : Nat} {τ : TY} {M0 : ME} {r a b c : Nat} {ρ : RH} {ν : NU} (x : Int32) : ∀ (n : Nat) (k : Nat) (acc : Int32) (u : Value) (Mk : ME) (hk : k ≤ c) (ha : acc = flOf k ρ x) (hR : LM τ M0 Mk r a b c (mpL ρ 2 x 0 (-1) k) ν), c - k < n → T l D cA n0 XW mX6_bringBack 2 0 0 sz τ Mk 4 [.ref r, .int x, .int acc, .int (nI k), u] [] (MUq (some (.int (flOf c ρ x))) sz τ (fun M' => LM τ M0 M' r a b c (mpL ρ 2 x 0 (-1) c) (ν))) (fun _ _ _ _ => False) := by
  intro n
  induction n with
  | zero => intros; omega
  | succ n ih =>
    intro k acc u Mk hk ha hR hn
    obtain ⟨l3, l4, l5⟩ := hR.ok
    refine T_iload3 dX6_bringBack_4 rfl ?_
    refine T_aload0 dX6_bringBack_5 rfl ?_
    refine g6_39 _ rfl hR.t hR.r5 dX6_bringBack_6 rfl ?_
    refine T_icmp_ge 54 12 dX6_bringBack_9 (by decide) rfl (fun c9 => ?_) (fun c9 => ?_)
    ·
      have c9 := le_out rfl c9
      refine T_iload2 dX6_bringBack_54 rfl ?_
      refine T_iret rfl rfl dX6_bringBack_55 ?_
      have hkk : k = c := by omega
      subst hkk
      exact ⟨congrArg (fun z => some (Value.int z)) ha, rfl, rfl, hR⟩
    ·
      have c9 := lt_in rfl c9
      refine T_aload0 dX6_bringBack_12 rfl ?_
      refine g6_27 _ rfl hR.t hR.r2 dX6_bringBack_13 rfl ?_
      refine T_iload3 dX6_bringBack_16 rfl ?_
      refine T_aald 4 _ (by decide) hR.tL rfl (by omega) (by decide) dX6_bringBack_17 rfl (hR.L (by omega)) ?_
      refine T_astore4 rfl (by decide) dX6_bringBack_18 rfl ?_
      refine T_aload4 dX6_bringBack_20 rfl ?_
      refine g6_144 _ rfl (hR.tl (by omega)) (hR.l2 (by omega)) dX6_bringBack_22 rfl ?_
      refine T_iconst (2) dX6_bringBack_25 rfl rfl ?_
      refine T_icmp_ne 48 29 dX6_bringBack_26 (by decide) rfl (fun c1 => ?_) (fun c1 => ?_)
      ·
        rw [mpL_at (Nat.le_refl _)] at c1
        first | refine T_iinc3 rfl (by decide) dX6_bringBack_48 rfl (inc1 _) ?_ | refine T_iinc3 rfl (by decide) dX6_bringBack_48 rfl rfl ?_
        refine T_goto 4 dX6_bringBack_51 (by decide) ?_
        first | exact ih (k + 1) _ _ _ (by omega) (by unfold flOf at *; rw [sm, ha]; simp [c1, c2]) (by rw [← mpL_y c1 c2]; exact hR) (by omega) | exact ih (k + 1) _ _ _ (by omega) (by unfold flOf at *; rw [sm, ha]; first | (simp [c1]; done) | (simp [c2]; done)) (by rw [mpL_n (fun q => by first | exact c1 q.1 | exact c2 q.2)]; exact hR) (by omega)
      ·
        rw [mpL_at (Nat.le_refl _)] at c1
        refine T_aload4 dX6_bringBack_29 rfl ?_
        refine g6_147 _ rfl (hR.tl (by omega)) (hR.l3 (by omega)) dX6_bringBack_31 rfl ?_
        refine T_iload1 dX6_bringBack_34 rfl ?_
        refine T_icmp_ne 48 38 dX6_bringBack_35 (by decide) rfl (fun c2 => ?_) (fun c2 => ?_)
        ·
          rw [mpL_at (Nat.le_refl _)] at c2
          first | refine T_iinc3 rfl (by decide) dX6_bringBack_48 rfl (inc1 _) ?_ | refine T_iinc3 rfl (by decide) dX6_bringBack_48 rfl rfl ?_
          refine T_goto 4 dX6_bringBack_51 (by decide) ?_
          first | exact ih (k + 1) _ _ _ (by omega) (by unfold flOf at *; rw [sm, ha]; simp [c1, c2]) (by rw [← mpL_y c1 c2]; exact hR) (by omega) | exact ih (k + 1) _ _ _ (by omega) (by unfold flOf at *; rw [sm, ha]; first | (simp [c1]; done) | (simp [c2]; done)) (by rw [mpL_n (fun q => by first | exact c1 q.1 | exact c2 q.2)]; exact hR) (by omega)
        ·
          rw [mpL_at (Nat.le_refl _)] at c2
          refine T_aload4 dX6_bringBack_38 rfl ?_
          refine T_iconst (0) dX6_bringBack_40 rfl rfl ?_
          refine T_iconst (-1) dX6_bringBack_41 rfl rfl ?_
          refine T_cV2 (k_X2_lie hX hR (by omega) _ _) hX k6_162 (Or.inl ⟨_, _, _, _, (hR.tl (by omega)), by decide, rfl⟩) (by decide) (Nat.le_of_ble_eq_true rfl) dX6_bringBack_42 rfl ?_
          rintro _ _ _ M1 ⟨rfl, rfl, rfl, hR⟩
          first | refine T_iinc2 rfl (by decide) dX6_bringBack_45 rfl (inc1 _) ?_ | refine T_iinc2 rfl (by decide) dX6_bringBack_45 rfl rfl ?_
          first | refine T_iinc3 rfl (by decide) dX6_bringBack_48 rfl (inc1 _) ?_ | refine T_iinc3 rfl (by decide) dX6_bringBack_48 rfl rfl ?_
          refine T_goto 4 dX6_bringBack_51 (by decide) ?_
          first | exact ih (k + 1) _ _ _ (by omega) (by unfold flOf at *; rw [sm, ha]; simp [c1, c2]) (by rw [← mpL_y c1 c2]; exact hR) (by omega) | exact ih (k + 1) _ _ _ (by omega) (by unfold flOf at *; rw [sm, ha]; first | (simp [c1]; done) | (simp [c2]; done)) (by rw [mpL_n (fun q => by first | exact c1 q.1 | exact c2 q.2)]; exact hR) (by omega)
set_option maxHeartbeats 1000000 in
theorem c_X6_bringBack {l : Launch} {D : va_G} {cA : Nat → ClassId} {n0 : Nat} {XW : State → Heap → Prop} (hX : SF n0 XW) {sz : Nat} {τ : TY} {M0 M : ME} {r a b c : Nat} {ρ : RH} {ν : NU} (hR : LM τ M0 M r a b c ρ ν) (x : Int32) : CT l D cA n0 XW mX6_bringBack 2 0 0 sz τ M [.ref r, .int x] (MUq (some (.int (flOf c ρ x))) sz τ (fun M' => LM τ M0 M' r a b c (mpL ρ 2 x 0 (-1) c) (ν))) := by
  refine CT.of (ls := [.ref r, .int x, UU, UU, UU]) (by decide) (Nat.le_of_ble_eq_true rfl) rfl ?_
  refine T_iconst (0) dX6_bringBack_0 rfl rfl ?_
  refine T_istore2 rfl (by decide) dX6_bringBack_1 rfl ?_
  refine T_iconst (0) dX6_bringBack_2 rfl rfl ?_
  refine T_istore3 rfl (by decide) dX6_bringBack_3 rfl ?_
  exact L_X6_bringBack hX x (c + 1) 0 0 UU M (Nat.zero_le _) rfl (by rw [mpL_0]; exact hR) (by omega)
set_option maxHeartbeats 1000000 in
theorem L_X6_putOnSledge {l : Launch} {D : va_G} {cA : Nat → ClassId} {n0 : Nat} {XW : State → Heap → Prop} (hX : SF n0 XW) {sz : Nat} {τ : TY} {M0 : ME} {r a b c : Nat} {ρ : RH} {ν : NU} (x m : Int32) : ∀ (n : Nat) (k : Nat) (Mk : ME) (hk : k ≤ c) (hR : LM τ M0 Mk r a b c ((psC ρ x m k).1) ν), c - k < n → T l D cA n0 XW mX6_putOnSledge 2 0 0 sz τ Mk 8 [.ref r, .int x, .int m, .int (psC ρ x m k).2.1, .int (nI (psC ρ x m k).2.2), .int (nI k)] [] (MUq (some (.int (psR ρ x m c))) sz τ (fun M' => LM τ M0 M' r a b c ((psC ρ x m c).1) (ν))) (fun _ _ _ _ => False) := by
  intro n
  induction n with
  | zero => intros; omega
  | succ n ih =>
    intro k Mk hk hR hn
    obtain ⟨l3, l4, l5⟩ := hR.ok
    have h5 := psC_5 (ρ := ρ) (x := x) (m := m) (k := k)
    refine T_iload5 dX6_putOnSledge_8 rfl ?_
    refine T_aload0 dX6_putOnSledge_10 rfl ?_
    refine g6_39 _ rfl hR.t hR.r5 dX6_putOnSledge_11 rfl ?_
    refine T_icmp_ge 86 17 dX6_putOnSledge_14 (by decide) rfl (fun c9 => ?_) (fun c9 => ?_)
    ·
      have c9 := le_out rfl c9
      refine T_iload4 dX6_putOnSledge_86 rfl ?_
      refine T_if_le 95 91 dX6_putOnSledge_88 (by decide) rfl (fun c88 => ?_) (fun c88 => ?_)
      ·
        refine T_iconst (0) dX6_putOnSledge_95 rfl rfl ?_
        refine T_iret rfl rfl dX6_putOnSledge_96 ?_
        have e9 : psC ρ x m c = psC ρ x m k := by first | exact psC_full c20 hk | exact congrArg (psC ρ x m) (show c = k by omega)
        refine ⟨congrArg (fun z => some (Value.int z)) ?_, rfl, rfl, by rw [e9]; exact hR⟩
        unfold psR
        rw [e9]
        by_cases q : (psC ρ x m k).2.2 = 0
        · first | (rw [if_pos q]; done) | exact absurd (by rw [q]; decide) c88
        · first | (rw [if_neg q]; done) | exact absurd (Nat.le_zero.mp ((nI_leI (a := (psC ρ x m k).2.2) (b := 0) (by omega) (by omega)).mp c88)) q
      ·
        refine T_iconst (1) dX6_putOnSledge_91 rfl rfl ?_
        refine T_goto 96 dX6_putOnSledge_92 (by decide) ?_
        refine T_iret rfl rfl dX6_putOnSledge_96 ?_
        have e9 : psC ρ x m c = psC ρ x m k := by first | exact psC_full c20 hk | exact congrArg (psC ρ x m) (show c = k by omega)
        refine ⟨congrArg (fun z => some (Value.int z)) ?_, rfl, rfl, by rw [e9]; exact hR⟩
        unfold psR
        rw [e9]
        by_cases q : (psC ρ x m k).2.2 = 0
        · first | (rw [if_pos q]; done) | exact absurd (by rw [q]; decide) c88
        · first | (rw [if_neg q]; done) | exact absurd (Nat.le_zero.mp ((nI_leI (a := (psC ρ x m k).2.2) (b := 0) (by omega) (by omega)).mp c88)) q
    ·
      have c9 := lt_in rfl c9
      refine T_iload4 dX6_putOnSledge_17 rfl ?_
      refine T_iconst (5) dX6_putOnSledge_19 rfl rfl ?_
      refine T_icmp_ge 86 23 dX6_putOnSledge_20 (by decide) rfl (fun c20 => ?_) (fun c20 => ?_)
      ·
        have c20 := le_out (c := 5) rfl c20
        refine T_iload4 dX6_putOnSledge_86 rfl ?_
        refine T_if_le 95 91 dX6_putOnSledge_88 (by decide) rfl (fun c88 => ?_) (fun c88 => ?_)
        ·
          refine T_iconst (0) dX6_putOnSledge_95 rfl rfl ?_
          refine T_iret rfl rfl dX6_putOnSledge_96 ?_
          have e9 : psC ρ x m c = psC ρ x m k := by first | exact psC_full c20 hk | exact congrArg (psC ρ x m) (show c = k by omega)
          refine ⟨congrArg (fun z => some (Value.int z)) ?_, rfl, rfl, by rw [e9]; exact hR⟩
          unfold psR
          rw [e9]
          by_cases q : (psC ρ x m k).2.2 = 0
          · first | (rw [if_pos q]; done) | exact absurd (by rw [q]; decide) c88
          · first | (rw [if_neg q]; done) | exact absurd (Nat.le_zero.mp ((nI_leI (a := (psC ρ x m k).2.2) (b := 0) (by omega) (by omega)).mp c88)) q
        ·
          refine T_iconst (1) dX6_putOnSledge_91 rfl rfl ?_
          refine T_goto 96 dX6_putOnSledge_92 (by decide) ?_
          refine T_iret rfl rfl dX6_putOnSledge_96 ?_
          have e9 : psC ρ x m c = psC ρ x m k := by first | exact psC_full c20 hk | exact congrArg (psC ρ x m) (show c = k by omega)
          refine ⟨congrArg (fun z => some (Value.int z)) ?_, rfl, rfl, by rw [e9]; exact hR⟩
          unfold psR
          rw [e9]
          by_cases q : (psC ρ x m k).2.2 = 0
          · first | (rw [if_pos q]; done) | exact absurd (by rw [q]; decide) c88
          · first | (rw [if_neg q]; done) | exact absurd (Nat.le_zero.mp ((nI_leI (a := (psC ρ x m k).2.2) (b := 0) (by omega) (by omega)).mp c88)) q
      ·
        have c20 := lt_in (c := 5) rfl c20
        refine T_aload0 dX6_putOnSledge_23 rfl ?_
        refine g6_27 _ rfl hR.t hR.r2 dX6_putOnSledge_24 rfl ?_
        refine T_iload5 dX6_putOnSledge_27 rfl ?_
        refine T_aald 4 _ (by decide) hR.tL rfl (by omega) (by decide) dX6_putOnSledge_29 rfl (hR.L (by omega)) ?_
        refine g6_144 _ rfl (hR.tl (by omega)) (hR.l2 (by omega)) dX6_putOnSledge_30 rfl ?_
        refine T_if_ne 80 36 dX6_putOnSledge_33 (by decide) rfl (fun c33 => ?_) (fun c33 => ?_)
        ·
          rw [psC_at (Nat.le_refl _)] at c33
          first | refine T_iinc5 rfl (by decide) dX6_putOnSledge_80 rfl (inc1 _) ?_ | refine T_iinc5 rfl (by decide) dX6_putOnSledge_80 rfl rfl ?_
          refine T_goto 8 dX6_putOnSledge_83 (by decide) ?_
          first
            | (have e := psC_y c20 c33 (Int32.not_lt.mp c49)
               have h := ih (k + 1) _ (by omega) (by rw [e]; exact hR) (by omega)
               rw [e, ← (psC_at (Nat.le_refl k) : (psC ρ x m k).1 31 k = ρ 31 k)] at h
               exact h)
            | (have e : psC ρ x m (k + 1) = psC ρ x m k := psC_n (fun q => by first | exact c33 q.2.1 | exact Int32.not_le.mpr c49 q.2.2)
               have h := ih (k + 1) _ (by omega) (by rw [e]; exact hR) (by omega)
               rw [e] at h
               exact h)
        ·
          rw [psC_at (Nat.le_refl _)] at c33
          refine T_iload3 dX6_putOnSledge_36 rfl ?_
          refine T_aload0 dX6_putOnSledge_37 rfl ?_
          refine g6_27 _ rfl hR.t hR.r2 dX6_putOnSledge_38 rfl ?_
          refine T_iload5 dX6_putOnSledge_41 rfl ?_
          refine T_aald 4 _ (by decide) hR.tL rfl (by omega) (by decide) dX6_putOnSledge_43 rfl (hR.L (by omega)) ?_
          refine g6_141 _ rfl (hR.tl (by omega)) (hR.l1 (by omega)) dX6_putOnSledge_44 rfl ?_
          refine T_iadd dX6_putOnSledge_47 rfl ?_
          refine T_iload2 dX6_putOnSledge_48 rfl ?_
          refine T_icmp_gt 80 52 dX6_putOnSledge_49 (by decide) rfl (fun c49 => ?_) (fun c49 => ?_)
          ·
            rw [psC_at (Nat.le_refl _)] at c49
            first | refine T_iinc5 rfl (by decide) dX6_putOnSledge_80 rfl (inc1 _) ?_ | refine T_iinc5 rfl (by decide) dX6_putOnSledge_80 rfl rfl ?_
            refine T_goto 8 dX6_putOnSledge_83 (by decide) ?_
            first
              | (have e := psC_y c20 c33 (Int32.not_lt.mp c49)
                 have h := ih (k + 1) _ (by omega) (by rw [e]; exact hR) (by omega)
                 rw [e, ← (psC_at (Nat.le_refl k) : (psC ρ x m k).1 31 k = ρ 31 k)] at h
                 exact h)
              | (have e : psC ρ x m (k + 1) = psC ρ x m k := psC_n (fun q => by first | exact c33 q.2.1 | exact Int32.not_le.mpr c49 q.2.2)
                 have h := ih (k + 1) _ (by omega) (by rw [e]; exact hR) (by omega)
                 rw [e] at h
                 exact h)
          ·
            rw [psC_at (Nat.le_refl _)] at c49
            refine T_aload0 dX6_putOnSledge_52 rfl ?_
            refine g6_27 _ rfl hR.t hR.r2 dX6_putOnSledge_53 rfl ?_
            refine T_iload5 dX6_putOnSledge_56 rfl ?_
            refine T_aald 4 _ (by decide) hR.tL rfl (by omega) (by decide) dX6_putOnSledge_58 rfl (hR.L (by omega)) ?_
            refine T_iconst (1) dX6_putOnSledge_59 rfl rfl ?_
            refine T_iload1 dX6_putOnSledge_60 rfl ?_
            refine T_cV2 (k_X2_lie hX hR (by omega) _ _) hX k6_162 (Or.inl ⟨_, _, _, _, (hR.tl (by omega)), by decide, rfl⟩) (by decide) (Nat.le_of_ble_eq_true rfl) dX6_putOnSledge_61 rfl ?_
            rintro _ _ _ M1 ⟨rfl, rfl, rfl, hR⟩
            refine T_iload3 dX6_putOnSledge_64 rfl ?_
            refine T_aload0 dX6_putOnSledge_65 rfl ?_
            refine g6_27 _ rfl hR.t hR.r2 dX6_putOnSledge_66 rfl ?_
            refine T_iload5 dX6_putOnSledge_69 rfl ?_
            refine T_aald 4 _ (by decide) hR.tL rfl (by omega) (by decide) dX6_putOnSledge_71 rfl (hR.L (by omega)) ?_
            refine g6_141 _ rfl (hR.tl (by omega)) (hR.l1 (by omega)) dX6_putOnSledge_72 rfl ?_
            refine T_iadd dX6_putOnSledge_75 rfl ?_
            refine T_istore3 rfl (by decide) dX6_putOnSledge_76 rfl ?_
            first | refine T_iinc4 rfl (by decide) dX6_putOnSledge_77 rfl (inc1 _) ?_ | refine T_iinc4 rfl (by decide) dX6_putOnSledge_77 rfl rfl ?_
            first | refine T_iinc5 rfl (by decide) dX6_putOnSledge_80 rfl (inc1 _) ?_ | refine T_iinc5 rfl (by decide) dX6_putOnSledge_80 rfl rfl ?_
            refine T_goto 8 dX6_putOnSledge_83 (by decide) ?_
            first
              | (have e := psC_y c20 c33 (Int32.not_lt.mp c49)
                 have h := ih (k + 1) _ (by omega) (by rw [e]; exact hR) (by omega)
                 rw [e, ← (psC_at (Nat.le_refl k) : (psC ρ x m k).1 31 k = ρ 31 k)] at h
                 exact h)
              | (have e : psC ρ x m (k + 1) = psC ρ x m k := psC_n (fun q => by first | exact c33 q.2.1 | exact Int32.not_le.mpr c49 q.2.2)
                 have h := ih (k + 1) _ (by omega) (by rw [e]; exact hR) (by omega)
                 rw [e] at h
                 exact h)
set_option maxHeartbeats 1000000 in
theorem c_X6_putOnSledge {l : Launch} {D : va_G} {cA : Nat → ClassId} {n0 : Nat} {XW : State → Heap → Prop} (hX : SF n0 XW) {sz : Nat} {τ : TY} {M0 M : ME} {r a b c : Nat} {ρ : RH} {ν : NU} (hR : LM τ M0 M r a b c ρ ν) (x m : Int32) : CT l D cA n0 XW mX6_putOnSledge 2 0 0 sz τ M [.ref r, .int x, .int m] (MUq (some (.int (psR ρ x m c))) sz τ (fun M' => LM τ M0 M' r a b c ((psC ρ x m c).1) (ν))) := by
  refine CT.of (ls := [.ref r, .int x, .int m, UU, UU, UU]) (by decide) (Nat.le_of_ble_eq_true rfl) rfl ?_
  refine T_iconst (0) dX6_putOnSledge_0 rfl rfl ?_
  refine T_istore3 rfl (by decide) dX6_putOnSledge_1 rfl ?_
  refine T_iconst (0) dX6_putOnSledge_2 rfl rfl ?_
  refine T_istore4 rfl (by decide) dX6_putOnSledge_3 rfl ?_
  refine T_iconst (0) dX6_putOnSledge_5 rfl rfl ?_
  refine T_istore5 rfl (by decide) dX6_putOnSledge_6 rfl ?_
  exact L_X6_putOnSledge hX x m (c + 1) 0 M (Nat.zero_le _) hR (by omega)
set_option maxHeartbeats 1000000 in
theorem L_X6_canGo {l : Launch} {D : va_G} {cA : Nat → ClassId} {n0 : Nat} {XW : State → Heap → Prop} (hX : SF n0 XW) {sz : Nat} {τ : TY} {M0 M : ME} {r a b c : Nat} {ρ : RH} {ν : NU} (hR : LM τ M0 M r a b c ρ ν) {j : Nat} (hj : j < b) (x : Int32) : ∀ (n : Nat) (k : Nat) (u : Value) (hk : k ≤ b) (ha : ∀ o, o < k → ¬ (ρ 15 o = x ∧ ¬ ρ 16 o = ρ 16 j ∧ (ρ 14 j = 0 ∨ ¬ ρ 14 o = 0))), b - k < n → T l D cA n0 XW mX6_canGo 1 0 0 sz τ M 2 [.ref r, .ref (hsA r j), .int x, .int (nI k), u] [] (ROq (.int (cgF b ρ j x)) sz τ M) (fun _ _ _ _ => False) := by
  intro n
  induction n with
  | zero => intros; omega
  | succ n ih =>
    intro k u hk ha hn
    obtain ⟨l3, l4, l5⟩ := hR.ok
    refine T_iload3 dX6_canGo_2 rfl ?_
    refine T_aload0 dX6_canGo_3 rfl ?_
    refine g6_36 _ rfl hR.t hR.r4 dX6_canGo_4 rfl ?_
    refine T_icmp_ge 62 10 dX6_canGo_7 (by decide) rfl (fun c7 => ?_) (fun c7 => ?_)
    ·
      have c7 := le_out rfl c7
      refine T_iconst (1) dX6_canGo_62 rfl rfl ?_
      refine T_iret rfl rfl dX6_canGo_63 ?_
      refine ⟨congrArg (fun z => some (Value.int z)) ?_, rfl, rfl, rfl⟩
      unfold cgF
      rw [if_pos (fun o ho => ha o (by omega))]
    ·
      have c7 := lt_in rfl c7
      refine T_aload0 dX6_canGo_10 rfl ?_
      refine g6_20 _ rfl hR.t hR.r1 dX6_canGo_11 rfl ?_
      refine T_iload3 dX6_canGo_14 rfl ?_
      refine T_aald 3 _ (by decide) hR.tH rfl (by omega) (by decide) dX6_canGo_15 rfl (hR.H (by omega)) ?_
      refine T_astore4 rfl (by decide) dX6_canGo_16 rfl ?_
      refine T_aload4 dX6_canGo_18 rfl ?_
      refine g6_123 _ rfl (hR.th (by omega)) (hR.h5 (by omega)) dX6_canGo_20 rfl ?_
      refine T_iload2 dX6_canGo_23 rfl ?_
      refine T_icmp_ne 56 27 dX6_canGo_24 (by decide) rfl (fun c24 => ?_) (fun c24 => ?_)
      ·
        first | refine T_iinc3 rfl (by decide) dX6_canGo_56 rfl (inc1 _) ?_ | refine T_iinc3 rfl (by decide) dX6_canGo_56 rfl rfl ?_
        refine T_goto 2 dX6_canGo_59 (by decide) ?_
        exact ih (k + 1) _ (by omega) (fun o ho => (Nat.lt_succ_iff_lt_or_eq.mp ho).elim (ha o) (fun q => by
          subst q
          intro z
          first | exact c24 z.1 | exact z.2.1 c36 | exact z.2.2.elim c43 (fun y => y c51))) (by omega)
      ·
        refine T_aload4 dX6_canGo_27 rfl ?_
        refine g6_126 _ rfl (hR.th (by omega)) (hR.h6 (by omega)) dX6_canGo_29 rfl ?_
        refine T_aload1 dX6_canGo_32 rfl ?_
        refine g6_126 _ rfl (hR.th (by omega)) (hR.h6 (by omega)) dX6_canGo_33 rfl ?_
        refine T_icmp_eq 56 39 dX6_canGo_36 (by decide) rfl (fun c36 => ?_) (fun c36 => ?_)
        ·
          first | refine T_iinc3 rfl (by decide) dX6_canGo_56 rfl (inc1 _) ?_ | refine T_iinc3 rfl (by decide) dX6_canGo_56 rfl rfl ?_
          refine T_goto 2 dX6_canGo_59 (by decide) ?_
          exact ih (k + 1) _ (by omega) (fun o ho => (Nat.lt_succ_iff_lt_or_eq.mp ho).elim (ha o) (fun q => by
            subst q
            intro z
            first | exact c24 z.1 | exact z.2.1 c36 | exact z.2.2.elim c43 (fun y => y c51))) (by omega)
        ·
          refine T_aload1 dX6_canGo_39 rfl ?_
          refine g6_119 _ rfl (hR.th (by omega)) (hR.h4 (by omega)) dX6_canGo_40 rfl ?_
          refine T_if_eq 54 46 dX6_canGo_43 (by decide) rfl (fun c43 => ?_) (fun c43 => ?_)
          ·
            refine T_iconst (0) dX6_canGo_54 rfl rfl ?_
            refine T_iret rfl rfl dX6_canGo_55 ?_
            refine ⟨congrArg (fun z => some (Value.int z)) ?_, rfl, rfl, rfl⟩
            unfold cgF
            rw [if_neg (fun q => q k c7 ⟨c24, c36, by first | exact Or.inl c43 | exact Or.inr c51⟩)]
          ·
            refine T_aload4 dX6_canGo_46 rfl ?_
            refine g6_119 _ rfl (hR.th (by omega)) (hR.h4 (by omega)) dX6_canGo_48 rfl ?_
            refine T_if_eq 56 54 dX6_canGo_51 (by decide) rfl (fun c51 => ?_) (fun c51 => ?_)
            ·
              first | refine T_iinc3 rfl (by decide) dX6_canGo_56 rfl (inc1 _) ?_ | refine T_iinc3 rfl (by decide) dX6_canGo_56 rfl rfl ?_
              refine T_goto 2 dX6_canGo_59 (by decide) ?_
              exact ih (k + 1) _ (by omega) (fun o ho => (Nat.lt_succ_iff_lt_or_eq.mp ho).elim (ha o) (fun q => by
                subst q
                intro z
                first | exact c24 z.1 | exact z.2.1 c36 | exact z.2.2.elim c43 (fun y => y c51))) (by omega)
            ·
              refine T_iconst (0) dX6_canGo_54 rfl rfl ?_
              refine T_iret rfl rfl dX6_canGo_55 ?_
              refine ⟨congrArg (fun z => some (Value.int z)) ?_, rfl, rfl, rfl⟩
              unfold cgF
              rw [if_neg (fun q => q k c7 ⟨c24, c36, by first | exact Or.inl c43 | exact Or.inr c51⟩)]
set_option maxHeartbeats 1000000 in
theorem c_X6_canGo {l : Launch} {D : va_G} {cA : Nat → ClassId} {n0 : Nat} {XW : State → Heap → Prop} (hX : SF n0 XW) {sz : Nat} {τ : TY} {M0 M : ME} {r a b c : Nat} {ρ : RH} {ν : NU} (hR : LM τ M0 M r a b c ρ ν) {j : Nat} (hj : j < b) (x : Int32) : CT l D cA n0 XW mX6_canGo 1 0 0 sz τ M [.ref r, .ref (hsA r j), .int x] (ROq (.int (cgF b ρ j x)) sz τ M) := by
  refine CT.of (ls := [.ref r, .ref (hsA r j), .int x, UU, UU]) (by decide) (Nat.le_of_ble_eq_true rfl) rfl ?_
  refine T_iconst (0) dX6_canGo_0 rfl rfl ?_
  refine T_istore3 rfl (by decide) dX6_canGo_1 rfl ?_
  exact L_X6_canGo hX hR hj x (b + 1) 0 UU (Nat.zero_le _) (fun _ h => absurd h (Nat.not_lt_zero _)) (by omega)
theorem soC_f {ρ : RH} {j k f o : Nat} {x : Int32} (h : f ≠ 20) : soC ρ j x k f o = ρ f o := if_neg (fun q => h q.1)
theorem fzC_f {ρ : RH} {k f o : Nat} (h : f ≠ 43) : fzC ρ k f o = ρ f o := if_neg (fun q => h q.1)
theorem fzC_at {ρ : RH} {k f o : Nat} (h : k ≤ o) : fzC ρ k f o = ρ f o := if_neg (fun q => absurd q.2 (Nat.not_lt.mpr h))
set_option maxHeartbeats 1000000 in
theorem L_X6_stopOthers {l : Launch} {D : va_G} {cA : Nat → ClassId} {n0 : Nat} {XW : State → Heap → Prop} (hX : SF n0 XW) {sz : Nat} {τ : TY} {M0 : ME} {r a b c : Nat} {ρ : RH} {ν : NU} {j : Nat} (hj : j < b) (x : Int32) : ∀ (n : Nat) (k : Nat) (Mk : ME) (hk : k ≤ b) (hR : LM τ M0 Mk r a b c (soC ρ j x k) ν), b - k < n → T l D cA n0 XW mX6_stopOthers 1 0 0 sz τ Mk 2 [.ref r, .ref (hsA r j), .int x, .int (nI k)] [] (MUq none sz τ (fun M' => LM τ M0 M' r a b c (soC ρ j x b) (ν))) (fun _ _ _ _ => False) := by
  intro n
  induction n with
  | zero => intros; omega
  | succ n ih =>
    intro k Mk hk hR hn
    obtain ⟨l3, l4, l5⟩ := hR.ok
    refine T_iload3 dX6_stopOthers_2 rfl ?_
    refine T_aload0 dX6_stopOthers_3 rfl ?_
    refine g6_36 _ rfl hR.t hR.r4 dX6_stopOthers_4 rfl ?_
    refine T_icmp_ge 55 10 dX6_stopOthers_7 (by decide) rfl (fun c7 => ?_) (fun c7 => ?_)
    ·
      have c7 := le_out rfl c7
      refine T_vret rfl dX6_stopOthers_55 ?_
      have hkk : k = b := by omega
      subst hkk
      exact ⟨rfl, rfl, rfl, hR⟩
    ·
      have c7 := lt_in rfl c7
      refine T_aload0 dX6_stopOthers_10 rfl ?_
      refine g6_20 _ rfl hR.t hR.r1 dX6_stopOthers_11 rfl ?_
      refine T_iload3 dX6_stopOthers_14 rfl ?_
      refine T_aald 3 _ (by decide) hR.tH rfl (by omega) (by decide) dX6_stopOthers_15 rfl (hR.H (by omega)) ?_
      refine g6_123 _ rfl (hR.th (by omega)) (hR.h5 (by omega)) dX6_stopOthers_16 rfl ?_
      refine T_iload2 dX6_stopOthers_19 rfl ?_
      refine T_icmp_ne 49 23 dX6_stopOthers_20 (by decide) rfl (fun c20 => ?_) (fun c20 => ?_)
      ·
        rw [soC_f (by decide)] at c20
        first | refine T_iinc3 rfl (by decide) dX6_stopOthers_49 rfl (inc1 _) ?_ | refine T_iinc3 rfl (by decide) dX6_stopOthers_49 rfl rfl ?_
        refine T_goto 2 dX6_stopOthers_52 (by decide) ?_
        first | exact ih (k + 1) _ (by omega) (by rw [← soC_y c20 c36]; exact hR) (by omega) | exact ih (k + 1) _ (by omega) (by rw [soC_n (fun q => by first | exact c20 q.1 | exact q.2 c36)]; exact hR) (by omega)
      ·
        rw [soC_f (by decide)] at c20
        refine T_aload0 dX6_stopOthers_23 rfl ?_
        refine g6_20 _ rfl hR.t hR.r1 dX6_stopOthers_24 rfl ?_
        refine T_iload3 dX6_stopOthers_27 rfl ?_
        refine T_aald 3 _ (by decide) hR.tH rfl (by omega) (by decide) dX6_stopOthers_28 rfl (hR.H (by omega)) ?_
        refine g6_126 _ rfl (hR.th (by omega)) (hR.h6 (by omega)) dX6_stopOthers_29 rfl ?_
        refine T_aload1 dX6_stopOthers_32 rfl ?_
        refine g6_126 _ rfl (hR.th (by omega)) (hR.h6 (by omega)) dX6_stopOthers_33 rfl ?_
        refine T_icmp_eq 49 39 dX6_stopOthers_36 (by decide) rfl (fun c36 => ?_) (fun c36 => ?_)
        ·
          rw [soC_f (by decide), soC_f (by decide)] at c36
          first | refine T_iinc3 rfl (by decide) dX6_stopOthers_49 rfl (inc1 _) ?_ | refine T_iinc3 rfl (by decide) dX6_stopOthers_49 rfl rfl ?_
          refine T_goto 2 dX6_stopOthers_52 (by decide) ?_
          first | exact ih (k + 1) _ (by omega) (by rw [← soC_y c20 c36]; exact hR) (by omega) | exact ih (k + 1) _ (by omega) (by rw [soC_n (fun q => by first | exact c20 q.1 | exact q.2 c36)]; exact hR) (by omega)
        ·
          rw [soC_f (by decide), soC_f (by decide)] at c36
          refine T_aload0 dX6_stopOthers_39 rfl ?_
          refine g6_20 _ rfl hR.t hR.r1 dX6_stopOthers_40 rfl ?_
          refine T_iload3 dX6_stopOthers_43 rfl ?_
          refine T_aald 3 _ (by decide) hR.tH rfl (by omega) (by decide) dX6_stopOthers_44 rfl (hR.H (by omega)) ?_
          refine T_iconst (1) dX6_stopOthers_45 rfl rfl ?_
          refine p6_166 (by first | exact Or.inl rfl | exact Or.inr rfl | assumption) rfl (hR.th (by omega)) dX6_stopOthers_46 rfl ?_
          refine T_nm (fun M1 e1 => ?_)
          have hR := LM.mv (hR.ph (by omega) (by omega)) e1
          first | refine T_iinc3 rfl (by decide) dX6_stopOthers_49 rfl (inc1 _) ?_ | refine T_iinc3 rfl (by decide) dX6_stopOthers_49 rfl rfl ?_
          refine T_goto 2 dX6_stopOthers_52 (by decide) ?_
          first | exact ih (k + 1) _ (by omega) (by rw [← soC_y c20 c36]; exact hR) (by omega) | exact ih (k + 1) _ (by omega) (by rw [soC_n (fun q => by first | exact c20 q.1 | exact q.2 c36)]; exact hR) (by omega)
set_option maxHeartbeats 1000000 in
theorem c_X6_stopOthers {l : Launch} {D : va_G} {cA : Nat → ClassId} {n0 : Nat} {XW : State → Heap → Prop} (hX : SF n0 XW) {sz : Nat} {τ : TY} {M0 M : ME} {r a b c : Nat} {ρ : RH} {ν : NU} (hR : LM τ M0 M r a b c ρ ν) {j : Nat} (hj : j < b) (x : Int32) : CT l D cA n0 XW mX6_stopOthers 1 0 0 sz τ M [.ref r, .ref (hsA r j), .int x] (MUq none sz τ (fun M' => LM τ M0 M' r a b c (soC ρ j x b) (ν))) := by
  refine CT.of (ls := [.ref r, .ref (hsA r j), .int x, UU]) (by decide) (Nat.le_of_ble_eq_true rfl) rfl ?_
  refine T_iconst (0) dX6_stopOthers_0 rfl rfl ?_
  refine T_istore3 rfl (by decide) dX6_stopOthers_1 rfl ?_
  exact L_X6_stopOthers hX hj x (b + 1) 0 M (Nat.zero_le _) (by rw [soC_0]; exact hR) (by omega)
set_option maxHeartbeats 1000000 in
theorem L_X6_freeze {l : Launch} {D : va_G} {cA : Nat → ClassId} {n0 : Nat} {XW : State → Heap → Prop} (hX : SF n0 XW) {sz : Nat} {τ : TY} {M0 : ME} {r a b c : Nat} {ρ : RH} {ν : NU} : ∀ (n : Nat) (k : Nat) (Mk : ME) (hk : k ≤ a) (hR : LM τ M0 Mk r a b c (fzC ρ k) ν), a - k < n → T l D cA n0 XW mX6_freeze 2 0 0 sz τ Mk 13 [.ref r, .int (nI k)] [] (MUq none sz τ (fun M' => LM τ M0 M' r a b c (fzC ρ a) (ν))) (fun _ _ _ _ => False) := by
  intro n
  induction n with
  | zero => intros; omega
  | succ n ih =>
    intro k Mk hk hR hn
    obtain ⟨l3, l4, l5⟩ := hR.ok
    refine T_iload1 dX6_freeze_13 rfl ?_
    refine T_aload0 dX6_freeze_14 rfl ?_
    refine g6_32 _ rfl hR.t hR.r3 dX6_freeze_15 rfl ?_
    refine T_icmp_ge 59 21 dX6_freeze_18 (by decide) rfl (fun c7 => ?_) (fun c7 => ?_)
    ·
      have c7 := le_out rfl c7
      refine T_vret rfl dX6_freeze_59 ?_
      have hkk : k = a := by omega
      subst hkk
      exact ⟨rfl, rfl, rfl, hR⟩
    ·
      have c7 := lt_in rfl c7
      refine T_aload0 dX6_freeze_21 rfl ?_
      refine g6_11 _ rfl hR.t hR.r0 dX6_freeze_22 rfl ?_
      refine T_iload1 dX6_freeze_25 rfl ?_
      refine T_aald 6 _ (by decide) hR.tS rfl (by omega) (by decide) dX6_freeze_26 rfl (hR.S (by omega)) ?_
      refine T_iconst (0) dX6_freeze_27 rfl rfl ?_
      refine T_bipush (9) dX6_freeze_28 rfl rfl ?_
      refine T_aload0 dX6_freeze_30 rfl ?_
      refine g6_11 _ rfl hR.t hR.r0 dX6_freeze_31 rfl ?_
      refine T_iload1 dX6_freeze_34 rfl ?_
      refine T_aald 6 _ (by decide) hR.tS rfl (by omega) (by decide) dX6_freeze_35 rfl (hR.S (by omega)) ?_
      refine g6_101 _ rfl (hR.ts (by omega)) (hR.s3 (by omega)) dX6_freeze_36 rfl ?_
      refine T_aload0 dX6_freeze_39 rfl ?_
      refine g6_45 _ rfl hR.t hR.r7 dX6_freeze_40 rfl ?_
      refine T_iadd dX6_freeze_43 rfl ?_
      refine T_min km6_159 (by decide) (Nat.le_of_ble_eq_true rfl) dX6_freeze_44 rfl ?_
      refine T_max km6_153 (by decide) (Nat.le_of_ble_eq_true rfl) dX6_freeze_47 rfl ?_
      refine p6_101 rfl (hR.ts (by omega)) dX6_freeze_50 rfl ?_
      refine T_nm (fun M1 e1 => ?_)
      have hR := LM.mv (hR.ps (by omega) (by omega)) e1
      first | refine T_iinc1 rfl (by decide) dX6_freeze_53 rfl (inc1 _) ?_ | refine T_iinc1 rfl (by decide) dX6_freeze_53 rfl rfl ?_
      refine T_goto 13 dX6_freeze_56 (by decide) ?_
      exact ih (k + 1) _ (by omega) (by rw [← fzC_s]; rw [fzC_at (Nat.le_refl _), fzC_f (by decide)] at hR; exact hR) (by omega)
set_option maxHeartbeats 1000000 in
theorem c_X6_freeze {l : Launch} {D : va_G} {cA : Nat → ClassId} {n0 : Nat} {XW : State → Heap → Prop} (hX : SF n0 XW) {sz : Nat} {τ : TY} {M0 M : ME} {r a b c : Nat} {ρ : RH} {ν : NU} (hR : LM τ M0 M r a b c ρ ν) : CT l D cA n0 XW mX6_freeze 2 0 0 sz τ M [.ref r] (MUq none sz τ (fun M' => LM τ M0 M' r a b c (frC a ρ) (ν))) := by
  refine CT.of (ls := [.ref r, UU]) (by decide) (Nat.le_of_ble_eq_true rfl) rfl ?_
  refine T_aload0 dX6_freeze_0 rfl ?_
  refine g6_42 _ rfl hR.t hR.r6 dX6_freeze_1 rfl ?_
  refine T_bipush (6) dX6_freeze_4 rfl rfl ?_
  refine T_irem dX6_freeze_6 rfl (by decide) ?_
  refine T_if_eq 11 10 dX6_freeze_7 (by decide) rfl (fun c7 => ?_) (fun c7 => ?_)
  ·
    refine T_iconst (0) dX6_freeze_11 rfl rfl ?_
    refine T_istore1 rfl (by decide) dX6_freeze_12 rfl ?_
    unfold frC
    rw [if_pos c7]
    exact L_X6_freeze hX (a + 1) 0 M (Nat.zero_le _) (by rw [fzC_0]; exact hR) (by omega)
  ·
    refine T_vret rfl dX6_freeze_10 ?_
    unfold frC
    rw [if_neg c7]
    exact ⟨rfl, rfl, rfl, hR⟩
theorem ulC_st {ρ : RH} {j k : Nat} (h : True) : u2 (u2 (lieC (ulC ρ j k) k 3 (-1)) 34 k ((lieC (ulC ρ j k) k 3 (-1)) 6 0)) 19 j ((u2 (lieC (ulC ρ j k) k 3 (-1)) 34 k ((lieC (ulC ρ j k) k 3 (-1)) 6 0)) 19 j + (u2 (lieC (ulC ρ j k) k 3 (-1)) 34 k ((lieC (ulC ρ j k) k 3 (-1)) 6 0)) 31 k) = u2 (u2 (lieC (ulC ρ j k) k 3 (-1)) 34 k (ρ 6 0)) 19 j (ρ 19 j + ldOf k ρ (nI j) + ρ 31 k) := by
  have e1 : (lieC (ulC ρ j k) k 3 (-1)) 6 0 = ρ 6 0 := by unfold lieC; rw [u2_f (by decide), u2_f (by decide)]; exact ulC_f (by decide) (by decide)
  have e2 : ∀ x, (u2 (lieC (ulC ρ j k) k 3 (-1)) 34 k x) 19 j = ρ 19 j + ldOf k ρ (nI j) := fun x => by unfold lieC; rw [u2_f (by decide), u2_f (by decide), u2_f (by decide)]; exact ulC_19
  have e3 : ∀ x, (u2 (lieC (ulC ρ j k) k 3 (-1)) 34 k x) 31 k = ρ 31 k := fun x => by unfold lieC; rw [u2_f (by decide), u2_f (by decide), u2_f (by decide)]; exact ulC_f (by decide) (by decide)
  rw [e1, e2, e3]
set_option maxHeartbeats 1000000 in
theorem L_X6_unload {l : Launch} {D : va_G} {cA : Nat → ClassId} {n0 : Nat} {XW : State → Heap → Prop} (hX : SF n0 XW) {sz : Nat} {τ : TY} {M0 : ME} {r a b c : Nat} {ρ : RH} {ν : NU} {j : Nat} (hj : j < b) : ∀ (n : Nat) (k : Nat) (u : Value) (Mk : ME) (hk : k ≤ c) (hR : LM τ M0 Mk r a b c (ulC ρ j k) ν), c - k < n → T l D cA n0 XW mX6_unload 2 0 0 sz τ Mk 2 [.ref r, .int (nI j), .int (nI k), u] [] (MUq none sz τ (fun M' => LM τ M0 M' r a b c (ulC ρ j c) (ν))) (fun _ _ _ _ => False) := by
  intro n
  induction n with
  | zero => intros; omega
  | succ n ih =>
    intro k u Mk hk hR hn
    obtain ⟨l3, l4, l5⟩ := hR.ok
    refine T_iload2 dX6_unload_2 rfl ?_
    refine T_aload0 dX6_unload_3 rfl ?_
    refine g6_39 _ rfl hR.t hR.r5 dX6_unload_4 rfl ?_
    refine T_icmp_ge 71 10 dX6_unload_7 (by decide) rfl (fun c7 => ?_) (fun c7 => ?_)
    ·
      have c7 := le_out rfl c7
      refine T_vret rfl dX6_unload_71 ?_
      have hkk : k = c := by omega
      subst hkk
      exact ⟨rfl, rfl, rfl, hR⟩
    ·
      have c7 := lt_in rfl c7
      refine T_aload0 dX6_unload_10 rfl ?_
      refine g6_27 _ rfl hR.t hR.r2 dX6_unload_11 rfl ?_
      refine T_iload2 dX6_unload_14 rfl ?_
      refine T_aald 4 _ (by decide) hR.tL rfl (by omega) (by decide) dX6_unload_15 rfl (hR.L (by omega)) ?_
      refine T_astore3 rfl (by decide) dX6_unload_16 rfl ?_
      refine T_aload3 dX6_unload_17 rfl ?_
      refine g6_144 _ rfl (hR.tl (by omega)) (hR.l2 (by omega)) dX6_unload_18 rfl ?_
      refine T_iconst (1) dX6_unload_21 rfl rfl ?_
      refine T_icmp_ne 65 25 dX6_unload_22 (by decide) rfl (fun c1 => ?_) (fun c1 => ?_)
      ·
        rw [ulC_at (by decide) (Nat.le_refl _)] at c1
        first | refine T_iinc2 rfl (by decide) dX6_unload_65 rfl (inc1 _) ?_ | refine T_iinc2 rfl (by decide) dX6_unload_65 rfl rfl ?_
        refine T_goto 2 dX6_unload_68 (by decide) ?_
        first | exact ih (k + 1) _ _ (by omega) (by rw [← ulC_y c1 c2]; exact hR.cg (ulC_st trivial) rfl) (by omega) | exact ih (k + 1) _ _ (by omega) (by rw [ulC_n (fun q => by first | exact c1 q.1 | exact c2 q.2)]; exact hR) (by omega)
      ·
        rw [ulC_at (by decide) (Nat.le_refl _)] at c1
        refine T_aload3 dX6_unload_25 rfl ?_
        refine g6_147 _ rfl (hR.tl (by omega)) (hR.l3 (by omega)) dX6_unload_26 rfl ?_
        refine T_iload1 dX6_unload_29 rfl ?_
        refine T_icmp_ne 65 33 dX6_unload_30 (by decide) rfl (fun c2 => ?_) (fun c2 => ?_)
        ·
          rw [ulC_at (by decide) (Nat.le_refl _)] at c2
          first | refine T_iinc2 rfl (by decide) dX6_unload_65 rfl (inc1 _) ?_ | refine T_iinc2 rfl (by decide) dX6_unload_65 rfl rfl ?_
          refine T_goto 2 dX6_unload_68 (by decide) ?_
          first | exact ih (k + 1) _ _ (by omega) (by rw [← ulC_y c1 c2]; exact hR.cg (ulC_st trivial) rfl) (by omega) | exact ih (k + 1) _ _ (by omega) (by rw [ulC_n (fun q => by first | exact c1 q.1 | exact c2 q.2)]; exact hR) (by omega)
        ·
          rw [ulC_at (by decide) (Nat.le_refl _)] at c2
          refine T_aload3 dX6_unload_33 rfl ?_
          refine T_iconst (3) dX6_unload_34 rfl rfl ?_
          refine T_iconst (-1) dX6_unload_35 rfl rfl ?_
          refine T_cV2 (k_X2_lie hX hR (by omega) _ _) hX k6_162 (Or.inl ⟨_, _, _, _, (hR.tl (by omega)), by decide, rfl⟩) (by decide) (Nat.le_of_ble_eq_true rfl) dX6_unload_36 rfl ?_
          rintro _ _ _ M1 ⟨rfl, rfl, rfl, hR⟩
          refine T_aload3 dX6_unload_39 rfl ?_
          refine T_aload0 dX6_unload_40 rfl ?_
          refine g6_42 _ rfl hR.t hR.r6 dX6_unload_41 rfl ?_
          refine p6_150 rfl (hR.tl (by omega)) dX6_unload_44 rfl ?_
          refine T_nm (fun M1 e1 => ?_)
          have hR := LM.mv (hR.pl (by omega) (by omega)) e1
          refine T_aload0 dX6_unload_47 rfl ?_
          refine g6_20 _ rfl hR.t hR.r1 dX6_unload_48 rfl ?_
          refine T_iload1 dX6_unload_51 rfl ?_
          refine T_aald 3 _ (by decide) hR.tH rfl (by omega) (by decide) dX6_unload_52 rfl (hR.H (by omega)) ?_
          refine T_dup dX6_unload_53 rfl rfl ?_
          refine g6_138 _ rfl (hR.th (by omega)) (hR.h9 (by omega)) dX6_unload_54 rfl ?_
          refine T_aload3 dX6_unload_57 rfl ?_
          refine g6_141 _ rfl (hR.tl (by omega)) (hR.l1 (by omega)) dX6_unload_58 rfl ?_
          refine T_iadd dX6_unload_61 rfl ?_
          refine p6_138 rfl (hR.th (by omega)) dX6_unload_62 rfl ?_
          refine T_nm (fun M2 e2 => ?_)
          have hR := LM.mv (hR.ph (by omega) (by omega)) e2
          first | refine T_iinc2 rfl (by decide) dX6_unload_65 rfl (inc1 _) ?_ | refine T_iinc2 rfl (by decide) dX6_unload_65 rfl rfl ?_
          refine T_goto 2 dX6_unload_68 (by decide) ?_
          first | exact ih (k + 1) _ _ (by omega) (by rw [← ulC_y c1 c2]; exact hR.cg (ulC_st trivial) rfl) (by omega) | exact ih (k + 1) _ _ (by omega) (by rw [ulC_n (fun q => by first | exact c1 q.1 | exact c2 q.2)]; exact hR) (by omega)
set_option maxHeartbeats 1000000 in
theorem c_X6_unload {l : Launch} {D : va_G} {cA : Nat → ClassId} {n0 : Nat} {XW : State → Heap → Prop} (hX : SF n0 XW) {sz : Nat} {τ : TY} {M0 M : ME} {r a b c : Nat} {ρ : RH} {ν : NU} (hR : LM τ M0 M r a b c ρ ν) {j : Nat} (hj : j < b) : CT l D cA n0 XW mX6_unload 2 0 0 sz τ M [.ref r, .int (nI j)] (MUq none sz τ (fun M' => LM τ M0 M' r a b c (ulC ρ j c) (ν))) := by
  refine CT.of (ls := [.ref r, .int (nI j), UU, UU]) (by decide) (Nat.le_of_ble_eq_true rfl) rfl ?_
  refine T_iconst (0) dX6_unload_0 rfl rfl ?_
  refine T_istore2 rfl (by decide) dX6_unload_1 rfl ?_
  exact L_X6_unload hX hj (c + 1) 0 UU M (Nat.zero_le _) (by rw [ulC_0]; exact hR) (by omega)
def bkC (c : Nat) (ρ : RH) (j t : Nat) : RH := standC (mpL (u2 (u2 ρ 12 j (ρ 12 j - 1)) 8 0 (ρ 8 0 + 1)) 1 (nI j) 2 (nI t) c) j (nI t) 0 (ρ 41 t - 1 - ρ 17 j)
set_option maxHeartbeats 1000000 in
theorem L_X6_breakChain {l : Launch} {D : va_G} {cA : Nat → ClassId} {n0 : Nat} {XW : State → Heap → Prop} (hX : SF n0 XW) {sz : Nat} {τ : TY} {M0 : ME} {r a b c : Nat} {ρ : RH} {ν : NU} {j t : Nat} (hj : j < b) (ht : t < a) (hp : ρ 15 j = nI t) : ∀ (n : Nat) (k : Nat) (u : Value) (Mk : ME) (hk : k ≤ c) (hR : LM τ M0 Mk r a b c (mpL ρ 1 (nI j) 2 (nI t) k) ν), c - k < n → T l D cA n0 XW mX6_breakChain 2 0 0 sz τ Mk 29 [.ref r, .int (nI j), .ref (hsA r j), .int (nI k), u] [] (MUq none sz τ (fun M' => LM τ M0 M' r a b c (standC (mpL ρ 1 (nI j) 2 (nI t) c) j (nI t) 0 (ρ 41 t - 1 - ρ 17 j)) (ν))) (fun _ _ _ _ => False) := by
  intro n
  induction n with
  | zero => intros; omega
  | succ n ih =>
    intro k u Mk hk hR hn
    obtain ⟨l3, l4, l5⟩ := hR.ok
    have hq : mpL ρ 1 (nI j) 2 (nI t) k 15 j = nI t := by rw [mpL_f (by decide)]; exact hp
    refine T_iload3 dX6_breakChain_29 rfl ?_
    refine T_aload0 dX6_breakChain_30 rfl ?_
    refine g6_39 _ rfl hR.t hR.r5 dX6_breakChain_31 rfl ?_
    refine T_icmp_ge 79 37 dX6_breakChain_34 (by decide) rfl (fun c7 => ?_) (fun c7 => ?_)
    ·
      have c7 := le_out rfl c7
      refine T_aload2 dX6_breakChain_79 rfl ?_
      refine T_aload2 dX6_breakChain_80 rfl ?_
      refine g6_123 _ rfl (hR.th (by omega)) (hR.h5 (by omega)) dX6_breakChain_81 rfl ?_
      refine T_iconst (0) dX6_breakChain_84 rfl rfl ?_
      refine T_aload0 dX6_breakChain_85 rfl ?_
      refine g6_11 _ rfl hR.t hR.r0 dX6_breakChain_86 rfl ?_
      refine T_aload2 dX6_breakChain_89 rfl ?_
      refine g6_123 _ rfl (hR.th (by omega)) (hR.h5 (by omega)) dX6_breakChain_90 rfl ?_
      refine T_aald 6 _ (by decide) hR.tS hq (by omega) (by decide) dX6_breakChain_93 rfl (hR.S (by omega)) ?_
      refine g6_95 _ rfl (hR.ts (by omega)) (hR.s1 (by omega)) dX6_breakChain_94 rfl ?_
      refine T_iconst (1) dX6_breakChain_97 rfl rfl ?_
      refine T_isub dX6_breakChain_98 rfl ?_
      refine T_aload2 dX6_breakChain_99 rfl ?_
      refine g6_129 _ rfl (hR.th (by omega)) (hR.h7 (by omega)) dX6_breakChain_100 rfl ?_
      refine T_isub dX6_breakChain_103 rfl ?_
      refine T_cV3 (k_X1_stand hX hR (by omega) _ _ _ (by first | exact Or.inl rfl | exact Or.inr rfl | assumption)) hX k6_189 (Or.inl ⟨_, _, _, _, (hR.th (by omega)), by decide, rfl⟩) (by decide) (Nat.le_of_ble_eq_true rfl) dX6_breakChain_104 rfl ?_
      rintro _ _ _ M1 ⟨rfl, rfl, rfl, hR⟩
      refine T_vret rfl dX6_breakChain_107 ?_
      have hkk : k = c := by omega
      subst hkk
      refine ⟨rfl, rfl, rfl, hR.cg ?_ rfl⟩
      rw [mpL_f (by decide), mpL_f (by decide), mpL_f (by decide), hp]
    ·
      have c7 := lt_in rfl c7
      refine T_aload0 dX6_breakChain_37 rfl ?_
      refine g6_27 _ rfl hR.t hR.r2 dX6_breakChain_38 rfl ?_
      refine T_iload3 dX6_breakChain_41 rfl ?_
      refine T_aald 4 _ (by decide) hR.tL rfl (by omega) (by decide) dX6_breakChain_42 rfl (hR.L (by omega)) ?_
      refine T_astore4 rfl (by decide) dX6_breakChain_43 rfl ?_
      refine T_aload4 dX6_breakChain_45 rfl ?_
      refine g6_144 _ rfl (hR.tl (by omega)) (hR.l2 (by omega)) dX6_breakChain_47 rfl ?_
      refine T_iconst (1) dX6_breakChain_50 rfl rfl ?_
      refine T_icmp_ne 73 54 dX6_breakChain_51 (by decide) rfl (fun c1 => ?_) (fun c1 => ?_)
      ·
        rw [mpL_at (Nat.le_refl _)] at c1
        first | refine T_iinc3 rfl (by decide) dX6_breakChain_73 rfl (inc1 _) ?_ | refine T_iinc3 rfl (by decide) dX6_breakChain_73 rfl rfl ?_
        refine T_goto 29 dX6_breakChain_76 (by decide) ?_
        first | exact ih (k + 1) _ _ (by omega) (by rw [← mpL_y c1 c2]; exact hR.cg (by rw [hq]) rfl) (by omega) | exact ih (k + 1) _ _ (by omega) (by rw [mpL_n (fun q => by first | exact c1 q.1 | exact c2 q.2)]; exact hR) (by omega)
      ·
        rw [mpL_at (Nat.le_refl _)] at c1
        refine T_aload4 dX6_breakChain_54 rfl ?_
        refine g6_147 _ rfl (hR.tl (by omega)) (hR.l3 (by omega)) dX6_breakChain_56 rfl ?_
        refine T_iload1 dX6_breakChain_59 rfl ?_
        refine T_icmp_ne 73 63 dX6_breakChain_60 (by decide) rfl (fun c2 => ?_) (fun c2 => ?_)
        ·
          rw [mpL_at (Nat.le_refl _)] at c2
          first | refine T_iinc3 rfl (by decide) dX6_breakChain_73 rfl (inc1 _) ?_ | refine T_iinc3 rfl (by decide) dX6_breakChain_73 rfl rfl ?_
          refine T_goto 29 dX6_breakChain_76 (by decide) ?_
          first | exact ih (k + 1) _ _ (by omega) (by rw [← mpL_y c1 c2]; exact hR.cg (by rw [hq]) rfl) (by omega) | exact ih (k + 1) _ _ (by omega) (by rw [mpL_n (fun q => by first | exact c1 q.1 | exact c2 q.2)]; exact hR) (by omega)
        ·
          rw [mpL_at (Nat.le_refl _)] at c2
          refine T_aload4 dX6_breakChain_63 rfl ?_
          refine T_iconst (2) dX6_breakChain_65 rfl rfl ?_
          refine T_aload2 dX6_breakChain_66 rfl ?_
          refine g6_123 _ rfl (hR.th (by omega)) (hR.h5 (by omega)) dX6_breakChain_67 rfl ?_
          refine T_cV2 (k_X2_lie hX hR (by omega) _ _) hX k6_162 (Or.inl ⟨_, _, _, _, (hR.tl (by omega)), by decide, rfl⟩) (by decide) (Nat.le_of_ble_eq_true rfl) dX6_breakChain_70 rfl ?_
          rintro _ _ _ M1 ⟨rfl, rfl, rfl, hR⟩
          first | refine T_iinc3 rfl (by decide) dX6_breakChain_73 rfl (inc1 _) ?_ | refine T_iinc3 rfl (by decide) dX6_breakChain_73 rfl rfl ?_
          refine T_goto 29 dX6_breakChain_76 (by decide) ?_
          first | exact ih (k + 1) _ _ (by omega) (by rw [← mpL_y c1 c2]; exact hR.cg (by rw [hq]) rfl) (by omega) | exact ih (k + 1) _ _ (by omega) (by rw [mpL_n (fun q => by first | exact c1 q.1 | exact c2 q.2)]; exact hR) (by omega)
set_option maxHeartbeats 1000000 in
theorem c_X6_breakChain {l : Launch} {D : va_G} {cA : Nat → ClassId} {n0 : Nat} {XW : State → Heap → Prop} (hX : SF n0 XW) {sz : Nat} {τ : TY} {M0 M : ME} {r a b c : Nat} {ρ : RH} {ν : NU} (hR : LM τ M0 M r a b c ρ ν) {j t : Nat} (hj : j < b) (ht : t < a) (hp : ρ 15 j = nI t) : CT l D cA n0 XW mX6_breakChain 2 0 0 sz τ M [.ref r, .int (nI j)] (MUq none sz τ (fun M' => LM τ M0 M' r a b c (bkC c ρ j t) (ν))) := by
  refine CT.of (ls := [.ref r, .int (nI j), UU, UU, UU]) (by decide) (Nat.le_of_ble_eq_true rfl) rfl ?_
  obtain ⟨l3, l4, l5⟩ := hR.ok
  refine T_aload0 dX6_breakChain_0 rfl ?_
  refine g6_20 _ rfl hR.t hR.r1 dX6_breakChain_1 rfl ?_
  refine T_iload1 dX6_breakChain_4 rfl ?_
  refine T_aald 3 _ (by decide) hR.tH rfl (by omega) (by decide) dX6_breakChain_5 rfl (hR.H (by omega)) ?_
  refine T_astore2 rfl (by decide) dX6_breakChain_6 rfl ?_
  refine T_aload2 dX6_breakChain_7 rfl ?_
  refine T_dup dX6_breakChain_8 rfl rfl ?_
  refine g6_113 _ rfl (hR.th (by omega)) (hR.h2 (by omega)) dX6_breakChain_9 rfl ?_
  refine T_iconst (1) dX6_breakChain_12 rfl rfl ?_
  refine T_isub dX6_breakChain_13 rfl ?_
  refine p6_113 rfl (hR.th (by omega)) dX6_breakChain_14 rfl ?_
  refine T_nm (fun M1 e1 => ?_)
  have hR := LM.mv (hR.ph (by omega) (by omega)) e1
  refine T_aload0 dX6_breakChain_17 rfl ?_
  refine T_dup dX6_breakChain_18 rfl rfl ?_
  refine g6_48 _ rfl hR.t hR.r8 dX6_breakChain_19 rfl ?_
  refine T_iconst (1) dX6_breakChain_22 rfl rfl ?_
  refine T_iadd dX6_breakChain_23 rfl ?_
  refine p6_48 rfl hR.t dX6_breakChain_24 rfl ?_
  refine T_nm (fun M2 e2 => ?_)
  have hR := LM.mv (hR.pr (by omega)) e2
  refine T_iconst (0) dX6_breakChain_27 rfl rfl ?_
  refine T_istore3 rfl (by decide) dX6_breakChain_28 rfl ?_
  exact L_X6_breakChain hX hj ht (ρ := u2 (u2 ρ 12 j (ρ 12 j - 1)) 8 0 (ρ 8 0 + 1)) (ν := ν) (M0 := M0) (b := b) (τ := τ) (sz := sz) (by rw [u2_f (by decide), u2_f (by decide)]; exact hp) (c + 1) 0 UU _ (Nat.zero_le _) (by rw [mpL_0]; exact hR.cg (by rw [u2_f (by decide)]) rfl) (by omega)
