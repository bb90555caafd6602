def ROv (sz : Nat) (τ : TY) (M : ME) : QT := fun v' sz' τ' M' => v' = none ∧ sz' = sz ∧ τ' = τ ∧ M' = M
theorem RM.frU {τ : TY} {M0 M M1 : ME} {r a k : Nat} {ρ : RH} {ν : NU} {v : Value} (h : RM τ M0 M r ρ ν) (e : M1 = up M a k v) (hd : a < r ∨ r + 38 ≤ a) : RM τ M1 M1 r ρ ν := h.fr (fun b h1 h2 => by rw [e]; exact up_a (by omega))
theorem RM.nx {τ : TY} {M0 M M1 : ME} {r lo hi : Nat} {ρ : RH} {ν : NU} (h : RM τ M0 M r ρ ν) (e : Fr lo hi M M1) (hd : hi ≤ r ∨ r + 38 ≤ lo) : RM τ M1 M1 r ρ ν := h.fr (fun b h1 h2 => e b (by omega))
/-- what small methods do to a road's numbers -/
def lieC (ρ : RH) (l : Nat) (a b : Int32) : RH := u2 (u2 ρ 32 l a) 33 l b
def standC (ρ : RH) (h : Nat) (p d u : Int32) : RH := u2 (u2 (u2 ρ 15 h p) 16 h d) 17 h u
def tireC (ρ : RH) (h : Nat) (x : Int32) : RH := u2 ρ 18 h (maxI 0 (minI (ρ 18 h + x) 60))
def tellL (ρ : RH) (l : Nat) (w : Int32) : RH := u2 (lieC (u2 ρ 31 l w) l 0 (-1)) 34 l (-1)
def tellS (ρ : RH) (s : Nat) (a b c : Int32) : RH := u2 (u2 (u2 ρ 41 s a) 42 s b) 43 s c
def tellH (ρ : RH) (h : Nat) (a b c d : Int32) : RH := u2 (u2 (u2 (u2 (u2 (u2 (u2 (u2 (u2 (u2 ρ 11 h a) 12 h b) 13 h c) 14 h d) 15 h (-1)) 16 h 0) 17 h 0) 18 h 0) 19 h 0) 20 h 0
def bcL (ρ ρ2 : RH) (l : Nat) : RH := u2 (lieC (tellL ρ l (ρ2 31 l)) l (ρ2 32 l) (ρ2 33 l)) 34 l (ρ2 34 l)
def bcS (ρ ρ2 : RH) (s : Nat) : RH := tellS ρ s (ρ2 41 s) (ρ2 42 s) (ρ2 43 s)
def bcH (ρ ρ2 : RH) (h : Nat) : RH := u2 (u2 (u2 (u2 (u2 (u2 (tellH ρ h (ρ2 11 h) (ρ2 12 h) (ρ2 13 h) (ρ2 14 h)) 15 h (ρ2 15 h)) 16 h (ρ2 16 h)) 17 h (ρ2 17 h)) 18 h (ρ2 18 h)) 19 h (ρ2 19 h)) 20 h (ρ2 20 h)
set_option maxHeartbeats 1000000 in
theorem c_X1_init {l : Launch} {D : va_G} {cA : Nat → ClassId} {n0 : Nat} {XW : State → Heap → Prop} (hX : SF n0 XW) {sz : Nat} {τ : TY} {M : ME} (q : Nat) : CT l D cA n0 XW mX1_init 1 0 0 sz τ M [.ref q] (ROv sz τ M) := by
  refine CT.of (ls := [.ref q]) (by decide) (Nat.le_of_ble_eq_true rfl) rfl ?_
  refine T_aload0 dX1_init_0 rfl ?_
  refine T_obj ko1_3 ko1 ko2 (by decide) (Nat.le_of_ble_eq_true rfl) dX1_init_1 rfl ?_
  refine T_vret rfl dX1_init_4 ?_
  exact ⟨rfl, rfl, rfl, rfl⟩
set_option maxHeartbeats 1000000 in
theorem c_X2_init {l : Launch} {D : va_G} {cA : Nat → ClassId} {n0 : Nat} {XW : State → Heap → Prop} (hX : SF n0 XW) {sz : Nat} {τ : TY} {M : ME} (q : Nat) : CT l D cA n0 XW mX2_init 1 0 0 sz τ M [.ref q] (ROv sz τ M) := by
  refine CT.of (ls := [.ref q]) (by decide) (Nat.le_of_ble_eq_true rfl) rfl ?_
  refine T_aload0 dX2_init_0 rfl ?_
  refine T_obj ko2_1 ko1 ko2 (by decide) (Nat.le_of_ble_eq_true rfl) dX2_init_1 rfl ?_
  refine T_vret rfl dX2_init_4 ?_
  exact ⟨rfl, rfl, rfl, rfl⟩
set_option maxHeartbeats 1000000 in
theorem c_X3_init {l : Launch} {D : va_G} {cA : Nat → ClassId} {n0 : Nat} {XW : State → Heap → Prop} (hX : SF n0 XW) {sz : Nat} {τ : TY} {M : ME} (q : Nat) : CT l D cA n0 XW mX3_init 1 0 0 sz τ M [.ref q] (ROv sz τ M) := by
  refine CT.of (ls := [.ref q]) (by decide) (Nat.le_of_ble_eq_true rfl) rfl ?_
  refine T_aload0 dX3_init_0 rfl ?_
  refine T_obj ko3_1 ko1 ko2 (by decide) (Nat.le_of_ble_eq_true rfl) dX3_init_1 rfl ?_
  refine T_vret rfl dX3_init_4 ?_
  exact ⟨rfl, rfl, rfl, rfl⟩
set_option maxHeartbeats 1000000 in
theorem c_X8_init {l : Launch} {D : va_G} {cA : Nat → ClassId} {n0 : Nat} {XW : State → Heap → Prop} (hX : SF n0 XW) {sz : Nat} {τ : TY} {M : ME} (q : Nat) : CT l D cA n0 XW mX8_init 1 0 0 sz τ M [.ref q] (ROv sz τ M) := by
  refine CT.of (ls := [.ref q]) (by decide) (Nat.le_of_ble_eq_true rfl) rfl ?_
  refine T_aload0 dX8_init_0 rfl ?_
  refine T_obj ko8_1 ko1 ko2 (by decide) (Nat.le_of_ble_eq_true rfl) dX8_init_1 rfl ?_
  refine T_vret rfl dX8_init_4 ?_
  exact ⟨rfl, rfl, rfl, rfl⟩
set_option maxHeartbeats 1000000 in
theorem c_X2_lie {l : Launch} {D : va_G} {cA : Nat → ClassId} {n0 : Nat} {XW : State → Heap → Prop} (hX : SF n0 XW) {sz : Nat} {τ : TY} {M0 M : ME} {r : Nat} {ρ : RH} {ν : NU} (hR : RM τ M0 M r ρ ν) {j : Nat} (hj : j < 20) (x y : Int32) : CT l D cA n0 XW mX2_lie 1 0 0 sz τ M [.ref (lgA r j), .int x, .int y] (MUq none sz τ (fun M' => RM τ M0 M' r (lieC ρ j x y) (ν))) := by
  refine CT.of (ls := [.ref (lgA r j), .int x, .int y]) (by decide) (Nat.le_of_ble_eq_true rfl) rfl ?_
  refine T_aload0 dX2_lie_0 rfl ?_
  refine T_iload1 dX2_lie_1 rfl ?_
  refine p2_28 rfl (hR.tl (by omega)) dX2_lie_2 rfl ?_
  refine T_nm (fun M1 e1 => ?_)
  have hR := RM.mv (hR.pl (by omega) (by omega)) e1
  refine T_aload0 dX2_lie_5 rfl ?_
  refine T_iload2 dX2_lie_6 rfl ?_
  refine p2_31 rfl (hR.tl (by omega)) dX2_lie_7 rfl ?_
  refine T_nm (fun M2 e2 => ?_)
  have hR := RM.mv (hR.pl (by omega) (by omega)) e2
  refine T_vret rfl dX2_lie_10 ?_
  exact ⟨rfl, rfl, rfl, hR⟩
set_option maxHeartbeats 1000000 in
theorem c_X2_tell {l : Launch} {D : va_G} {cA : Nat → ClassId} {n0 : Nat} {XW : State → Heap → Prop} (hX : SF n0 XW) {sz : Nat} {τ : TY} {M0 M : ME} {r : Nat} {ρ : RH} {ν : NU} (hR : RM τ M0 M r ρ ν) {j : Nat} (hj : j < 20) (x : Int64) (w : Int32) : CT l D cA n0 XW mX2_tell 2 0 0 sz τ M [.ref (lgA r j), .long x, .int w] (MUq none sz τ (fun M' => RM τ M0 M' r (tellL ρ j w) (u2l ν 3 j x))) := by
  refine CT.of (ls := [.ref (lgA r j), .long x, UU, .int w]) (by decide) (Nat.le_of_ble_eq_true rfl) rfl ?_
  refine T_aload0 dX2_tell_0 rfl ?_
  refine T_lload1 dX2_tell_1 rfl ?_
  refine p2_7 rfl (hR.tl (by omega)) dX2_tell_2 rfl ?_
  refine T_nm (fun M1 e1 => ?_)
  have hR := RM.mv (hR.pl0 (by omega)) e1
  refine T_aload0 dX2_tell_5 rfl ?_
  refine T_iload3 dX2_tell_6 rfl ?_
  refine p2_13 rfl (hR.tl (by omega)) dX2_tell_7 rfl ?_
  refine T_nm (fun M2 e2 => ?_)
  have hR := RM.mv (hR.pl (by omega) (by omega)) e2
  refine T_aload0 dX2_tell_10 rfl ?_
  refine T_iconst (0) dX2_tell_11 rfl rfl ?_
  refine T_iconst (-1) dX2_tell_12 rfl rfl ?_
  refine T_cV2 (c_X2_lie hX hR (by omega) _ _) hX k2_17 (Or.inl ⟨_, _, _, _, (hR.tl (by omega)), by decide, rfl⟩) (by decide) (Nat.le_of_ble_eq_true rfl) dX2_tell_13 rfl ?_
  rintro _ _ _ M1 ⟨rfl, rfl, rfl, hR⟩
  refine T_aload0 dX2_tell_16 rfl ?_
  refine T_iconst (-1) dX2_tell_17 rfl rfl ?_
  refine p2_21 rfl (hR.tl (by omega)) dX2_tell_18 rfl ?_
  refine T_nm (fun M3 e3 => ?_)
  have hR := RM.mv (hR.pl (by omega) (by omega)) e3
  refine T_vret rfl dX2_tell_21 ?_
  exact ⟨rfl, rfl, rfl, hR⟩
set_option maxHeartbeats 1000000 in
theorem c_X1_tell {l : Launch} {D : va_G} {cA : Nat → ClassId} {n0 : Nat} {XW : State → Heap → Prop} (hX : SF n0 XW) {sz : Nat} {τ : TY} {M0 M : ME} {r : Nat} {ρ : RH} {ν : NU} (hR : RM τ M0 M r ρ ν) {h : Nat} (hh : h < 6) (x : Int64) (x1 x2 x3 x4 : Int32) (hb : b01 x4) : CT l D cA n0 XW mX1_tell 1 0 0 sz τ M [.ref (hsA r h), .long x, .int x1, .int x2, .int x3, .int x4] (MUq none sz τ (fun M' => RM τ M0 M' r (tellH ρ h x1 x2 x3 x4) (u2l ν 1 h x))) := by
  refine CT.of (ls := [.ref (hsA r h), .long x, UU, .int x1, .int x2, .int x3, .int x4]) (by decide) (Nat.le_of_ble_eq_true rfl) rfl ?_
  refine T_aload0 dX1_tell_0 rfl ?_
  refine T_lload1 dX1_tell_1 rfl ?_
  refine p1_9 rfl (hR.th (by omega)) dX1_tell_2 rfl ?_
  refine T_nm (fun M1 e1 => ?_)
  have hR := RM.mv (hR.ph0 (by omega)) e1
  refine T_aload0 dX1_tell_5 rfl ?_
  refine T_iload3 dX1_tell_6 rfl ?_
  refine p1_15 rfl (hR.th (by omega)) dX1_tell_7 rfl ?_
  refine T_nm (fun M2 e2 => ?_)
  have hR := RM.mv (hR.ph (by omega) (by omega)) e2
  refine T_aload0 dX1_tell_10 rfl ?_
  refine T_iload4 dX1_tell_11 rfl ?_
  refine p1_19 rfl (hR.th (by omega)) dX1_tell_13 rfl ?_
  refine T_nm (fun M3 e3 => ?_)
  have hR := RM.mv (hR.ph (by omega) (by omega)) e3
  refine T_aload0 dX1_tell_16 rfl ?_
  refine T_iload5 dX1_tell_17 rfl ?_
  refine p1_22 rfl (hR.th (by omega)) dX1_tell_19 rfl ?_
  refine T_nm (fun M4 e4 => ?_)
  have hR := RM.mv (hR.ph (by omega) (by omega)) e4
  refine T_aload0 dX1_tell_22 rfl ?_
  refine T_iload6 dX1_tell_23 rfl ?_
  refine p1_25 (by first | exact Or.inl rfl | exact Or.inr rfl | assumption) rfl (hR.th (by omega)) dX1_tell_25 rfl ?_
  refine T_nm (fun M5 e5 => ?_)
  have hR := RM.mv (hR.ph (by omega) (by omega)) e5
  refine T_aload0 dX1_tell_28 rfl ?_
  refine T_iconst (-1) dX1_tell_29 rfl rfl ?_
  refine p1_29 rfl (hR.th (by omega)) dX1_tell_30 rfl ?_
  refine T_nm (fun M6 e6 => ?_)
  have hR := RM.mv (hR.ph (by omega) (by omega)) e6
  refine T_aload0 dX1_tell_33 rfl ?_
  refine T_iconst (0) dX1_tell_34 rfl rfl ?_
  refine p1_32 (by first | exact Or.inl rfl | exact Or.inr rfl | assumption) rfl (hR.th (by omega)) dX1_tell_35 rfl ?_
  refine T_nm (fun M7 e7 => ?_)
  have hR := RM.mv (hR.ph (by omega) (by omega)) e7
  refine T_aload0 dX1_tell_38 rfl ?_
  refine T_iconst (0) dX1_tell_39 rfl rfl ?_
  refine p1_35 rfl (hR.th (by omega)) dX1_tell_40 rfl ?_
  refine T_nm (fun M8 e8 => ?_)
  have hR := RM.mv (hR.ph (by omega) (by omega)) e8
  refine T_aload0 dX1_tell_43 rfl ?_
  refine T_iconst (0) dX1_tell_44 rfl rfl ?_
  refine p1_38 rfl (hR.th (by omega)) dX1_tell_45 rfl ?_
  refine T_nm (fun M9 e9 => ?_)
  have hR := RM.mv (hR.ph (by omega) (by omega)) e9
  refine T_aload0 dX1_tell_48 rfl ?_
  refine T_iconst (0) dX1_tell_49 rfl rfl ?_
  refine p1_41 rfl (hR.th (by omega)) dX1_tell_50 rfl ?_
  refine T_nm (fun M10 e10 => ?_)
  have hR := RM.mv (hR.ph (by omega) (by omega)) e10
  refine T_aload0 dX1_tell_53 rfl ?_
  refine T_iconst (0) dX1_tell_54 rfl rfl ?_
  refine p1_44 (by first | exact Or.inl rfl | exact Or.inr rfl | assumption) rfl (hR.th (by omega)) dX1_tell_55 rfl ?_
  refine T_nm (fun M11 e11 => ?_)
  have hR := RM.mv (hR.ph (by omega) (by omega)) e11
  refine T_vret rfl dX1_tell_58 ?_
  exact ⟨rfl, rfl, rfl, hR⟩
set_option maxHeartbeats 1000000 in
theorem c_X8_tell {l : Launch} {D : va_G} {cA : Nat → ClassId} {n0 : Nat} {XW : State → Heap → Prop} (hX : SF n0 XW) {sz : Nat} {τ : TY} {M0 M : ME} {r : Nat} {ρ : RH} {ν : NU} (hR : RM τ M0 M r ρ ν) {s : Nat} (hs : s < 8) (x : Int64) (x1 x2 x3 : Int32) : CT l D cA n0 XW mX8_tell 1 0 0 sz τ M [.ref (stA r s), .long x, .int x1, .int x2, .int x3] (MUq none sz τ (fun M' => RM τ M0 M' r (tellS ρ s x1 x2 x3) (u2l ν 4 s x))) := by
  refine CT.of (ls := [.ref (stA r s), .long x, UU, .int x1, .int x2, .int x3]) (by decide) (Nat.le_of_ble_eq_true rfl) rfl ?_
  refine T_aload0 dX8_tell_0 rfl ?_
  refine T_lload1 dX8_tell_1 rfl ?_
  refine p8_7 rfl (hR.ts (by omega)) dX8_tell_2 rfl ?_
  refine T_nm (fun M1 e1 => ?_)
  have hR := RM.mv (hR.ps0 (by omega)) e1
  refine T_aload0 dX8_tell_5 rfl ?_
  refine T_iload3 dX8_tell_6 rfl ?_
  refine p8_13 rfl (hR.ts (by omega)) dX8_tell_7 rfl ?_
  refine T_nm (fun M2 e2 => ?_)
  have hR := RM.mv (hR.ps (by omega) (by omega)) e2
  refine T_aload0 dX8_tell_10 rfl ?_
  refine T_iload4 dX8_tell_11 rfl ?_
  refine p8_17 rfl (hR.ts (by omega)) dX8_tell_13 rfl ?_
  refine T_nm (fun M3 e3 => ?_)
  have hR := RM.mv (hR.ps (by omega) (by omega)) e3
  refine T_aload0 dX8_tell_16 rfl ?_
  refine T_iload5 dX8_tell_17 rfl ?_
  refine p8_20 rfl (hR.ts (by omega)) dX8_tell_19 rfl ?_
  refine T_nm (fun M4 e4 => ?_)
  have hR := RM.mv (hR.ps (by omega) (by omega)) e4
  refine T_vret rfl dX8_tell_22 ?_
  exact ⟨rfl, rfl, rfl, hR⟩
set_option maxHeartbeats 1000000 in
theorem c_X2_become {l : Launch} {D : va_G} {cA : Nat → ClassId} {n0 : Nat} {XW : State → Heap → Prop} (hX : SF n0 XW) {sz : Nat} {τ : TY} {M0 M : ME} {r : Nat} {ρ : RH} {ν : NU} (hR : RM τ M0 M r ρ ν) {M2 : ME} {r2 a2 b2 c2 : Nat} {ρ2 : RH} {ν2 : NU} (hR2 : LM τ M2 M r2 a2 b2 c2 ρ2 ν2) (hd : r + 38 ≤ r2 ∨ r2 + 38 ≤ r) {j : Nat} (hj : j < c2) : CT l D cA n0 XW mX2_become 3 0 0 sz τ M [.ref (lgA r j), .ref (lgA r2 j)] (MUq none sz τ (fun M' => RM τ M0 M' r (bcL ρ ρ2 j) (u2l ν 3 j (ν2 3 j)))) := by
  refine CT.of (ls := [.ref (lgA r j), .ref (lgA r2 j)]) (by decide) (Nat.le_of_ble_eq_true rfl) rfl ?_
  obtain ⟨l3, l4, l5⟩ := hR2.ok
  refine T_aload0 dX2_become_0 rfl ?_
  refine T_aload1 dX2_become_1 rfl ?_
  first | refine g2_7 _ rfl (hR.tl (by omega)) (hR.l0 (by omega)) dX2_become_2 rfl ?_ | refine g2_7 _ rfl (hR2.tl (by omega)) (hR2.l0 (by omega)) dX2_become_2 rfl ?_
  refine T_aload1 dX2_become_5 rfl ?_
  first | refine g2_13 _ rfl (hR.tl (by omega)) (hR.l1 (by omega)) dX2_become_6 rfl ?_ | refine g2_13 _ rfl (hR2.tl (by omega)) (hR2.l1 (by omega)) dX2_become_6 rfl ?_
  refine T_cV2 (c_X2_tell hX hR.rf (by omega) _ _) hX k2_24 (Or.inl ⟨_, _, _, _, (hR.tl (by omega)), by decide, rfl⟩) (by decide) (Nat.le_of_ble_eq_true rfl) dX2_become_9 rfl ?_
  rintro _ _ _ M1 ⟨rfl, rfl, rfl, hN⟩
  have hR2 := hR2.nx hN.2.2.2 (by omega)
  have hR := hN.base hR.2.2.2
  refine T_aload0 dX2_become_12 rfl ?_
  refine T_aload1 dX2_become_13 rfl ?_
  first | refine g2_28 _ rfl (hR.tl (by omega)) (hR.l2 (by omega)) dX2_become_14 rfl ?_ | refine g2_28 _ rfl (hR2.tl (by omega)) (hR2.l2 (by omega)) dX2_become_14 rfl ?_
  refine T_aload1 dX2_become_17 rfl ?_
  first | refine g2_31 _ rfl (hR.tl (by omega)) (hR.l3 (by omega)) dX2_become_18 rfl ?_ | refine g2_31 _ rfl (hR2.tl (by omega)) (hR2.l3 (by omega)) dX2_become_18 rfl ?_
  refine T_cV2 (c_X2_lie hX hR.rf (by omega) _ _) hX k2_17 (Or.inl ⟨_, _, _, _, (hR.tl (by omega)), by decide, rfl⟩) (by decide) (Nat.le_of_ble_eq_true rfl) dX2_become_21 rfl ?_
  rintro _ _ _ M1 ⟨rfl, rfl, rfl, hN⟩
  have hR2 := hR2.nx hN.2.2.2 (by omega)
  have hR := hN.base hR.2.2.2
  refine T_aload0 dX2_become_24 rfl ?_
  refine T_aload1 dX2_become_25 rfl ?_
  first | refine g2_21 _ rfl (hR.tl (by omega)) (hR.l4 (by omega)) dX2_become_26 rfl ?_ | refine g2_21 _ rfl (hR2.tl (by omega)) (hR2.l4 (by omega)) dX2_become_26 rfl ?_
  first | refine p2_21 rfl (hR.tl (by omega)) dX2_become_29 rfl ?_ | refine p2_21 rfl (hR2.tl (by omega)) dX2_become_29 rfl ?_
  refine T_nm (fun M1 e1 => ?_)
  have hR := RM.mv (hR.pl (by omega) (by omega)) e1
  have hR2 := LM.frU hR2 e1 (by (try simp only [stA, hsA, lgA]); omega)
  refine T_vret rfl dX2_become_32 ?_
  exact ⟨rfl, rfl, rfl, hR⟩
set_option maxHeartbeats 1000000 in
theorem c_X8_become {l : Launch} {D : va_G} {cA : Nat → ClassId} {n0 : Nat} {XW : State → Heap → Prop} (hX : SF n0 XW) {sz : Nat} {τ : TY} {M0 M : ME} {r : Nat} {ρ : RH} {ν : NU} (hR : RM τ M0 M r ρ ν) {M2 : ME} {r2 a2 b2 c2 : Nat} {ρ2 : RH} {ν2 : NU} (hR2 : LM τ M2 M r2 a2 b2 c2 ρ2 ν2) (hd : r + 38 ≤ r2 ∨ r2 + 38 ≤ r) {s : Nat} (hs : s < a2) : CT l D cA n0 XW mX8_become 2 0 0 sz τ M [.ref (stA r s), .ref (stA r2 s)] (MUq none sz τ (fun M' => RM τ M0 M' r (bcS ρ ρ2 s) (u2l ν 4 s (ν2 4 s)))) := by
  refine CT.of (ls := [.ref (stA r s), .ref (stA r2 s)]) (by decide) (Nat.le_of_ble_eq_true rfl) rfl ?_
  obtain ⟨l3, l4, l5⟩ := hR2.ok
  refine T_aload0 dX8_become_0 rfl ?_
  refine T_aload1 dX8_become_1 rfl ?_
  first | refine g8_7 _ rfl (hR.ts (by omega)) (hR.s0 (by omega)) dX8_become_2 rfl ?_ | refine g8_7 _ rfl (hR2.ts (by omega)) (hR2.s0 (by omega)) dX8_become_2 rfl ?_
  refine T_aload1 dX8_become_5 rfl ?_
  first | refine g8_13 _ rfl (hR.ts (by omega)) (hR.s1 (by omega)) dX8_become_6 rfl ?_ | refine g8_13 _ rfl (hR2.ts (by omega)) (hR2.s1 (by omega)) dX8_become_6 rfl ?_
  refine T_aload1 dX8_become_9 rfl ?_
  first | refine g8_17 _ rfl (hR.ts (by omega)) (hR.s2 (by omega)) dX8_become_10 rfl ?_ | refine g8_17 _ rfl (hR2.ts (by omega)) (hR2.s2 (by omega)) dX8_become_10 rfl ?_
  refine T_aload1 dX8_become_13 rfl ?_
  first | refine g8_20 _ rfl (hR.ts (by omega)) (hR.s3 (by omega)) dX8_become_14 rfl ?_ | refine g8_20 _ rfl (hR2.ts (by omega)) (hR2.s3 (by omega)) dX8_become_14 rfl ?_
  refine T_cV4 (c_X8_tell hX hR.rf (by omega) _ _ _ _) hX k8_23 (Or.inl ⟨_, _, _, _, (hR.ts (by omega)), by decide, rfl⟩) (by decide) (Nat.le_of_ble_eq_true rfl) dX8_become_17 rfl ?_
  rintro _ _ _ M1 ⟨rfl, rfl, rfl, hN⟩
  have hR2 := hR2.nx hN.2.2.2 (by omega)
  have hR := hN.base hR.2.2.2
  refine T_vret rfl dX8_become_20 ?_
  exact ⟨rfl, rfl, rfl, hR⟩
set_option maxHeartbeats 1000000 in
theorem c_X1_become {l : Launch} {D : va_G} {cA : Nat → ClassId} {n0 : Nat} {XW : State → Heap → Prop} (hX : SF n0 XW) {sz : Nat} {τ : TY} {M0 M : ME} {r : Nat} {ρ : RH} {ν : NU} (hR : RM τ M0 M r ρ ν) {M2 : ME} {r2 a2 b2 c2 : Nat} {ρ2 : RH} {ν2 : NU} (hR2 : LM τ M2 M r2 a2 b2 c2 ρ2 ν2) (hd : r + 38 ≤ r2 ∨ r2 + 38 ≤ r) (hB2 : RoadB b2 ρ2) {h : Nat} (hh : h < b2) : CT l D cA n0 XW mX1_become 2 0 0 sz τ M [.ref (hsA r h), .ref (hsA r2 h)] (MUq none sz τ (fun M' => RM τ M0 M' r (bcH ρ ρ2 h) (u2l ν 1 h (ν2 1 h)))) := by
  refine CT.of (ls := [.ref (hsA r h), .ref (hsA r2 h)]) (by decide) (Nat.le_of_ble_eq_true rfl) rfl ?_
  obtain ⟨l3, l4, l5⟩ := hR2.ok
  refine T_aload0 dX1_become_0 rfl ?_
  refine T_aload1 dX1_become_1 rfl ?_
  first | refine g1_9 _ rfl (hR.th (by omega)) (hR.h0 (by omega)) dX1_become_2 rfl ?_ | refine g1_9 _ rfl (hR2.th (by omega)) (hR2.h0 (by omega)) dX1_become_2 rfl ?_
  refine T_aload1 dX1_become_5 rfl ?_
  first | refine g1_15 _ rfl (hR.th (by omega)) (hR.h1 (by omega)) dX1_become_6 rfl ?_ | refine g1_15 _ rfl (hR2.th (by omega)) (hR2.h1 (by omega)) dX1_become_6 rfl ?_
  refine T_aload1 dX1_become_9 rfl ?_
  first | refine g1_19 _ rfl (hR.th (by omega)) (hR.h2 (by omega)) dX1_become_10 rfl ?_ | refine g1_19 _ rfl (hR2.th (by omega)) (hR2.h2 (by omega)) dX1_become_10 rfl ?_
  refine T_aload1 dX1_become_13 rfl ?_
  first | refine g1_22 _ rfl (hR.th (by omega)) (hR.h3 (by omega)) dX1_become_14 rfl ?_ | refine g1_22 _ rfl (hR2.th (by omega)) (hR2.h3 (by omega)) dX1_become_14 rfl ?_
  refine T_aload1 dX1_become_17 rfl ?_
  first | refine g1_25 _ rfl (hR.th (by omega)) (hR.h4 (by omega)) dX1_become_18 rfl ?_ | refine g1_25 _ rfl (hR2.th (by omega)) (hR2.h4 (by omega)) dX1_become_18 rfl ?_
  refine T_cV5 (c_X1_tell hX hR.rf (by omega) _ _ _ _ _ (hB2 h hh).1) hX k1_47 (Or.inl ⟨_, _, _, _, (hR.th (by omega)), by decide, rfl⟩) (by decide) (Nat.le_of_ble_eq_true rfl) dX1_become_21 rfl ?_
  rintro _ _ _ M1 ⟨rfl, rfl, rfl, hN⟩
  have hR2 := hR2.nx hN.2.2.2 (by omega)
  have hR := hN.base hR.2.2.2
  refine T_aload0 dX1_become_24 rfl ?_
  refine T_aload1 dX1_become_25 rfl ?_
  first | refine g1_29 _ rfl (hR.th (by omega)) (hR.h5 (by omega)) dX1_become_26 rfl ?_ | refine g1_29 _ rfl (hR2.th (by omega)) (hR2.h5 (by omega)) dX1_become_26 rfl ?_
  first | refine p1_29 rfl (hR.th (by omega)) dX1_become_29 rfl ?_ | refine p1_29 rfl (hR2.th (by omega)) dX1_become_29 rfl ?_
  refine T_nm (fun M1 e1 => ?_)
  have hR := RM.mv (hR.ph (by omega) (by omega)) e1
  have hR2 := LM.frU hR2 e1 (by (try simp only [stA, hsA, lgA]); omega)
  refine T_aload0 dX1_become_32 rfl ?_
  refine T_aload1 dX1_become_33 rfl ?_
  first | refine g1_32 _ rfl (hR.th (by omega)) (hR.h6 (by omega)) dX1_become_34 rfl ?_ | refine g1_32 _ rfl (hR2.th (by omega)) (hR2.h6 (by omega)) dX1_become_34 rfl ?_
  first | refine p1_32 (hB2 h hh).2.1 rfl (hR.th (by omega)) dX1_become_37 rfl ?_ | refine p1_32 (hB2 h hh).2.1 rfl (hR2.th (by omega)) dX1_become_37 rfl ?_
  refine T_nm (fun M2 e2 => ?_)
  have hR := RM.mv (hR.ph (by omega) (by omega)) e2
  have hR2 := LM.frU hR2 e2 (by (try simp only [stA, hsA, lgA]); omega)
  refine T_aload0 dX1_become_40 rfl ?_
  refine T_aload1 dX1_become_41 rfl ?_
  first | refine g1_35 _ rfl (hR.th (by omega)) (hR.h7 (by omega)) dX1_become_42 rfl ?_ | refine g1_35 _ rfl (hR2.th (by omega)) (hR2.h7 (by omega)) dX1_become_42 rfl ?_
  first | refine p1_35 rfl (hR.th (by omega)) dX1_become_45 rfl ?_ | refine p1_35 rfl (hR2.th (by omega)) dX1_become_45 rfl ?_
  refine T_nm (fun M3 e3 => ?_)
  have hR := RM.mv (hR.ph (by omega) (by omega)) e3
  have hR2 := LM.frU hR2 e3 (by (try simp only [stA, hsA, lgA]); omega)
  refine T_aload0 dX1_become_48 rfl ?_
  refine T_aload1 dX1_become_49 rfl ?_
  first | refine g1_38 _ rfl (hR.th (by omega)) (hR.h8 (by omega)) dX1_become_50 rfl ?_ | refine g1_38 _ rfl (hR2.th (by omega)) (hR2.h8 (by omega)) dX1_become_50 rfl ?_
  first | refine p1_38 rfl (hR.th (by omega)) dX1_become_53 rfl ?_ | refine p1_38 rfl (hR2.th (by omega)) dX1_become_53 rfl ?_
  refine T_nm (fun M4 e4 => ?_)
  have hR := RM.mv (hR.ph (by omega) (by omega)) e4
  have hR2 := LM.frU hR2 e4 (by (try simp only [stA, hsA, lgA]); omega)
  refine T_aload0 dX1_become_56 rfl ?_
  refine T_aload1 dX1_become_57 rfl ?_
  first | refine g1_41 _ rfl (hR.th (by omega)) (hR.h9 (by omega)) dX1_become_58 rfl ?_ | refine g1_41 _ rfl (hR2.th (by omega)) (hR2.h9 (by omega)) dX1_become_58 rfl ?_
  first | refine p1_41 rfl (hR.th (by omega)) dX1_become_61 rfl ?_ | refine p1_41 rfl (hR2.th (by omega)) dX1_become_61 rfl ?_
  refine T_nm (fun M5 e5 => ?_)
  have hR := RM.mv (hR.ph (by omega) (by omega)) e5
  have hR2 := LM.frU hR2 e5 (by (try simp only [stA, hsA, lgA]); omega)
  refine T_aload0 dX1_become_64 rfl ?_
  refine T_aload1 dX1_become_65 rfl ?_
  first | refine g1_44 _ rfl (hR.th (by omega)) (hR.h10 (by omega)) dX1_become_66 rfl ?_ | refine g1_44 _ rfl (hR2.th (by omega)) (hR2.h10 (by omega)) dX1_become_66 rfl ?_
  first | refine p1_44 (hB2 h hh).2.2 rfl (hR.th (by omega)) dX1_become_69 rfl ?_ | refine p1_44 (hB2 h hh).2.2 rfl (hR2.th (by omega)) dX1_become_69 rfl ?_
  refine T_nm (fun M6 e6 => ?_)
  have hR := RM.mv (hR.ph (by omega) (by omega)) e6
  have hR2 := LM.frU hR2 e6 (by (try simp only [stA, hsA, lgA]); omega)
  refine T_vret rfl dX1_become_72 ?_
  exact ⟨rfl, rfl, rfl, hR⟩
theorem tellS_i {ρ : RH} {k f s : Nat} {x1 x2 x3 : Int32} (h : s ≠ k) : tellS ρ k x1 x2 x3 f s = ρ f s := by
  simp [tellS, u2, h]
theorem tellS_f {ρ : RH} {k f s : Nat} {x1 x2 x3 : Int32} (h : f < 41 ∨ 43 < f) : tellS ρ k x1 x2 x3 f s = ρ f s := by
  unfold tellS
  rw [u2_f (by omega), u2_f (by omega), u2_f (by omega)]
theorem tellS_s {ρ ρ' : RH} {k f : Nat} {x1 x2 x3 : Int32} (h1 : 41 ≤ f) (h2 : f < 44) : tellS ρ' k x1 x2 x3 f k = tellS ρ k x1 x2 x3 f k := by
  rcases (show f = 41 ∨ f = 42 ∨ f = 43 by omega) with rfl | rfl | rfl <;> simp [tellS, u2]
theorem tellH_i {ρ : RH} {k f s : Nat} {x1 x2 x3 x4 : Int32} (h : s ≠ k) : tellH ρ k x1 x2 x3 x4 f s = ρ f s := by
  simp [tellH, u2, h]
theorem tellH_f {ρ : RH} {k f s : Nat} {x1 x2 x3 x4 : Int32} (h : f < 11 ∨ 20 < f) : tellH ρ k x1 x2 x3 x4 f s = ρ f s := by
  unfold tellH
  rw [u2_f (by omega), u2_f (by omega), u2_f (by omega), u2_f (by omega), u2_f (by omega), u2_f (by omega), u2_f (by omega), u2_f (by omega), u2_f (by omega), u2_f (by omega)]
theorem tellH_s {ρ ρ' : RH} {k f : Nat} {x1 x2 x3 x4 : Int32} (h1 : 11 ≤ f) (h2 : f < 21) : tellH ρ' k x1 x2 x3 x4 f k = tellH ρ k x1 x2 x3 x4 f k := by
  rcases (show f = 11 ∨ f = 12 ∨ f = 13 ∨ f = 14 ∨ f = 15 ∨ f = 16 ∨ f = 17 ∨ f = 18 ∨ f = 19 ∨ f = 20 by omega) with rfl | rfl | rfl | rfl | rfl | rfl | rfl | rfl | rfl | rfl <;> simp [tellH, u2]
theorem tellL_i {ρ : RH} {k f s : Nat} {x1 : Int32} (h : s ≠ k) : tellL ρ k x1 f s = ρ f s := by
  simp [tellL, lieC, u2, h]
theorem tellL_f {ρ : RH} {k f s : Nat} {x1 : Int32} (h : f < 31 ∨ 34 < f) : tellL ρ k x1 f s = ρ f s := by
  unfold tellL lieC
  rw [u2_f (by omega), u2_f (by omega), u2_f (by omega), u2_f (by omega)]
theorem tellL_s {ρ ρ' : RH} {k f : Nat} {x1 : Int32} (h1 : 31 ≤ f) (h2 : f < 35) : tellL ρ' k x1 f k = tellL ρ k x1 f k := by
  rcases (show f = 31 ∨ f = 32 ∨ f = 33 ∨ f = 34 by omega) with rfl | rfl | rfl | rfl <;> simp [tellL, lieC, u2]
theorem LMb.addS {r a b c : Nat} {ρ' ρ : RH} {ν' ν : NU} (h : LMb r a b c ρ' ν' ρ ν) {x1 x2 x3 : Int32} {x : Int64} : LMb r (a + 1) b c (u2 (tellS ρ' a x1 x2 x3) 3 0 (ρ' 3 0 + 1)) (u2l ν' 4 a x) (tellS ρ a x1 x2 x3) (u2l ν 4 a x) := by
  obtain ⟨h3, h4, h5, h6, h7, h8, h9, h10, h11, h12⟩ := h
  refine ⟨by rw [u2_s, h3]; exact inc1 a, by rw [u2_f (by omega), tellS_f (by omega)]; exact h4, by rw [u2_f (by omega), tellS_f (by omega)]; exact h5, fun f p q => ?_, fun f s hs p q => ?_, fun f s hs p q => ?_, fun f s hs p q => ?_, fun s hs => ?_, fun s hs => ?_, fun s hs => ?_⟩
  · rw [u2_f (by omega), tellS_f (by omega), tellS_f (by omega)]; exact h6 f p q
  · rw [u2_f (by omega)]
    by_cases e : s = a
    · subst e; exact tellS_s p (by omega)
    · rw [tellS_i e, tellS_i e]; exact h7 f s (by omega) p q
  · rw [u2_f (by omega), tellS_f (by omega), tellS_f (by omega)]; exact h8 f s hs p q
  · rw [u2_f (by omega), tellS_f (by omega), tellS_f (by omega)]; exact h9 f s hs p q
  · by_cases e : s = a
    · subst e; rw [u2l_s, u2l_s]
    · rw [u2l_i e, u2l_i e]; exact h10 s (by omega)
  · rw [u2l_f (by omega), u2l_f (by omega)]; exact h11 s hs
  · rw [u2l_f (by omega), u2l_f (by omega)]; exact h12 s hs
theorem LMb.addH {r a b c : Nat} {ρ' ρ : RH} {ν' ν : NU} (h : LMb r a b c ρ' ν' ρ ν) {x1 x2 x3 x4 : Int32} {x : Int64} : LMb r a (b + 1) c (u2 (tellH ρ' b x1 x2 x3 x4) 4 0 (ρ' 4 0 + 1)) (u2l ν' 1 b x) (tellH ρ b x1 x2 x3 x4) (u2l ν 1 b x) := by
  obtain ⟨h3, h4, h5, h6, h7, h8, h9, h10, h11, h12⟩ := h
  refine ⟨by rw [u2_f (by omega), tellH_f (by omega)]; exact h3, by rw [u2_s, h4]; exact inc1 b, by rw [u2_f (by omega), tellH_f (by omega)]; exact h5, fun f p q => ?_, fun f s hs p q => ?_, fun f s hs p q => ?_, fun f s hs p q => ?_, fun s hs => ?_, fun s hs => ?_, fun s hs => ?_⟩
  · rw [u2_f (by omega), tellH_f (by omega), tellH_f (by omega)]; exact h6 f p q
  · rw [u2_f (by omega), tellH_f (by omega), tellH_f (by omega)]; exact h7 f s hs p q
  · rw [u2_f (by omega)]
    by_cases e : s = b
    · subst e; exact tellH_s p (by omega)
    · rw [tellH_i e, tellH_i e]; exact h8 f s (by omega) p q
  · rw [u2_f (by omega), tellH_f (by omega), tellH_f (by omega)]; exact h9 f s hs p q
  · rw [u2l_f (by omega), u2l_f (by omega)]; exact h10 s hs
  · by_cases e : s = b
    · subst e; rw [u2l_s, u2l_s]
    · rw [u2l_i e, u2l_i e]; exact h11 s (by omega)
  · rw [u2l_f (by omega), u2l_f (by omega)]; exact h12 s hs
theorem LMb.addL {r a b c : Nat} {ρ' ρ : RH} {ν' ν : NU} (h : LMb r a b c ρ' ν' ρ ν) {x1 : Int32} {x : Int64} : LMb r a b (c + 1) (u2 (tellL ρ' c x1) 5 0 (ρ' 5 0 + 1)) (u2l ν' 3 c x) (tellL ρ c x1) (u2l ν 3 c x) := by
  obtain ⟨h3, h4, h5, h6, h7, h8, h9, h10, h11, h12⟩ := h
  refine ⟨by rw [u2_f (by omega), tellL_f (by omega)]; exact h3, by rw [u2_f (by omega), tellL_f (by omega)]; exact h4, by rw [u2_s, h5]; exact inc1 c, fun f p q => ?_, fun f s hs p q => ?_, fun f s hs p q => ?_, fun f s hs p q => ?_, fun s hs => ?_, fun s hs => ?_, fun s hs => ?_⟩
  · rw [u2_f (by omega), tellL_f (by omega), tellL_f (by omega)]; exact h6 f p q
  · rw [u2_f (by omega), tellL_f (by omega), tellL_f (by omega)]; exact h7 f s hs p q
  · rw [u2_f (by omega), tellL_f (by omega), tellL_f (by omega)]; exact h8 f s hs p q
  · rw [u2_f (by omega)]
    by_cases e : s = c
    · subst e; exact tellL_s p (by omega)
    · rw [tellL_i e, tellL_i e]; exact h9 f s (by omega) p q
  · rw [u2l_f (by omega), u2l_f (by omega)]; exact h10 s hs
  · rw [u2l_f (by omega), u2l_f (by omega)]; exact h11 s hs
  · by_cases e : s = c
    · subst e; rw [u2l_s, u2l_s]
    · rw [u2l_i e, u2l_i e]; exact h12 s (by omega)
theorem LM.emp {τ : TY} {M0 M : ME} {r : Nat} {ρ' ρ : RH} {ν' ν : NU} (hR : RM τ M0 M r ρ' ν') (h3 : ρ' 3 0 = 0) (h4 : ρ' 4 0 = 0) (h5 : ρ' 5 0 = 0) (h6 : ∀ f, 6 ≤ f → f < 9 → ρ' f 0 = ρ f 0) : LM τ M0 M r 0 0 0 ρ ν := ⟨⟨by omega, by omega, by omega⟩, ρ', ν', hR, h3, h4, h5, h6, fun _ _ h => absurd h (Nat.not_lt_zero _), fun _ _ h => absurd h (Nat.not_lt_zero _), fun _ _ h => absurd h (Nat.not_lt_zero _), fun _ h => absurd h (Nat.not_lt_zero _), fun _ h => absurd h (Nat.not_lt_zero _), fun _ h => absurd h (Nat.not_lt_zero _)⟩
set_option maxHeartbeats 1000000 in
theorem c_X6_empty {l : Launch} {D : va_G} {cA : Nat → ClassId} {n0 : Nat} {XW : State → Heap → Prop} (hX : SF n0 XW) {sz : Nat} {τ : TY} {M0 M : ME} {r a b c : Nat} {ρ : RH} {ν : NU} (hR : LM τ M0 M r a b c ρ ν) : CT l D cA n0 XW mX6_empty 1 0 0 sz τ M [.ref r] (MUq none sz τ (fun M' => LM τ M0 M' r 0 0 0 (u2 ρ 8 0 0) ν)) := by
  refine CT.of (ls := [.ref r]) (by decide) (Nat.le_of_ble_eq_true rfl) rfl ?_
  obtain ⟨⟨l3, l4, l5⟩, ρ', ν', hR, hB⟩ := hR
  obtain ⟨h3, h4, h5, h6, h7⟩ := id hB
  refine T_aload0 dX6_empty_0 rfl ?_
  refine T_iconst (0) dX6_empty_1 rfl rfl ?_
  refine p6_32 rfl hR.t dX6_empty_2 rfl ?_
  refine T_nm (fun M1 e1 => ?_)
  have hR := RM.mv (hR.pr (by omega)) e1
  refine T_aload0 dX6_empty_5 rfl ?_
  refine T_iconst (0) dX6_empty_6 rfl rfl ?_
  refine p6_36 rfl hR.t dX6_empty_7 rfl ?_
  refine T_nm (fun M2 e2 => ?_)
  have hR := RM.mv (hR.pr (by omega)) e2
  refine T_aload0 dX6_empty_10 rfl ?_
  refine T_iconst (0) dX6_empty_11 rfl rfl ?_
  refine p6_39 rfl hR.t dX6_empty_12 rfl ?_
  refine T_nm (fun M3 e3 => ?_)
  have hR := RM.mv (hR.pr (by omega)) e3
  refine T_aload0 dX6_empty_15 rfl ?_
  refine T_iconst (0) dX6_empty_16 rfl rfl ?_
  refine p6_48 rfl hR.t dX6_empty_17 rfl ?_
  refine T_nm (fun M4 e4 => ?_)
  have hR := RM.mv (hR.pr (by omega)) e4
  refine T_vret rfl dX6_empty_20 ?_
  refine ⟨rfl, rfl, rfl, LM.emp hR rfl rfl rfl (fun f p q => ?_)⟩
  simp only [u2]; repeat' split
  all_goals first | rfl | omega | exact h6 f p q
set_option maxHeartbeats 1000000 in
theorem c_X6_addStretch {l : Launch} {D : va_G} {cA : Nat → ClassId} {n0 : Nat} {XW : State → Heap → Prop} (hX : SF n0 XW) {sz : Nat} {τ : TY} {M0 M : ME} {r a b c : Nat} {ρ : RH} {ν : NU} (hR : LM τ M0 M r a b c ρ ν) (x : Int64) (x1 x2 x3 : Int32) : CT l D cA n0 XW mX6_addStretch 2 0 0 sz τ M [.ref r, .long x, .int x1, .int x2, .int x3] (MUq none sz τ (fun M' => (a < 8 → LM τ M0 M' r (a + 1) b c (tellS ρ a x1 x2 x3) (u2l ν 4 a x)) ∧ (¬ a < 8 → LM τ M0 M' r a b c ρ ν))) := by
  refine CT.of (ls := [.ref r, .long x, UU, .int x1, .int x2, .int x3]) (by decide) (Nat.le_of_ble_eq_true rfl) rfl ?_
  obtain ⟨⟨l3, l4, l5⟩, ρ', ν', hR, hB⟩ := hR
  obtain ⟨h3, h4, h5, h6, h7⟩ := id hB
  refine T_aload0 dX6_addStretch_0 rfl ?_
  refine g6_32 _ rfl hR.t hR.r3 dX6_addStretch_1 rfl ?_
  refine T_bipush (8) dX6_addStretch_4 rfl rfl ?_
  refine T_icmp_ge 37 9 dX6_addStretch_6 (by decide) rfl (fun c6 => ?_) (fun c6 => ?_)
  ·
    rw [h3] at c6
    have c6 := le_out (c := 8) rfl c6
    refine T_vret rfl dX6_addStretch_37 ?_
    first | exact ⟨rfl, rfl, rfl, fun q => absurd q (by omega), fun _ => ⟨⟨by omega, by omega, by omega⟩, _, _, hR, hB⟩⟩ | exact ⟨rfl, rfl, rfl, fun _ => ⟨⟨by omega, by omega, by omega⟩, _, _, hR, hB.addS⟩, fun q => absurd c6 q⟩
  ·
    rw [h3] at c6
    have c6 := lt_in (c := 8) rfl c6
    refine T_aload0 dX6_addStretch_9 rfl ?_
    refine g6_11 _ rfl hR.t hR.r0 dX6_addStretch_10 rfl ?_
    refine T_aload0 dX6_addStretch_13 rfl ?_
    refine g6_32 _ rfl hR.t hR.r3 dX6_addStretch_14 rfl ?_
    refine T_aald 6 _ (by decide) hR.tS h3 (by omega) (by decide) dX6_addStretch_17 rfl (hR.S (by omega)) ?_
    refine T_lload1 dX6_addStretch_18 rfl ?_
    refine T_iload3 dX6_addStretch_19 rfl ?_
    refine T_iload4 dX6_addStretch_20 rfl ?_
    refine T_iload5 dX6_addStretch_22 rfl ?_
    refine T_cV4 (c_X8_tell hX hR.rf (by omega) _ _ _ _) hX k6_61 (Or.inl ⟨_, _, _, _, (hR.ts (by omega)), by decide, rfl⟩) (by decide) (Nat.le_of_ble_eq_true rfl) dX6_addStretch_24 rfl ?_
    rintro _ _ _ M1 ⟨rfl, rfl, rfl, hN⟩
    have hR := hN.base hR.2.2.2
    refine T_aload0 dX6_addStretch_27 rfl ?_
    refine T_dup dX6_addStretch_28 rfl rfl ?_
    refine g6_32 _ rfl hR.t hR.r3 dX6_addStretch_29 rfl ?_
    refine T_iconst (1) dX6_addStretch_32 rfl rfl ?_
    refine T_iadd dX6_addStretch_33 rfl ?_
    refine p6_32 rfl hR.t dX6_addStretch_34 rfl ?_
    refine T_nm (fun M1 e1 => ?_)
    have hR := RM.mv (hR.pr (by omega)) e1
    refine T_vret rfl dX6_addStretch_37 ?_
    first | exact ⟨rfl, rfl, rfl, fun q => absurd q (by omega), fun _ => ⟨⟨by omega, by omega, by omega⟩, _, _, hR, hB⟩⟩ | exact ⟨rfl, rfl, rfl, fun _ => ⟨⟨by omega, by omega, by omega⟩, _, _, hR, hB.addS⟩, fun q => absurd c6 q⟩
set_option maxHeartbeats 1000000 in
theorem c_X6_addHorse {l : Launch} {D : va_G} {cA : Nat → ClassId} {n0 : Nat} {XW : State → Heap → Prop} (hX : SF n0 XW) {sz : Nat} {τ : TY} {M0 M : ME} {r a b c : Nat} {ρ : RH} {ν : NU} (hR : LM τ M0 M r a b c ρ ν) (x : Int64) (x1 x2 x3 x4 : Int32) (hb : b01 x4) : CT l D cA n0 XW mX6_addHorse 2 0 0 sz τ M [.ref r, .long x, .int x1, .int x2, .int x3, .int x4] (MUq none sz τ (fun M' => (b < 6 → LM τ M0 M' r a (b + 1) c (tellH ρ b x1 x2 x3 x4) (u2l ν 1 b x)) ∧ (¬ b < 6 → LM τ M0 M' r a b c ρ ν))) := by
  refine CT.of (ls := [.ref r, .long x, UU, .int x1, .int x2, .int x3, .int x4]) (by decide) (Nat.le_of_ble_eq_true rfl) rfl ?_
  obtain ⟨⟨l3, l4, l5⟩, ρ', ν', hR, hB⟩ := hR
  obtain ⟨h3, h4, h5, h6, h7⟩ := id hB
  refine T_aload0 dX6_addHorse_0 rfl ?_
  refine g6_36 _ rfl hR.t hR.r4 dX6_addHorse_1 rfl ?_
  refine T_bipush (6) dX6_addHorse_4 rfl rfl ?_
  refine T_icmp_ge 39 9 dX6_addHorse_6 (by decide) rfl (fun c6 => ?_) (fun c6 => ?_)
  ·
    rw [h4] at c6
    have c6 := le_out (c := 6) rfl c6
    refine T_vret rfl dX6_addHorse_39 ?_
    first | exact ⟨rfl, rfl, rfl, fun q => absurd q (by omega), fun _ => ⟨⟨by omega, by omega, by omega⟩, _, _, hR, hB⟩⟩ | exact ⟨rfl, rfl, rfl, fun _ => ⟨⟨by omega, by omega, by omega⟩, _, _, hR, hB.addH⟩, fun q => absurd c6 q⟩
  ·
    rw [h4] at c6
    have c6 := lt_in (c := 6) rfl c6
    refine T_aload0 dX6_addHorse_9 rfl ?_
    refine g6_20 _ rfl hR.t hR.r1 dX6_addHorse_10 rfl ?_
    refine T_aload0 dX6_addHorse_13 rfl ?_
    refine g6_36 _ rfl hR.t hR.r4 dX6_addHorse_14 rfl ?_
    refine T_aald 3 _ (by decide) hR.tH h4 (by omega) (by decide) dX6_addHorse_17 rfl (hR.H (by omega)) ?_
    refine T_lload1 dX6_addHorse_18 rfl ?_
    refine T_iload3 dX6_addHorse_19 rfl ?_
    refine T_iload4 dX6_addHorse_20 rfl ?_
    refine T_iload5 dX6_addHorse_22 rfl ?_
    refine T_iload6 dX6_addHorse_24 rfl ?_
    refine T_cV5 (c_X1_tell hX hR.rf (by omega) _ _ _ _ _ hb) hX k6_65 (Or.inl ⟨_, _, _, _, (hR.th (by omega)), by decide, rfl⟩) (by decide) (Nat.le_of_ble_eq_true rfl) dX6_addHorse_26 rfl ?_
    rintro _ _ _ M1 ⟨rfl, rfl, rfl, hN⟩
    have hR := hN.base hR.2.2.2
    refine T_aload0 dX6_addHorse_29 rfl ?_
    refine T_dup dX6_addHorse_30 rfl rfl ?_
    refine g6_36 _ rfl hR.t hR.r4 dX6_addHorse_31 rfl ?_
    refine T_iconst (1) dX6_addHorse_34 rfl rfl ?_
    refine T_iadd dX6_addHorse_35 rfl ?_
    refine p6_36 rfl hR.t dX6_addHorse_36 rfl ?_
    refine T_nm (fun M1 e1 => ?_)
    have hR := RM.mv (hR.pr (by omega)) e1
    refine T_vret rfl dX6_addHorse_39 ?_
    first | exact ⟨rfl, rfl, rfl, fun q => absurd q (by omega), fun _ => ⟨⟨by omega, by omega, by omega⟩, _, _, hR, hB⟩⟩ | exact ⟨rfl, rfl, rfl, fun _ => ⟨⟨by omega, by omega, by omega⟩, _, _, hR, hB.addH⟩, fun q => absurd c6 q⟩
set_option maxHeartbeats 1000000 in
theorem c_X6_addLog {l : Launch} {D : va_G} {cA : Nat → ClassId} {n0 : Nat} {XW : State → Heap → Prop} (hX : SF n0 XW) {sz : Nat} {τ : TY} {M0 M : ME} {r a b c : Nat} {ρ : RH} {ν : NU} (hR : LM τ M0 M r a b c ρ ν) (x : Int64) (x1 : Int32) : CT l D cA n0 XW mX6_addLog 3 0 0 sz τ M [.ref r, .long x, .int x1] (MUq none sz τ (fun M' => (c < 20 → LM τ M0 M' r a b (c + 1) (tellL ρ c x1) (u2l ν 3 c x)) ∧ (¬ c < 20 → LM τ M0 M' r a b c ρ ν))) := by
  refine CT.of (ls := [.ref r, .long x, UU, .int x1]) (by decide) (Nat.le_of_ble_eq_true rfl) rfl ?_
  obtain ⟨⟨l3, l4, l5⟩, ρ', ν', hR, hB⟩ := hR
  obtain ⟨h3, h4, h5, h6, h7⟩ := id hB
  refine T_aload0 dX6_addLog_0 rfl ?_
  refine g6_39 _ rfl hR.t hR.r5 dX6_addLog_1 rfl ?_
  refine T_bipush (20) dX6_addLog_4 rfl rfl ?_
  refine T_icmp_ge 33 9 dX6_addLog_6 (by decide) rfl (fun c6 => ?_) (fun c6 => ?_)
  ·
    rw [h5] at c6
    have c6 := le_out (c := 20) rfl c6
    refine T_vret rfl dX6_addLog_33 ?_
    first | exact ⟨rfl, rfl, rfl, fun q => absurd q (by omega), fun _ => ⟨⟨by omega, by omega, by omega⟩, _, _, hR, hB⟩⟩ | exact ⟨rfl, rfl, rfl, fun _ => ⟨⟨by omega, by omega, by omega⟩, _, _, hR, hB.addL⟩, fun q => absurd c6 q⟩
  ·
    rw [h5] at c6
    have c6 := lt_in (c := 20) rfl c6
    refine T_aload0 dX6_addLog_9 rfl ?_
    refine g6_27 _ rfl hR.t hR.r2 dX6_addLog_10 rfl ?_
    refine T_aload0 dX6_addLog_13 rfl ?_
    refine g6_39 _ rfl hR.t hR.r5 dX6_addLog_14 rfl ?_
    refine T_aald 4 _ (by decide) hR.tL h5 (by omega) (by decide) dX6_addLog_17 rfl (hR.L (by omega)) ?_
    refine T_lload1 dX6_addLog_18 rfl ?_
    refine T_iload3 dX6_addLog_19 rfl ?_
    refine T_cV2 (c_X2_tell hX hR.rf (by omega) _ _) hX k6_68 (Or.inl ⟨_, _, _, _, (hR.tl (by omega)), by decide, rfl⟩) (by decide) (Nat.le_of_ble_eq_true rfl) dX6_addLog_20 rfl ?_
    rintro _ _ _ M1 ⟨rfl, rfl, rfl, hN⟩
    have hR := hN.base hR.2.2.2
    refine T_aload0 dX6_addLog_23 rfl ?_
    refine T_dup dX6_addLog_24 rfl rfl ?_
    refine g6_39 _ rfl hR.t hR.r5 dX6_addLog_25 rfl ?_
    refine T_iconst (1) dX6_addLog_28 rfl rfl ?_
    refine T_iadd dX6_addLog_29 rfl ?_
    refine p6_39 rfl hR.t dX6_addLog_30 rfl ?_
    refine T_nm (fun M1 e1 => ?_)
    have hR := RM.mv (hR.pr (by omega)) e1
    refine T_vret rfl dX6_addLog_33 ?_
    first | exact ⟨rfl, rfl, rfl, fun q => absurd q (by omega), fun _ => ⟨⟨by omega, by omega, by omega⟩, _, _, hR, hB⟩⟩ | exact ⟨rfl, rfl, rfl, fun _ => ⟨⟨by omega, by omega, by omega⟩, _, _, hR, hB.addL⟩, fun q => absurd c6 q⟩
