theorem RM.frU {τ : TY} {M0 M M1 : ME} {r a k : Nat} {ρ : RH} {ν : NU} {v : Value} (h : RM τ M0 M r ρ ν) (e : M1 = up M a k v) (hd : a < r ∨ r + 38 ≤ a) : RM τ M1 M1 r ρ ν := h.fr (fun b h1 h2 => by rw [e]; exact up_a (by omega))
theorem RM.nx {τ : TY} {M0 M M1 : ME} {r lo hi : Nat} {ρ : RH} {ν : NU} (h : RM τ M0 M r ρ ν) (e : Fr lo hi M M1) (hd : hi ≤ r ∨ r + 38 ≤ lo) : RM τ M1 M1 r ρ ν := h.fr (fun b h1 h2 => e b (by omega))
theorem RM.cg {τ : TY} {M0 M : ME} {r : Nat} {ρ ρ' : RH} {ν ν' : NU} (h : RM τ M0 M r ρ ν) (e : ρ = ρ') (e2 : ν = ν') : RM τ M0 M r ρ' ν' := e ▸ e2 ▸ h
def ROv (sz : Nat) (τ : TY) (M : ME) : QT := fun v' sz' τ' M' => v' = none ∧ sz' = sz ∧ τ' = τ ∧ M' = M
/-- what small methods do to a road's numbers -/
def lieC (ρ : RH) (l : Nat) (a b : Int32) : RH := u2 (u2 ρ 32 l a) 33 l b
def standC (ρ : RH) (h : Nat) (p d u : Int32) : RH := u2 (u2 (u2 ρ 15 h p) 16 h d) 17 h u
def min60 (x : Int32) : Int32 := if x < 60 then x else 60
def tireC (ρ : RH) (h : Nat) (x : Int32) : RH := u2 ρ 18 h (maxI 0 (min60 (ρ 18 h + x)))
def tellL (ρ : RH) (l : Nat) (w : Int32) : RH := u2 (lieC (u2 ρ 31 l w) l 0 (-1)) 34 l (-1)
def tellS (ρ : RH) (s : Nat) (a b c : Int32) : RH := u2 (u2 (u2 ρ 41 s a) 42 s b) 43 s c
def tellH (ρ : RH) (h : Nat) (a b c d : Int32) : RH := u2 (u2 (u2 (u2 (u2 (u2 (u2 (u2 (u2 (u2 ρ 11 h a) 12 h b) 13 h c) 14 h d) 15 h (-1)) 16 h 0) 17 h 0) 18 h 0) 19 h 0) 20 h 0
def bcL (ρ ρ2 : RH) (l : Nat) : RH := u2 (lieC (tellL ρ l (ρ2 31 l)) l (ρ2 32 l) (ρ2 33 l)) 34 l (ρ2 34 l)
def bcS (ρ ρ2 : RH) (s : Nat) : RH := tellS ρ s (ρ2 41 s) (ρ2 42 s) (ρ2 43 s)
def bcH (ρ ρ2 : RH) (h : Nat) : RH := u2 (u2 (u2 (u2 (u2 (u2 (tellH ρ h (ρ2 11 h) (ρ2 12 h) (ρ2 13 h) (ρ2 14 h)) 15 h (ρ2 15 h)) 16 h (ρ2 16 h)) 17 h (ρ2 17 h)) 18 h (ρ2 18 h)) 19 h (ρ2 19 h)) 20 h (ρ2 20 h)
set_option maxHeartbeats 4000000 in
theorem c_X1_init {l : Launch} {D : va_G} {cA : Nat → ClassId} {n0 : Nat} {XW : State → Heap → Prop} (hX : SF n0 XW) {sz : Nat} {τ : TY} {M : ME} (a : Nat) : CT l D cA n0 XW mX1_init 1 0 0 sz τ M [.ref a] (ROv sz τ M) := by
  refine CT.of (ls := [.ref a]) (by decide) (Nat.le_of_ble_eq_true rfl) rfl ?_
  refine T_aload0 dX1_init_0 rfl ?_
  refine T_obj ko1_3 ko1 ko2 (by decide) (Nat.le_of_ble_eq_true rfl) dX1_init_1 rfl ?_
  refine T_vret rfl dX1_init_4 ?_
  exact ⟨rfl, rfl, rfl, rfl⟩
set_option maxHeartbeats 4000000 in
theorem c_X2_init {l : Launch} {D : va_G} {cA : Nat → ClassId} {n0 : Nat} {XW : State → Heap → Prop} (hX : SF n0 XW) {sz : Nat} {τ : TY} {M : ME} (a : Nat) : CT l D cA n0 XW mX2_init 1 0 0 sz τ M [.ref a] (ROv sz τ M) := by
  refine CT.of (ls := [.ref a]) (by decide) (Nat.le_of_ble_eq_true rfl) rfl ?_
  refine T_aload0 dX2_init_0 rfl ?_
  refine T_obj ko2_1 ko1 ko2 (by decide) (Nat.le_of_ble_eq_true rfl) dX2_init_1 rfl ?_
  refine T_vret rfl dX2_init_4 ?_
  exact ⟨rfl, rfl, rfl, rfl⟩
set_option maxHeartbeats 4000000 in
theorem c_X3_init {l : Launch} {D : va_G} {cA : Nat → ClassId} {n0 : Nat} {XW : State → Heap → Prop} (hX : SF n0 XW) {sz : Nat} {τ : TY} {M : ME} (a : Nat) : CT l D cA n0 XW mX3_init 1 0 0 sz τ M [.ref a] (ROv sz τ M) := by
  refine CT.of (ls := [.ref a]) (by decide) (Nat.le_of_ble_eq_true rfl) rfl ?_
  refine T_aload0 dX3_init_0 rfl ?_
  refine T_obj ko3_1 ko1 ko2 (by decide) (Nat.le_of_ble_eq_true rfl) dX3_init_1 rfl ?_
  refine T_vret rfl dX3_init_4 ?_
  exact ⟨rfl, rfl, rfl, rfl⟩
set_option maxHeartbeats 4000000 in
theorem c_X8_init {l : Launch} {D : va_G} {cA : Nat → ClassId} {n0 : Nat} {XW : State → Heap → Prop} (hX : SF n0 XW) {sz : Nat} {τ : TY} {M : ME} (a : Nat) : CT l D cA n0 XW mX8_init 1 0 0 sz τ M [.ref a] (ROv sz τ M) := by
  refine CT.of (ls := [.ref a]) (by decide) (Nat.le_of_ble_eq_true rfl) rfl ?_
  refine T_aload0 dX8_init_0 rfl ?_
  refine T_obj ko8_1 ko1 ko2 (by decide) (Nat.le_of_ble_eq_true rfl) dX8_init_1 rfl ?_
  refine T_vret rfl dX8_init_4 ?_
  exact ⟨rfl, rfl, rfl, rfl⟩
set_option maxHeartbeats 4000000 in
theorem c_X2_lie {l : Launch} {D : va_G} {cA : Nat → ClassId} {n0 : Nat} {XW : State → Heap → Prop} (hX : SF n0 XW) {sz : Nat} {τ : TY} {M0 M : ME} {r : Nat} {ρ : RH} {ν : NU} (hR : RM τ M0 M r ρ ν) {l : Nat} (hl : l < 20) (a b : Int32) : CT l D cA n0 XW mX2_lie 1 0 0 sz τ M [.ref (lgA r l), .int a, .int b] (MUq none sz τ (fun M' => RM τ M0 M' r (lieC ρ l a b) (ν))) := by
  refine CT.of (ls := [.ref (lgA r l), .int a, .int b]) (by decide) (Nat.le_of_ble_eq_true rfl) rfl ?_
  refine T_aload0 dX2_lie_0 rfl ?_
  refine T_iload1 dX2_lie_1 rfl ?_
  refine p2_28 rfl (hR.tl (by omega)) dX2_lie_2 rfl ?_
  refine T_nm (fun M1 e1 => ?_)
  have hR := RM.mv (hR.pl (by omega) (by omega)) e1
  refine T_aload0 dX2_lie_5 rfl ?_
  refine T_iload2 dX2_lie_6 rfl ?_
  refine p2_31 rfl (hR.tl (by omega)) dX2_lie_7 rfl ?_
  refine T_nm (fun M2 e2 => ?_)
  have hR := RM.mv (hR.pl (by omega) (by omega)) e2
  refine T_vret rfl dX2_lie_10 ?_
  exact ⟨rfl, rfl, rfl, hR⟩
set_option maxHeartbeats 4000000 in
theorem c_X2_tell {l : Launch} {D : va_G} {cA : Nat → ClassId} {n0 : Nat} {XW : State → Heap → Prop} (hX : SF n0 XW) {sz : Nat} {τ : TY} {M0 M : ME} {r : Nat} {ρ : RH} {ν : NU} (hR : RM τ M0 M r ρ ν) {l : Nat} (hl : l < 20) (x : Int64) (w : Int32) : CT l D cA n0 XW mX2_tell 2 0 0 sz τ M [.ref (lgA r l), .long x, .int w] (MUq none sz τ (fun M' => RM τ M0 M' r (tellL ρ l w) (u2l ν 3 l x))) := by
  refine CT.of (ls := [.ref (lgA r l), .long x, UU, .int w]) (by decide) (Nat.le_of_ble_eq_true rfl) rfl ?_
  refine T_aload0 dX2_tell_0 rfl ?_
  refine T_lload1 dX2_tell_1 rfl ?_
  refine p2_7 rfl (hR.tl (by omega)) dX2_tell_2 rfl ?_
  refine T_nm (fun M1 e1 => ?_)
  have hR := RM.mv (hR.pl0 (by omega)) e1
  refine T_aload0 dX2_tell_5 rfl ?_
  refine T_iload3 dX2_tell_6 rfl ?_
  refine p2_13 rfl (hR.tl (by omega)) dX2_tell_7 rfl ?_
  refine T_nm (fun M2 e2 => ?_)
  have hR := RM.mv (hR.pl (by omega) (by omega)) e2
  refine T_aload0 dX2_tell_10 rfl ?_
  refine T_iconst (0) dX2_tell_11 rfl rfl ?_
  refine T_iconst (-1) dX2_tell_12 rfl rfl ?_
  refine T_cV2 (c_X2_lie hX hR (by omega) _ _) hX k2_17 (Or.inl ⟨_, _, _, _, (hR.tl (by omega)), by decide, rfl⟩) (by decide) (Nat.le_of_ble_eq_true rfl) dX2_tell_13 rfl ?_
  rintro _ _ _ M1 ⟨rfl, rfl, rfl, hR⟩
  refine T_aload0 dX2_tell_16 rfl ?_
  refine T_iconst (-1) dX2_tell_17 rfl rfl ?_
  refine p2_21 rfl (hR.tl (by omega)) dX2_tell_18 rfl ?_
  refine T_nm (fun M3 e3 => ?_)
  have hR := RM.mv (hR.pl (by omega) (by omega)) e3
  refine T_vret rfl dX2_tell_21 ?_
  exact ⟨rfl, rfl, rfl, hR⟩
set_option maxHeartbeats 4000000 in
theorem c_X1_stand {l : Launch} {D : va_G} {cA : Nat → ClassId} {n0 : Nat} {XW : State → Heap → Prop} (hX : SF n0 XW) {sz : Nat} {τ : TY} {M0 M : ME} {r : Nat} {ρ : RH} {ν : NU} (hR : RM τ M0 M r ρ ν) {h : Nat} (hh : h < 6) (p d u : Int32) (hb : b01 d) : CT l D cA n0 XW mX1_stand 1 0 0 sz τ M [.ref (hsA r h), .int p, .int d, .int u] (MUq none sz τ (fun M' => RM τ M0 M' r (standC ρ h p d u) (ν))) := by
  refine CT.of (ls := [.ref (hsA r h), .int p, .int d, .int u]) (by decide) (Nat.le_of_ble_eq_true rfl) rfl ?_
  refine T_aload0 dX1_stand_0 rfl ?_
  refine T_iload1 dX1_stand_1 rfl ?_
  refine p1_29 rfl (hR.th (by omega)) dX1_stand_2 rfl ?_
  refine T_nm (fun M1 e1 => ?_)
  have hR := RM.mv (hR.ph (by omega) (by omega)) e1
  refine T_aload0 dX1_stand_5 rfl ?_
  refine T_iload2 dX1_stand_6 rfl ?_
  refine p1_32 (by first | exact Or.inl rfl | exact Or.inr rfl | assumption) rfl (hR.th (by omega)) dX1_stand_7 rfl ?_
  refine T_nm (fun M2 e2 => ?_)
  have hR := RM.mv (hR.ph (by omega) (by omega)) e2
  refine T_aload0 dX1_stand_10 rfl ?_
  refine T_iload3 dX1_stand_11 rfl ?_
  refine p1_35 rfl (hR.th (by omega)) dX1_stand_12 rfl ?_
  refine T_nm (fun M3 e3 => ?_)
  have hR := RM.mv (hR.ph (by omega) (by omega)) e3
  refine T_vret rfl dX1_stand_15 ?_
  exact ⟨rfl, rfl, rfl, hR⟩
set_option maxHeartbeats 4000000 in
theorem c_X1_tire {l : Launch} {D : va_G} {cA : Nat → ClassId} {n0 : Nat} {XW : State → Heap → Prop} (hX : SF n0 XW) {sz : Nat} {τ : TY} {M0 M : ME} {r : Nat} {ρ : RH} {ν : NU} (hR : RM τ M0 M r ρ ν) {h : Nat} (hh : h < 6) (x : Int32) : CT l D cA n0 XW mX1_tire 2 0 0 sz τ M [.ref (hsA r h), .int x] (MUq none sz τ (fun M' => RM τ M0 M' r (tireC ρ h x) (ν))) := by
  refine CT.of (ls := [.ref (hsA r h), .int x]) (by decide) (Nat.le_of_ble_eq_true rfl) rfl ?_
  refine T_aload0 dX1_tire_0 rfl ?_
  refine T_iconst (0) dX1_tire_1 rfl rfl ?_
  refine T_bipush (60) dX1_tire_2 rfl rfl ?_
  refine T_aload0 dX1_tire_4 rfl ?_
  refine g1_38 _ rfl (hR.th (by omega)) (hR.h8 (by omega)) dX1_tire_5 rfl ?_
  refine T_iload1 dX1_tire_8 rfl ?_
  refine T_iadd dX1_tire_9 rfl ?_
  refine T_min km1_51 (by decide) (Nat.le_of_ble_eq_true rfl) dX1_tire_10 rfl ?_
  refine T_max km1_57 (by decide) (Nat.le_of_ble_eq_true rfl) dX1_tire_13 rfl ?_
  refine p1_38 rfl (hR.th (by omega)) dX1_tire_16 rfl ?_
  refine T_nm (fun M1 e1 => ?_)
  have hR := RM.mv (hR.ph (by omega) (by omega)) e1
  refine T_vret rfl dX1_tire_19 ?_
  exact ⟨rfl, rfl, rfl, hR⟩
set_option maxHeartbeats 4000000 in
theorem c_X1_tell {l : Launch} {D : va_G} {cA : Nat → ClassId} {n0 : Nat} {XW : State → Heap → Prop} (hX : SF n0 XW) {sz : Nat} {τ : TY} {M0 M : ME} {r : Nat} {ρ : RH} {ν : NU} (hR : RM τ M0 M r ρ ν) {h : Nat} (hh : h < 6) (x : Int64) (a b c d : Int32) (hb : b01 d) : CT l D cA n0 XW mX1_tell 1 0 0 sz τ M [.ref (hsA r h), .long x, .int a, .int b, .int c, .int d] (MUq none sz τ (fun M' => RM τ M0 M' r (tellH ρ h a b c d) (u2l ν 1 h x))) := by
  refine CT.of (ls := [.ref (hsA r h), .long x, UU, .int a, .int b, .int c, .int d]) (by decide) (Nat.le_of_ble_eq_true rfl) rfl ?_
  refine T_aload0 dX1_tell_0 rfl ?_
  refine T_lload1 dX1_tell_1 rfl ?_
  refine p1_9 rfl (hR.th (by omega)) dX1_tell_2 rfl ?_
  refine T_nm (fun M1 e1 => ?_)
  have hR := RM.mv (hR.ph0 (by omega)) e1
  refine T_aload0 dX1_tell_5 rfl ?_
  refine T_iload3 dX1_tell_6 rfl ?_
  refine p1_15 rfl (hR.th (by omega)) dX1_tell_7 rfl ?_
  refine T_nm (fun M2 e2 => ?_)
  have hR := RM.mv (hR.ph (by omega) (by omega)) e2
  refine T_aload0 dX1_tell_10 rfl ?_
  refine T_iload4 dX1_tell_11 rfl ?_
  refine p1_19 rfl (hR.th (by omega)) dX1_tell_13 rfl ?_
  refine T_nm (fun M3 e3 => ?_)
  have hR := RM.mv (hR.ph (by omega) (by omega)) e3
  refine T_aload0 dX1_tell_16 rfl ?_
  refine T_iload5 dX1_tell_17 rfl ?_
  refine p1_22 rfl (hR.th (by omega)) dX1_tell_19 rfl ?_
  refine T_nm (fun M4 e4 => ?_)
  have hR := RM.mv (hR.ph (by omega) (by omega)) e4
  refine T_aload0 dX1_tell_22 rfl ?_
  refine T_iload6 dX1_tell_23 rfl ?_
  refine p1_25 (by first | exact Or.inl rfl | exact Or.inr rfl | assumption) rfl (hR.th (by omega)) dX1_tell_25 rfl ?_
  refine T_nm (fun M5 e5 => ?_)
  have hR := RM.mv (hR.ph (by omega) (by omega)) e5
  refine T_aload0 dX1_tell_28 rfl ?_
  refine T_iconst (-1) dX1_tell_29 rfl rfl ?_
  refine p1_29 rfl (hR.th (by omega)) dX1_tell_30 rfl ?_
  refine T_nm (fun M6 e6 => ?_)
  have hR := RM.mv (hR.ph (by omega) (by omega)) e6
  refine T_aload0 dX1_tell_33 rfl ?_
  refine T_iconst (0) dX1_tell_34 rfl rfl ?_
  refine p1_32 (by first | exact Or.inl rfl | exact Or.inr rfl | assumption) rfl (hR.th (by omega)) dX1_tell_35 rfl ?_
  refine T_nm (fun M7 e7 => ?_)
  have hR := RM.mv (hR.ph (by omega) (by omega)) e7
  refine T_aload0 dX1_tell_38 rfl ?_
  refine T_iconst (0) dX1_tell_39 rfl rfl ?_
  refine p1_35 rfl (hR.th (by omega)) dX1_tell_40 rfl ?_
  refine T_nm (fun M8 e8 => ?_)
  have hR := RM.mv (hR.ph (by omega) (by omega)) e8
  refine T_aload0 dX1_tell_43 rfl ?_
  refine T_iconst (0) dX1_tell_44 rfl rfl ?_
  refine p1_38 rfl (hR.th (by omega)) dX1_tell_45 rfl ?_
  refine T_nm (fun M9 e9 => ?_)
  have hR := RM.mv (hR.ph (by omega) (by omega)) e9
  refine T_aload0 dX1_tell_48 rfl ?_
  refine T_iconst (0) dX1_tell_49 rfl rfl ?_
  refine p1_41 rfl (hR.th (by omega)) dX1_tell_50 rfl ?_
  refine T_nm (fun M10 e10 => ?_)
  have hR := RM.mv (hR.ph (by omega) (by omega)) e10
  refine T_aload0 dX1_tell_53 rfl ?_
  refine T_iconst (0) dX1_tell_54 rfl rfl ?_
  refine p1_44 (by first | exact Or.inl rfl | exact Or.inr rfl | assumption) rfl (hR.th (by omega)) dX1_tell_55 rfl ?_
  refine T_nm (fun M11 e11 => ?_)
  have hR := RM.mv (hR.ph (by omega) (by omega)) e11
  refine T_vret rfl dX1_tell_58 ?_
  exact ⟨rfl, rfl, rfl, hR⟩
set_option maxHeartbeats 4000000 in
theorem c_X8_tell {l : Launch} {D : va_G} {cA : Nat → ClassId} {n0 : Nat} {XW : State → Heap → Prop} (hX : SF n0 XW) {sz : Nat} {τ : TY} {M0 M : ME} {r : Nat} {ρ : RH} {ν : NU} (hR : RM τ M0 M r ρ ν) {s : Nat} (hs : s < 8) (x : Int64) (a b c : Int32) : CT l D cA n0 XW mX8_tell 1 0 0 sz τ M [.ref (stA r s), .long x, .int a, .int b, .int c] (MUq none sz τ (fun M' => RM τ M0 M' r (tellS ρ s a b c) (u2l ν 4 s x))) := by
  refine CT.of (ls := [.ref (stA r s), .long x, UU, .int a, .int b, .int c]) (by decide) (Nat.le_of_ble_eq_true rfl) rfl ?_
  refine T_aload0 dX8_tell_0 rfl ?_
  refine T_lload1 dX8_tell_1 rfl ?_
  refine p8_7 rfl (hR.ts (by omega)) dX8_tell_2 rfl ?_
  refine T_nm (fun M1 e1 => ?_)
  have hR := RM.mv (hR.ps0 (by omega)) e1
  refine T_aload0 dX8_tell_5 rfl ?_
  refine T_iload3 dX8_tell_6 rfl ?_
  refine p8_13 rfl (hR.ts (by omega)) dX8_tell_7 rfl ?_
  refine T_nm (fun M2 e2 => ?_)
  have hR := RM.mv (hR.ps (by omega) (by omega)) e2
  refine T_aload0 dX8_tell_10 rfl ?_
  refine T_iload4 dX8_tell_11 rfl ?_
  refine p8_17 rfl (hR.ts (by omega)) dX8_tell_13 rfl ?_
  refine T_nm (fun M3 e3 => ?_)
  have hR := RM.mv (hR.ps (by omega) (by omega)) e3
  refine T_aload0 dX8_tell_16 rfl ?_
  refine T_iload5 dX8_tell_17 rfl ?_
  refine p8_20 rfl (hR.ts (by omega)) dX8_tell_19 rfl ?_
  refine T_nm (fun M4 e4 => ?_)
  have hR := RM.mv (hR.ps (by omega) (by omega)) e4
  refine T_vret rfl dX8_tell_22 ?_
  exact ⟨rfl, rfl, rfl, hR⟩
set_option maxHeartbeats 4000000 in
theorem c_X2_become {l : Launch} {D : va_G} {cA : Nat → ClassId} {n0 : Nat} {XW : State → Heap → Prop} (hX : SF n0 XW) {sz : Nat} {τ : TY} {M0 M : ME} {r : Nat} {ρ : RH} {ν : NU} (hR : RM τ M0 M r ρ ν) {M2 : ME} {r2 : Nat} {ρ2 : RH} {ν2 : NU} (hR2 : RM τ M2 M r2 ρ2 ν2) (hd : r + 38 ≤ r2 ∨ r2 + 38 ≤ r) {l : Nat} (hl : l < 20) : CT l D cA n0 XW mX2_become 3 0 0 sz τ M [.ref (lgA r l), .ref (lgA r2 l)] (MUq none sz τ (fun M' => RM τ M0 M' r (bcL ρ ρ2 l) (u2l ν 3 l (ν2 3 l)))) := by
  refine CT.of (ls := [.ref (lgA r l), .ref (lgA r2 l)]) (by decide) (Nat.le_of_ble_eq_true rfl) rfl ?_
  refine T_aload0 dX2_become_0 rfl ?_
  refine T_aload1 dX2_become_1 rfl ?_
  first | refine g2_7 _ rfl (hR.tl (by omega)) (hR.l0 (by omega)) dX2_become_2 rfl ?_ | refine g2_7 _ rfl (hR2.tl (by omega)) (hR2.l0 (by omega)) dX2_become_2 rfl ?_
  refine T_aload1 dX2_become_5 rfl ?_
  first | refine g2_13 _ rfl (hR.tl (by omega)) (hR.l1 (by omega)) dX2_become_6 rfl ?_ | refine g2_13 _ rfl (hR2.tl (by omega)) (hR2.l1 (by omega)) dX2_become_6 rfl ?_
  refine T_cV2 (c_X2_tell hX hR.rf (by omega) _ _) hX k2_24 (by first | exact Or.inl ⟨_, _, _, _, (hR.tl (by omega)), by decide, rfl⟩ | exact Or.inl ⟨_, _, _, _, (hR2.tl (by omega)), by decide, rfl⟩) (by decide) (Nat.le_of_ble_eq_true rfl) dX2_become_9 rfl ?_
  rintro _ _ _ M1 ⟨rfl, rfl, rfl, hN⟩
  have hR2 := hR2.nx hN.2.2.2 (by omega)
  have hR := hN.base hR.2.2.2
  refine T_aload0 dX2_become_12 rfl ?_
  refine T_aload1 dX2_become_13 rfl ?_
  first | refine g2_28 _ rfl (hR.tl (by omega)) (hR.l2 (by omega)) dX2_become_14 rfl ?_ | refine g2_28 _ rfl (hR2.tl (by omega)) (hR2.l2 (by omega)) dX2_become_14 rfl ?_
  refine T_aload1 dX2_become_17 rfl ?_
  first | refine g2_31 _ rfl (hR.tl (by omega)) (hR.l3 (by omega)) dX2_become_18 rfl ?_ | refine g2_31 _ rfl (hR2.tl (by omega)) (hR2.l3 (by omega)) dX2_become_18 rfl ?_
  refine T_cV2 (c_X2_lie hX hR.rf (by omega) _ _) hX k2_17 (by first | exact Or.inl ⟨_, _, _, _, (hR.tl (by omega)), by decide, rfl⟩ | exact Or.inl ⟨_, _, _, _, (hR2.tl (by omega)), by decide, rfl⟩) (by decide) (Nat.le_of_ble_eq_true rfl) dX2_become_21 rfl ?_
  rintro _ _ _ M1 ⟨rfl, rfl, rfl, hN⟩
  have hR2 := hR2.nx hN.2.2.2 (by omega)
  have hR := hN.base hR.2.2.2
  refine T_aload0 dX2_become_24 rfl ?_
  refine T_aload1 dX2_become_25 rfl ?_
  first | refine g2_21 _ rfl (hR.tl (by omega)) (hR.l4 (by omega)) dX2_become_26 rfl ?_ | refine g2_21 _ rfl (hR2.tl (by omega)) (hR2.l4 (by omega)) dX2_become_26 rfl ?_
  first | refine p2_21 rfl (hR.tl (by omega)) dX2_become_29 rfl ?_ | refine p2_21 rfl (hR2.tl (by omega)) dX2_become_29 rfl ?_
  refine T_nm (fun M1 e1 => ?_)
  have hR := RM.mv (hR.pl (by omega) (by omega)) e1
  have hR2 := RM.frU hR2 e1 (by (try simp only [stA, hsA, lgA]); omega)
  refine T_vret rfl dX2_become_32 ?_
  exact ⟨rfl, rfl, rfl, hR⟩
set_option maxHeartbeats 4000000 in
theorem c_X8_become {l : Launch} {D : va_G} {cA : Nat → ClassId} {n0 : Nat} {XW : State → Heap → Prop} (hX : SF n0 XW) {sz : Nat} {τ : TY} {M0 M : ME} {r : Nat} {ρ : RH} {ν : NU} (hR : RM τ M0 M r ρ ν) {M2 : ME} {r2 : Nat} {ρ2 : RH} {ν2 : NU} (hR2 : RM τ M2 M r2 ρ2 ν2) (hd : r + 38 ≤ r2 ∨ r2 + 38 ≤ r) {s : Nat} (hs : s < 8) : CT l D cA n0 XW mX8_become 2 0 0 sz τ M [.ref (stA r s), .ref (stA r2 s)] (MUq none sz τ (fun M' => RM τ M0 M' r (bcS ρ ρ2 s) (u2l ν 4 s (ν2 4 s)))) := by
  refine CT.of (ls := [.ref (stA r s), .ref (stA r2 s)]) (by decide) (Nat.le_of_ble_eq_true rfl) rfl ?_
  refine T_aload0 dX8_become_0 rfl ?_
  refine T_aload1 dX8_become_1 rfl ?_
  first | refine g8_7 _ rfl (hR.ts (by omega)) (hR.s0 (by omega)) dX8_become_2 rfl ?_ | refine g8_7 _ rfl (hR2.ts (by omega)) (hR2.s0 (by omega)) dX8_become_2 rfl ?_
  refine T_aload1 dX8_become_5 rfl ?_
  first | refine g8_13 _ rfl (hR.ts (by omega)) (hR.s1 (by omega)) dX8_become_6 rfl ?_ | refine g8_13 _ rfl (hR2.ts (by omega)) (hR2.s1 (by omega)) dX8_become_6 rfl ?_
  refine T_aload1 dX8_become_9 rfl ?_
  first | refine g8_17 _ rfl (hR.ts (by omega)) (hR.s2 (by omega)) dX8_become_10 rfl ?_ | refine g8_17 _ rfl (hR2.ts (by omega)) (hR2.s2 (by omega)) dX8_become_10 rfl ?_
  refine T_aload1 dX8_become_13 rfl ?_
  first | refine g8_20 _ rfl (hR.ts (by omega)) (hR.s3 (by omega)) dX8_become_14 rfl ?_ | refine g8_20 _ rfl (hR2.ts (by omega)) (hR2.s3 (by omega)) dX8_become_14 rfl ?_
  refine T_cV4 (c_X8_tell hX hR.rf (by omega) _ _ _ _) hX k8_23 (by first | exact Or.inl ⟨_, _, _, _, (hR.ts (by omega)), by decide, rfl⟩ | exact Or.inl ⟨_, _, _, _, (hR2.ts (by omega)), by decide, rfl⟩) (by decide) (Nat.le_of_ble_eq_true rfl) dX8_become_17 rfl ?_
  rintro _ _ _ M1 ⟨rfl, rfl, rfl, hN⟩
  have hR2 := hR2.nx hN.2.2.2 (by omega)
  have hR := hN.base hR.2.2.2
  refine T_vret rfl dX8_become_20 ?_
  exact ⟨rfl, rfl, rfl, hR⟩
set_option maxHeartbeats 4000000 in
theorem c_X1_become {l : Launch} {D : va_G} {cA : Nat → ClassId} {n0 : Nat} {XW : State → Heap → Prop} (hX : SF n0 XW) {sz : Nat} {τ : TY} {M0 M : ME} {r : Nat} {ρ : RH} {ν : NU} (hR : RM τ M0 M r ρ ν) {M2 : ME} {r2 : Nat} {ρ2 : RH} {ν2 : NU} (hR2 : RM τ M2 M r2 ρ2 ν2) (hd : r + 38 ≤ r2 ∨ r2 + 38 ≤ r) (hB2 : RoadB ρ2) {h : Nat} (hh : h < 6) : CT l D cA n0 XW mX1_become 2 0 0 sz τ M [.ref (hsA r h), .ref (hsA r2 h)] (MUq none sz τ (fun M' => RM τ M0 M' r (bcH ρ ρ2 h) (u2l ν 1 h (ν2 1 h)))) := by
  refine CT.of (ls := [.ref (hsA r h), .ref (hsA r2 h)]) (by decide) (Nat.le_of_ble_eq_true rfl) rfl ?_
  refine T_aload0 dX1_become_0 rfl ?_
  refine T_aload1 dX1_become_1 rfl ?_
  first | refine g1_9 _ rfl (hR.th (by omega)) (hR.h0 (by omega)) dX1_become_2 rfl ?_ | refine g1_9 _ rfl (hR2.th (by omega)) (hR2.h0 (by omega)) dX1_become_2 rfl ?_
  refine T_aload1 dX1_become_5 rfl ?_
  first | refine g1_15 _ rfl (hR.th (by omega)) (hR.h1 (by omega)) dX1_become_6 rfl ?_ | refine g1_15 _ rfl (hR2.th (by omega)) (hR2.h1 (by omega)) dX1_become_6 rfl ?_
  refine T_aload1 dX1_become_9 rfl ?_
  first | refine g1_19 _ rfl (hR.th (by omega)) (hR.h2 (by omega)) dX1_become_10 rfl ?_ | refine g1_19 _ rfl (hR2.th (by omega)) (hR2.h2 (by omega)) dX1_become_10 rfl ?_
  refine T_aload1 dX1_become_13 rfl ?_
  first | refine g1_22 _ rfl (hR.th (by omega)) (hR.h3 (by omega)) dX1_become_14 rfl ?_ | refine g1_22 _ rfl (hR2.th (by omega)) (hR2.h3 (by omega)) dX1_become_14 rfl ?_
  refine T_aload1 dX1_become_17 rfl ?_
  first | refine g1_25 _ rfl (hR.th (by omega)) (hR.h4 (by omega)) dX1_become_18 rfl ?_ | refine g1_25 _ rfl (hR2.th (by omega)) (hR2.h4 (by omega)) dX1_become_18 rfl ?_
  refine T_cV5 (c_X1_tell hX hR.rf (by omega) _ _ _ _ _ (hB2 h hh).1) hX k1_47 (by first | exact Or.inl ⟨_, _, _, _, (hR.th (by omega)), by decide, rfl⟩ | exact Or.inl ⟨_, _, _, _, (hR2.th (by omega)), by decide, rfl⟩) (by decide) (Nat.le_of_ble_eq_true rfl) dX1_become_21 rfl ?_
  rintro _ _ _ M1 ⟨rfl, rfl, rfl, hN⟩
  have hR2 := hR2.nx hN.2.2.2 (by omega)
  have hR := hN.base hR.2.2.2
  refine T_aload0 dX1_become_24 rfl ?_
  refine T_aload1 dX1_become_25 rfl ?_
  first | refine g1_29 _ rfl (hR.th (by omega)) (hR.h5 (by omega)) dX1_become_26 rfl ?_ | refine g1_29 _ rfl (hR2.th (by omega)) (hR2.h5 (by omega)) dX1_become_26 rfl ?_
  first | refine p1_29 rfl (hR.th (by omega)) dX1_become_29 rfl ?_ | refine p1_29 rfl (hR2.th (by omega)) dX1_become_29 rfl ?_
  refine T_nm (fun M1 e1 => ?_)
  have hR := RM.mv (hR.ph (by omega) (by omega)) e1
  have hR2 := RM.frU hR2 e1 (by (try simp only [stA, hsA, lgA]); omega)
  refine T_aload0 dX1_become_32 rfl ?_
  refine T_aload1 dX1_become_33 rfl ?_
  first | refine g1_32 _ rfl (hR.th (by omega)) (hR.h6 (by omega)) dX1_become_34 rfl ?_ | refine g1_32 _ rfl (hR2.th (by omega)) (hR2.h6 (by omega)) dX1_become_34 rfl ?_
  first | refine p1_32 (hB2 h hh).2.1 rfl (hR.th (by omega)) dX1_become_37 rfl ?_ | refine p1_32 (hB2 h hh).2.1 rfl (hR2.th (by omega)) dX1_become_37 rfl ?_
  refine T_nm (fun M2 e2 => ?_)
  have hR := RM.mv (hR.ph (by omega) (by omega)) e2
  have hR2 := RM.frU hR2 e2 (by (try simp only [stA, hsA, lgA]); omega)
  refine T_aload0 dX1_become_40 rfl ?_
  refine T_aload1 dX1_become_41 rfl ?_
  first | refine g1_35 _ rfl (hR.th (by omega)) (hR.h7 (by omega)) dX1_become_42 rfl ?_ | refine g1_35 _ rfl (hR2.th (by omega)) (hR2.h7 (by omega)) dX1_become_42 rfl ?_
  first | refine p1_35 rfl (hR.th (by omega)) dX1_become_45 rfl ?_ | refine p1_35 rfl (hR2.th (by omega)) dX1_become_45 rfl ?_
  refine T_nm (fun M3 e3 => ?_)
  have hR := RM.mv (hR.ph (by omega) (by omega)) e3
  have hR2 := RM.frU hR2 e3 (by (try simp only [stA, hsA, lgA]); omega)
  refine T_aload0 dX1_become_48 rfl ?_
  refine T_aload1 dX1_become_49 rfl ?_
  first | refine g1_38 _ rfl (hR.th (by omega)) (hR.h8 (by omega)) dX1_become_50 rfl ?_ | refine g1_38 _ rfl (hR2.th (by omega)) (hR2.h8 (by omega)) dX1_become_50 rfl ?_
  first | refine p1_38 rfl (hR.th (by omega)) dX1_become_53 rfl ?_ | refine p1_38 rfl (hR2.th (by omega)) dX1_become_53 rfl ?_
  refine T_nm (fun M4 e4 => ?_)
  have hR := RM.mv (hR.ph (by omega) (by omega)) e4
  have hR2 := RM.frU hR2 e4 (by (try simp only [stA, hsA, lgA]); omega)
  refine T_aload0 dX1_become_56 rfl ?_
  refine T_aload1 dX1_become_57 rfl ?_
  first | refine g1_41 _ rfl (hR.th (by omega)) (hR.h9 (by omega)) dX1_become_58 rfl ?_ | refine g1_41 _ rfl (hR2.th (by omega)) (hR2.h9 (by omega)) dX1_become_58 rfl ?_
  first | refine p1_41 rfl (hR.th (by omega)) dX1_become_61 rfl ?_ | refine p1_41 rfl (hR2.th (by omega)) dX1_become_61 rfl ?_
  refine T_nm (fun M5 e5 => ?_)
  have hR := RM.mv (hR.ph (by omega) (by omega)) e5
  have hR2 := RM.frU hR2 e5 (by (try simp only [stA, hsA, lgA]); omega)
  refine T_aload0 dX1_become_64 rfl ?_
  refine T_aload1 dX1_become_65 rfl ?_
  first | refine g1_44 _ rfl (hR.th (by omega)) (hR.h10 (by omega)) dX1_become_66 rfl ?_ | refine g1_44 _ rfl (hR2.th (by omega)) (hR2.h10 (by omega)) dX1_become_66 rfl ?_
  first | refine p1_44 (hB2 h hh).2.2 rfl (hR.th (by omega)) dX1_become_69 rfl ?_ | refine p1_44 (hB2 h hh).2.2 rfl (hR2.th (by omega)) dX1_become_69 rfl ?_
  refine T_nm (fun M6 e6 => ?_)
  have hR := RM.mv (hR.ph (by omega) (by omega)) e6
  have hR2 := RM.frU hR2 e6 (by (try simp only [stA, hsA, lgA]); omega)
  refine T_vret rfl dX1_become_72 ?_
  exact ⟨rfl, rfl, rfl, hR⟩
set_option maxHeartbeats 4000000 in
theorem c_X6_empty {l : Launch} {D : va_G} {cA : Nat → ClassId} {n0 : Nat} {XW : State → Heap → Prop} (hX : SF n0 XW) {sz : Nat} {τ : TY} {M0 M : ME} {r : Nat} {ρ : RH} {ν : NU} (hR : RM τ M0 M r ρ ν) : CT l D cA n0 XW mX6_empty 1 0 0 sz τ M [.ref r] (MUq none sz τ (fun M' => RM τ M0 M' r (u2 (u2 (u2 (u2 ρ 3 0 0) 4 0 0) 5 0 0) 8 0 0) (ν))) := by
  refine CT.of (ls := [.ref r]) (by decide) (Nat.le_of_ble_eq_true rfl) rfl ?_
  refine T_aload0 dX6_empty_0 rfl ?_
  refine T_iconst (0) dX6_empty_1 rfl rfl ?_
  refine p6_32 rfl hR.t dX6_empty_2 rfl ?_
  refine T_nm (fun M1 e1 => ?_)
  have hR := RM.mv (hR.pr (by omega)) e1
  refine T_aload0 dX6_empty_5 rfl ?_
  refine T_iconst (0) dX6_empty_6 rfl rfl ?_
  refine p6_36 rfl hR.t dX6_empty_7 rfl ?_
  refine T_nm (fun M2 e2 => ?_)
  have hR := RM.mv (hR.pr (by omega)) e2
  refine T_aload0 dX6_empty_10 rfl ?_
  refine T_iconst (0) dX6_empty_11 rfl rfl ?_
  refine p6_39 rfl hR.t dX6_empty_12 rfl ?_
  refine T_nm (fun M3 e3 => ?_)
  have hR := RM.mv (hR.pr (by omega)) e3
  refine T_aload0 dX6_empty_15 rfl ?_
  refine T_iconst (0) dX6_empty_16 rfl rfl ?_
  refine p6_48 rfl hR.t dX6_empty_17 rfl ?_
  refine T_nm (fun M4 e4 => ?_)
  have hR := RM.mv (hR.pr (by omega)) e4
  refine T_vret rfl dX6_empty_20 ?_
  exact ⟨rfl, rfl, rfl, hR⟩
