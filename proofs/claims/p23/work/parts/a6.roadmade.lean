/-! a road is made -/
def OB (A t c N : Nat) (f : Nat → Value) (i : Nat) (τ : TY) (M : ME) : Prop := τ A = (100 + t, N) ∧ ∀ j, j < i → τ (A + 1 + j) = (c, 0) ∧ M (A + 1 + j) = f ∧ M A j = .ref (A + 1 + j)
theorem OB.mv9 {A t c N i : Nat} {f : Nat → Value} {τ τ1 : TY} {M M1 : ME} (h : OB A t c N f i τ M) (e : ∀ b, A ≤ b → b < A + 1 + i → τ1 b = τ b ∧ M1 b = M b) : OB A t c N f i τ1 M1 := ⟨(e A (Nat.le_refl _) (by omega)).1.trans h.1, fun j hj => by
  obtain ⟨g1, g2, g3⟩ := h.2 j hj
  exact ⟨(e _ (by omega) (by omega)).1.trans g1, (e _ (by omega) (by omega)).2.trans g2, by rw [(e A (Nat.le_refl _) (by omega)).2]; exact g3⟩⟩
theorem OB.nx9 {A t c N i sz : Nat} {f : Nat → Value} {τ τ1 : TY} {M M1 M2 : ME} (h : OB A t c N f i τ M) (hs : sz = A + 1 + i) (eτ : τ1 = tyN τ sz (c, 0)) (e1 : M1 = meN M sz f) (e2 : M2 = up M1 A i (.ref sz)) : OB A t c N f (i + 1) τ1 M2 := by
  subst hs eτ e1 e2
  refine ⟨by rw [tyN_n (by omega)]; exact h.1, fun j hj => ?_⟩
  by_cases e : j = i
  · subst e
    refine ⟨tyN_s _ _ _, by rw [up_a (by omega), meN_s], ?_⟩
    unfold up; rw [if_pos rfl, if_pos rfl]
  · obtain ⟨g1, g2, g3⟩ := h.2 j (by omega)
    refine ⟨by rw [tyN_n (by omega)]; exact g1, by rw [up_a (by omega), meN_n (by omega)]; exact g2, ?_⟩
    unfold up; rw [if_pos rfl, if_neg e, meN_n (by omega)]; exact g3
set_option maxHeartbeats 1000000 in
theorem L3_X6_init {l : Launch} {D : va_G} {cA : Nat → ClassId} {n0 : Nat} {sg adK adV : Nat → Nat} {sgA smA wdA bS LS : Nat} {xs : Nat → Int32} (hX : SF n0 (XW0 sg adK adV sgA smA wdA n0 bS LS xs)) {r : Nat} {τ0 : TY} {M0 : ME} : ∀ (n i : Nat) (τ : TY) (M : ME) (hi : i + n = 20) (h5 : τ r = (5, 0)) (g1 : M r 0 = .ref (r + 1)) (o1 : OB (r + 1) 6 6 8 f0X8 (8) τ M) (g2 : M r 1 = .ref (r + 10)) (o2 : OB (r + 10) 3 0 6 f0X1 (6) τ M) (g3 : M r 2 = .ref (r + 17)) (o3 : OB (r + 17) 4 1 20 f0X2 (i) τ M) (hb : ∀ b, b < r → τ b = τ0 b ∧ M b = M0 b), T l D cA n0 (XW0 sg adK adV sgA smA wdA n0 bS LS xs) mX6_init 2 (n + 0) (5 * n + 0) (r + 17 + 1 + i) τ M 87 [.ref r, .int (nI i)] [] (fun v' sz' τ' M' => v' = none ∧ sz' = r + 38 ∧ RM τ' M' M' r (fun _ _ => 0) (fun _ _ => 0) ∧ ∀ b, b < r → τ' b = τ0 b ∧ M' b = M0 b) (fun _ _ _ _ => False) := by
  intro n
  induction n with
  | zero =>
    intro i τ M hi h5 g1 o1 g2 o2 g3 o3 hb
    obtain rfl : i = 20 := by omega
    show T l D cA n0 _ mX6_init 2 0 0 _ _ _ _ _ _ _ _
    refine T_iload1 dX6_init_87 rfl ?_
    refine T_bipush (20) dX6_init_88 rfl rfl ?_
    refine T_icmp_ge_t 112 dX6_init_90 (by decide) (by decide) ?_
    refine T_aload0 dX6_init_112 rfl ?_
    refine T_iconst (0) dX6_init_113 rfl rfl ?_
    refine p6_32 rfl h5 dX6_init_114 rfl ?_
    refine T_nm (fun N3 e3 => ?_)
    refine T_aload0 dX6_init_117 rfl ?_
    refine T_iconst (0) dX6_init_118 rfl rfl ?_
    refine p6_36 rfl h5 dX6_init_119 rfl ?_
    refine T_nm (fun N4 e4 => ?_)
    refine T_aload0 dX6_init_122 rfl ?_
    refine T_iconst (0) dX6_init_123 rfl rfl ?_
    refine p6_39 rfl h5 dX6_init_124 rfl ?_
    refine T_nm (fun N5 e5 => ?_)
    refine T_aload0 dX6_init_127 rfl ?_
    refine T_iconst (0) dX6_init_128 rfl rfl ?_
    refine p6_42 rfl h5 dX6_init_129 rfl ?_
    refine T_nm (fun N6 e6 => ?_)
    refine T_aload0 dX6_init_132 rfl ?_
    refine T_iconst (0) dX6_init_133 rfl rfl ?_
    refine p6_45 rfl h5 dX6_init_134 rfl ?_
    refine T_nm (fun N7 e7 => ?_)
    refine T_aload0 dX6_init_137 rfl ?_
    refine T_iconst (0) dX6_init_138 rfl rfl ?_
    refine p6_48 rfl h5 dX6_init_139 rfl ?_
    refine T_nm (fun N8 e8 => ?_)
    have hN : ∀ b, ¬ b = r → N8 b = M b := fun b hb9 => by rw [e8, up_a hb9, e7, up_a hb9, e6, up_a hb9, e5, up_a hb9, e4, up_a hb9, e3, up_a hb9]
    have hlo : ∀ k, k < 3 → N8 r k = M r k := fun k hk => by rw [e8, e7, e6, e5, e4, e3]; simp only [up, if_true]; rw [if_neg (by omega), if_neg (by omega), if_neg (by omega), if_neg (by omega), if_neg (by omega), if_neg (by omega)]
    have hhi : ∀ k, 3 ≤ k → k < 9 → N8 r k = .int 0 := fun k h1 h2 => by
      rw [e8, e7, e6, e5, e4, e3]; simp only [up, if_true]
      rcases (show k = 3 ∨ k = 4 ∨ k = 5 ∨ k = 6 ∨ k = 7 ∨ k = 8 by omega) with rfl | rfl | rfl | rfl | rfl | rfl <;> rfl
    refine T_vret rfl dX6_init_142 ?_
    refine ⟨rfl, rfl, ⟨⟨h5, o1.1, o2.1, o3.1, fun s hs => ?_, fun s hs => ?_, fun s hs => ?_⟩, ⟨(hlo 0 (by decide)).trans g1, (hlo 1 (by decide)).trans g2, (hlo 2 (by decide)).trans g3, fun s hs => ?_, fun s hs => ?_, fun s hs => ?_⟩, ⟨hhi, fun s k hs a b => ?_, fun s k hs a b => ?_, fun s k hs a b => ?_, fun s hs => ?_, fun s hs => ?_, fun s hs => ?_⟩, Fr.rf _ _ _⟩, fun b q => ⟨(hb b q).1, (hN b (by omega)).trans (hb b q).2⟩⟩
    · exact (o1.2 s hs).1
    · exact (o2.2 s hs).1
    · exact (o3.2 s hs).1
    · rw [hN _ (by omega)]; exact (o1.2 s hs).2.2
    · rw [hN _ (by omega)]; exact (o2.2 s hs).2.2
    · rw [hN _ (by omega)]; exact (o3.2 s hs).2.2
    · rw [show N8 (stA r s) = M (stA r s) from hN _ (by unfold stA; omega), show M (stA r s) = f0X8 from (o1.2 s hs).2.1]
      rcases (show k = 1 ∨ k = 2 ∨ k = 3 by omega) with rfl | rfl | rfl <;> rfl
    · rw [show N8 (hsA r s) = M (hsA r s) from hN _ (by unfold hsA; omega), show M (hsA r s) = f0X1 from (o2.2 s hs).2.1]
      rcases (show k = 1 ∨ k = 2 ∨ k = 3 ∨ k = 4 ∨ k = 5 ∨ k = 6 ∨ k = 7 ∨ k = 8 ∨ k = 9 ∨ k = 10 by omega) with rfl | rfl | rfl | rfl | rfl | rfl | rfl | rfl | rfl | rfl <;> rfl
    · rw [show N8 (lgA r s) = M (lgA r s) from hN _ (by unfold lgA; omega), show M (lgA r s) = f0X2 from (o3.2 s hs).2.1]
      rcases (show k = 1 ∨ k = 2 ∨ k = 3 ∨ k = 4 by omega) with rfl | rfl | rfl | rfl <;> rfl
    · rw [show N8 (stA r s) = M (stA r s) from hN _ (by unfold stA; omega), show M (stA r s) = f0X8 from (o1.2 s hs).2.1]; rfl
    · rw [show N8 (hsA r s) = M (hsA r s) from hN _ (by unfold hsA; omega), show M (hsA r s) = f0X1 from (o2.2 s hs).2.1]; rfl
    · rw [show N8 (lgA r s) = M (lgA r s) from hN _ (by unfold lgA; omega), show M (lgA r s) = f0X2 from (o3.2 s hs).2.1]; rfl
  | succ n ih =>
    intro i τ M hi h5 g1 o1 g2 o2 g3 o3 hb
    rw [show n + 1 + 0 = n + 0 + 1 by omega, show 5 * (n + 1) + 0 = 5 * n + 0 + 5 by omega]
    refine T_iload1 dX6_init_87 rfl ?_
    refine T_bipush (20) dX6_init_88 rfl rfl ?_
    refine T_icmp_ge_f 112 93 dX6_init_90 (by decide) rfl (fun z => absurd ((nI_leI (a := 20) (b := i) (by omega) (by omega)).mp z) (by omega)) ?_
    refine T_aload0 dX6_init_93 rfl ?_
    refine g6_27 _ rfl h5 g3 dX6_init_94 rfl ?_
    refine T_iload1 dX6_init_97 rfl ?_
    refine n6_25 rfl dX6_init_98 rfl ?_
    refine T_nt (fun τ1 eτ => ?_)
    refine T_nm (fun M1 e1 => ?_)
    refine T_dup dX6_init_101 rfl rfl ?_
    refine T_cIN0 (bk := n + 0) (bn := 5 * n + 0) (c_X2_init hX _) hX k6_31 (by decide) (Nat.le_of_ble_eq_true rfl) dX6_init_102 rfl ?_
    rintro _ _ _ _ ⟨rfl, rfl, rfl, rfl⟩
    refine T_aast (n := 20) (TT := TX2) (N := 5) 4 i 1 0 (by decide) (by rw [eτ, tyN_n (by omega)]; exact o3.1) rfl (by omega) (by decide) (by rw [eτ]; exact tyN_s _ _ _) (by decide) rfl rfl dX6_init_105 rfl ?_
    refine T_nm (fun M2 e2 => ?_)
    refine T_iinc1 rfl (by decide) dX6_init_106 rfl (inc1 _) ?_
    refine T_goto 87 dX6_init_109 (by decide) ?_
    refine ih (i + 1) _ _ (by omega) (by rw [eτ, tyN_n (by omega)]; exact h5) (by rw [e2, up_a (by omega), e1, meN_n (by omega)]; exact g1) (o1.mv9 (fun b q1 q2 => ⟨by rw [eτ]; exact tyN_n (by omega), by rw [e2, up_a (by omega), e1]; exact meN_n (by omega)⟩)) (by rw [e2, up_a (by omega), e1, meN_n (by omega)]; exact g2) (o2.mv9 (fun b q1 q2 => ⟨by rw [eτ]; exact tyN_n (by omega), by rw [e2, up_a (by omega), e1]; exact meN_n (by omega)⟩)) (by rw [e2, up_a (by omega), e1, meN_n (by omega)]; exact g3) (o3.nx9 rfl eτ e1 e2) (fun b q => ⟨by rw [eτ, tyN_n (by omega)]; exact (hb b q).1, by rw [e2, up_a (by omega), e1, meN_n (by omega)]; exact (hb b q).2⟩)
set_option maxHeartbeats 1000000 in
theorem L2_X6_init {l : Launch} {D : va_G} {cA : Nat → ClassId} {n0 : Nat} {sg adK adV : Nat → Nat} {sgA smA wdA bS LS : Nat} {xs : Nat → Int32} (hX : SF n0 (XW0 sg adK adV sgA smA wdA n0 bS LS xs)) {r : Nat} {τ0 : TY} {M0 : ME} : ∀ (n i : Nat) (τ : TY) (M : ME) (hi : i + n = 6) (h5 : τ r = (5, 0)) (g1 : M r 0 = .ref (r + 1)) (o1 : OB (r + 1) 6 6 8 f0X8 (8) τ M) (g2 : M r 1 = .ref (r + 10)) (o2 : OB (r + 10) 3 0 6 f0X1 (i) τ M) (hb : ∀ b, b < r → τ b = τ0 b ∧ M b = M0 b), T l D cA n0 (XW0 sg adK adV sgA smA wdA n0 bS LS xs) mX6_init 2 (n + 21) (11 * n + 120) (r + 10 + 1 + i) τ M 51 [.ref r, .int (nI i)] [] (fun v' sz' τ' M' => v' = none ∧ sz' = r + 38 ∧ RM τ' M' M' r (fun _ _ => 0) (fun _ _ => 0) ∧ ∀ b, b < r → τ' b = τ0 b ∧ M' b = M0 b) (fun _ _ _ _ => False) := by
  intro n
  induction n with
  | zero =>
    intro i τ M hi h5 g1 o1 g2 o2 hb
    obtain rfl : i = 6 := by omega
    show T l D cA n0 _ mX6_init 2 21 120 _ _ _ _ _ _ _ _
    refine T_iload1 dX6_init_51 rfl ?_
    refine T_bipush (6) dX6_init_52 rfl rfl ?_
    refine T_icmp_ge_t 76 dX6_init_54 (by decide) (by decide) ?_
    refine T_aload0 dX6_init_76 rfl ?_
    refine T_bipush (20) dX6_init_77 rfl rfl ?_
    refine T_anew (N := 20) 4 kc6_25 (fun U H h => h.2.2.2.1.2.2.2.2.2.1) (by decide) rfl rfl (by decide) dX6_init_79 rfl ?_
    refine T_nt (fun τ1 eτ => ?_)
    refine T_nm (fun M1 e1 => ?_)
    have h5 : τ1 r = (5, 0) := by rw [eτ, tyN_n (by omega)]; exact h5
    refine p6_27 rfl rfl h5 dX6_init_82 rfl ?_
    refine T_nm (fun M2 e2 => ?_)
    have g1 : M2 r 0 = .ref (r + 1) := by rw [e2]; unfold up; rw [if_pos rfl, if_neg (by decide), e1, meN_n (by omega)]; exact g1
    have o1 := o1.mv9 (τ1 := τ1) (M1 := M2) (fun b q1 q2 => ⟨by rw [eτ]; exact tyN_n (by omega), by rw [e2, up_a (by omega), e1]; exact meN_n (by omega)⟩)
    have g2 : M2 r 1 = .ref (r + 10) := by rw [e2]; unfold up; rw [if_pos rfl, if_neg (by decide), e1, meN_n (by omega)]; exact g2
    have o2 := o2.mv9 (τ1 := τ1) (M1 := M2) (fun b q1 q2 => ⟨by rw [eτ]; exact tyN_n (by omega), by rw [e2, up_a (by omega), e1]; exact meN_n (by omega)⟩)
    have g3 : M2 r 2 = .ref (r + 17) := by rw [e2]; unfold up; rw [if_pos rfl, if_pos rfl]
    have o3 : OB (r + 17) 4 1 20 f0X2 0 τ1 M2 := ⟨by rw [eτ]; exact tyN_s _ _ _, fun j hj => absurd hj (Nat.not_lt_zero _)⟩
    have hb : ∀ b, b < r → τ1 b = τ0 b ∧ M2 b = M0 b := fun b q => ⟨by rw [eτ, tyN_n (by omega)]; exact (hb b q).1, by rw [e2, up_a (by omega), e1, meN_n (by omega)]; exact (hb b q).2⟩
    refine T_iconst (0) dX6_init_85 rfl rfl ?_
    refine T_istore1 rfl (by decide) dX6_init_86 rfl ?_
    exact L3_X6_init hX 20 0 _ _ rfl h5 g1 o1 g2 o2 g3 o3 hb
  | succ n ih =>
    intro i τ M hi h5 g1 o1 g2 o2 hb
    rw [show n + 1 + 21 = n + 21 + 1 by omega, show 11 * (n + 1) + 120 = 11 * n + 120 + 11 by omega]
    refine T_iload1 dX6_init_51 rfl ?_
    refine T_bipush (6) dX6_init_52 rfl rfl ?_
    refine T_icmp_ge_f 76 57 dX6_init_54 (by decide) rfl (fun z => absurd ((nI_leI (a := 6) (b := i) (by omega) (by omega)).mp z) (by omega)) ?_
    refine T_aload0 dX6_init_57 rfl ?_
    refine g6_20 _ rfl h5 g2 dX6_init_58 rfl ?_
    refine T_iload1 dX6_init_61 rfl ?_
    refine n6_18 rfl dX6_init_62 rfl ?_
    refine T_nt (fun τ1 eτ => ?_)
    refine T_nm (fun M1 e1 => ?_)
    refine T_dup dX6_init_65 rfl rfl ?_
    refine T_cIN0 (bk := n + 21) (bn := 11 * n + 120) (c_X1_init hX _) hX k6_24 (by decide) (Nat.le_of_ble_eq_true rfl) dX6_init_66 rfl ?_
    rintro _ _ _ _ ⟨rfl, rfl, rfl, rfl⟩
    refine T_aast (n := 6) (TT := TX1) (N := 11) 3 i 0 0 (by decide) (by rw [eτ, tyN_n (by omega)]; exact o2.1) rfl (by omega) (by decide) (by rw [eτ]; exact tyN_s _ _ _) (by decide) rfl rfl dX6_init_69 rfl ?_
    refine T_nm (fun M2 e2 => ?_)
    refine T_iinc1 rfl (by decide) dX6_init_70 rfl (inc1 _) ?_
    refine T_goto 51 dX6_init_73 (by decide) ?_
    refine ih (i + 1) _ _ (by omega) (by rw [eτ, tyN_n (by omega)]; exact h5) (by rw [e2, up_a (by omega), e1, meN_n (by omega)]; exact g1) (o1.mv9 (fun b q1 q2 => ⟨by rw [eτ]; exact tyN_n (by omega), by rw [e2, up_a (by omega), e1]; exact meN_n (by omega)⟩)) (by rw [e2, up_a (by omega), e1, meN_n (by omega)]; exact g2) (o2.nx9 rfl eτ e1 e2) (fun b q => ⟨by rw [eτ, tyN_n (by omega)]; exact (hb b q).1, by rw [e2, up_a (by omega), e1, meN_n (by omega)]; exact (hb b q).2⟩)
set_option maxHeartbeats 1000000 in
theorem L1_X6_init {l : Launch} {D : va_G} {cA : Nat → ClassId} {n0 : Nat} {sg adK adV : Nat → Nat} {sgA smA wdA bS LS : Nat} {xs : Nat → Int32} (hX : SF n0 (XW0 sg adK adV sgA smA wdA n0 bS LS xs)) {r : Nat} {τ0 : TY} {M0 : ME} : ∀ (n i : Nat) (τ : TY) (M : ME) (hi : i + n = 8) (h5 : τ r = (5, 0)) (g1 : M r 0 = .ref (r + 1)) (o1 : OB (r + 1) 6 6 8 f0X8 (i) τ M) (hb : ∀ b, b < r → τ b = τ0 b ∧ M b = M0 b), T l D cA n0 (XW0 sg adK adV sgA smA wdA n0 bS LS xs) mX6_init 2 (n + 28) (4 * n + 192) (r + 1 + 1 + i) τ M 15 [.ref r, .int (nI i)] [] (fun v' sz' τ' M' => v' = none ∧ sz' = r + 38 ∧ RM τ' M' M' r (fun _ _ => 0) (fun _ _ => 0) ∧ ∀ b, b < r → τ' b = τ0 b ∧ M' b = M0 b) (fun _ _ _ _ => False) := by
  intro n
  induction n with
  | zero =>
    intro i τ M hi h5 g1 o1 hb
    obtain rfl : i = 8 := by omega
    show T l D cA n0 _ mX6_init 2 28 192 _ _ _ _ _ _ _ _
    refine T_iload1 dX6_init_15 rfl ?_
    refine T_bipush (8) dX6_init_16 rfl rfl ?_
    refine T_icmp_ge_t 40 dX6_init_18 (by decide) (by decide) ?_
    refine T_aload0 dX6_init_40 rfl ?_
    refine T_bipush (6) dX6_init_41 rfl rfl ?_
    refine T_anew (N := 6) 3 kc6_18 (fun U H h => h.2.2.2.1.2.2.2.2.1) (by decide) rfl rfl (by decide) dX6_init_43 rfl ?_
    refine T_nt (fun τ1 eτ => ?_)
    refine T_nm (fun M1 e1 => ?_)
    have h5 : τ1 r = (5, 0) := by rw [eτ, tyN_n (by omega)]; exact h5
    refine p6_20 rfl rfl h5 dX6_init_46 rfl ?_
    refine T_nm (fun M2 e2 => ?_)
    have g1 : M2 r 0 = .ref (r + 1) := by rw [e2]; unfold up; rw [if_pos rfl, if_neg (by decide), e1, meN_n (by omega)]; exact g1
    have o1 := o1.mv9 (τ1 := τ1) (M1 := M2) (fun b q1 q2 => ⟨by rw [eτ]; exact tyN_n (by omega), by rw [e2, up_a (by omega), e1]; exact meN_n (by omega)⟩)
    have g2 : M2 r 1 = .ref (r + 10) := by rw [e2]; unfold up; rw [if_pos rfl, if_pos rfl]
    have o2 : OB (r + 10) 3 0 6 f0X1 0 τ1 M2 := ⟨by rw [eτ]; exact tyN_s _ _ _, fun j hj => absurd hj (Nat.not_lt_zero _)⟩
    have hb : ∀ b, b < r → τ1 b = τ0 b ∧ M2 b = M0 b := fun b q => ⟨by rw [eτ, tyN_n (by omega)]; exact (hb b q).1, by rw [e2, up_a (by omega), e1, meN_n (by omega)]; exact (hb b q).2⟩
    refine T_iconst (0) dX6_init_49 rfl rfl ?_
    refine T_istore1 rfl (by decide) dX6_init_50 rfl ?_
    exact L2_X6_init hX 6 0 _ _ rfl h5 g1 o1 g2 o2 hb
  | succ n ih =>
    intro i τ M hi h5 g1 o1 hb
    rw [show n + 1 + 28 = n + 28 + 1 by omega, show 4 * (n + 1) + 192 = 4 * n + 192 + 4 by omega]
    refine T_iload1 dX6_init_15 rfl ?_
    refine T_bipush (8) dX6_init_16 rfl rfl ?_
    refine T_icmp_ge_f 40 21 dX6_init_18 (by decide) rfl (fun z => absurd ((nI_leI (a := 8) (b := i) (by omega) (by omega)).mp z) (by omega)) ?_
    refine T_aload0 dX6_init_21 rfl ?_
    refine g6_11 _ rfl h5 g1 dX6_init_22 rfl ?_
    refine T_iload1 dX6_init_25 rfl ?_
    refine n6_9 rfl dX6_init_26 rfl ?_
    refine T_nt (fun τ1 eτ => ?_)
    refine T_nm (fun M1 e1 => ?_)
    refine T_dup dX6_init_29 rfl rfl ?_
    refine T_cIN0 (bk := n + 28) (bn := 4 * n + 192) (c_X8_init hX _) hX k6_17 (by decide) (Nat.le_of_ble_eq_true rfl) dX6_init_30 rfl ?_
    rintro _ _ _ _ ⟨rfl, rfl, rfl, rfl⟩
    refine T_aast (n := 8) (TT := TX8) (N := 4) 6 i 6 0 (by decide) (by rw [eτ, tyN_n (by omega)]; exact o1.1) rfl (by omega) (by decide) (by rw [eτ]; exact tyN_s _ _ _) (by decide) rfl rfl dX6_init_33 rfl ?_
    refine T_nm (fun M2 e2 => ?_)
    refine T_iinc1 rfl (by decide) dX6_init_34 rfl (inc1 _) ?_
    refine T_goto 15 dX6_init_37 (by decide) ?_
    refine ih (i + 1) _ _ (by omega) (by rw [eτ, tyN_n (by omega)]; exact h5) (by rw [e2, up_a (by omega), e1, meN_n (by omega)]; exact g1) (o1.nx9 rfl eτ e1 e2) (fun b q => ⟨by rw [eτ, tyN_n (by omega)]; exact (hb b q).1, by rw [e2, up_a (by omega), e1, meN_n (by omega)]; exact (hb b q).2⟩)
set_option maxHeartbeats 1000000 in
theorem c_X6_init {l : Launch} {D : va_G} {cA : Nat → ClassId} {n0 : Nat} {sg adK adV : Nat → Nat} {sgA smA wdA bS LS : Nat} {xs : Nat → Int32} (hX : SF n0 (XW0 sg adK adV sgA smA wdA n0 bS LS xs)) {τ0 : TY} {M0 : ME} {r : Nat} (ht : τ0 r = (5, 0)) (hm : M0 r = f0X6) : CT l D cA n0 (XW0 sg adK adV sgA smA wdA n0 bS LS xs) mX6_init 2 37 232 (r + 1) τ0 M0 [.ref r] (fun v' sz' τ' M' => v' = none ∧ sz' = r + 38 ∧ RM τ' M' M' r (fun _ _ => 0) (fun _ _ => 0) ∧ ∀ b, b < r → τ' b = τ0 b ∧ M' b = M0 b) := by
  refine CT.of (ls := [.ref r, UU]) (by decide) (Nat.le_of_ble_eq_true rfl) rfl ?_
  refine T_aload0 dX6_init_0 rfl ?_
  refine T_obj ko6_3 ko1 ko2 (by decide) (Nat.le_of_ble_eq_true rfl) dX6_init_1 rfl ?_
  refine T_aload0 dX6_init_4 rfl ?_
  refine T_bipush (8) dX6_init_5 rfl rfl ?_
  refine T_anew (N := 8) 6 kc6_9 (fun U H h => h.2.2.2.1.2.2.2.2.2.2.2.1) (by decide) rfl rfl (by decide) dX6_init_7 rfl ?_
  refine T_nt (fun τ1 eτ => ?_)
  refine T_nm (fun M1 e1 => ?_)
  have h5 : τ1 r = (5, 0) := by rw [eτ, tyN_n (by omega)]; exact ht
  refine p6_11 rfl rfl h5 dX6_init_10 rfl ?_
  refine T_nm (fun M2 e2 => ?_)
  refine T_iconst (0) dX6_init_13 rfl rfl ?_
  refine T_istore1 rfl (by decide) dX6_init_14 rfl ?_
  refine L1_X6_init hX 8 0 _ _ rfl h5 (by rw [e2]; unfold up; rw [if_pos rfl, if_pos rfl]) ⟨by rw [eτ]; exact tyN_s _ _ _, fun j hj => absurd hj (Nat.not_lt_zero _)⟩ (fun b q => ⟨by rw [eτ]; exact tyN_n (by omega), by rw [e2, up_a (by omega), e1]; exact meN_n (by omega)⟩)

