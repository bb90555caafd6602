/-! a plan of orders is made -/
def TW (p i : Nat) (τ : TY) (M : ME) : Prop := τ (p + 1) = (105, 12) ∧ τ (p + 2) = (105, 12) ∧ ∀ j, j < i → (τ (p + 3 + 2 * j) = (2, 0) ∧ M (p + 3 + 2 * j) = f0X3 ∧ M (p + 1) j = .ref (p + 3 + 2 * j)) ∧ (τ (p + 4 + 2 * j) = (2, 0) ∧ M (p + 4 + 2 * j) = f0X3 ∧ M (p + 2) j = .ref (p + 4 + 2 * j))
theorem TW.mv9 {p i : Nat} {τ τ1 : TY} {M M1 : ME} (h : TW p i τ M) (e : ∀ b, p + 1 ≤ b → b < p + 3 + 2 * i → τ1 b = τ b ∧ M1 b = M b) : TW p i τ1 M1 := ⟨(e _ (by omega) (by omega)).1.trans h.1, (e _ (by omega) (by omega)).1.trans h.2.1, fun j hj => by
  obtain ⟨⟨a1, a2, a3⟩, b1, b2, b3⟩ := h.2.2 j hj
  exact ⟨⟨(e _ (by omega) (by omega)).1.trans a1, (e _ (by omega) (by omega)).2.trans a2, by rw [(e (p + 1) (by omega) (by omega)).2]; exact a3⟩, (e _ (by omega) (by omega)).1.trans b1, (e _ (by omega) (by omega)).2.trans b2, by rw [(e (p + 2) (by omega) (by omega)).2]; exact b3⟩⟩
theorem TW.nx9 {p i : Nat} {τ τ1 τ3 : TY} {M M1 M2 M3 M4 : ME} (h : TW p i τ M) (eτ : τ1 = tyN τ (p + 3 + 2 * i) (2, 0)) (e1 : M1 = meN M (p + 3 + 2 * i) f0X3) (e2 : M2 = up M1 (p + 1) i (.ref (p + 3 + 2 * i))) (eτ3 : τ3 = tyN τ1 (p + 3 + 2 * i + 1) (2, 0)) (e3 : M3 = meN M2 (p + 3 + 2 * i + 1) f0X3) (e4 : M4 = up M3 (p + 2) i (.ref (p + 3 + 2 * i + 1))) : TW p (i + 1) τ3 M4 := by
  subst eτ e1 e2 eτ3 e3 e4
  refine ⟨by rw [tyN_n (by omega), tyN_n (by omega)]; exact h.1, by rw [tyN_n (by omega), tyN_n (by omega)]; exact h.2.1, fun j hj => ?_⟩
  by_cases e : j = i
  · subst e
    refine ⟨⟨by rw [tyN_n (by omega), tyN_s], by rw [up_a (by omega), meN_n (by omega), up_a (by omega), meN_s], ?_⟩, by rw [show p + 4 + 2 * j = p + 3 + 2 * j + 1 by omega, tyN_s], by rw [show p + 4 + 2 * j = p + 3 + 2 * j + 1 by omega, up_a (by omega), meN_s], ?_⟩
    · rw [up_a (by omega), meN_n (by omega)]; unfold up; rw [if_pos rfl, if_pos rfl]
    · unfold up; rw [if_pos rfl, if_pos rfl, show p + 4 + 2 * j = p + 3 + 2 * j + 1 by omega]
  · obtain ⟨⟨a1, a2, a3⟩, b1, b2, b3⟩ := h.2.2 j (by omega)
    refine ⟨⟨by rw [tyN_n (by omega), tyN_n (by omega)]; exact a1, by rw [up_a (by omega), meN_n (by omega), up_a (by omega), meN_n (by omega)]; exact a2, ?_⟩, by rw [tyN_n (by omega), tyN_n (by omega)]; exact b1, by rw [up_a (by omega), meN_n (by omega), up_a (by omega), meN_n (by omega)]; exact b2, ?_⟩
    · rw [up_a (by omega), meN_n (by omega)]; unfold up; rw [if_pos rfl, if_neg e, meN_n (by omega)]; exact a3
    · unfold up; rw [if_pos rfl, if_neg e, meN_n (by omega), if_neg (by omega), meN_n (by omega)]; exact b3
set_option maxHeartbeats 1000000 in
theorem L2_X4_init {l : Launch} {D : va_G} {cA : Nat → ClassId} {n0 : Nat} {sg adK adV : Nat → Nat} {sgA smA wdA bS LS : Nat} {xs : Nat → Int32} (hX : SF n0 (XW0 sg adK adV sgA smA wdA n0 bS LS xs)) {p : Nat} {τ0 τ : TY} {M0 : ME} (h5 : τ p = (3, 0)) (hs : τ (p + 27) = (107, 400)) : ∀ (n i : Nat) (M : ME) (hi : i + n = 400) (g1 : M p 0 = .ref (p + 1)) (g2 : M p 1 = .ref (p + 2)) (g3 : M p 2 = .ref (p + 27)) (o1 : TW p 12 τ M) (o2 : ∀ j, j < i → M (p + 27) j = .ref (sg 44)) (hb : ∀ b, b < p → τ b = τ0 b ∧ M b = M0 b), T l D cA n0 (XW0 sg adK adV sgA smA wdA n0 bS LS xs) mX4_init 2 2 801 (p + 28) τ M 74 [.ref p, .int (nI i)] [] (fun v' sz' τ' M' => v' = none ∧ sz' = p + 30 ∧ PM τ' M' M' p sg 0 0 0 (fun _ _ => 0) (fun _ => 44) (fun _ => 0) ∧ ∀ b, b < p → τ' b = τ0 b ∧ M' b = M0 b) (fun _ _ _ _ => False) := by
  intro n
  induction n with
  | zero =>
    intro i M hi g1 g2 g3 o1 o2 hb
    obtain rfl : i = 400 := by omega
    refine T_iload1 dX4_init_74 rfl ?_
    refine T_aload0 dX4_init_75 rfl ?_
    refine g4_23 _ rfl h5 g3 dX4_init_76 rfl ?_
    refine T_alen (j := 7) hs (by decide) dX4_init_79 rfl ?_
    refine T_icmp_ge_t 98 dX4_init_80 (by decide) (by decide) ?_
    refine T_aload0 dX4_init_98 rfl ?_
    refine T_sipush (400) dX4_init_99 rfl rfl ?_
    refine T_newa (atype := .int) (N := 400) 0 (fun _ => .int 0) ka_int (by decide) rfl rfl (by decide) rfl dX4_init_102 rfl ?_
    refine T_nt (fun τa eτa => ?_)
    refine T_nm (fun Ma ea => ?_)
    refine p4_31 rfl rfl (by rw [eτa, tyN_n (by omega)]; exact h5) dX4_init_104 rfl ?_
    refine T_nm (fun Mb eb => ?_)
    refine T_aload0 dX4_init_107 rfl ?_
    refine T_sipush (401) dX4_init_108 rfl rfl ?_
    refine T_newa (atype := .int) (N := 401) 0 (fun _ => .int 0) ka_int (by decide) rfl rfl (by decide) rfl dX4_init_111 rfl ?_
    refine T_nt (fun τc eτc => ?_)
    refine T_nm (fun Mc ec => ?_)
    have h5c : τc p = (3, 0) := by rw [eτc, tyN_n (by omega), eτa, tyN_n (by omega)]; exact h5
    refine p4_35 rfl rfl h5c dX4_init_113 rfl ?_
    refine T_nm (fun Md ed => ?_)
    refine T_aload0 dX4_init_116 rfl ?_
    refine T_iconst (0) dX4_init_117 rfl rfl ?_
    refine p4_38 rfl h5c dX4_init_118 rfl ?_
    refine T_nm (fun N5 f5 => ?_)
    refine T_aload0 dX4_init_121 rfl ?_
    refine T_iconst (0) dX4_init_122 rfl rfl ?_
    refine p4_42 rfl h5c dX4_init_123 rfl ?_
    refine T_nm (fun N6 f6 => ?_)
    refine T_aload0 dX4_init_126 rfl ?_
    refine T_iconst (0) dX4_init_127 rfl rfl ?_
    refine p4_45 rfl h5c dX4_init_128 rfl ?_
    refine T_nm (fun N7 f7 => ?_)
    have hτ : ∀ b, b < p + 28 → τc b = τ b := fun b q => by rw [eτc, tyN_n (by omega), eτa, tyN_n (by omega)]
    have hN : ∀ b, ¬ b = p → b < p + 28 → N7 b = M b := fun b hb9 q => by rw [f7, up_a hb9, f6, up_a hb9, f5, up_a hb9, ed, up_a hb9, ec, meN_n (by omega), eb, up_a hb9, ea, meN_n (by omega)]
    have ha : N7 (p + 28) = fun _ => .int 0 := by rw [f7, up_a (by omega), f6, up_a (by omega), f5, up_a (by omega), ed, up_a (by omega), ec, meN_n (by omega), eb, up_a (by omega), ea]; exact meN_s _ _ _
    have hc : N7 (p + 29) = fun _ => .int 0 := by rw [f7, up_a (by omega), f6, up_a (by omega), f5, up_a (by omega), ed, up_a (by omega), ec]; exact meN_s _ _ _
    have hp : ∀ k, N7 p k = if k = 7 then .int 0 else if k = 6 then .int 0 else if k = 5 then .int 0 else if k = 4 then .ref (p + 29) else if k = 3 then .ref (p + 28) else M p k := fun k => by
      rw [f7]; unfold up; rw [if_pos rfl, f6]; unfold up; rw [if_pos rfl, f5]; unfold up; rw [if_pos rfl, ed]; unfold up; rw [if_pos rfl, ec, meN_n (by omega), eb]; unfold up; rw [if_pos rfl, ea, meN_n (by omega)]
    refine T_vret rfl dX4_init_131 ?_
    refine ⟨rfl, rfl, ⟨h5c, (hτ _ (by omega)).trans o1.1, (hτ _ (by omega)).trans o1.2.1, fun i hi => (hτ _ (by omega)).trans (o1.2.2 i hi).1.1, fun i hi => (hτ _ (by omega)).trans (o1.2.2 i hi).2.1, (hτ _ (by omega)).trans hs, by rw [eτc, tyN_n (by omega), eτa]; exact tyN_s _ _ _, by rw [eτc]; exact tyN_s _ _ _, (hp 0).trans g1, (hp 1).trans g2, (hp 2).trans g3, hp 3, hp 4, fun i hi => by rw [hN _ (by omega) (by omega)]; exact (o1.2.2 i hi).1.2.2, fun i hi => by rw [hN _ (by omega) (by omega)]; exact (o1.2.2 i hi).2.2.2, hp 5, hp 6, hp 7, fun i hi => by rw [hN _ (by omega) (by omega), (o1.2.2 i hi).1.2.1]; rfl, fun i hi => by rw [hN _ (by omega) (by omega), (o1.2.2 i hi).1.2.1]; rfl, fun i hi => by rw [hN _ (by omega) (by omega), (o1.2.2 i hi).1.2.1]; rfl, fun i hi => by rw [hN _ (by omega) (by omega), (o1.2.2 i hi).1.2.1]; rfl, fun i hi => by rw [hN _ (by omega) (by omega), (o1.2.2 i hi).1.2.1]; rfl, fun i hi => by rw [hN _ (by omega) (by omega), (o1.2.2 i hi).2.2.1]; rfl, fun i hi => by rw [hN _ (by omega) (by omega), (o1.2.2 i hi).2.2.1]; rfl, fun i hi => by rw [hN _ (by omega) (by omega), (o1.2.2 i hi).2.2.1]; rfl, fun i hi => by rw [hN _ (by omega) (by omega), (o1.2.2 i hi).2.2.1]; rfl, fun i hi => by rw [hN _ (by omega) (by omega), (o1.2.2 i hi).2.2.1]; rfl, fun i hi => by rw [hN _ (by omega) (by omega)]; exact o2 i hi, fun i hi => by rw [ha], fun i hi => by rw [hc], Fr.rf _ _ _⟩, fun b q => ⟨(hτ b (by omega)).trans (hb b q).1, (hN b (by omega) (by omega)).trans (hb b q).2⟩⟩
  | succ n ih =>
    intro i M hi g1 g2 g3 o1 o2 hb
    refine T_iload1 dX4_init_74 rfl ?_
    refine T_aload0 dX4_init_75 rfl ?_
    refine g4_23 _ rfl h5 g3 dX4_init_76 rfl ?_
    refine T_alen (j := 7) hs (by decide) dX4_init_79 rfl ?_
    refine T_icmp_ge_f 98 83 dX4_init_80 (by decide) rfl (fun z => absurd ((nI_leI (a := 400) (b := i) (by omega) (by omega)).mp z) (by omega)) ?_
    refine T_aload0 dX4_init_83 rfl ?_
    refine g4_23 _ rfl h5 g3 dX4_init_84 rfl ?_
    refine T_iload1 dX4_init_87 rfl ?_
    refine T_sgn (i := 44) (by decide) ks4_27 dX4_init_88 rfl ?_
    refine T_asgn i (by decide) hs rfl (by omega) (by decide) dX4_init_91 rfl ?_
    refine T_nm (fun M2 e2 => ?_)
    refine T_iinc1 rfl (by decide) dX4_init_92 rfl (inc1 _) ?_
    refine T_goto 74 dX4_init_95 (by decide) ?_
    refine ih (i + 1) _ (by omega) (by rw [e2, up_a (by omega)]; exact g1) (by rw [e2, up_a (by omega)]; exact g2) (by rw [e2, up_a (by omega)]; exact g3) (o1.mv9 (fun b q1 q2 => ⟨rfl, by rw [e2]; exact up_a (by omega)⟩)) (fun j hj => ?_) (fun b q => ⟨(hb b q).1, by rw [e2, up_a (by omega)]; exact (hb b q).2⟩)
    rw [e2]; unfold up; rw [if_pos rfl]
    by_cases e : j = i
    · rw [if_pos e]
    · rw [if_neg e]; exact o2 j (by omega)
set_option maxHeartbeats 1000000 in
theorem L1_X4_init {l : Launch} {D : va_G} {cA : Nat → ClassId} {n0 : Nat} {sg adK adV : Nat → Nat} {sgA smA wdA bS LS : Nat} {xs : Nat → Int32} (hX : SF n0 (XW0 sg adK adV sgA smA wdA n0 bS LS xs)) {p : Nat} {τ0 : TY} {M0 : ME} : ∀ (n i : Nat) (τ : TY) (M : ME) (hi : i + n = 12) (h5 : τ p = (3, 0)) (g1 : M p 0 = .ref (p + 1)) (g2 : M p 1 = .ref (p + 2)) (o1 : TW p i τ M) (hb : ∀ b, b < p → τ b = τ0 b ∧ M b = M0 b), T l D cA n0 (XW0 sg adK adV sgA smA wdA n0 bS LS xs) mX4_init 2 (2 * n + 3) (10 * n + 1201) (p + 3 + 2 * i) τ M 24 [.ref p, .int (nI i)] [] (fun v' sz' τ' M' => v' = none ∧ sz' = p + 30 ∧ PM τ' M' M' p sg 0 0 0 (fun _ _ => 0) (fun _ => 44) (fun _ => 0) ∧ ∀ b, b < p → τ' b = τ0 b ∧ M' b = M0 b) (fun _ _ _ _ => False) := by
  intro n
  induction n with
  | zero =>
    intro i τ M hi h5 g1 g2 o1 hb
    obtain rfl : i = 12 := by omega
    show T l D cA n0 _ mX4_init 2 3 1201 (p + 27) _ _ _ _ _ _ _
    refine T_iload1 dX4_init_24 rfl ?_
    refine T_bipush (12) dX4_init_25 rfl rfl ?_
    refine T_icmp_ge_t 62 dX4_init_27 (by decide) (by decide) ?_
    refine T_aload0 dX4_init_62 rfl ?_
    refine T_sipush (400) dX4_init_63 rfl rfl ?_
    refine T_anew (N := 400) 7 kc4_21 (fun U H h => h.2.2.2.1.2.2.2.2.2.2.2.2) (by decide) rfl rfl (by decide) dX4_init_66 rfl ?_
    refine T_nt (fun τ1 eτ => ?_)
    refine T_nm (fun M1 e1 => ?_)
    have h5 : τ1 p = (3, 0) := by rw [eτ, tyN_n (by omega)]; exact h5
    refine p4_23 rfl rfl h5 dX4_init_69 rfl ?_
    refine T_nm (fun M2 e2 => ?_)
    refine T_iconst (0) dX4_init_72 rfl rfl ?_
    refine T_istore1 rfl (by decide) dX4_init_73 rfl ?_
    exact L2_X4_init hX h5 (by rw [eτ]; exact tyN_s _ _ _) 400 0 _ rfl (by rw [e2]; unfold up; rw [if_pos rfl, if_neg (by decide), e1, meN_n (by omega)]; exact g1) (by rw [e2]; unfold up; rw [if_pos rfl, if_neg (by decide), e1, meN_n (by omega)]; exact g2) (by rw [e2]; unfold up; rw [if_pos rfl, if_pos rfl]) (o1.mv9 (fun b q1 q2 => ⟨by rw [eτ]; exact tyN_n (by omega), by rw [e2, up_a (by omega), e1]; exact meN_n (by omega)⟩)) (fun j hj => absurd hj (Nat.not_lt_zero _)) (fun b q => ⟨by rw [eτ, tyN_n (by omega)]; exact (hb b q).1, by rw [e2, up_a (by omega), e1, meN_n (by omega)]; exact (hb b q).2⟩)
  | succ n ih =>
    intro i τ M hi h5 g1 g2 o1 hb
    rw [show 2 * (n + 1) + 3 = 2 * n + 3 + 1 + 1 by omega, show 10 * (n + 1) + 1201 = 10 * n + 1201 + 5 + 5 by omega]
    refine T_iload1 dX4_init_24 rfl ?_
    refine T_bipush (12) dX4_init_25 rfl rfl ?_
    refine T_icmp_ge_f 62 30 dX4_init_27 (by decide) rfl (fun z => absurd ((nI_leI (a := 12) (b := i) (by omega) (by omega)).mp z) (by omega)) ?_
    refine T_aload0 dX4_init_30 rfl ?_
    refine g4_11 _ rfl h5 g1 dX4_init_31 rfl ?_
    refine T_iload1 dX4_init_34 rfl ?_
    refine n4_9 rfl dX4_init_35 rfl ?_
    refine T_nt (fun τ1 eτ => ?_)
    refine T_nm (fun M1 e1 => ?_)
    refine T_dup dX4_init_38 rfl rfl ?_
    refine T_cIN0 (bk := 2 * n + 3 + 1) (bn := 10 * n + 1201 + 5) (c_X3_init hX _) hX k4_20 (by decide) (Nat.le_of_ble_eq_true rfl) dX4_init_39 rfl ?_
    rintro _ _ _ _ ⟨rfl, rfl, rfl, rfl⟩
    refine T_aast (n := 12) (TT := TX3) (N := 5) 5 i 2 0 (by decide) (by rw [eτ, tyN_n (by omega)]; exact o1.1) rfl (by omega) (by decide) (by rw [eτ]; exact tyN_s _ _ _) (by decide) rfl rfl dX4_init_42 rfl ?_
    refine T_nm (fun M2 e2 => ?_)
    have g1 : M2 p 0 = .ref (p + 1) := by rw [e2, up_a (by omega), e1, meN_n (by omega)]; exact g1
    have g2 : M2 p 1 = .ref (p + 2) := by rw [e2, up_a (by omega), e1, meN_n (by omega)]; exact g2
    refine T_aload0 dX4_init_43 rfl ?_
    refine g4_17 _ rfl (by rw [eτ, tyN_n (by omega)]; exact h5) g2 dX4_init_44 rfl ?_
    refine T_iload1 dX4_init_47 rfl ?_
    refine n4_9 rfl dX4_init_48 rfl ?_
    refine T_nt (fun τ3 eτ3 => ?_)
    refine T_nm (fun M3 e3 => ?_)
    refine T_dup dX4_init_51 rfl rfl ?_
    refine T_cIN0 (bk := 2 * n + 3) (bn := 10 * n + 1201) (c_X3_init hX _) hX k4_20 (by decide) (Nat.le_of_ble_eq_true rfl) dX4_init_52 rfl ?_
    rintro _ _ _ _ ⟨rfl, rfl, rfl, rfl⟩
    refine T_aast (n := 12) (TT := TX3) (N := 5) 5 i 2 0 (by decide) (by rw [eτ3, tyN_n (by omega), eτ, tyN_n (by omega)]; exact o1.2.1) rfl (by omega) (by decide) (by rw [eτ3]; exact tyN_s _ _ _) (by decide) rfl rfl dX4_init_55 rfl ?_
    refine T_nm (fun M4 e4 => ?_)
    refine T_iinc1 rfl (by decide) dX4_init_56 rfl (inc1 _) ?_
    refine T_goto 24 dX4_init_59 (by decide) ?_
    exact ih (i + 1) _ _ (by omega) (by rw [eτ3, tyN_n (by omega), eτ, tyN_n (by omega)]; exact h5) (by rw [e4, up_a (by omega), e3, meN_n (by omega)]; exact g1) (by rw [e4, up_a (by omega), e3, meN_n (by omega)]; exact g2) (o1.nx9 eτ e1 e2 eτ3 e3 e4) (fun b q => ⟨by rw [eτ3, tyN_n (by omega), eτ, tyN_n (by omega)]; exact (hb b q).1, by rw [e4, up_a (by omega), e3, meN_n (by omega), e2, up_a (by omega), e1, meN_n (by omega)]; exact (hb b q).2⟩)
set_option maxHeartbeats 1000000 in
theorem c_X4_init {l : Launch} {D : va_G} {cA : Nat → ClassId} {n0 : Nat} {sg adK adV : Nat → Nat} {sgA smA wdA bS LS : Nat} {xs : Nat → Int32} (hX : SF n0 (XW0 sg adK adV sgA smA wdA n0 bS LS xs)) {τ0 : TY} {M0 : ME} {p : Nat} (ht : τ0 p = (3, 0)) (hm : M0 p = f0X4) : CT l D cA n0 (XW0 sg adK adV sgA smA wdA n0 bS LS xs) mX4_init 2 29 1345 (p + 1) τ0 M0 [.ref p] (fun v' sz' τ' M' => v' = none ∧ sz' = p + 30 ∧ PM τ' M' M' p sg 0 0 0 (fun _ _ => 0) (fun _ => 44) (fun _ => 0) ∧ ∀ b, b < p → τ' b = τ0 b ∧ M' b = M0 b) := by
  refine CT.of (ls := [.ref p, UU]) (by decide) (Nat.le_of_ble_eq_true rfl) rfl ?_
  refine T_aload0 dX4_init_0 rfl ?_
  refine T_obj ko4_3 ko1 ko2 (by decide) (Nat.le_of_ble_eq_true rfl) dX4_init_1 rfl ?_
  refine T_aload0 dX4_init_4 rfl ?_
  refine T_bipush (12) dX4_init_5 rfl rfl ?_
  refine T_anew (N := 12) 5 kc4_9 (fun U H h => h.2.2.2.1.2.2.2.2.2.2.1) (by decide) rfl rfl (by decide) dX4_init_7 rfl ?_
  refine T_nt (fun τ1 eτ1 => ?_)
  refine T_nm (fun M1 e1 => ?_)
  have h5 : τ1 p = (3, 0) := by rw [eτ1, tyN_n (by omega)]; exact ht
  refine p4_11 rfl rfl h5 dX4_init_10 rfl ?_
  refine T_nm (fun N1 f1 => ?_)
  refine T_aload0 dX4_init_13 rfl ?_
  refine T_bipush (12) dX4_init_14 rfl rfl ?_
  refine T_anew (N := 12) 5 kc4_9 (fun U H h => h.2.2.2.1.2.2.2.2.2.2.1) (by decide) rfl rfl (by decide) dX4_init_16 rfl ?_
  refine T_nt (fun τ2 eτ2 => ?_)
  refine T_nm (fun M2 e2 => ?_)
  have h5 : τ2 p = (3, 0) := by rw [eτ2, tyN_n (by omega)]; exact h5
  refine p4_17 rfl rfl h5 dX4_init_19 rfl ?_
  refine T_nm (fun N2 f2 => ?_)
  refine T_iconst (0) dX4_init_22 rfl rfl ?_
  refine T_istore1 rfl (by decide) dX4_init_23 rfl ?_
  exact L1_X4_init hX 12 0 _ _ rfl h5 (by rw [f2]; unfold up; rw [if_pos rfl, if_neg (by decide), e2, meN_n (by omega), f1]; unfold up; rw [if_pos rfl, if_pos rfl]) (by rw [f2]; unfold up; rw [if_pos rfl, if_pos rfl]) ⟨by rw [eτ2, tyN_n (by omega), eτ1]; exact tyN_s _ _ _, by rw [eτ2]; exact tyN_s _ _ _, fun j hj => absurd hj (Nat.not_lt_zero _)⟩ (fun b q => ⟨by rw [eτ2, tyN_n (by omega), eτ1]; exact tyN_n (by omega), by rw [f2, up_a (by omega), e2, meN_n (by omega), f1, up_a (by omega), e1]; exact meN_n (by omega)⟩)

