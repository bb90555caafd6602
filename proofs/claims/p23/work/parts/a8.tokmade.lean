/-! tokens are made -/
set_option maxHeartbeats 1000000 in
theorem L1_X9_init {l : Launch} {D : va_G} {cA : Nat → ClassId} {n0 : Nat} {sg adK adV : Nat → Nat} {sgA smA wdA bS LS : Nat} {xs : Nat → Int32} (hX : SF n0 (XW0 sg adK adV sgA smA wdA n0 bS LS xs)) {t : Nat} {τ0 τ : TY} {M0 : ME} (h5 : τ t = (7, 0)) (hs : τ (t + 1) = (107, 401)) : ∀ (n i : Nat) (M : ME) (hi : i + n = 401) (g1 : M t 0 = .ref (t + 1)) (o2 : ∀ j, j < i → M (t + 1) j = .ref (sg 45)) (hb : ∀ b, b < t → τ b = τ0 b ∧ M b = M0 b), T l D cA n0 (XW0 sg adK adV sgA smA wdA n0 bS LS xs) mX9_init 2 3 802 (t + 2) τ M 16 [.ref t, .int (nI i)] [] (fun v' sz' τ' M' => v' = none ∧ sz' = t + 5 ∧ TM τ' M' M' t sg (t + 4) 0 0 (fun _ => 45) (fun _ => 0) (fun _ => 0) ∧ ∀ b, b < t → τ' b = τ0 b ∧ M' b = M0 b) (fun _ _ _ _ => False) := by
  intro n
  induction n with
  | zero =>
    intro i M hi g1 o2 hb
    obtain rfl : i = 401 := by omega
    refine T_iload1 dX9_init_16 rfl ?_
    refine T_aload0 dX9_init_17 rfl ?_
    refine g9_11 _ rfl h5 g1 dX9_init_18 rfl ?_
    refine T_alen (j := 7) hs (by decide) dX9_init_21 rfl ?_
    refine T_icmp_ge_t 40 dX9_init_22 (by decide) (by decide) ?_
    refine T_aload0 dX9_init_40 rfl ?_
    refine T_sipush (401) dX9_init_41 rfl rfl ?_
    refine T_newa (atype := .int) (N := 401) 0 (fun _ => .int 0) ka_int (by decide) rfl rfl (by decide) rfl dX9_init_44 rfl ?_
    refine T_nt (fun τa eτa => ?_)
    refine T_nm (fun Ma ea => ?_)
    have h5 : τa t = (7, 0) := by rw [eτa, tyN_n (by omega)]; exact h5
    refine p9_21 rfl rfl h5 dX9_init_46 rfl ?_
    refine T_nm (fun Na fa => ?_)
    refine T_aload0 dX9_init_49 rfl ?_
    refine T_sipush (401) dX9_init_50 rfl rfl ?_
    refine T_newa (atype := .long) (N := 401) 2 (fun _ => .long 0) ka_long (by decide) rfl rfl (by decide) rfl dX9_init_53 rfl ?_
    refine T_nt (fun τc eτc => ?_)
    refine T_nm (fun Mc ec => ?_)
    have h5 : τc t = (7, 0) := by rw [eτc, tyN_n (by omega)]; exact h5
    refine p9_25 rfl rfl h5 dX9_init_55 rfl ?_
    refine T_nm (fun Nc fc => ?_)
    refine T_aload0 dX9_init_58 rfl ?_
    refine T_iconst (0) dX9_init_59 rfl rfl ?_
    refine p9_29 rfl h5 dX9_init_60 rfl ?_
    refine T_nm (fun Nd fd => ?_)
    refine T_aload0 dX9_init_63 rfl ?_
    refine T_iconst (0) dX9_init_64 rfl rfl ?_
    refine T_newa (atype := .byte) (N := 0) 1 (fun _ => .int 0) ka_byte (by decide) rfl rfl (by decide) rfl dX9_init_65 rfl ?_
    refine T_nt (fun τg eτg => ?_)
    refine T_nm (fun Mg eg => ?_)
    have h5 : τg t = (7, 0) := by rw [eτg, tyN_n (by omega)]; exact h5
    refine p9_33 rfl h5 dX9_init_67 rfl ?_
    refine T_nm (fun Ng fg => ?_)
    refine T_aload0 dX9_init_70 rfl ?_
    refine T_iconst (0) dX9_init_71 rfl rfl ?_
    refine p9_37 rfl h5 dX9_init_72 rfl ?_
    refine T_nm (fun Nh fh => ?_)
    have hτ : ∀ b, b < t + 2 → τg b = τ b := fun b q => by rw [eτg, tyN_n (by omega), eτc, tyN_n (by omega), eτa, tyN_n (by omega)]
    have hN : ∀ b, ¬ b = t → b < t + 2 → Nh b = M b := fun b hb9 q => by rw [fh, up_a hb9, fg, up_a hb9, eg, meN_n (by omega), fd, up_a hb9, fc, up_a hb9, ec, meN_n (by omega), fa, up_a hb9, ea, meN_n (by omega)]
    have ha : Nh (t + 2) = fun _ => .int 0 := by rw [fh, up_a (by omega), fg, up_a (by omega), eg, meN_n (by omega), fd, up_a (by omega), fc, up_a (by omega), ec, meN_n (by omega), fa, up_a (by omega), ea]; exact meN_s _ _ _
    have hc : Nh (t + 3) = fun _ => .long 0 := by rw [fh, up_a (by omega), fg, up_a (by omega), eg, meN_n (by omega), fd, up_a (by omega), fc, up_a (by omega), ec]; exact meN_s _ _ _
    have hp : ∀ k, Nh t k = if k = 5 then .int 0 else if k = 4 then .ref (t + 4) else if k = 3 then .int 0 else if k = 2 then .ref (t + 3) else if k = 1 then .ref (t + 2) else M t k := fun k => by
      rw [fh]; unfold up; rw [if_pos rfl, fg]; unfold up; rw [if_pos rfl, eg, meN_n (by omega), fd]; unfold up; rw [if_pos rfl, fc]; unfold up; rw [if_pos rfl, ec, meN_n (by omega), fa]; unfold up; rw [if_pos rfl, ea, meN_n (by omega)]
    refine T_vret rfl dX9_init_75 ?_
    exact ⟨rfl, rfl, ⟨h5, (hτ _ (by omega)).trans hs, by rw [eτg, tyN_n (by omega), eτc, tyN_n (by omega), eτa]; exact tyN_s _ _ _, by rw [eτg, tyN_n (by omega), eτc]; exact tyN_s _ _ _, (hp 0).trans g1, hp 1, hp 2, hp 3, hp 4, hp 5, fun i hi => by rw [hN _ (by omega) (by omega)]; exact o2 i hi, fun i hi => by rw [ha], fun i hi => by rw [hc], Fr.rf _ _ _⟩, fun b q => ⟨(hτ b (by omega)).trans (hb b q).1, (hN b (by omega) (by omega)).trans (hb b q).2⟩⟩
  | succ n ih =>
    intro i M hi g1 o2 hb
    refine T_iload1 dX9_init_16 rfl ?_
    refine T_aload0 dX9_init_17 rfl ?_
    refine g9_11 _ rfl h5 g1 dX9_init_18 rfl ?_
    refine T_alen (j := 7) hs (by decide) dX9_init_21 rfl ?_
    refine T_icmp_ge_f 40 25 dX9_init_22 (by decide) rfl (fun z => absurd ((nI_leI (a := 401) (b := i) (by omega) (by omega)).mp z) (by omega)) ?_
    refine T_aload0 dX9_init_25 rfl ?_
    refine g9_11 _ rfl h5 g1 dX9_init_26 rfl ?_
    refine T_iload1 dX9_init_29 rfl ?_
    refine T_sgn (i := 45) (by decide) ks9_17 dX9_init_30 rfl ?_
    refine T_asgn i (by decide) hs rfl (by omega) (by decide) dX9_init_33 rfl ?_
    refine T_nm (fun M2 e2 => ?_)
    refine T_iinc1 rfl (by decide) dX9_init_34 rfl (inc1 _) ?_
    refine T_goto 16 dX9_init_37 (by decide) ?_
    refine ih (i + 1) _ (by omega) (by rw [e2, up_a (by omega)]; exact g1) (fun j hj => ?_) (fun b q => ⟨(hb b q).1, by rw [e2, up_a (by omega)]; exact (hb b q).2⟩)
    rw [e2]; unfold up; rw [if_pos rfl]
    by_cases e : j = i
    · rw [if_pos e]
    · rw [if_neg e]; exact o2 j (by omega)
set_option maxHeartbeats 1000000 in
theorem c_X9_init {l : Launch} {D : va_G} {cA : Nat → ClassId} {n0 : Nat} {sg adK adV : Nat → Nat} {sgA smA wdA bS LS : Nat} {xs : Nat → Int32} (hX : SF n0 (XW0 sg adK adV sgA smA wdA n0 bS LS xs)) {τ0 : TY} {M0 : ME} {t : Nat} (ht : τ0 t = (7, 0)) : CT l D cA n0 (XW0 sg adK adV sgA smA wdA n0 bS LS xs) mX9_init 2 4 1203 (t + 1) τ0 M0 [.ref t] (fun v' sz' τ' M' => v' = none ∧ sz' = t + 5 ∧ TM τ' M' M' t sg (t + 4) 0 0 (fun _ => 45) (fun _ => 0) (fun _ => 0) ∧ ∀ b, b < t → τ' b = τ0 b ∧ M' b = M0 b) := by
  refine CT.of (ls := [.ref t, UU]) (by decide) (Nat.le_of_ble_eq_true rfl) rfl ?_
  refine T_aload0 dX9_init_0 rfl ?_
  refine T_obj ko9_3 ko1 ko2 (by decide) (Nat.le_of_ble_eq_true rfl) dX9_init_1 rfl ?_
  refine T_aload0 dX9_init_4 rfl ?_
  refine T_sipush (401) dX9_init_5 rfl rfl ?_
  refine T_anew (N := 401) 7 kc9_9 (fun U H h => h.2.2.2.1.2.2.2.2.2.2.2.2) (by decide) rfl rfl (by decide) dX9_init_8 rfl ?_
  refine T_nt (fun τ1 eτ => ?_)
  refine T_nm (fun M1 e1 => ?_)
  have h5 : τ1 t = (7, 0) := by rw [eτ, tyN_n (by omega)]; exact ht
  refine p9_11 rfl rfl h5 dX9_init_11 rfl ?_
  refine T_nm (fun M2 e2 => ?_)
  refine T_iconst (0) dX9_init_14 rfl rfl ?_
  refine T_istore1 rfl (by decide) dX9_init_15 rfl ?_
  exact L1_X9_init hX h5 (by rw [eτ]; exact tyN_s _ _ _) 401 0 _ rfl (by rw [e2]; unfold up; rw [if_pos rfl, if_pos rfl]) (fun j hj => absurd hj (Nat.not_lt_zero _)) (fun b q => ⟨by rw [eτ]; exact tyN_n (by omega), by rw [e2, up_a (by omega), e1]; exact meN_n (by omega)⟩)

