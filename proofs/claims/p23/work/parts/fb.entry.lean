/-! the law from its entry -/
set_option maxHeartbeats 4000000 in
theorem law_all {l : Launch} {D : va_G} {cA : Nat → ClassId} {n0 : Nat} {sg adK adV : Nat → Nat} {sgA smA wdA bS LS : Nat} {xs : Nat → Int32} (hX : SF n0 (XW0 sg adK adV sgA smA wdA n0 bS LS xs)) (hl : l.stackTraces = false) {nn : String} (hL : LS ≤ 260) {τ : TY} {M : ME} : T l D cA n0 (XW0 sg adK adV sgA smA wdA n0 bS LS xs) (mLN nn) 2048 600086 7301442 n0 τ M 0 (.ref bS :: UU :: UU :: UU :: UU :: UU :: UU :: UU :: UU :: UU :: UU :: UU :: UU :: UU :: UU :: UU :: UU :: UU :: UU :: UU :: UU :: UU :: UU :: UU :: UU :: UU :: UU :: UU :: UU :: UU :: UU :: UU :: UU :: UU :: []) [] Q1L (fun _ _ _ _ => False) := by
  obtain ⟨a0, ea0⟩ : ∃ k : Nat, k = 60 * 700 + 360 := ⟨_, rfl⟩
  obtain ⟨b0, eb0⟩ : ∃ k : Nat, k = 60 * 4200 + 2200 := ⟨_, rfl⟩
  obtain ⟨a1, ea1⟩ : ∃ k : Nat, k = a0 + 1 := ⟨_, rfl⟩
  obtain ⟨b1, eb1⟩ : ∃ k : Nat, k = b0 + 6 := ⟨_, rfl⟩
  obtain ⟨a2, ea2⟩ : ∃ k : Nat, k = a1 + 81 := ⟨_, rfl⟩
  obtain ⟨b2, eb2⟩ : ∃ k : Nat, k = b1 + 490 := ⟨_, rfl⟩
  obtain ⟨a3, ea3⟩ : ∃ k : Nat, k = a2 + 2 := ⟨_, rfl⟩
  obtain ⟨b3, eb3⟩ : ∃ k : Nat, k = b2 + 4006 := ⟨_, rfl⟩
  obtain ⟨a4, ea4⟩ : ∃ k : Nat, k = a3 + 143 := ⟨_, rfl⟩
  obtain ⟨b4, eb4⟩ : ∃ k : Nat, k = b3 + 6405 := ⟨_, rfl⟩
  obtain ⟨a5, ea5⟩ : ∃ k : Nat, k = a4 + 1 := ⟨_, rfl⟩
  obtain ⟨b5, eb5⟩ : ∃ k : Nat, k = b4 + 8 := ⟨_, rfl⟩
  obtain ⟨a6, ea6⟩ : ∃ k : Nat, k = a5 + 1120 := ⟨_, rfl⟩
  obtain ⟨b6, eb6⟩ : ∃ k : Nat, k = b5 + 3303400 := ⟨_, rfl⟩
  obtain ⟨a7, ea7⟩ : ∃ k : Nat, k = a6 + 1 := ⟨_, rfl⟩
  obtain ⟨b7, eb7⟩ : ∃ k : Nat, k = b6 + 16 := ⟨_, rfl⟩
  refine T_room (bk2 := a7 + 1) (bn2 := b7 + 4) (by omega) (by omega) ?_
  refine nL_32 (bk := a7) (bn := b7) rfl dL_law_0 rfl ?_
  refine T_nt (fun τ1 eτ => ?_)
  refine T_nm (fun M1 eM => ?_)
  refine T_dup dL_law_3 rfl rfl ?_
  refine T_room (bk2 := a6 + 1) (bn2 := b6 + 16) (by omega) (by omega) ?_
  refine T_cI0 (bk := a6) (bn := b6) (c_J4_init_da8c8 hX (b := n0) (by rw [eτ]; exact tyN_s _ _ _) (by omega) (by rw [eM, meN_s]; rfl)) hX kL_34 (Nat.le_of_ble_eq_true rfl) (Nat.le_of_ble_eq_true rfl) dL_law_4 rfl ?_
  rintro _ sz2 τ2 M2 ⟨rfl, es2, eτ2, hB, -⟩
  have es2 : sz2 = n0 + 2 := es2
  subst es2
  clear eτ eM
  refine T_astore1 rfl (Nat.le_of_ble_eq_true rfl) dL_law_7 rfl ?_
  refine T_aload0 dL_law_8 rfl ?_
  refine T_aload1 dL_law_9 rfl ?_
  refine T_room (bk2 := a5 + 1120) (bn2 := b5 + 3303400) (by omega) (by omega) ?_
  refine T_cS2 (bk := a5) (bn := b5) (c_L_list hX hL hB (by omega) (by omega) (by decide)) hX kL_202 (Nat.le_of_ble_eq_true rfl) (Nat.le_of_ble_eq_true rfl) dL_law_10 rfl ?_
  rintro _ x τ3 M3 ⟨A, Rw, v1, cap1, rfl, hP, hB3, ⟨hv1, hc1⟩, hAP⟩
  have hje := hP.je
  refine T_astore2 rfl (Nat.le_of_ble_eq_true rfl) dL_law_13 rfl ?_
  refine T_room (bk2 := a4 + 1) (bn2 := b4 + 8) (by omega) (by omega) ?_
  refine nL_10 (bk := a4) (bn := b4) rfl dL_law_14 rfl ?_
  refine T_nt (fun τ4 eτ4 => ?_)
  refine T_nm (fun M4 eM4 => ?_)
  refine T_dup dL_law_17 rfl rfl ?_
  have hT4 : ∀ q, q < x → τ4 q = τ3 q := fun q hq => by rw [eτ4]; exact tyN_n (by omega)
  have hM4 : ∀ q, q < x → M4 q = M3 q := fun q hq => by rw [eM4]; exact meN_n (by omega)
  refine T_room (bk2 := a3 + 143) (bn2 := b3 + 6405) (by omega) (by omega) ?_
  refine T_cI0 (bk := a3) (bn := b3) (c_X10_init hX (x := x) (by rw [eτ4]; exact tyN_s _ _ _) (by rw [eM4]; exact meN_s _ _ _)) hX kL_206 (Nat.le_of_ble_eq_true rfl) (Nat.le_of_ble_eq_true rfl) dL_law_18 rfl ?_
  rintro _ sz5 τ5 M5 ⟨rfl, rfl, hC, hfr⟩
  have hT5 : ∀ q, q < x → τ5 q = τ3 q := fun q hq => (hfr q hq).1.trans (hT4 q hq)
  have hM5 : ∀ q, q < x → M5 q = M3 q := fun q hq => (hfr q hq).2.trans (hM4 q hq)
  have hB5 : SBt τ5 M5 n0 v1 cap1 (ltX (ldX LS xs)) := hB3.fr ⟨hT5 _ (by omega), hT5 _ hv1⟩ ⟨hM5 _ (by omega), hM5 _ hv1⟩
  have hP5 := hP.fr (τ' := τ5) (M' := M5) hT5 (fun q _ h2 _ => hM5 q h2)
  clear eτ4 eM4
  refine T_astore3 rfl (Nat.le_of_ble_eq_true rfl) dL_law_21 rfl ?_
  refine T_aload3 dL_law_22 rfl ?_
  refine T_aload1 dL_law_23 rfl ?_
  have hlen := ltX_len (ldX_ok LS xs)
  refine T_room (bk2 := a2 + 2) (bn2 := b2 + 4006) (by omega) (by omega) ?_
  refine T_cV0 (bk := a2) (bn := b2) (c_J4_toString_0e30d hX hB5 (And.intro (by omega) (by omega)) (by omega)) hX kL_50 (Or.inl ⟨_, _, _, _, hB5.tb, by decide, rfl⟩) (Nat.le_of_ble_eq_true rfl) (Nat.le_of_ble_eq_true rfl) dL_law_24 rfl ?_
  rintro _ sz6 τ6 M6 ⟨rfl, rfl, hST, -, hτ6, hM6⟩
  have hC6 := (hC.tau (τ' := τ6) (fun q g1 g2 => hτ6 q (by omega))).fr (M1 := M6) (fun q g1 g2 => hM6 q (by omega))
  have hP6 := hP5.fr (τ' := τ6) (M' := M6) (fun q h2 => hτ6 q (by omega)) (fun q _ h2 _ => hM6 q (by omega))
  refine T_room (bk2 := a1 + 81) (bn2 := b1 + 490) (by omega) (by omega) ?_
  refine T_cS2 (bk := a1) (bn := b1) (c_L_taught hX hl hST hlen (Or.inr ⟨by omega, by omega, by omega, by omega⟩) (by omega) hC6 (by omega) (fun _ => by decide)) hX kL_207 (Nat.le_of_ble_eq_true rfl) (Nat.le_of_ble_eq_true rfl) dL_law_27 rfl ?_
  rintro v9 sz7 τ7 M7 ⟨rfl, rfl, hfr7, B7, hB7, lt9, K9, S9, V9, q9, β9, t1, t2, t3, rfl, t5⟩
  obtain ⟨er0, hall⟩ := taught_ok (ldX_ok LS xs) hB7 t1 t2
  obtain ⟨a8, b8, c8, hc8, wc8, sc8, ρ8, ν8, π8, σ8, hC8, h68, h78, -, hLC⟩ := t5 er0
  obtain ⟨⟨z1, z2, z3, z4, z5⟩, hRF, hPl, hPE⟩ := hall _ _ _ _ _ _ _ _ _ _ hLC
  rw [z1, z2, z3] at hC8
  rw [z1, z2, z4, z5] at hPl
  have hP7 := hP6.fr (τ' := tyN τ6 (x + 144 + 2) (100, 5)) (M' := M7) (fun q h2 => tyN_n (by omega)) (fun q _ h2 _ => (hfr7 q (by omega) (by omega)).trans (meN_n (by omega)))
  refine T_if_eq_t 35 dL_law_30 (by decide) er0 ?_
  refine T_aload3 dL_law_35 rfl ?_
  refine T_iconst (5) dL_law_36 rfl rfl ?_
  refine T_room (bk2 := a0 + 1) (bn2 := b0 + 6) (by omega) (by omega) ?_
  refine q_count hX hl hC8 (k := 5) (by decide) kL_211 (Nat.le_of_ble_eq_true rfl) (Nat.le_of_ble_eq_true rfl) dL_law_37 rfl ?_
  rw [show cntF (ldX LS xs 0 3) (ldX LS xs 0 4) (ldX LS xs 0 5) 0 ρ8 5 = wOf (ldX LS xs 0 5) ρ8 0 from rfl]
  refine T_istore4 rfl (Nat.le_of_ble_eq_true rfl) dL_law_40 rfl ?_
  refine T_iconst (0) dL_law_42 rfl rfl ?_
  refine T_istore5 rfl (Nat.le_of_ble_eq_true rfl) dL_law_43 rfl ?_
  have hS8 := hP7.toS (ldX_ok LS xs) hRF (show ρ8 6 0 = 0 from h68) (show ρ8 7 0 = 0 from h78)
  have hI8 := hRF.si (ldX_ok LS xs) (show ρ8 6 0 = 0 from h68)
  have hW : sm (fun l => ρ8 31 l) (ldX LS xs 0 5) = wOf (ldX LS xs 0 5) ρ8 0 := sm_cong (fun l hl9 => (if_pos (hRF.2.2.1 l hl9).2.1).symm)
  rw [ea0, eb0]
  exact law_loop hX hl (cn := ldX LS xs 0) (e := x) hL (Or.inl (Nat.le_refl _)) (hc := ldX LS xs 0 6) (wc := ldX LS xs 0 7) hPl rfl rfl hPE 60 0 _ _ _ _ _ _ _ _ _ _ _ _ _ _ _ _ _ _ _ _ _ _ _ _ _ _ _ _ _ _ _ _ _ (by omega) (by omega) (by omega) (by rw [← z4, ← z5]; exact hC8) hS8 hI8 (show ρ8 6 0 = 0 from h68) hW
