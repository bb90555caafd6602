theorem sub6 : ∀ L : Nat, L < 6 → nI L - 6 < 0 := by decide
theorem hd_i {i L : Nat} (hi : i ≤ 3078) (hL : L ≤ 3072) (h : ¬ nI L - 6 < nI i) : i + 6 ≤ L := by
  by_cases h6 : 6 ≤ L
  · have e : nI L - 6 = nI (L - 6) := by
      have e1 : nI (L - 6) + nI 6 = nI L := by rw [nI_add]; congr 1; omega
      rw [← e1]
      exact Int32.add_sub_cancel _ _
    rw [e, nI_ltI (by omega) (by omega)] at h
    omega
  · exact absurd (Int32.lt_of_lt_of_le (sub6 L (by omega)) (nI_pos' (by omega))) h
theorem tb20 (w : Int32) : (w.toInt < 0 ∨ 19 < w.toInt) ∨ ∃ j, j < 20 ∧ w = nI j := by
  by_cases h1 : w.toInt < 0
  · exact Or.inl (Or.inl h1)
  · by_cases h2 : 19 < w.toInt
    · exact Or.inl (Or.inr h2)
    · obtain ⟨j, hj, e⟩ := nI_of2 (x := w) (M := nI 19) (n := 19) (nI_toInt (by decide)) (fun q => h1 (Int32.lt_iff_toInt_lt.mp q)) (Int32.le_iff_toInt_le.mpr (by rw [nI_toInt (by decide)]; omega))
      exact Or.inr ⟨j, by omega, e⟩
set_option maxHeartbeats 2000000 in
theorem law_head {l : Launch} {D : va_G} {cA : Nat → ClassId} {n0 : Nat} {sg adK adV : Nat → Nat} {sgA smA wdA bS LS : Nat} {xs : Nat → Int32} (hX : SF n0 (XW0 sg adK adV sgA smA wdA n0 bS LS xs)) {nn : String} {i n : Nat} (hL : LS ≤ 3072) (hi : i ≤ 3078) {sz : Nat} {τ : TY} {M : ME} {x bk bn : Nat} (k : i + 6 ≤ LS → T l D cA n0 (XW0 sg adK adV sgA smA wdA n0 bS LS xs) (mLN nn) 2048 bk bn sz τ M 33 [.ref bS, .ref x, .ref (x + 144), .ref (x + 198), .int (nI i), UU, UU, UU, UU] [] (fun v _ _ _ => v = some (.int 1)) (fun _ _ _ _ => False)) : T l D cA n0 (XW0 sg adK adV sgA smA wdA n0 bS LS xs) (mLN nn) 2048 bk bn sz τ M 23 [.ref bS, .ref x, .ref (x + 144), .ref (x + 198), .int (nI i), UU, UU, UU, UU] [] (fun v _ _ _ => v = some (.int 1)) (fun _ _ _ _ => False) := by
  refine T_iload4 dL_law_23 rfl ?_
  refine T_aload0 dL_law_25 rfl ?_
  refine T_slen dL_law_26 rfl ?_
  refine T_bipush (6) dL_law_27 rfl rfl ?_
  refine T_isub dL_law_29 rfl ?_
  refine T_icmp_gt 1239 33 dL_law_30 (by decide) rfl (fun c => ?_) (fun c => k (hd_i hi hL c))
  refine T_iconst (1) dL_law_1239 rfl rfl ?_
  exact T_iret rfl rfl dL_law_1240 rfl
set_option maxHeartbeats 4000000 in
theorem law_loop {l : Launch} {D : va_G} {cA : Nat → ClassId} {n0 : Nat} {sg adK adV : Nat → Nat} {sgA smA wdA bS LS : Nat} {xs : Nat → Int32} (hX : SF n0 (XW0 sg adK adV sgA smA wdA n0 bS LS xs)) (hl : l.stackTraces = false) {nn : String} (hL : LS ≤ 3072) {x : Nat} : ∀ (n i sz : Nat) (τ : TY) (M : ME), LS < i + 6 * n → i ≤ 3078 → INV sg x sz τ M → T l D cA n0 (XW0 sg adK adV sgA smA wdA n0 bS LS xs) (mLN nn) 2048 (n * 130) (n * 1400) sz τ M 23 [.ref bS, .ref x, .ref (x + 144), .ref (x + 198), .int (nI i), UU, UU, UU, UU] [] (fun v _ _ _ => v = some (.int 1)) (fun _ _ _ _ => False) := by
  intro n
  induction n with
  | zero =>
    intro i sz τ M h1 hi hI
    exact law_head hX (n := 0) hL hi (fun h6 => absurd h6 (by omega))
  | succ n ih =>
    intro i sz τ M h1 hi hI
    refine law_head hX (n := n) hL hi (fun h6 => ?_)
    have K : ∀ sz' τ' M', INV sg x sz' τ' M' → T l D cA n0 (XW0 sg adK adV sgA smA wdA n0 bS LS xs) (mLN nn) 2048 (n * 130) (n * 1400) sz' τ' M' 1233 [.ref bS, .ref x, .ref (x + 144), .ref (x + 198), .int (nI i), UU, UU, UU, UU] [] (fun v _ _ _ => v = some (.int 1)) (fun _ _ _ _ => False) := by
      intro sz' τ' M' hI'
      refine T_iinc4 rfl (Nat.le_of_ble_eq_true rfl) dL_law_1233 rfl (nI_add i 6) ?_
      refine T_goto 23 dL_law_1236 (by decide) ?_
      exact ih (i + 6) sz' τ' M' (by omega) (by omega) hI'
    refine T_aload0 dL_law_33 rfl ?_
    refine T_iload4 dL_law_34 rfl ?_
    refine T_sld i rfl (by omega) (by omega) dL_law_36 rfl ?_
    refine T_bipush (31) dL_law_37 rfl rfl ?_
    refine T_iand dL_law_39 rfl ?_
    rcases tb20 (xs i &&& 31) with hw | ⟨j, hj, hw⟩
    · refine T_tout 1233 dL_law_40 hw (by decide) ?_
      exact T_room (bk2 := n * 130) (bn2 := n * 1400) (by omega) (by omega) (K _ _ _ hI)
    rw [hw]
    rcases (show j = 0 ∨ j = 1 ∨ j = 2 ∨ j = 3 ∨ j = 4 ∨ j = 5 ∨ j = 6 ∨ j = 7 ∨ j = 8 ∨ j = 9 ∨ j = 10 ∨ j = 11 ∨ j = 12 ∨ j = 13 ∨ j = 14 ∨ j = 15 ∨ j = 16 ∨ j = 17 ∨ j = 18 ∨ j = 19 by omega) with rfl | rfl | rfl | rfl | rfl | rfl | rfl | rfl | rfl | rfl | rfl | rfl | rfl | rfl | rfl | rfl | rfl | rfl | rfl | rfl
    · refine T_tin (off := 96) 136 dL_law_40 (by decide +kernel) (by decide +kernel) (by decide +kernel) (by decide) ?_
      exact T_room (bk2 := n * 130 + 1 + 1) (bn2 := n * 1400 + 5 + 6) (by omega) (by omega) (cm_feed hX hl h6 hL hI K)
    · refine T_tin (off := 200) 240 dL_law_40 (by decide +kernel) (by decide +kernel) (by decide +kernel) (by decide) ?_
      exact T_room (bk2 := n * 130 + 0 + 1) (bn2 := n * 1400 + 0 + 6) (by omega) (by omega) (cm_trim hX hl h6 hL hI K)
    · refine T_tin (off := 256) 296 dL_law_40 (by decide +kernel) (by decide +kernel) (by decide +kernel) (by decide) ?_
      exact T_room (bk2 := n * 130 + 19 + 0) (bn2 := n * 1400 + 1396 + 0) (by omega) (by omega) (cm_teach hX hl h6 hL hI K)
    · refine T_tin (off := 269) 309 dL_law_40 (by decide +kernel) (by decide +kernel) (by decide +kernel) (by decide) ?_
      exact T_room (bk2 := n * 130 + 0 + 0) (bn2 := n * 1400 + 0 + 0) (by omega) (by omega) (cm_errorAt hX hl h6 hL hI K)
    · refine T_tin (off := 282) 322 dL_law_40 (by decide +kernel) (by decide +kernel) (by decide +kernel) (by decide) ?_
      exact T_room (bk2 := n * 130 + 1 + 1) (bn2 := n * 1400 + 13 + 6) (by omega) (by omega) (cm_count hX hl h6 hL hI K)
    · refine T_tin (off := 338) 378 dL_law_40 (by decide +kernel) (by decide +kernel) (by decide +kernel) (by decide) ?_
      exact T_room (bk2 := n * 130 + 1 + 2) (bn2 := n * 1400 + 5 + 12) (by omega) (by omega) (cm_stretch hX hl h6 hL hI K)
    · refine T_tin (off := 406) 446 dL_law_40 (by decide +kernel) (by decide +kernel) (by decide +kernel) (by decide) ?_
      exact T_room (bk2 := n * 130 + 1 + 2) (bn2 := n * 1400 + 10 + 12) (by omega) (by omega) (cm_horse hX hl h6 hL hI K)
    · refine T_tin (off := 474) 514 dL_law_40 (by decide +kernel) (by decide +kernel) (by decide +kernel) (by decide) ?_
      exact T_room (bk2 := n * 130 + 0 + 2) (bn2 := n * 1400 + 0 + 12) (by omega) (by omega) (cm_log hX hl h6 hL hI K)
    · refine T_tin (off := 542) 582 dL_law_40 (by decide +kernel) (by decide +kernel) (by decide +kernel) (by decide) ?_
      exact T_room (bk2 := n * 130 + 0 + 2) (bn2 := n * 1400 + 0 + 12) (by omega) (by omega) (cm_needs hX hl h6 hL hI K)
    · refine T_tin (off := 610) 650 dL_law_40 (by decide +kernel) (by decide +kernel) (by decide +kernel) (by decide) ?_
      exact T_room (bk2 := n * 130 + 0 + 1) (bn2 := n * 1400 + 0 + 6) (by omega) (by omega) (cm_setWeather hX hl h6 hL hI K)
    · refine T_tin (off := 666) 706 dL_law_40 (by decide +kernel) (by decide +kernel) (by decide +kernel) (by decide) ?_
      exact T_room (bk2 := n * 130 + 0 + 2) (bn2 := n * 1400 + 0 + 12) (by omega) (by omega) (cm_forge hX hl h6 hL hI K)
    · refine T_tin (off := 734) 774 dL_law_40 (by decide +kernel) (by decide +kernel) (by decide +kernel) (by decide) ?_
      exact T_room (bk2 := n * 130 + 0 + 1) (bn2 := n * 1400 + 0 + 6) (by omega) (by omega) (cm_clear hX hl h6 hL hI K)
    · refine T_tin (off := 790) 830 dL_law_40 (by decide +kernel) (by decide +kernel) (by decide +kernel) (by decide) ?_
      exact T_room (bk2 := n * 130 + 0 + 1) (bn2 := n * 1400 + 0 + 6) (by omega) (by omega) (cm_pass hX hl h6 hL hI K)
    · refine T_tin (off := 846) 886 dL_law_40 (by decide +kernel) (by decide +kernel) (by decide +kernel) (by decide) ?_
      exact T_room (bk2 := n * 130 + 0 + 1) (bn2 := n * 1400 + 0 + 6) (by omega) (by omega) (cm_arrives hX hl h6 hL hI K)
    · refine T_tin (off := 902) 942 dL_law_40 (by decide +kernel) (by decide +kernel) (by decide +kernel) (by decide) ?_
      exact T_room (bk2 := n * 130 + 0 + 1) (bn2 := n * 1400 + 0 + 6) (by omega) (by omega) (cm_breaks hX hl h6 hL hI K)
    · refine T_tin (off := 958) 998 dL_law_40 (by decide +kernel) (by decide +kernel) (by decide +kernel) (by decide) ?_
      exact T_room (bk2 := n * 130 + 0 + 2) (bn2 := n * 1400 + 0 + 12) (by omega) (by omega) (cm_foresee hX hl h6 hL hI K)
    · refine T_tin (off := 1026) 1066 dL_law_40 (by decide +kernel) (by decide +kernel) (by decide +kernel) (by decide) ?_
      exact T_room (bk2 := n * 130 + 0 + 1) (bn2 := n * 1400 + 0 + 6) (by omega) (by omega) (cm_advise hX hl h6 hL hI K)
    · refine T_tin (off := 1082) 1122 dL_law_40 (by decide +kernel) (by decide +kernel) (by decide +kernel) (by decide) ?_
      exact T_room (bk2 := n * 130 + 0 + 1) (bn2 := n * 1400 + 0 + 6) (by omega) (by omega) (cm_choose hX hl h6 hL hI K)
    · refine T_tin (off := 1138) 1178 dL_law_40 (by decide +kernel) (by decide +kernel) (by decide +kernel) (by decide) ?_
      exact T_room (bk2 := n * 130 + 0 + 0) (bn2 := n * 1400 + 0 + 0) (by omega) (by omega) (cm_mean hX hl h6 hL hI K)
    · refine T_tin (off := 1179) 1219 dL_law_40 (by decide +kernel) (by decide +kernel) (by decide +kernel) (by decide) ?_
      exact T_room (bk2 := n * 130 + 113 + 13) (bn2 := n * 1400 + 969 + 78) (by omega) (by omega) (cm_digest hX hl h6 hL hI K)
set_option maxHeartbeats 4000000 in
theorem law_all {l : Launch} {D : va_G} {cA : Nat → ClassId} {n0 : Nat} {sg adK adV : Nat → Nat} {sgA smA wdA bS LS : Nat} {xs : Nat → Int32} (hX : SF n0 (XW0 sg adK adV sgA smA wdA n0 bS LS xs)) (hl : l.stackTraces = false) {nn : String} (hL : LS ≤ 3072) {τ : TY} {M : ME} : T l D cA n0 (XW0 sg adK adV sgA smA wdA n0 bS LS xs) (mLN nn) 2048 601024 7293034 n0 τ M 0 [.ref bS, UU, UU, UU, UU, UU, UU, UU, UU] [] (fun v _ _ _ => v = some (.int 1)) (fun _ _ _ _ => False) := by
  obtain ⟨a0, ea0⟩ : ∃ k : Nat, k = 513 * 130 := ⟨_, rfl⟩
  obtain ⟨b0, eb0⟩ : ∃ k : Nat, k = 513 * 1400 := ⟨_, rfl⟩
  obtain ⟨a1, ea1⟩ : ∃ k : Nat, k = a0 + 1 := ⟨_, rfl⟩
  obtain ⟨b1, eb1⟩ : ∃ k : Nat, k = b0 + 1 := ⟨_, rfl⟩
  obtain ⟨a2, ea2⟩ : ∃ k : Nat, k = a1 + 53 := ⟨_, rfl⟩
  obtain ⟨b2, eb2⟩ : ∃ k : Nat, k = b1 + 6467 := ⟨_, rfl⟩
  obtain ⟨a3, ea3⟩ : ∃ k : Nat, k = a2 + 1 := ⟨_, rfl⟩
  obtain ⟨b3, eb3⟩ : ∃ k : Nat, k = b2 + 15 := ⟨_, rfl⟩
  obtain ⟨a4, ea4⟩ : ∃ k : Nat, k = a3 + 143 := ⟨_, rfl⟩
  obtain ⟨b4, eb4⟩ : ∃ k : Nat, k = b3 + 6405 := ⟨_, rfl⟩
  refine T_room (bk2 := a4 + 1) (bn2 := b4 + 8) (by omega) (by omega) ?_
  refine n_8 (bk := a4) (bn := b4) rfl dL_law_0 rfl ?_
  refine T_nt (fun τ1 eτ => ?_)
  refine T_nm (fun M1 eM => ?_)
  refine T_dup dL_law_3 rfl rfl ?_
  refine T_room (bk2 := a3 + 143) (bn2 := b3 + 6405) (by omega) (by omega) ?_
  refine T_cI0 (bk := a3) (bn := b3) (c_X10_init hX (x := n0) (by rw [eτ]; exact tyN_s _ _ _) (by rw [eM]; exact meN_s _ _ _)) hX kL_66 (Nat.le_of_ble_eq_true rfl) (Nat.le_of_ble_eq_true rfl) dL_law_4 rfl ?_
  rintro _ _ τ2 M2 ⟨rfl, rfl, hC, -⟩
  clear eτ eM
  refine T_astore1 rfl (Nat.le_of_ble_eq_true rfl) dL_law_7 rfl ?_
  refine T_room (bk2 := a2 + 1) (bn2 := b2 + 15) (by omega) (by omega) ?_
  refine n_67 (bk := a2) (bn := b2) rfl dL_law_8 rfl ?_
  refine T_nt (fun τ3 eτ => ?_)
  refine T_nm (fun M3 eM => ?_)
  have hC := (hC.fr (M1 := M3) (fun q q1 q2 => by rw [eM]; exact meN_n (by omega))).tau (τ' := τ3) (fun q q1 q2 => by rw [eτ]; exact tyN_n (by omega))
  refine T_dup dL_law_11 rfl rfl ?_
  refine T_room (bk2 := a1 + 53) (bn2 := b1 + 6467) (by omega) (by omega) ?_
  refine T_cI0 (bk := a1) (bn := b1) (c_X13_init hX (m := n0 + 144) (by rw [eτ]; exact tyN_s _ _ _) (by rw [eM]; exact meN_s _ _ _)) hX kL_69 (Nat.le_of_ble_eq_true rfl) (Nat.le_of_ble_eq_true rfl) dL_law_12 rfl ?_
  rintro _ _ τ4 M4 ⟨rfl, rfl, ⟨ω, hM, -, hea⟩, hPV, ⟨ρ', hS, hBG⟩, hA, hfr⟩
  have hC := (hC.fr (M1 := M4) (fun q q1 q2 => (hfr q (by omega)).2)).tau (τ' := τ4) (fun q q1 q2 => (hfr q (by omega)).1)
  clear eτ eM hfr
  refine T_astore2 rfl (Nat.le_of_ble_eq_true rfl) dL_law_15 rfl ?_
  refine T_iconst (1) dL_law_16 rfl rfl ?_
  refine T_room (bk2 := a0 + 1) (bn2 := b0 + 1) (by omega) (by omega) ?_
  refine T_newa (atype := .long) (N := 1) (bk := a0) (bn := b0) 2 (fun _ => .long 0) warr_l (by decide) rfl rfl (by decide) rfl dL_law_17 rfl ?_
  refine T_nt (fun τ5 eτ => ?_)
  refine T_nm (fun M5 eM => ?_)
  have hT : ∀ q, q ≠ n0 + 144 + 54 → τ5 q = τ4 q := fun q hq => by rw [eτ]; exact tyN_n hq
  have hM9 : ∀ q, q ≠ n0 + 144 + 54 → M5 q = M4 q := fun q hq => by rw [eM]; exact meN_n hq
  refine T_astore3 rfl (Nat.le_of_ble_eq_true rfl) dL_law_19 rfl ?_
  refine T_iconst (0) dL_law_20 rfl rfl ?_
  refine T_istore4 rfl (Nat.le_of_ble_eq_true rfl) dL_law_21 rfl ?_
  have hW : WN τ4 M4 (n0 + 144) (n0 + 144 + 7) (n0 + 144 + 26) 0 0 0 0 0 0 (fun _ _ => 0) (fun _ _ => 0) (fun _ => 44) := ⟨⟨by decide, by decide, by decide, by decide, by decide, by decide⟩, hM.t_m, hM.g_y, by omega, by omega, _, _, _, _, _, hPV, fun _ _ _ q => absurd q (Nat.not_lt_zero _), fun _ _ _ q => absurd q (Nat.not_lt_zero _), fun _ q => absurd q (Nat.not_lt_zero _), fun _ q => absurd q (Nat.not_lt_zero _), fun _ q => absurd q (Nat.not_lt_zero _), fun _ q => absurd q (Nat.not_lt_zero _)⟩
  have hD : MD τ4 M4 (n0 + 144) (n0 + 144 + 7) 0 0 0 0 0 0 0 (fun _ _ => 0) (fun _ _ => 0) (fun _ => 44) (fun _ => 0) (-1) := ⟨_, _, _, ω, _, _, hM, hea, ⟨⟨by decide, by decide, by decide⟩, ρ', hS, fun f i q => by
    rcases q with ⟨rfl | rfl | rfl, rfl⟩ | ⟨-, q⟩ | ⟨-, q⟩ | ⟨-, q⟩
    · exact hBG.1
    · exact hBG.2.1
    · exact hBG.2.2.1
    · exact absurd q (Nat.not_lt_zero _)
    · exact absurd q (Nat.not_lt_zero _)
    · exact absurd q (Nat.not_lt_zero _)⟩, ⟨_, _, _, hA⟩, hW, Or.inl rfl⟩
  have hI : INV sg n0 (n0 + 144 + 54 + 1) τ5 M5 := INV.of ((hC.fr (fun q q1 q2 => hM9 q (by omega))).tau (fun q q1 q2 => hT q (by omega))) (hD.al (fun q hq => ⟨hT q (by omega), hM9 q (by omega)⟩)) (Nat.zero_le _) (fun _ => by decide) ⟨fun _ q => absurd q (Nat.not_lt_zero _), fun _ q => absurd q (Nat.not_lt_zero _)⟩ ⟨by decide, by decide, fun _ q => absurd q (Nat.not_lt_zero _), fun _ q => absurd q (Nat.not_lt_zero _)⟩ ⟨fun _ q => absurd q (Nat.not_lt_zero _), fun _ q => absurd q (Nat.not_lt_zero _)⟩ (by rw [eτ]; exact tyN_s _ _ _) (by omega) (by omega)
  rw [ea0, eb0]
  exact law_loop hX hl hL 513 0 _ _ _ (by omega) (by omega) hI
