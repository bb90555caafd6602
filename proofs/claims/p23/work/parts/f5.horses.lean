/-! the law's loop: something by hand; the rows; the horses before the hour -/
set_option maxHeartbeats 1000000 in
theorem PA_law {l : Launch} {D : va_G} {cA : Nat → ClassId} {n0 : Nat} {sg adK adV : Nat → Nat} {sgA smA wdA bS LS : Nat} {xs : Nat → Int32} (hX : SF n0 (XW0 sg adK adV sgA smA wdA n0 bS LS xs)) {sz : Nat} {τ : TY} (hl : l.stackTraces = false) {nn : String} {x r p r2 p2 hc wc sc j e s0 tb t : Nat} {A : Nat → Nat} {Rw : Nat → Nat → Nat} {cn : Nat → Nat} {π : RH} {ν : NU} {σ : Nat → Nat} {B : Nat → Nat} {fa W0 : Int32} {κ ω : Nat → Nat → Int32} {ρ : RH} {μ : Nat → Int32} (hd : e ≤ x ∨ x + 144 ≤ j) (hlo : x + 144 ≤ s0 ∧ e ≤ s0 ∧ j < e) (hok : CnOK cn) (hI : SI (cn 3) (cn 4) (cn 5) ρ) {bk bn : Nat} (hL : LS ≤ 260) (ht : t < 60) {M : ME} (hC : CS sg τ M x r p r2 p2 0 (cn 3) (cn 4) (cn 5) hc wc sc ρ ν π σ B fa) (hS : SM τ M M j e A Rw cn ρ μ κ ω) {y6 y7 y8 y9 y10 y11 y12 y13 y14 y15 y16 y17 y18 y19 y20 y21 y22 y23 y24 y25 y26 y27 y28 y29 y30 y31 y32 y33 : Value} (KK : ∀ (v : Int32) (M1 : ME) (ρ1 : RH), CS sg τ M1 x r p r2 p2 0 (cn 3) (cn 4) (cn 5) hc wc sc ρ1 ν π σ B fa → SM τ M1 M1 j e A Rw cn ρ1 μ κ ω → SI (cn 3) (cn 4) (cn 5) ρ1 → ρ1 6 0 = ρ 6 0 → (∀ i, ρ1 31 i = ρ 31 i) → T l D cA n0 (XW0 sg adK adV sgA smA wdA n0 bS LS xs) (mLN nn) 2048 bk bn sz τ M1 102 [.ref bS, .ref tb, .ref j, .ref x, .int W0, .int (nI t), .int v, y7, y8, y9, y10, y11, y12, y13, y14, y15, y16, y17, y18, y19, y20, y21, y22, y23, y24, y25, y26, y27, y28, y29, y30, y31, y32, y33] [] Q1L (fun _ _ _ _ => False)) : T l D cA n0 (XW0 sg adK adV sgA smA wdA n0 bS LS xs) (mLN nn) 2048 (bk + 2) (bn + 12) sz τ M 52 [.ref bS, .ref tb, .ref j, .ref x, .int W0, .int (nI t), y6, y7, y8, y9, y10, y11, y12, y13, y14, y15, y16, y17, y18, y19, y20, y21, y22, y23, y24, y25, y26, y27, y28, y29, y30, y31, y32, y33] [] Q1L (fun _ _ _ _ => False) := by
  unfold CnOK at hok
  refine T_aload0 dL_law_52 rfl ?_
  refine T_iload5 dL_law_53 rfl ?_
  refine T_bipush (16) dL_law_55 rfl rfl ?_
  refine T_irem dL_law_57 rfl (by decide) ?_
  rw [show nI t - nI t / 16 * 16 = nI (t % 16) from nI_mod (b := 16) (by omega) (by decide)]
  refine T_cS2 (mc' := 0) (ms' := 0) (c_L_cell hX hL (k := t % 16) (by omega)) hX kL_114 (Nat.le_of_ble_eq_true rfl) (Nat.le_of_ble_eq_true rfl) dL_law_58 rfl ?_
  rintro _ szq τq Mq ⟨rfl, ea, eb, ec⟩
  obtain rfl := ea.symm
  obtain rfl := eb.symm
  obtain rfl := ec.symm
  refine T_iload5 dL_law_61 rfl ?_
  refine T_bipush (16) dL_law_63 rfl rfl ?_
  refine T_idiv dL_law_65 rfl (by decide) ?_
  refine T_iconst (4) dL_law_66 rfl rfl ?_
  refine T_imul dL_law_67 rfl ?_
  refine T_ishr dL_law_68 rfl ?_
  refine T_bipush (47) dL_law_69 rfl rfl ?_
  refine T_iload5 dL_law_71 rfl ?_
  refine T_imul dL_law_73 rfl ?_
  refine T_iadd dL_law_74 rfl ?_
  refine T_top (fun v => ?_)
  refine T_istore6 rfl (Nat.le_of_ble_eq_true rfl) dL_law_75 rfl ?_
  refine T_iload6 dL_law_77 rfl ?_
  refine T_bipush (8) dL_law_79 rfl rfl ?_
  refine T_cS2 (mc' := 0) (ms' := 0) (c_L_below hX v (n := 8) (by decide)) hX kL_120 (Nat.le_of_ble_eq_true rfl) (Nat.le_of_ble_eq_true rfl) dL_law_81 rfl ?_
  rintro _ szq τq Mq ⟨rfl, ea, eb, ec⟩
  obtain rfl := ea.symm
  obtain rfl := eb.symm
  obtain rfl := ec.symm
  refine T_if_ne 102 87 dL_law_84 (by decide) rfl (fun c84 => ?_) (fun c84 => ?_)
  ·
    first | exact T_less (by omega) (by omega) (KK v _ _ hC hS hI rfl (fun _ => rfl)) | exact T_less (by omega) (by omega) (KK v _ _ hC1 hS1 hI1 h61 h31)
  ·
    refine T_aload3 dL_law_87 rfl ?_
    refine T_aload2 dL_law_88 rfl ?_
    refine T_iload6 dL_law_89 rfl ?_
    refine T_bipush (8) dL_law_91 rfl rfl ?_
    refine T_idiv dL_law_93 rfl (by decide) ?_
    refine T_less (bk1 := bk + 0 + 2) (bn1 := bn + 0 + 12) (by omega) (by omega) ?_
    refine T_cS3 (mc' := 2) (ms' := 12) (c_L_act hX hl hd hC hS hI) hX kL_214 (Nat.le_of_ble_eq_true rfl) (Nat.le_of_ble_eq_true rfl) dL_law_94 rfl ?_
    rintro _ szq τq M1 ⟨rfl, ea, eb, ρ1, hC1, hS1, hI1, h61, h31, -⟩
    obtain rfl := ea.symm
    obtain rfl := eb.symm
    refine T_if_ne_t 102 dL_law_97 (by decide) (by decide) ?_
    first | exact T_less (by omega) (by omega) (KK v _ _ hC hS hI rfl (fun _ => rfl)) | exact T_less (by omega) (by omega) (KK v _ _ hC1 hS1 hI1 h61 h31)
set_option maxHeartbeats 1000000 in
theorem PB_law {l : Launch} {D : va_G} {cA : Nat → ClassId} {n0 : Nat} {sg adK adV : Nat → Nat} {sgA smA wdA bS LS : Nat} {xs : Nat → Int32} (hX : SF n0 (XW0 sg adK adV sgA smA wdA n0 bS LS xs)) {sz : Nat} {τ : TY} (hl : l.stackTraces = false) {nn : String} {x r p r2 p2 hc wc sc j e s0 tb t : Nat} {A : Nat → Nat} {Rw : Nat → Nat → Nat} {cn : Nat → Nat} {π : RH} {ν : NU} {σ : Nat → Nat} {B : Nat → Nat} {fa W0 : Int32} {κ ω : Nat → Nat → Int32} {ρ : RH} {μ : Nat → Int32} (hd : e ≤ x ∨ x + 144 ≤ j) (hlo : x + 144 ≤ s0 ∧ e ≤ s0 ∧ j < e) (hok : CnOK cn) (hI : SI (cn 3) (cn 4) (cn 5) ρ) {bk bn : Nat} {v : Int32} {M : ME} (hC : CS sg τ M x r p r2 p2 0 (cn 3) (cn 4) (cn 5) hc wc sc ρ ν π σ B fa) (hS : SM τ M M j e A Rw cn ρ μ κ ω) {y7 y8 y9 y10 y11 y12 y13 y14 y15 y16 y17 y18 y19 y20 y21 y22 y23 y24 y25 y26 y27 y28 y29 y30 y31 y32 y33 : Value} (KK : ∀ (τ1 : TY) (M1 : ME), CS sg τ1 M1 x r p r2 p2 0 (cn 3) (cn 4) (cn 5) hc wc sc ρ ν π σ B fa → SM τ1 M1 M1 j e A Rw cn ρ μ κ ω → AFt τ1 s0 (cn 3) (cn 4) (cn 5) → AF M1 s0 (cn 3) (cn 4) (cn 5) ρ 0 0 0 0 → T l D cA n0 (XW0 sg adK adV sgA smA wdA n0 bS LS xs) (mLN nn) 2048 bk bn (s0 + 4 + cn 4 + cn 5) τ1 M1 157 [.ref bS, .ref tb, .ref j, .ref x, .int W0, .int (nI t), .int v, .int (nI (cn 4)), .int (nI (cn 3)), .int (nI (cn 5)), .ref s0, .ref (s0 + 1 + cn 4), .ref (s0 + 2 + cn 4 + cn 5), .ref (s0 + 3 + cn 4 + cn 5), .int (nI 0), y15, y16, y17, y18, y19, y20, y21, y22, y23, y24, y25, y26, y27, y28, y29, y30, y31, y32, y33] [] Q1L (fun _ _ _ _ => False)) : T l D cA n0 (XW0 sg adK adV sgA smA wdA n0 bS LS xs) (mLN nn) 2048 (bk + 30) (bn + 200) s0 τ M 102 [.ref bS, .ref tb, .ref j, .ref x, .int W0, .int (nI t), .int v, y7, y8, y9, y10, y11, y12, y13, y14, y15, y16, y17, y18, y19, y20, y21, y22, y23, y24, y25, y26, y27, y28, y29, y30, y31, y32, y33] [] Q1L (fun _ _ _ _ => False) := by
  unfold CnOK at hok
  refine T_aload3 dL_law_102 rfl ?_
  refine T_iconst (3) dL_law_103 rfl rfl ?_
  refine T_less (bk1 := bk + 29 + 1) (bn1 := bn + 194 + 6) (by omega) (by omega) ?_
  refine q_count hX hl hC (k := 3) (by decide) kL_211 (Nat.le_of_ble_eq_true rfl) (Nat.le_of_ble_eq_true rfl) dL_law_104 rfl ?_
  rw [show cntF (cn 3) (cn 4) (cn 5) 0 ρ 3 = nI (cn 4) from rfl]
  refine T_istore7 rfl (Nat.le_of_ble_eq_true rfl) dL_law_107 rfl ?_
  refine T_aload3 dL_law_109 rfl ?_
  refine T_iconst (2) dL_law_110 rfl rfl ?_
  refine T_less (bk1 := bk + 28 + 1) (bn1 := bn + 188 + 6) (by omega) (by omega) ?_
  refine q_count hX hl hC (k := 2) (by decide) kL_211 (Nat.le_of_ble_eq_true rfl) (Nat.le_of_ble_eq_true rfl) dL_law_111 rfl ?_
  rw [show cntF (cn 3) (cn 4) (cn 5) 0 ρ 2 = nI (cn 3) from rfl]
  refine T_istore8 rfl (Nat.le_of_ble_eq_true rfl) dL_law_114 rfl ?_
  refine T_aload3 dL_law_116 rfl ?_
  refine T_iconst (4) dL_law_117 rfl rfl ?_
  refine T_less (bk1 := bk + 27 + 1) (bn1 := bn + 182 + 6) (by omega) (by omega) ?_
  refine q_count hX hl hC (k := 4) (by decide) kL_211 (Nat.le_of_ble_eq_true rfl) (Nat.le_of_ble_eq_true rfl) dL_law_118 rfl ?_
  rw [show cntF (cn 3) (cn 4) (cn 5) 0 ρ 4 = nI (cn 5) from rfl]
  refine T_istore9 rfl (Nat.le_of_ble_eq_true rfl) dL_law_121 rfl ?_
  refine T_iload7 dL_law_123 rfl ?_
  refine T_bipush (10) dL_law_125 rfl rfl ?_
  refine T_less (bk1 := bk + 21 + (1 + cn 4)) (bn1 := bn + 127 + (cn 4 + cn 4 * 10)) (by omega) (by omega) ?_
  refine T_multi (n := cn 4) (k := 10) kcL_218 ka_int (fun _ _ h => h.2.2.2.2.2.2) (by omega) (by decide) dL_law_127 rfl ?_
  refine T_astore10 rfl (Nat.le_of_ble_eq_true rfl) dL_law_131 rfl ?_
  refine T_iload9 dL_law_133 rfl ?_
  refine T_iconst (4) dL_law_135 rfl rfl ?_
  refine T_less (bk1 := bk + 6 + (1 + cn 5)) (bn1 := bn + 57 + (cn 5 + cn 5 * 4)) (by omega) (by omega) ?_
  refine T_multi (n := cn 5) (k := 4) kcL_218 ka_int (fun _ _ h => h.2.2.2.2.2.2) (by omega) (by decide) dL_law_136 rfl ?_
  rw [show s0 + 1 + cn 4 + 1 + cn 5 = s0 + 2 + cn 4 + cn 5 by omega]
  refine T_astore11 rfl (Nat.le_of_ble_eq_true rfl) dL_law_140 rfl ?_
  refine T_iload8 dL_law_142 rfl ?_
  refine T_less (bk1 := bk + 5 + 1) (bn1 := bn + 51 + cn 3) (by omega) (by omega) ?_
  refine T_newa (atype := .int) (N := cn 3) 0 (fun _ => .int 0) ka_int (by decide) rfl rfl (by omega) rfl dL_law_144 rfl ?_
  rw [show s0 + 2 + cn 4 + cn 5 + 1 = s0 + 3 + cn 4 + cn 5 by omega]
  refine T_astore12 rfl (Nat.le_of_ble_eq_true rfl) dL_law_146 rfl ?_
  refine T_iload7 dL_law_148 rfl ?_
  refine T_less (bk1 := bk + 4 + 1) (bn1 := bn + 46 + cn 4) (by omega) (by omega) ?_
  refine T_newa (atype := .int) (N := cn 4) 0 (fun _ => .int 0) ka_int (by decide) rfl rfl (by omega) rfl dL_law_150 rfl ?_
  rw [show s0 + 3 + cn 4 + cn 5 + 1 = s0 + 4 + cn 4 + cn 5 by omega]
  refine T_astore13 rfl (Nat.le_of_ble_eq_true rfl) dL_law_152 rfl ?_
  refine T_iconst (0) dL_law_154 rfl rfl ?_
  refine T_istore14 rfl (Nat.le_of_ble_eq_true rfl) dL_law_155 rfl ?_
  refine T_nt (fun τ1 eτ => ?_)
  refine T_nm (fun M1 eM => ?_)
  have hT : ∀ q, q < s0 → τ1 q = τ q := fun q hq => by rw [eτ, tyN_n (by omega), tyN_n (by omega), tyM_o (by omega), tyM_o (by omega)]
  have hM : ∀ q, q < s0 → M1 q = M q := fun q hq => by rw [eM, meN_n (by omega), meN_n (by omega), meM_o (by omega), meM_o (by omega)]
  refine T_less (by omega) (by omega) (KK τ1 M1 ((hC.tau (τ' := τ1) (fun q g1 g2 => hT q (by omega))).fr (fun q g1 g2 => hM q (by omega))) ((hS.tau (τ' := τ1) (fun q g1 g2 => hT q (by omega))).fr (fun q g1 g2 => hM q (by omega))) ⟨?_, fun i hi => ?_, ?_, fun i hi => ?_, ?_, ?_⟩ ⟨⟨fun i hi => ?_, fun i hi => ?_⟩, fun i hi => absurd hi (Nat.not_lt_zero _), fun i hi => absurd hi (Nat.not_lt_zero _), fun i hi => absurd hi (Nat.not_lt_zero _), fun i hi => absurd hi (Nat.not_lt_zero _), by omega, by omega, by omega, by omega⟩)
  · rw [eτ, tyN_n (by omega), tyN_n (by omega), tyM_o (by omega), tyM_s]
  · rw [eτ, tyN_n (by omega), tyN_n (by omega), tyM_o (by omega), tyM_r hi]
  · rw [eτ, tyN_n (by omega), tyN_n (by omega), tyM_s]
  · rw [eτ, tyN_n (by omega), tyN_n (by omega), tyM_r hi]
  · rw [eτ, tyN_n (by omega), tyN_s]
  · rw [eτ, tyN_s]
  · rw [eM, meN_n (by omega), meN_n (by omega), meM_o (by omega), meM_s]
  · rw [eM, meN_n (by omega), meN_n (by omega), meM_s]
set_option maxHeartbeats 1000000 in
theorem IC1_law {l : Launch} {D : va_G} {cA : Nat → ClassId} {n0 : Nat} {sg adK adV : Nat → Nat} {sgA smA wdA bS LS : Nat} {xs : Nat → Int32} (hX : SF n0 (XW0 sg adK adV sgA smA wdA n0 bS LS xs)) (hl : l.stackTraces = false) {nn : String} {x r p r2 p2 hc wc sc j e s0 tb t : Nat} {A : Nat → Nat} {Rw : Nat → Nat → Nat} {cn : Nat → Nat} {π : RH} {ν : NU} {σ : Nat → Nat} {B : Nat → Nat} {fa W0 : Int32} {κ ω : Nat → Nat → Int32} {ρ : RH} {μ : Nat → Int32} (hd : e ≤ x ∨ x + 144 ≤ j) (hlo : x + 144 ≤ s0 ∧ e ≤ s0 ∧ j < e) (hok : CnOK cn) (hI : SI (cn 3) (cn 4) (cn 5) ρ) {bk bn : Nat} {τ : TY} {v : Int32} {h : Nat} (hh : h < cn 4) (hA : AFt τ s0 (cn 3) (cn 4) (cn 5)) {y16 y17 y18 y19 y20 y21 y22 y23 y24 y25 y26 y27 y28 y29 y30 y31 y32 y33 : Value} (KK : ∀ Mk : ME, CS sg τ Mk x r p r2 p2 0 (cn 3) (cn 4) (cn 5) hc wc sc ρ ν π σ B fa → SM τ Mk Mk j e A Rw cn ρ μ κ ω → AF Mk s0 (cn 3) (cn 4) (cn 5) ρ h h 0 0 → (∀ i, i < 10 → Mk (s0 + 1 + h) i = .int (hsF (cn 5) ρ h i)) → T l D cA n0 (XW0 sg adK adV sgA smA wdA n0 bS LS xs) (mLN nn) 2048 bk bn (s0 + 4 + cn 4 + cn 5) τ Mk 196 [.ref bS, .ref tb, .ref j, .ref x, .int W0, .int (nI t), .int v, .int (nI (cn 4)), .int (nI (cn 3)), .int (nI (cn 5)), .ref s0, .ref (s0 + 1 + cn 4), .ref (s0 + 2 + cn 4 + cn 5), .ref (s0 + 3 + cn 4 + cn 5), .int (nI h), .int (nI 10), y16, y17, y18, y19, y20, y21, y22, y23, y24, y25, y26, y27, y28, y29, y30, y31, y32, y33] [] Q1L (fun _ _ _ _ => False)) : ∀ (n : Nat) (k : Nat) (Mk : ME) (hk : k ≤ 10) (hC : CS sg τ Mk x r p r2 p2 0 (cn 3) (cn 4) (cn 5) hc wc sc ρ ν π σ B fa) (hS : SM τ Mk Mk j e A Rw cn ρ μ κ ω) (hF : AF Mk s0 (cn 3) (cn 4) (cn 5) ρ h h 0 0) (hr : ∀ i, i < k → Mk (s0 + 1 + h) i = .int (hsF (cn 5) ρ h i)), 10 - k < n → T l D cA n0 (XW0 sg adK adV sgA smA wdA n0 bS LS xs) (mLN nn) 2048 (bk + 2 * (10 - k)) (bn + 12 * (10 - k)) (s0 + 4 + cn 4 + cn 5) τ Mk 167 [.ref bS, .ref tb, .ref j, .ref x, .int W0, .int (nI t), .int v, .int (nI (cn 4)), .int (nI (cn 3)), .int (nI (cn 5)), .ref s0, .ref (s0 + 1 + cn 4), .ref (s0 + 2 + cn 4 + cn 5), .ref (s0 + 3 + cn 4 + cn 5), .int (nI h), .int (nI k), y16, y17, y18, y19, y20, y21, y22, y23, y24, y25, y26, y27, y28, y29, y30, y31, y32, y33] [] (Q1L) (fun _ _ _ _ => False) := by
  intro n
  induction n with
  | zero => intros; omega
  | succ n ih =>
    intro k Mk hk hC hS hF hr hn
    unfold CnOK at hok
    refine T_iload15 dL_law_167 rfl ?_
    refine T_bipush (10) dL_law_169 rfl rfl ?_
    refine T_icmp_ge 196 174 dL_law_171 (by decide) rfl (fun c9 => ?_) (fun c9 => ?_)
    ·
      have c9 := (nI_leI (a := 10) (by omega) (by omega)).mp c9
      have hk9 : k = 10 := by omega
      subst hk9
      exact T_less (by omega) (by omega) (KK _ hC hS hF hr)
    ·
      have c9 : k < 10 := Nat.lt_of_not_le (fun q => c9 ((nI_leI (a := 10) (by omega) (by omega)).mpr q))
      refine T_aload10 dL_law_174 rfl ?_
      refine T_iload14 dL_law_176 rfl ?_
      refine T_aaldA h hA.1 rfl hh (by omega) dL_law_178 rfl (hF.ph hh) ?_
      refine T_iload15 dL_law_179 rfl ?_
      refine T_aload3 dL_law_181 rfl ?_
      refine T_iload14 dL_law_182 rfl ?_
      refine T_iload15 dL_law_184 rfl ?_
      refine T_less (bk1 := bk + 2 * (10 - (k + 1)) + 2) (bn1 := bn + 12 * (10 - (k + 1)) + 12) (by omega) (by omega) ?_
      refine q_horse hX hl hC hI.2.2.2.2.2 hh c9 kL_219 (Nat.le_of_ble_eq_true rfl) (Nat.le_of_ble_eq_true rfl) dL_law_186 rfl ?_
      refine T_iast k (hA.2.1 h hh) rfl c9 (by decide) dL_law_189 rfl ?_
      refine T_nm (fun M1 e1 => ?_)
      have hC := hC.fr (M1 := M1) (fun q g1 g2 => by rw [e1]; exact up_a (by omega))
      have hS := hS.fr (M1 := M1) (fun q g1 g2 => by rw [e1]; exact up_a (by omega))
      first | refine T_iinc15 rfl (Nat.le_of_ble_eq_true rfl) dL_law_190 rfl (inc1 _) ?_ | refine T_iinc15 rfl (Nat.le_of_ble_eq_true rfl) dL_law_190 rfl rfl ?_
      refine T_goto 167 dL_law_193 (by decide) ?_
      refine ih (k + 1) _ (by omega) hC hS (by rw [e1]; exact hF.upH (Nat.le_refl _) hh) (fun i hi => ?_) (by omega)
      rw [e1]
      by_cases z : i = k
      · subst z; rw [up_s]
      · rw [up_k z]; exact hr i (by omega)
set_option maxHeartbeats 1000000 in
theorem IC_law {l : Launch} {D : va_G} {cA : Nat → ClassId} {n0 : Nat} {sg adK adV : Nat → Nat} {sgA smA wdA bS LS : Nat} {xs : Nat → Int32} (hX : SF n0 (XW0 sg adK adV sgA smA wdA n0 bS LS xs)) (hl : l.stackTraces = false) {nn : String} {x r p r2 p2 hc wc sc j e s0 tb t : Nat} {A : Nat → Nat} {Rw : Nat → Nat → Nat} {cn : Nat → Nat} {π : RH} {ν : NU} {σ : Nat → Nat} {B : Nat → Nat} {fa W0 : Int32} {κ ω : Nat → Nat → Int32} {ρ : RH} {μ : Nat → Int32} (hd : e ≤ x ∨ x + 144 ≤ j) (hlo : x + 144 ≤ s0 ∧ e ≤ s0 ∧ j < e) (hok : CnOK cn) (hI : SI (cn 3) (cn 4) (cn 5) ρ) {bk bn : Nat} {τ : TY} {v : Int32} (hA : AFt τ s0 (cn 3) (cn 4) (cn 5)) {y16 y17 y18 y19 y20 y21 y22 y23 y24 y25 y26 y27 y28 y29 y30 y31 y32 y33 : Value} (KK : ∀ (Mk : ME) (y15 : Value), CS sg τ Mk x r p r2 p2 0 (cn 3) (cn 4) (cn 5) hc wc sc ρ ν π σ B fa → SM τ Mk Mk j e A Rw cn ρ μ κ ω → AF Mk s0 (cn 3) (cn 4) (cn 5) ρ (cn 4) (cn 4) 0 0 → T l D cA n0 (XW0 sg adK adV sgA smA wdA n0 bS LS xs) (mLN nn) 2048 bk bn (s0 + 4 + cn 4 + cn 5) τ Mk 378 [.ref bS, .ref tb, .ref j, .ref x, .int W0, .int (nI t), .int v, .int (nI (cn 4)), .int (nI (cn 3)), .int (nI (cn 5)), .ref s0, .ref (s0 + 1 + cn 4), .ref (s0 + 2 + cn 4 + cn 5), .ref (s0 + 3 + cn 4 + cn 5), .int (nI (cn 4)), y15, y16, y17, y18, y19, y20, y21, y22, y23, y24, y25, y26, y27, y28, y29, y30, y31, y32, y33] [] Q1L (fun _ _ _ _ => False)) : ∀ (n : Nat) (h : Nat) (Mk : ME) (y15 : Value) (hh : h ≤ cn 4) (hC : CS sg τ Mk x r p r2 p2 0 (cn 3) (cn 4) (cn 5) hc wc sc ρ ν π σ B fa) (hS : SM τ Mk Mk j e A Rw cn ρ μ κ ω) (hF : AF Mk s0 (cn 3) (cn 4) (cn 5) ρ h h 0 0), cn 4 - h < n → T l D cA n0 (XW0 sg adK adV sgA smA wdA n0 bS LS xs) (mLN nn) 2048 (bk + 24 * (cn 4 - h)) (bn + 144 * (cn 4 - h)) (s0 + 4 + cn 4 + cn 5) τ Mk 157 [.ref bS, .ref tb, .ref j, .ref x, .int W0, .int (nI t), .int v, .int (nI (cn 4)), .int (nI (cn 3)), .int (nI (cn 5)), .ref s0, .ref (s0 + 1 + cn 4), .ref (s0 + 2 + cn 4 + cn 5), .ref (s0 + 3 + cn 4 + cn 5), .int (nI h), y15, y16, y17, y18, y19, y20, y21, y22, y23, y24, y25, y26, y27, y28, y29, y30, y31, y32, y33] [] (Q1L) (fun _ _ _ _ => False) := by
  intro n
  induction n with
  | zero => intros; omega
  | succ n ih =>
    intro h Mk y15 hh hC hS hF hn
    unfold CnOK at hok
    refine T_iload14 dL_law_157 rfl ?_
    refine T_iload7 dL_law_159 rfl ?_
    refine T_icmp_ge 378 164 dL_law_161 (by decide) rfl (fun c9 => ?_) (fun c9 => ?_)
    ·
      have c9 := le_out rfl c9
      have hk9 : h = cn 4 := by omega
      subst hk9
      exact T_less (by omega) (by omega) (KK _ _ hC hS hF)
    ·
      have c9 := lt_in rfl c9
      have hb := hI.hb c9
      refine T_iconst (0) dL_law_164 rfl rfl ?_
      refine T_istore15 rfl (Nat.le_of_ble_eq_true rfl) dL_law_165 rfl ?_
      refine T_less (bk1 := bk + 24 * (cn 4 - (h + 1)) + 4 + 2 * (10 - 0)) (bn1 := bn + 144 * (cn 4 - (h + 1)) + 24 + 12 * (10 - 0)) (by omega) (by omega) ?_
      refine IC1_law hX hl hd hlo hok hI c9 hA (fun M2 hC hS hF hr => ?_) 11 0 Mk (by decide) hC hS hF (fun i hi => absurd hi (Nat.not_lt_zero _)) (by decide)
      refine T_aload10 dL_law_196 rfl ?_
      refine T_iload14 dL_law_198 rfl ?_
      refine T_aaldA h hA.1 rfl c9 (by omega) dL_law_200 rfl (hF.ph c9) ?_
      refine T_astore15 rfl (Nat.le_of_ble_eq_true rfl) dL_law_201 rfl ?_
      refine T_aload13 dL_law_203 rfl ?_
      refine T_iload14 dL_law_205 rfl ?_
      refine T_jI 235 (bk2 := bk + 24 * (cn 4 - (h + 1)) + 2) (bn2 := bn + 144 * (cn 4 - (h + 1)) + 12) (fun y => y = nvF (cn 5) ρ h) (fun hJ => ?_) (fun x235 hx235 => ?_)
      ·
        refine T_aload15 dL_law_207 rfl ?_
        refine T_iconst (4) dL_law_209 rfl rfl ?_
        refine T_iald 4 (hA.2.1 h c9) rfl (by decide) (by decide) dL_law_210 rfl (show _ = Value.int (ρ 15 h) from hr 4 (by decide)) ?_
        refine T_if_lt 221 214 dL_law_211 (by decide) rfl (fun c211 => ?_) (fun c211 => ?_)
        ·
          refine T_iconst (0) dL_law_221 rfl rfl ?_
          refine T_goto 235 dL_law_222 (by decide) ?_
          refine T_less (bk1 := bk + 24 * (cn 4 - (h + 1)) + 2) (bn1 := bn + 144 * (cn 4 - (h + 1)) + 12) (by omega) (by omega) ?_
          refine hJ _ ?_
          unfold nvF
          first
            | (rw [if_pos c211]; done)
            | (rw [if_neg c211, if_pos c218]; done)
            | (rw [ht2, if_neg (nI_nneg (by omega)), if_neg c218, nI_cl (by omega)]; done)
        ·
          refine T_aload15 dL_law_214 rfl ?_
          refine T_iconst (5) dL_law_216 rfl rfl ?_
          refine T_iald 5 (hA.2.1 h c9) rfl (by decide) (by decide) dL_law_217 rfl (show _ = Value.int (ρ 16 h) from hr 5 (by decide)) ?_
          refine T_if_ne 225 221 dL_law_218 (by decide) rfl (fun c218 => ?_) (fun c218 => ?_)
          ·
            refine T_aload3 dL_law_225 rfl ?_
            refine T_iload14 dL_law_226 rfl ?_
            refine T_aload15 dL_law_228 rfl ?_
            refine T_iconst (4) dL_law_230 rfl rfl ?_
            refine T_iald 4 (hA.2.1 h c9) rfl (by decide) (by decide) dL_law_231 rfl (show _ = Value.int (ρ 15 h) from hr 4 (by decide)) ?_
            obtain ⟨-, tt, ht1, ht2, -⟩ := hb.2.2.2.1 (Int32.not_lt.mp c211)
            rw [ht2]
            refine T_less (bk1 := bk + 24 * (cn 4 - (h + 1)) + 2 + 2) (bn1 := bn + 144 * (cn 4 - (h + 1)) + 12 + 12) (by omega) (by omega) ?_
            refine q_needs hX hl hC c9 ht1 kL_221 (Nat.le_of_ble_eq_true rfl) (Nat.le_of_ble_eq_true rfl) dL_law_232 rfl ?_
            refine T_less (bk1 := bk + 24 * (cn 4 - (h + 1)) + 2) (bn1 := bn + 144 * (cn 4 - (h + 1)) + 12) (by omega) (by omega) ?_
            refine hJ _ ?_
            unfold nvF
            first
              | (rw [if_pos c211]; done)
              | (rw [if_neg c211, if_pos c218]; done)
              | (rw [ht2, if_neg (nI_nneg (by omega)), if_neg c218, nI_cl (by omega)]; done)
          ·
            refine T_iconst (0) dL_law_221 rfl rfl ?_
            refine T_goto 235 dL_law_222 (by decide) ?_
            refine T_less (bk1 := bk + 24 * (cn 4 - (h + 1)) + 2) (bn1 := bn + 144 * (cn 4 - (h + 1)) + 12) (by omega) (by omega) ?_
            refine hJ _ ?_
            unfold nvF
            first
              | (rw [if_pos c211]; done)
              | (rw [if_neg c211, if_pos c218]; done)
              | (rw [ht2, if_neg (nI_nneg (by omega)), if_neg c218, nI_cl (by omega)]; done)
      ·
        subst hx235
        refine T_iast h hA.2.2.2.2.2 rfl c9 (by omega) dL_law_235 rfl ?_
        refine T_nm (fun M3 e3 => ?_)
        have hC := hC.fr (M1 := M3) (fun q g1 g2 => by rw [e3]; exact up_a (by omega))
        have hS := hS.fr (M1 := M3) (fun q g1 g2 => by rw [e3]; exact up_a (by omega))
        have hF : AF M3 s0 (cn 3) (cn 4) (cn 5) ρ h (h + 1) 0 0 := by rw [e3]; exact hF.upN c9
        have hr : ∀ i, i < 10 → M3 (s0 + 1 + h) i = .int (hsF (cn 5) ρ h i) := fun i hi => by rw [e3, up_a (by omega)]; exact hr i hi
        refine T_aload15 dL_law_236 rfl ?_
        refine T_iconst (4) dL_law_238 rfl rfl ?_
        refine T_iald 4 (hA.2.1 h c9) rfl (by decide) (by decide) dL_law_239 rfl (show _ = Value.int (ρ 15 h) from hr 4 (by decide)) ?_
        refine T_iconst (-1) dL_law_240 rfl rfl ?_
        refine T_icmp_lt_f 370 244 dL_law_241 (by decide) rfl hb.1 ?_
        refine T_aload15 dL_law_244 rfl ?_
        refine T_iconst (4) dL_law_246 rfl rfl ?_
        refine T_iald 4 (hA.2.1 h c9) rfl (by decide) (by decide) dL_law_247 rfl (show _ = Value.int (ρ 15 h) from hr 4 (by decide)) ?_
        refine T_iload8 dL_law_248 rfl ?_
        refine T_icmp_ge_f 370 253 dL_law_250 (by decide) rfl (Int32.not_le.mpr hb.2.1) ?_
        refine T_jN 275 (bk2 := bk + 24 * (cn 4 - (h + 1)) + 2) (bn2 := bn + 144 * (cn 4 - (h + 1)) + 12) (fun hJ => ?_) ?_
        ·
          refine T_aload15 dL_law_253 rfl ?_
          refine T_iconst (4) dL_law_255 rfl rfl ?_
          refine T_iald 4 (hA.2.1 h c9) rfl (by decide) (by decide) dL_law_256 rfl (show _ = Value.int (ρ 15 h) from hr 4 (by decide)) ?_
          refine T_if_ge 275 260 dL_law_257 (by decide) rfl (fun c257 => ?_) (fun c257 => ?_)
          ·
            refine T_less (bk1 := bk + 24 * (cn 4 - (h + 1)) + 2) (bn1 := bn + 144 * (cn 4 - (h + 1)) + 12) (by omega) (by omega) ?_
            exact hJ
          ·
            refine T_aload15 dL_law_260 rfl ?_
            refine T_iconst (5) dL_law_262 rfl rfl ?_
            refine T_iald 5 (hA.2.1 h c9) rfl (by decide) (by decide) dL_law_263 rfl (show _ = Value.int (ρ 16 h) from hr 5 (by decide)) ?_
            refine T_if_ne_f 370 267 dL_law_264 (by decide) rfl (hb.2.2.1 (Int32.not_le.mp c257)).1 ?_
            refine T_aload15 dL_law_267 rfl ?_
            refine T_bipush (6) dL_law_269 rfl rfl ?_
            refine T_iald 6 (hA.2.1 h c9) rfl (by decide) (by decide) dL_law_271 rfl (show _ = Value.int (ρ 17 h) from hr 6 (by decide)) ?_
            refine T_if_ne_f 370 275 dL_law_272 (by decide) rfl (hb.2.2.1 (Int32.not_le.mp c257)).2 ?_
            refine T_less (bk1 := bk + 24 * (cn 4 - (h + 1)) + 2) (bn1 := bn + 144 * (cn 4 - (h + 1)) + 12) (by omega) (by omega) ?_
            exact hJ
        ·
          refine T_jN 307 (bk2 := bk + 24 * (cn 4 - (h + 1)) + 0) (bn2 := bn + 144 * (cn 4 - (h + 1)) + 0) (fun hJ => ?_) ?_
          ·
            refine T_aload15 dL_law_275 rfl ?_
            refine T_iconst (4) dL_law_277 rfl rfl ?_
            refine T_iald 4 (hA.2.1 h c9) rfl (by decide) (by decide) dL_law_278 rfl (show _ = Value.int (ρ 15 h) from hr 4 (by decide)) ?_
            refine T_if_lt 307 282 dL_law_279 (by decide) rfl (fun c279 => ?_) (fun c279 => ?_)
            ·
              refine T_less (bk1 := bk + 24 * (cn 4 - (h + 1)) + 0) (bn1 := bn + 144 * (cn 4 - (h + 1)) + 0) (by omega) (by omega) ?_
              exact hJ
            ·
              refine T_aload15 dL_law_282 rfl ?_
              refine T_bipush (6) dL_law_284 rfl rfl ?_
              refine T_iald 6 (hA.2.1 h c9) rfl (by decide) (by decide) dL_law_286 rfl (show _ = Value.int (ρ 17 h) from hr 6 (by decide)) ?_
              refine T_if_lt_f 370 290 dL_law_287 (by decide) rfl (Int32.not_lt.mpr (hb.2.2.2.1 (Int32.not_lt.mp c279)).1) ?_
              refine T_aload15 dL_law_290 rfl ?_
              refine T_bipush (6) dL_law_292 rfl rfl ?_
              refine T_iald 6 (hA.2.1 h c9) rfl (by decide) (by decide) dL_law_294 rfl (show _ = Value.int (ρ 17 h) from hr 6 (by decide)) ?_
              refine T_aload3 dL_law_295 rfl ?_
              refine T_aload15 dL_law_296 rfl ?_
              refine T_iconst (4) dL_law_298 rfl rfl ?_
              refine T_iald 4 (hA.2.1 h c9) rfl (by decide) (by decide) dL_law_299 rfl (show _ = Value.int (ρ 15 h) from hr 4 (by decide)) ?_
              obtain ⟨-, tt, ht1, ht2, ht3⟩ := hb.2.2.2.1 (Int32.not_lt.mp c279)
              rw [ht2]
              refine T_iconst (0) dL_law_300 rfl rfl ?_
              refine T_less (bk1 := bk + 24 * (cn 4 - (h + 1)) + 0 + 2) (bn1 := bn + 144 * (cn 4 - (h + 1)) + 0 + 12) (by omega) (by omega) ?_
              refine q_stretch hX hl hC (h := tt) (k := 0) ht1 (by decide) kL_224 (Nat.le_of_ble_eq_true rfl) (Nat.le_of_ble_eq_true rfl) dL_law_301 rfl ?_
              rw [show stF (cn 4) (cn 5) ρ tt 0 = ρ 41 tt from rfl]
              refine T_icmp_ge_f 370 307 dL_law_304 (by decide) rfl (Int32.not_le.mpr ht3) ?_
              refine T_less (bk1 := bk + 24 * (cn 4 - (h + 1)) + 0) (bn1 := bn + 144 * (cn 4 - (h + 1)) + 0) (by omega) (by omega) ?_
              exact hJ
          ·
            refine T_jI 320 (bk2 := bk + 24 * (cn 4 - (h + 1)) + 0) (bn2 := bn + 144 * (cn 4 - (h + 1)) + 0) (fun y => y = if 0 < ldOf (cn 5) ρ (nI h) then 1 else 0) (fun hJ => ?_) (fun x320 hx320 => ?_)
            ·
              refine T_aload15 dL_law_307 rfl ?_
              refine T_bipush (7) dL_law_309 rfl rfl ?_
              refine T_iald 7 (hA.2.1 h c9) rfl (by decide) (by decide) dL_law_311 rfl (show _ = Value.int (ldOf (cn 5) ρ (nI h)) from hr 7 (by decide)) ?_
              refine T_if_le 319 315 dL_law_312 (by decide) rfl (fun c312 => ?_) (fun c312 => ?_)
              ·
                refine T_iconst (0) dL_law_319 rfl rfl ?_
                refine T_less (bk1 := bk + 24 * (cn 4 - (h + 1)) + 0) (bn1 := bn + 144 * (cn 4 - (h + 1)) + 0) (by omega) (by omega) ?_
                refine hJ _ ?_
                first | exact (if_pos (Int32.not_le.mp c312)).symm | exact (if_neg (Int32.not_lt.mpr c312)).symm
              ·
                refine T_iconst (1) dL_law_315 rfl rfl ?_
                refine T_goto 320 dL_law_316 (by decide) ?_
                refine T_less (bk1 := bk + 24 * (cn 4 - (h + 1)) + 0) (bn1 := bn + 144 * (cn 4 - (h + 1)) + 0) (by omega) (by omega) ?_
                refine hJ _ ?_
                first | exact (if_pos (Int32.not_le.mp c312)).symm | exact (if_neg (Int32.not_lt.mpr c312)).symm
            ·
              refine T_jI 333 (bk2 := bk + 24 * (cn 4 - (h + 1)) + 0) (bn2 := bn + 144 * (cn 4 - (h + 1)) + 0) (fun y => y = if ρ 16 h = 1 then 1 else 0) (fun hJ => ?_) (fun x333 hx333 => ?_)
              ·
                refine T_aload15 dL_law_320 rfl ?_
                refine T_iconst (5) dL_law_322 rfl rfl ?_
                refine T_iald 5 (hA.2.1 h c9) rfl (by decide) (by decide) dL_law_323 rfl (show _ = Value.int (ρ 16 h) from hr 5 (by decide)) ?_
                refine T_iconst (1) dL_law_324 rfl rfl ?_
                refine T_icmp_ne 332 328 dL_law_325 (by decide) rfl (fun c325 => ?_) (fun c325 => ?_)
                ·
                  refine T_iconst (0) dL_law_332 rfl rfl ?_
                  refine T_less (bk1 := bk + 24 * (cn 4 - (h + 1)) + 0) (bn1 := bn + 144 * (cn 4 - (h + 1)) + 0) (by omega) (by omega) ?_
                  refine hJ _ ?_
                  first | exact (if_pos c325).symm | exact (if_neg c325).symm
                ·
                  refine T_iconst (1) dL_law_328 rfl rfl ?_
                  refine T_goto 333 dL_law_329 (by decide) ?_
                  refine T_less (bk1 := bk + 24 * (cn 4 - (h + 1)) + 0) (bn1 := bn + 144 * (cn 4 - (h + 1)) + 0) (by omega) (by omega) ?_
                  refine hJ _ ?_
                  first | exact (if_pos c325).symm | exact (if_neg c325).symm
              ·
                refine T_icmp_ne_f 370 336 dL_law_333 (by decide) rfl (by rw [hx320, hx333]; exact ifc hb.2.2.2.2.1) ?_
                refine T_aload15 dL_law_336 rfl ?_
                refine T_bipush (8) dL_law_338 rfl rfl ?_
                refine T_iald 8 (hA.2.1 h c9) rfl (by decide) (by decide) dL_law_340 rfl (show _ = Value.int (ρ 18 h) from hr 8 (by decide)) ?_
                refine T_if_lt_f 370 344 dL_law_341 (by decide) rfl (Int32.not_lt.mpr hb.2.2.2.2.2.1.1) ?_
                refine T_aload15 dL_law_344 rfl ?_
                refine T_bipush (8) dL_law_346 rfl rfl ?_
                refine T_iald 8 (hA.2.1 h c9) rfl (by decide) (by decide) dL_law_348 rfl (show _ = Value.int (ρ 18 h) from hr 8 (by decide)) ?_
                refine T_bipush (60) dL_law_349 rfl rfl ?_
                refine T_icmp_gt_f 370 354 dL_law_351 (by decide) rfl (Int32.not_lt.mpr hb.2.2.2.2.2.1.2) ?_
                refine T_aload15 dL_law_354 rfl ?_
                refine T_iconst (1) dL_law_356 rfl rfl ?_
                refine T_iald 1 (hA.2.1 h c9) rfl (by decide) (by decide) dL_law_357 rfl (show _ = Value.int (ρ 12 h) from hr 1 (by decide)) ?_
                refine T_if_lt_f 370 361 dL_law_358 (by decide) rfl (Int32.not_lt.mpr hb.2.2.2.2.2.2.1) ?_
                refine T_aload15 dL_law_361 rfl ?_
                refine T_iconst (1) dL_law_363 rfl rfl ?_
                refine T_iald 1 (hA.2.1 h c9) rfl (by decide) (by decide) dL_law_364 rfl (show _ = Value.int (ρ 12 h) from hr 1 (by decide)) ?_
                refine T_bipush (9) dL_law_365 rfl rfl ?_
                refine T_icmp_le_t 372 dL_law_367 (by decide) hb.2.2.2.2.2.2.2 ?_
                first | refine T_iinc14 rfl (Nat.le_of_ble_eq_true rfl) dL_law_372 rfl (inc1 _) ?_ | refine T_iinc14 rfl (Nat.le_of_ble_eq_true rfl) dL_law_372 rfl rfl ?_
                refine T_goto 157 dL_law_375 (by decide) ?_
                exact T_less (by omega) (by omega) (ih (h + 1) _ _ (by omega) hC hS (hF.addH c9 hr) (by omega))
