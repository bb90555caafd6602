/-- behind a question: only `thrown` is set -/
def TH (τ : TY) (M : ME) (m sz sz' : Nat) (τ' : TY) (M' : ME) (th : Int32) : Prop := sz ≤ sz' ∧ sz' ≤ sz + 1 ∧ (∀ q, q < sz → τ' q = τ q) ∧ (∀ q, q < sz → q ≠ m → M' q = M q) ∧ (∀ k, k ≠ 0 → M' m k = M m k) ∧ M' m 0 = .int th
theorem TH.a {τ τ' : TY} {M M1 M9 : ME} {m sz : Nat} {th : Int32} (e : M1 = up M m 0 (.int th)) (hm : m < sz) (hT : ∀ q, q < sz → τ' q = τ q) (hK : ∀ q, q < sz → M9 q = M1 q) : TH τ M m sz (sz + 1) τ' M9 th :=
  ⟨Nat.le_succ _, Nat.le_refl _, hT, fun q hq hm2 => by rw [hK q hq, e, up_a hm2], fun k hk => by rw [hK m hm, e, up_k hk], by rw [hK m hm, e, up_s]⟩
theorem TH.b {τ : TY} {M M1 : ME} {m sz : Nat} {th : Int32} (e : M1 = up M m 0 (.int th)) : TH τ M m sz sz τ M1 th :=
  ⟨Nat.le_refl _, Nat.le_succ _, fun _ _ => rfl, fun q hq hm2 => by rw [e, up_a hm2], fun k hk => by rw [e, up_k hk], by rw [e, up_s]⟩
theorem TH.c {τ : TY} {M M1 M2 : ME} {m sz : Nat} {t0 th : Int32} (e : M1 = up M m 0 (.int t0)) (e2 : M2 = up M1 m 0 (.int th)) : TH τ M m sz sz τ M2 th :=
  ⟨Nat.le_refl _, Nat.le_succ _, fun _ _ => rfl, fun q hq hm2 => by rw [e2, up_a hm2, e, up_a hm2], fun k hk => by rw [e2, up_k hk, e, up_k hk], by rw [e2, up_s]⟩
theorem ii_nI {x : Int32} {n : Nat} (hn : n ≤ 1000) (h : ¬ iiF x 0 (nI n) = 0) : ∃ j, j ≤ n ∧ x = nI j := by
  have h2 : 0 ≤ x ∧ x ≤ nI n := Decidable.byContradiction fun q => h (if_neg q)
  exact nI_of2 (nI_toInt (by omega)) (Int32.not_lt.mpr h2.1) h2.2
theorem has_nI {x : Int32} {n : Nat} (hn : n ≤ 1000) (h : ¬ hasI x (nI n) = 0) : ∃ j, j < n ∧ x = nI j := by
  have h2 : 0 ≤ x ∧ x < nI n := Decidable.byContradiction fun q => h (if_neg q)
  obtain ⟨j, hj, rfl⟩ := nI_of (Int32.not_lt.mpr h2.1)
  refine ⟨j, Nat.lt_of_not_le (fun q => Int32.not_le.mpr h2.2 ((nI_leI (by omega) hj).mpr q)), rfl⟩
theorem hsN (ρ : RH) : ∀ k, sm (fun h => if ρ 15 h = -1 then 0 else 1) k = nI k - sm (fun h => if ρ 15 h = -1 then 1 else 0) k
  | 0 => by show (0 : Int32) = nI 0 - 0; decide
  | k + 1 => by
    have h1 : ∀ x : Int32, 1 + (x - 1) = x := fun x => by
      rw [Int32.sub_eq_add_neg, ← Int32.add_assoc, Int32.add_comm 1 x, Int32.add_assoc]; exact Int32.add_zero x
    rw [sm, sm, hsN ρ k, ← nI_1 k]
    split
    · rw [Int32.add_zero, Int32.sub_eq_add_neg, Int32.sub_eq_add_neg, Int32.neg_add, Int32.add_assoc, h1]
    · rw [Int32.add_zero, Int32.sub_eq_add_neg, Int32.sub_eq_add_neg, Int32.add_assoc, Int32.add_assoc, Int32.add_comm 1]
set_option maxHeartbeats 1000000 in
theorem c_X13_no {l : Launch} {D : va_G} {cA : Nat → ClassId} {n0 : Nat} {sg adK adV : Nat → Nat} {sgA smA wdA bS LS : Nat} {xs : Nat → Int32} (hX : SF n0 (XW0 sg adK adV sgA smA wdA n0 bS LS xs)) {sz : Nat} {τ : TY} {M : ME} {m : Nat} (ht : τ m = (11, 0)) (x : Int32) : CT l D cA n0 (XW0 sg adK adV sgA smA wdA n0 bS LS xs) mX13_no 1 0 0 sz τ M [.ref m, .int x] (fun v' sz' τ' M' => v' = some (.int 0) ∧ sz' = sz ∧ τ' = τ ∧ M' = up M m 0 (.int x)) := by
  refine CT.of (ls := [.ref m, .int x]) (by decide) (Nat.le_of_ble_eq_true rfl) rfl ?_
  refine T_aload0 dX13_no_0 rfl ?_
  refine T_iload1 dX13_no_1 rfl ?_
  refine p13_57 rfl ht dX13_no_2 rfl ?_
  refine T_nm (fun M1 e1 => ?_)
  refine T_iconst (0) dX13_no_5 rfl rfl ?_
  refine T_iret rfl rfl dX13_no_6 ?_
  exact ⟨rfl, rfl, rfl, e1⟩
set_option maxHeartbeats 1000000 in
theorem c_X13_thrown {l : Launch} {D : va_G} {cA : Nat → ClassId} {n0 : Nat} {sg adK adV : Nat → Nat} {sgA smA wdA bS LS : Nat} {xs : Nat → Int32} (hX : SF n0 (XW0 sg adK adV sgA smA wdA n0 bS LS xs)) {sz : Nat} {τ : TY} {N1 M : ME} {m y z n tk dp : Nat} {B : Nat → Nat} {ω : RH} (hM : MV τ N1 M m y z (m + 26) (m + 40) n tk dp B ω) : CT l D cA n0 (XW0 sg adK adV sgA smA wdA n0 bS LS xs) mX13_thrown 1 0 0 sz τ M [.ref m] (ROq (.int (ω 90 0)) sz τ M) := by
  refine CT.of (ls := [.ref m]) (by decide) (Nat.le_of_ble_eq_true rfl) rfl ?_
  refine T_aload0 dX13_thrown_0 rfl ?_
  refine g13_57 _ rfl (hM.t_m) (hM.g_th) dX13_thrown_1 rfl ?_
  refine T_iret rfl rfl dX13_thrown_4 ?_
  exact ⟨rfl, rfl, rfl, rfl⟩
set_option maxHeartbeats 1000000 in
theorem c_X13_logTold {l : Launch} {D : va_G} {cA : Nat → ClassId} {n0 : Nat} {sg adK adV : Nat → Nat} {sgA smA wdA bS LS : Nat} {xs : Nat → Int32} (hX : SF n0 (XW0 sg adK adV sgA smA wdA n0 bS LS xs)) {sz : Nat} {τ : TY} {N1 N2 M : ME} {m y z n8 tk dp a b c hc wc sn : Nat} {B : Nat → Nat} {ω ρ π : RH} {σ : Nat → Nat} {μ κ : Nat → Int32} (hM : MV τ N1 M m y z (m + 26) (m + 40) n8 tk dp B ω) (hS : SL τ N2 M (m + 26) a b c ρ m μ κ) (hW : WN τ M m y (m + 26) a b c hc wc sn ρ π σ) (hL : y = m + 7 ∨ m + 54 ≤ y) {i j : Nat} (hi : i < c) (hj : j < 4) : CT l D cA n0 (XW0 sg adK adV sgA smA wdA n0 bS LS xs) mX13_logTold 1 0 0 sz τ M [.ref m, .int (nI i), .int (nI j)] (ROq (.int (lgF ρ i j)) sz τ M) := by
  refine CT.of (ls := [.ref m, .int (nI i), .int (nI j)]) (by decide) (Nat.le_of_ble_eq_true rfl) rfl ?_
  obtain ⟨l3, l4, l5, l6, l7, l8⟩ := hW.ok
  refine T_iload2 dX13_logTold_0 rfl ?_
  refine T_if_ne 16 4 dX13_logTold_1 (by decide) rfl (fun c1 => ?_) (fun c1 => ?_)
  ·
    refine T_iload2 dX13_logTold_16 rfl ?_
    refine T_iconst (1) dX13_logTold_17 rfl rfl ?_
    refine T_icmp_ne 33 21 dX13_logTold_18 (by decide) rfl (fun c18 => ?_) (fun c18 => ?_)
    ·
      refine T_iload2 dX13_logTold_33 rfl ?_
      refine T_iconst (2) dX13_logTold_34 rfl rfl ?_
      refine T_icmp_ne 50 38 dX13_logTold_35 (by decide) rfl (fun c35 => ?_) (fun c35 => ?_)
      ·
        refine T_aload0 dX13_logTold_50 rfl ?_
        refine g13_47 _ rfl (hM.t_m) (hM.g_s1) dX13_logTold_51 rfl ?_
        refine g13_353 _ rfl (hS.t_s) (hS.g_a12) dX13_logTold_54 rfl ?_
        refine T_iload1 dX13_logTold_57 rfl ?_
        refine T_iald _ (hS.t_a12) rfl (by omega) (by decide) dX13_logTold_58 rfl (hS.g_came (by omega)) ?_
        refine T_iret rfl rfl dX13_logTold_59 ?_
        refine ⟨congrArg (fun z => some (Value.int z)) ?_, rfl, rfl, rfl⟩
        rcases (show j = 0 ∨ j = 1 ∨ j = 2 ∨ j = 3 by omega) with rfl | rfl | rfl | rfl <;> first | rfl | exact absurd rfl c1 | exact absurd rfl c18 | exact absurd rfl c35 | exact absurd c1 (by decide) | exact absurd c18 (by decide) | exact absurd c35 (by decide)
      ·
        refine T_aload0 dX13_logTold_38 rfl ?_
        refine g13_47 _ rfl (hM.t_m) (hM.g_s1) dX13_logTold_39 rfl ?_
        refine g13_350 _ rfl (hS.t_s) (hS.g_a11) dX13_logTold_42 rfl ?_
        refine T_iload1 dX13_logTold_45 rfl ?_
        refine T_iald _ (hS.t_a11) rfl (by omega) (by decide) dX13_logTold_46 rfl (hS.g_atat (by omega)) ?_
        refine T_goto 59 dX13_logTold_47 (by decide) ?_
        refine T_iret rfl rfl dX13_logTold_59 ?_
        refine ⟨congrArg (fun z => some (Value.int z)) ?_, rfl, rfl, rfl⟩
        rcases (show j = 0 ∨ j = 1 ∨ j = 2 ∨ j = 3 by omega) with rfl | rfl | rfl | rfl <;> first | rfl | exact absurd rfl c1 | exact absurd rfl c18 | exact absurd rfl c35 | exact absurd c1 (by decide) | exact absurd c18 (by decide) | exact absurd c35 (by decide)
    ·
      refine T_aload0 dX13_logTold_21 rfl ?_
      refine g13_47 _ rfl (hM.t_m) (hM.g_s1) dX13_logTold_22 rfl ?_
      refine g13_347 _ rfl (hS.t_s) (hS.g_a10) dX13_logTold_25 rfl ?_
      refine T_iload1 dX13_logTold_28 rfl ?_
      refine T_iald _ (hS.t_a10) rfl (by omega) (by decide) dX13_logTold_29 rfl (hS.g_lies (by omega)) ?_
      refine T_goto 59 dX13_logTold_30 (by decide) ?_
      refine T_iret rfl rfl dX13_logTold_59 ?_
      refine ⟨congrArg (fun z => some (Value.int z)) ?_, rfl, rfl, rfl⟩
      rcases (show j = 0 ∨ j = 1 ∨ j = 2 ∨ j = 3 by omega) with rfl | rfl | rfl | rfl <;> first | rfl | exact absurd rfl c1 | exact absurd rfl c18 | exact absurd rfl c35 | exact absurd c1 (by decide) | exact absurd c18 (by decide) | exact absurd c35 (by decide)
  ·
    refine T_aload0 dX13_logTold_4 rfl ?_
    first | refine g13_35 _ rfl (hM.t_m) (hM.g_y) dX13_logTold_5 rfl ?_ | refine g13_35 _ rfl (hW.t_m) (hW.g_pl) dX13_logTold_5 rfl ?_
    refine g13_279 _ rfl (hW.t_q) (hW.g_weight) dX13_logTold_8 rfl ?_
    refine T_iload1 dX13_logTold_11 rfl ?_
    refine T_iald _ (hW.t_weight) rfl (by omega) (by decide) dX13_logTold_12 rfl (hW.v_weight (by omega)) ?_
    refine T_goto 59 dX13_logTold_13 (by decide) ?_
    refine T_iret rfl rfl dX13_logTold_59 ?_
    refine ⟨congrArg (fun z => some (Value.int z)) ?_, rfl, rfl, rfl⟩
    rcases (show j = 0 ∨ j = 1 ∨ j = 2 ∨ j = 3 by omega) with rfl | rfl | rfl | rfl <;> first | rfl | exact absurd rfl c1 | exact absurd rfl c18 | exact absurd rfl c35 | exact absurd c1 (by decide) | exact absurd c18 (by decide) | exact absurd c35 (by decide)
set_option maxHeartbeats 1000000 in
theorem L_X13_stretchTold {l : Launch} {D : va_G} {cA : Nat → ClassId} {n0 : Nat} {sg adK adV : Nat → Nat} {sgA smA wdA bS LS : Nat} {xs : Nat → Int32} (hX : SF n0 (XW0 sg adK adV sgA smA wdA n0 bS LS xs)) {sz : Nat} {τ : TY} {N1 N2 M : ME} {m y z n8 tk dp a b c hc wc sn : Nat} {B : Nat → Nat} {ω ρ π : RH} {σ : Nat → Nat} {μ κ : Nat → Int32} (hM : MV τ N1 M m y z (m + 26) (m + 40) n8 tk dp B ω) (hS : SL τ N2 M (m + 26) a b c ρ m μ κ) (hW : WN τ M m y (m + 26) a b c hc wc sn ρ π σ) (hL : y = m + 7 ∨ m + 54 ≤ y) {i j : Nat} (hi : i < a) (hj : j < 5) : ∀ (n : Nat) (k : Nat) (acc : Int32) (u : Value) (hk : k ≤ b) (ha : acc = hsOn k ρ (nI i)), b - k < n → T l D cA n0 (XW0 sg adK adV sgA smA wdA n0 bS LS xs) mX13_stretchTold 3 1 5 sz τ M 5 [.ref m, .int (nI i), .int (nI j), .int acc, .int (nI k)] [] (fun v' sz' τ' M' => v' = some (.int (stF b c ρ i j)) ∧ sz' = sz + 1 ∧ (∀ q, q < sz → τ' q = τ q) ∧ (∀ q, q < sz → M' q = M q)) (fun _ _ _ _ => False) := by
  intro n
  induction n with
  | zero => intros; omega
  | succ n ih =>
    intro k acc u hk ha hn
    obtain ⟨l3, l4, l5, l6, l7, l8⟩ := hW.ok
    refine T_szb (fun hz => ?_)
    have z1 := hM.hi hz
    have z2 := hS.hi hz
    have z3 := hW.hi hz
    refine T_iload4 dX13_stretchTold_5 rfl ?_
    refine T_aload0 dX13_stretchTold_7 rfl ?_
    first | refine g13_35 _ rfl (hM.t_m) (hM.g_y) dX13_stretchTold_8 rfl ?_ | refine g13_35 _ rfl (hW.t_m) (hW.g_pl) dX13_stretchTold_8 rfl ?_
    refine g13_67 _ rfl (hW.t_q) (hW.g_horses) dX13_stretchTold_11 rfl ?_
    refine T_icmp_ge 45 17 dX13_stretchTold_14 (by decide) rfl (fun c14 => ?_) (fun c14 => ?_)
    ·
      have c14 := le_out rfl c14
      have hkk : k = b := by omega
      subst hkk
      refine T_iconst (5) dX13_stretchTold_45 rfl rfl ?_
      refine T_newa (atype := .int) (N := 5) 0 (fun _ => .int 0) w360 (by decide) rfl rfl (by decide) rfl dX13_stretchTold_46 rfl ?_
      refine T_nt (fun τ2 eτ => ?_)
      refine T_nm (fun Mn en => ?_)
      have hM := (hM.tau (τ' := τ2) (fun q g1 g2 => by rw [eτ]; exact tyN_n (by omega))).fr (M1 := Mn) (fun q g1 g2 => by rw [en]; exact meN_n (by omega))
      have hS := (hS.tau (τ' := τ2) (fun q g1 g2 => by rw [eτ]; exact tyN_n (by omega))).fr (M1 := Mn) (fun q g1 g2 => by rw [en]; exact meN_n (by omega))
      have hW := hW.al (τ' := τ2) (M1 := Mn) (by rw [en]; exact meN_n (by omega)) (fun q g1 g2 => by rw [en]; exact meN_n (by omega)) (by rw [eτ]; exact tyN_n (by omega)) (fun q g1 g2 => by rw [eτ]; exact tyN_n (by omega))
      have hA : AV τ2 Mn Mn sz 5 (fun _ => 0) := ⟨by rw [eτ]; exact tyN_s _ _ _, fun i hi => by rw [en, meN_s], Fr.rf _ _ _⟩
      have hK : ∀ q, q < sz → Mn q = M q := fun q hq => by rw [en]; exact meN_n (by omega)
      have hT : ∀ q, q < sz → τ2 q = τ q := fun q hq => by rw [eτ]; exact tyN_n (by omega)
      refine T_dup dX13_stretchTold_48 rfl rfl ?_
      refine T_iconst (0) dX13_stretchTold_49 rfl rfl ?_
      refine T_aload0 dX13_stretchTold_50 rfl ?_
      first | refine g13_35 _ rfl (hM.t_m) (hM.g_y) dX13_stretchTold_51 rfl ?_ | refine g13_35 _ rfl (hW.t_m) (hW.g_pl) dX13_stretchTold_51 rfl ?_
      refine g13_256 _ rfl (hW.t_q) (hW.g_length) dX13_stretchTold_54 rfl ?_
      refine T_iload1 dX13_stretchTold_57 rfl ?_
      refine T_iald _ (hW.t_length) rfl (by omega) (by decide) dX13_stretchTold_58 rfl (hW.v_length (by omega)) ?_
      refine T_iast _ (hA.t_e) (show (0 : Int32) = nI 0 from rfl) (by omega) (by decide) dX13_stretchTold_59 rfl ?_
      refine T_nm (fun M1 e1 => ?_)
      have hA := AV.mv (hA.p_v (by omega)) e1
      have hM := hM.frU e1 (by omega)
      have hS := hS.frU e1 (by omega)
      have hW := hW.frV e1 (by omega)
      have hK : ∀ q, q < sz → M1 q = M q := fun q hq => (by rw [e1, up_a (by omega)]; exact hK q hq)
      refine T_dup dX13_stretchTold_60 rfl rfl ?_
      refine T_iconst (1) dX13_stretchTold_61 rfl rfl ?_
      refine T_aload0 dX13_stretchTold_62 rfl ?_
      first | refine g13_35 _ rfl (hM.t_m) (hM.g_y) dX13_stretchTold_63 rfl ?_ | refine g13_35 _ rfl (hW.t_m) (hW.g_pl) dX13_stretchTold_63 rfl ?_
      refine g13_261 _ rfl (hW.t_q) (hW.g_slope) dX13_stretchTold_66 rfl ?_
      refine T_iload1 dX13_stretchTold_69 rfl ?_
      refine T_iald _ (hW.t_slope) rfl (by omega) (by decide) dX13_stretchTold_70 rfl (hW.v_slope (by omega)) ?_
      refine T_iast _ (hA.t_e) (show (1 : Int32) = nI 1 from rfl) (by omega) (by decide) dX13_stretchTold_71 rfl ?_
      refine T_nm (fun M2 e2 => ?_)
      have hA := AV.mv (hA.p_v (by omega)) e2
      have hM := hM.frU e2 (by omega)
      have hS := hS.frU e2 (by omega)
      have hW := hW.frV e2 (by omega)
      have hK : ∀ q, q < sz → M2 q = M q := fun q hq => (by rw [e2, up_a (by omega)]; exact hK q hq)
      refine T_dup dX13_stretchTold_72 rfl rfl ?_
      refine T_iconst (2) dX13_stretchTold_73 rfl rfl ?_
      refine T_aload0 dX13_stretchTold_74 rfl ?_
      refine g13_47 _ rfl (hM.t_m) (hM.g_s1) dX13_stretchTold_75 rfl ?_
      refine g13_318 _ rfl (hS.t_s) (hS.g_a1) dX13_stretchTold_78 rfl ?_
      refine T_iload1 dX13_stretchTold_81 rfl ?_
      refine T_iald _ (hS.t_a1) rfl (by omega) (by decide) dX13_stretchTold_82 rfl (hS.g_fros (by omega)) ?_
      refine T_iast _ (hA.t_e) (show (2 : Int32) = nI 2 from rfl) (by omega) (by decide) dX13_stretchTold_83 rfl ?_
      refine T_nm (fun M3 e3 => ?_)
      have hA := AV.mv (hA.p_v (by omega)) e3
      have hM := hM.frU e3 (by omega)
      have hS := hS.frU e3 (by omega)
      have hW := hW.frV e3 (by omega)
      have hK : ∀ q, q < sz → M3 q = M q := fun q hq => (by rw [e3, up_a (by omega)]; exact hK q hq)
      refine T_dup dX13_stretchTold_84 rfl rfl ?_
      refine T_iconst (3) dX13_stretchTold_85 rfl rfl ?_
      refine T_iload3 dX13_stretchTold_86 rfl ?_
      refine T_iast _ (hA.t_e) (show (3 : Int32) = nI 3 from rfl) (by omega) (by decide) dX13_stretchTold_87 rfl ?_
      refine T_nm (fun M4 e4 => ?_)
      have hA := AV.mv (hA.p_v (by omega)) e4
      have hM := hM.frU e4 (by omega)
      have hS := hS.frU e4 (by omega)
      have hW := hW.frV e4 (by omega)
      have hK : ∀ q, q < sz → M4 q = M q := fun q hq => (by rw [e4, up_a (by omega)]; exact hK q hq)
      refine T_dup dX13_stretchTold_88 rfl rfl ?_
      refine T_iconst (4) dX13_stretchTold_89 rfl rfl ?_
      refine T_aload0 dX13_stretchTold_90 rfl ?_
      refine g13_47 _ rfl (hM.t_m) (hM.g_s1) dX13_stretchTold_91 rfl ?_
      refine T_iconst (2) dX13_stretchTold_94 rfl rfl ?_
      refine T_iload1 dX13_stretchTold_95 rfl ?_
      refine T_cV2 (c_X12_logs hX hS hW _ _) hX k13_310 (Or.inl ⟨_, _, _, _, (hS.t_s), by decide, rfl⟩) (by decide) (Nat.le_of_ble_eq_true rfl) dX13_stretchTold_96 rfl ?_
      rintro _ _ _ _ ⟨rfl, rfl, rfl, rfl⟩
      refine T_iast _ (hA.t_e) (show (4 : Int32) = nI 4 from rfl) (by omega) (by decide) dX13_stretchTold_99 rfl ?_
      refine T_nm (fun M5 e5 => ?_)
      have hA := AV.mv (hA.p_v (by omega)) e5
      have hM := hM.frU e5 (by omega)
      have hS := hS.frU e5 (by omega)
      have hW := hW.frV e5 (by omega)
      have hK : ∀ q, q < sz → M5 q = M q := fun q hq => (by rw [e5, up_a (by omega)]; exact hK q hq)
      refine T_astore4 rfl (by decide) dX13_stretchTold_100 rfl ?_
      refine T_aload4 dX13_stretchTold_102 rfl ?_
      refine T_iload2 dX13_stretchTold_104 rfl ?_
      refine T_iald _ (hA.t_e) rfl (by omega) (by decide) dX13_stretchTold_105 rfl (hA.g_v (by omega)) ?_
      refine T_iret rfl rfl dX13_stretchTold_106 ?_
      refine ⟨congrArg (fun z => some (Value.int z)) ?_, rfl, hT, hK⟩
      rcases (show j = 0 ∨ j = 1 ∨ j = 2 ∨ j = 3 ∨ j = 4 by omega) with rfl | rfl | rfl | rfl | rfl <;> first | (simp [uI, stF]; done) | (simp [uI, stF]; exact ha) | (simp [uI, stF]; exact nb_2 (nI_m1 (by omega)))
    ·
      have c14 := lt_in rfl c14
      refine T_iload3 dX13_stretchTold_17 rfl ?_
      refine T_aload0 dX13_stretchTold_18 rfl ?_
      refine g13_47 _ rfl (hM.t_m) (hM.g_s1) dX13_stretchTold_19 rfl ?_
      refine g13_297 _ rfl (hS.t_s) (hS.g_a2) dX13_stretchTold_22 rfl ?_
      refine T_iload4 dX13_stretchTold_25 rfl ?_
      refine T_iald _ (hS.t_a2) rfl (by omega) (by decide) dX13_stretchTold_27 rfl (hS.g_wher (by omega)) ?_
      refine T_iload1 dX13_stretchTold_28 rfl ?_
      refine T_icmp_ne 36 32 dX13_stretchTold_29 (by decide) rfl (fun c29 => ?_) (fun c29 => ?_)
      ·
        refine T_iconst (0) dX13_stretchTold_36 rfl rfl ?_
        refine T_iadd dX13_stretchTold_37 rfl ?_
        refine T_istore3 rfl (by decide) dX13_stretchTold_38 rfl ?_
        first | refine T_iinc4 rfl (by decide) dX13_stretchTold_39 rfl (inc1 _) ?_ | refine T_iinc4 rfl (by decide) dX13_stretchTold_39 rfl rfl ?_
        refine T_goto 5 dX13_stretchTold_42 (by decide) ?_
        first | exact ih (k + 1) _ u (by omega) (by unfold hsOn at *; rw [sm, ha]; simp [c29]) (by omega)
      ·
        refine T_iconst (1) dX13_stretchTold_32 rfl rfl ?_
        refine T_goto 37 dX13_stretchTold_33 (by decide) ?_
        refine T_iadd dX13_stretchTold_37 rfl ?_
        refine T_istore3 rfl (by decide) dX13_stretchTold_38 rfl ?_
        first | refine T_iinc4 rfl (by decide) dX13_stretchTold_39 rfl (inc1 _) ?_ | refine T_iinc4 rfl (by decide) dX13_stretchTold_39 rfl rfl ?_
        refine T_goto 5 dX13_stretchTold_42 (by decide) ?_
        first | exact ih (k + 1) _ u (by omega) (by unfold hsOn at *; rw [sm, ha]; simp [c29]) (by omega)
set_option maxHeartbeats 1000000 in
theorem c_X13_stretchTold {l : Launch} {D : va_G} {cA : Nat → ClassId} {n0 : Nat} {sg adK adV : Nat → Nat} {sgA smA wdA bS LS : Nat} {xs : Nat → Int32} (hX : SF n0 (XW0 sg adK adV sgA smA wdA n0 bS LS xs)) {sz : Nat} {τ : TY} {N1 N2 M : ME} {m y z n8 tk dp a b c hc wc sn : Nat} {B : Nat → Nat} {ω ρ π : RH} {σ : Nat → Nat} {μ κ : Nat → Int32} (hM : MV τ N1 M m y z (m + 26) (m + 40) n8 tk dp B ω) (hS : SL τ N2 M (m + 26) a b c ρ m μ κ) (hW : WN τ M m y (m + 26) a b c hc wc sn ρ π σ) (hL : y = m + 7 ∨ m + 54 ≤ y) {i j : Nat} (hi : i < a) (hj : j < 5) : CT l D cA n0 (XW0 sg adK adV sgA smA wdA n0 bS LS xs) mX13_stretchTold 3 1 5 sz τ M [.ref m, .int (nI i), .int (nI j)] (fun v' sz' τ' M' => v' = some (.int (stF b c ρ i j)) ∧ sz' = sz + 1 ∧ (∀ q, q < sz → τ' q = τ q) ∧ (∀ q, q < sz → M' q = M q)) := by
  refine CT.of (ls := [.ref m, .int (nI i), .int (nI j), UU, UU]) (by decide) (Nat.le_of_ble_eq_true rfl) rfl ?_
  refine T_iconst (0) dX13_stretchTold_0 rfl rfl ?_
  refine T_istore3 rfl (by decide) dX13_stretchTold_1 rfl ?_
  refine T_iconst (0) dX13_stretchTold_2 rfl rfl ?_
  refine T_istore4 rfl (by decide) dX13_stretchTold_3 rfl ?_
  exact L_X13_stretchTold hX hM hS hW hL hi hj (b + 1) 0 0 UU (Nat.zero_le _) rfl (by omega)
def cntF (a b c n8 : Nat) (ρ : RH) (j : Nat) : Int32 := if j = 12 then nI n8 else totF a b c ρ j
set_option maxHeartbeats 1000000 in
theorem L_X13_counted {l : Launch} {D : va_G} {cA : Nat → ClassId} {n0 : Nat} {sg adK adV : Nat → Nat} {sgA smA wdA bS LS : Nat} {xs : Nat → Int32} (hX : SF n0 (XW0 sg adK adV sgA smA wdA n0 bS LS xs)) {sz : Nat} {τ : TY} {N1 N2 M : ME} {m y z n8 tk dp a b c hc wc sn : Nat} {B : Nat → Nat} {ω ρ π : RH} {σ : Nat → Nat} {μ κ : Nat → Int32} (hM : MV τ N1 M m y z (m + 26) (m + 40) n8 tk dp B ω) (hS : SL τ N2 M (m + 26) a b c ρ m μ κ) (hW : WN τ M m y (m + 26) a b c hc wc sn ρ π σ) (hL : y = m + 7 ∨ m + 54 ≤ y) {j : Nat} (hj : j < 13) : ∀ (n : Nat) (k : Nat) (p q : Int32) (hk : k ≤ b) (hp : p = sm (fun h => if ρ 15 h = -1 then 0 else 1) k) (hq : q = sm (fun h => ρ 12 h) k), b - k < n → T l D cA n0 (XW0 sg adK adV sgA smA wdA n0 bS LS xs) mX13_counted 3 1 13 sz τ M 7 [.ref m, .int (nI j), .int p, .int q, .int (nI k)] [] (fun v' sz' τ' M' => v' = some (.int (cntF a b c n8 ρ j)) ∧ sz' = sz + 1 ∧ (∀ q, q < sz → τ' q = τ q) ∧ (∀ q, q < sz → M' q = M q)) (fun _ _ _ _ => False) := by
  intro n
  induction n with
  | zero => intros; omega
  | succ n ih =>
    intro k p q hk hp hq hn
    obtain ⟨l3, l4, l5, l6, l7, l8⟩ := hW.ok
    refine T_szb (fun hz => ?_)
    have z1 := hM.hi hz
    have z2 := hS.hi hz
    have z3 := hW.hi hz
    refine T_iload4 dX13_counted_7 rfl ?_
    refine T_aload0 dX13_counted_9 rfl ?_
    first | refine g13_35 _ rfl (hM.t_m) (hM.g_y) dX13_counted_10 rfl ?_ | refine g13_35 _ rfl (hW.t_m) (hW.g_pl) dX13_counted_10 rfl ?_
    refine g13_67 _ rfl (hW.t_q) (hW.g_horses) dX13_counted_13 rfl ?_
    refine T_icmp_ge 60 19 dX13_counted_16 (by decide) rfl (fun c14 => ?_) (fun c14 => ?_)
    ·
      have c14 := le_out rfl c14
      have hkk : k = b := by omega
      subst hkk
      rw [hsN] at hp
      refine T_bipush (13) dX13_counted_60 rfl rfl ?_
      refine T_newa (atype := .int) (N := 13) 0 (fun _ => .int 0) w360 (by decide) rfl rfl (by decide) rfl dX13_counted_62 rfl ?_
      refine T_nt (fun τ2 eτ => ?_)
      refine T_nm (fun Mn en => ?_)
      have hM := (hM.tau (τ' := τ2) (fun q g1 g2 => by rw [eτ]; exact tyN_n (by omega))).fr (M1 := Mn) (fun q g1 g2 => by rw [en]; exact meN_n (by omega))
      have hS := (hS.tau (τ' := τ2) (fun q g1 g2 => by rw [eτ]; exact tyN_n (by omega))).fr (M1 := Mn) (fun q g1 g2 => by rw [en]; exact meN_n (by omega))
      have hW := hW.al (τ' := τ2) (M1 := Mn) (by rw [en]; exact meN_n (by omega)) (fun q g1 g2 => by rw [en]; exact meN_n (by omega)) (by rw [eτ]; exact tyN_n (by omega)) (fun q g1 g2 => by rw [eτ]; exact tyN_n (by omega))
      have hA : AV τ2 Mn Mn sz 13 (fun _ => 0) := ⟨by rw [eτ]; exact tyN_s _ _ _, fun i hi => by rw [en, meN_s], Fr.rf _ _ _⟩
      have hK : ∀ q, q < sz → Mn q = M q := fun q hq => by rw [en]; exact meN_n (by omega)
      have hT : ∀ q, q < sz → τ2 q = τ q := fun q hq => by rw [eτ]; exact tyN_n (by omega)
      refine T_dup dX13_counted_64 rfl rfl ?_
      refine T_iconst (0) dX13_counted_65 rfl rfl ?_
      refine T_aload0 dX13_counted_66 rfl ?_
      refine g13_47 _ rfl (hM.t_m) (hM.g_s1) dX13_counted_67 rfl ?_
      refine g13_301 _ rfl (hS.t_s) (hS.g_hour) dX13_counted_70 rfl ?_
      refine T_iast _ (hA.t_e) (show (0 : Int32) = nI 0 from rfl) (by omega) (by decide) dX13_counted_73 rfl ?_
      refine T_nm (fun M1 e1 => ?_)
      have hA := AV.mv (hA.p_v (by omega)) e1
      have hM := hM.frU e1 (by omega)
      have hS := hS.frU e1 (by omega)
      have hW := hW.frV e1 (by omega)
      have hK : ∀ q, q < sz → M1 q = M q := fun q hq => (by rw [e1, up_a (by omega)]; exact hK q hq)
      refine T_dup dX13_counted_74 rfl rfl ?_
      refine T_iconst (1) dX13_counted_75 rfl rfl ?_
      refine T_aload0 dX13_counted_76 rfl ?_
      refine g13_47 _ rfl (hM.t_m) (hM.g_s1) dX13_counted_77 rfl ?_
      refine g13_304 _ rfl (hS.t_s) (hS.g_weat) dX13_counted_80 rfl ?_
      refine T_iast _ (hA.t_e) (show (1 : Int32) = nI 1 from rfl) (by omega) (by decide) dX13_counted_83 rfl ?_
      refine T_nm (fun M2 e2 => ?_)
      have hA := AV.mv (hA.p_v (by omega)) e2
      have hM := hM.frU e2 (by omega)
      have hS := hS.frU e2 (by omega)
      have hW := hW.frV e2 (by omega)
      have hK : ∀ q, q < sz → M2 q = M q := fun q hq => (by rw [e2, up_a (by omega)]; exact hK q hq)
      refine T_dup dX13_counted_84 rfl rfl ?_
      refine T_iconst (2) dX13_counted_85 rfl rfl ?_
      refine T_aload0 dX13_counted_86 rfl ?_
      first | refine g13_35 _ rfl (hM.t_m) (hM.g_y) dX13_counted_87 rfl ?_ | refine g13_35 _ rfl (hW.t_m) (hW.g_pl) dX13_counted_87 rfl ?_
      refine g13_60 _ rfl (hW.t_q) (hW.g_stretches) dX13_counted_90 rfl ?_
      refine T_iast _ (hA.t_e) (show (2 : Int32) = nI 2 from rfl) (by omega) (by decide) dX13_counted_93 rfl ?_
      refine T_nm (fun M3 e3 => ?_)
      have hA := AV.mv (hA.p_v (by omega)) e3
      have hM := hM.frU e3 (by omega)
      have hS := hS.frU e3 (by omega)
      have hW := hW.frV e3 (by omega)
      have hK : ∀ q, q < sz → M3 q = M q := fun q hq => (by rw [e3, up_a (by omega)]; exact hK q hq)
      refine T_dup dX13_counted_94 rfl rfl ?_
      refine T_iconst (3) dX13_counted_95 rfl rfl ?_
      refine T_aload0 dX13_counted_96 rfl ?_
      first | refine g13_35 _ rfl (hM.t_m) (hM.g_y) dX13_counted_97 rfl ?_ | refine g13_35 _ rfl (hW.t_m) (hW.g_pl) dX13_counted_97 rfl ?_
      refine g13_67 _ rfl (hW.t_q) (hW.g_horses) dX13_counted_100 rfl ?_
      refine T_iast _ (hA.t_e) (show (3 : Int32) = nI 3 from rfl) (by omega) (by decide) dX13_counted_103 rfl ?_
      refine T_nm (fun M4 e4 => ?_)
      have hA := AV.mv (hA.p_v (by omega)) e4
      have hM := hM.frU e4 (by omega)
      have hS := hS.frU e4 (by omega)
      have hW := hW.frV e4 (by omega)
      have hK : ∀ q, q < sz → M4 q = M q := fun q hq => (by rw [e4, up_a (by omega)]; exact hK q hq)
      refine T_dup dX13_counted_104 rfl rfl ?_
      refine T_iconst (4) dX13_counted_105 rfl rfl ?_
      refine T_aload0 dX13_counted_106 rfl ?_
      first | refine g13_35 _ rfl (hM.t_m) (hM.g_y) dX13_counted_107 rfl ?_ | refine g13_35 _ rfl (hW.t_m) (hW.g_pl) dX13_counted_107 rfl ?_
      refine g13_70 _ rfl (hW.t_q) (hW.g_logs) dX13_counted_110 rfl ?_
      refine T_iast _ (hA.t_e) (show (4 : Int32) = nI 4 from rfl) (by omega) (by decide) dX13_counted_113 rfl ?_
      refine T_nm (fun M5 e5 => ?_)
      have hA := AV.mv (hA.p_v (by omega)) e5
      have hM := hM.frU e5 (by omega)
      have hS := hS.frU e5 (by omega)
      have hW := hW.frV e5 (by omega)
      have hK : ∀ q, q < sz → M5 q = M q := fun q hq => (by rw [e5, up_a (by omega)]; exact hK q hq)
      refine T_dup dX13_counted_114 rfl rfl ?_
      refine T_iconst (5) dX13_counted_115 rfl rfl ?_
      refine T_aload0 dX13_counted_116 rfl ?_
      refine g13_47 _ rfl (hM.t_m) (hM.g_s1) dX13_counted_117 rfl ?_
      refine T_iconst (0) dX13_counted_120 rfl rfl ?_
      refine T_iconst (-1) dX13_counted_121 rfl rfl ?_
      refine T_cV2 (c_X12_weights hX hS hW _ _) hX k13_307 (Or.inl ⟨_, _, _, _, (hS.t_s), by decide, rfl⟩) (by decide) (Nat.le_of_ble_eq_true rfl) dX13_counted_122 rfl ?_
      rintro _ _ _ _ ⟨rfl, rfl, rfl, rfl⟩
      refine T_iast _ (hA.t_e) (show (5 : Int32) = nI 5 from rfl) (by omega) (by decide) dX13_counted_125 rfl ?_
      refine T_nm (fun M6 e6 => ?_)
      have hA := AV.mv (hA.p_v (by omega)) e6
      have hM := hM.frU e6 (by omega)
      have hS := hS.frU e6 (by omega)
      have hW := hW.frV e6 (by omega)
      have hK : ∀ q, q < sz → M6 q = M q := fun q hq => (by rw [e6, up_a (by omega)]; exact hK q hq)
      refine T_dup dX13_counted_126 rfl rfl ?_
      refine T_bipush (6) dX13_counted_127 rfl rfl ?_
      refine T_aload0 dX13_counted_129 rfl ?_
      refine g13_47 _ rfl (hM.t_m) (hM.g_s1) dX13_counted_130 rfl ?_
      refine T_iconst (3) dX13_counted_133 rfl rfl ?_
      refine T_iconst (-1) dX13_counted_134 rfl rfl ?_
      refine T_cV2 (c_X12_weights hX hS hW _ _) hX k13_307 (Or.inl ⟨_, _, _, _, (hS.t_s), by decide, rfl⟩) (by decide) (Nat.le_of_ble_eq_true rfl) dX13_counted_135 rfl ?_
      rintro _ _ _ _ ⟨rfl, rfl, rfl, rfl⟩
      refine T_iast _ (hA.t_e) (show (6 : Int32) = nI 6 from rfl) (by omega) (by decide) dX13_counted_138 rfl ?_
      refine T_nm (fun M7 e7 => ?_)
      have hA := AV.mv (hA.p_v (by omega)) e7
      have hM := hM.frU e7 (by omega)
      have hS := hS.frU e7 (by omega)
      have hW := hW.frV e7 (by omega)
      have hK : ∀ q, q < sz → M7 q = M q := fun q hq => (by rw [e7, up_a (by omega)]; exact hK q hq)
      refine T_dup dX13_counted_139 rfl rfl ?_
      refine T_bipush (7) dX13_counted_140 rfl rfl ?_
      refine T_aload0 dX13_counted_142 rfl ?_
      refine g13_47 _ rfl (hM.t_m) (hM.g_s1) dX13_counted_143 rfl ?_
      refine T_iconst (3) dX13_counted_146 rfl rfl ?_
      refine T_iconst (-1) dX13_counted_147 rfl rfl ?_
      refine T_cV2 (c_X12_logs hX hS hW _ _) hX k13_310 (Or.inl ⟨_, _, _, _, (hS.t_s), by decide, rfl⟩) (by decide) (Nat.le_of_ble_eq_true rfl) dX13_counted_148 rfl ?_
      rintro _ _ _ _ ⟨rfl, rfl, rfl, rfl⟩
      refine T_iast _ (hA.t_e) (show (7 : Int32) = nI 7 from rfl) (by omega) (by decide) dX13_counted_151 rfl ?_
      refine T_nm (fun M8 e8 => ?_)
      have hA := AV.mv (hA.p_v (by omega)) e8
      have hM := hM.frU e8 (by omega)
      have hS := hS.frU e8 (by omega)
      have hW := hW.frV e8 (by omega)
      have hK : ∀ q, q < sz → M8 q = M q := fun q hq => (by rw [e8, up_a (by omega)]; exact hK q hq)
      refine T_dup dX13_counted_152 rfl rfl ?_
      refine T_bipush (8) dX13_counted_153 rfl rfl ?_
      refine T_aload0 dX13_counted_155 rfl ?_
      refine g13_47 _ rfl (hM.t_m) (hM.g_s1) dX13_counted_156 rfl ?_
      refine T_iconst (2) dX13_counted_159 rfl rfl ?_
      refine T_iconst (-1) dX13_counted_160 rfl rfl ?_
      refine T_cV2 (c_X12_logs hX hS hW _ _) hX k13_310 (Or.inl ⟨_, _, _, _, (hS.t_s), by decide, rfl⟩) (by decide) (Nat.le_of_ble_eq_true rfl) dX13_counted_161 rfl ?_
      rintro _ _ _ _ ⟨rfl, rfl, rfl, rfl⟩
      refine T_iast _ (hA.t_e) (show (8 : Int32) = nI 8 from rfl) (by omega) (by decide) dX13_counted_164 rfl ?_
      refine T_nm (fun M9 e9 => ?_)
      have hA := AV.mv (hA.p_v (by omega)) e9
      have hM := hM.frU e9 (by omega)
      have hS := hS.frU e9 (by omega)
      have hW := hW.frV e9 (by omega)
      have hK : ∀ q, q < sz → M9 q = M q := fun q hq => (by rw [e9, up_a (by omega)]; exact hK q hq)
      refine T_dup dX13_counted_165 rfl rfl ?_
      refine T_bipush (9) dX13_counted_166 rfl rfl ?_
      refine T_iload2 dX13_counted_168 rfl ?_
      refine T_iast _ (hA.t_e) (show (9 : Int32) = nI 9 from rfl) (by omega) (by decide) dX13_counted_169 rfl ?_
      refine T_nm (fun M10 e10 => ?_)
      have hA := AV.mv (hA.p_v (by omega)) e10
      have hM := hM.frU e10 (by omega)
      have hS := hS.frU e10 (by omega)
      have hW := hW.frV e10 (by omega)
      have hK : ∀ q, q < sz → M10 q = M q := fun q hq => (by rw [e10, up_a (by omega)]; exact hK q hq)
      refine T_dup dX13_counted_170 rfl rfl ?_
      refine T_bipush (10) dX13_counted_171 rfl rfl ?_
      refine T_iload3 dX13_counted_173 rfl ?_
      refine T_iast _ (hA.t_e) (show (10 : Int32) = nI 10 from rfl) (by omega) (by decide) dX13_counted_174 rfl ?_
      refine T_nm (fun M11 e11 => ?_)
      have hA := AV.mv (hA.p_v (by omega)) e11
      have hM := hM.frU e11 (by omega)
      have hS := hS.frU e11 (by omega)
      have hW := hW.frV e11 (by omega)
      have hK : ∀ q, q < sz → M11 q = M q := fun q hq => (by rw [e11, up_a (by omega)]; exact hK q hq)
      refine T_dup dX13_counted_175 rfl rfl ?_
      refine T_bipush (11) dX13_counted_176 rfl rfl ?_
      refine T_aload0 dX13_counted_178 rfl ?_
      refine g13_47 _ rfl (hM.t_m) (hM.g_s1) dX13_counted_179 rfl ?_
      refine g13_312 _ rfl (hS.t_s) (hS.g_brok) dX13_counted_182 rfl ?_
      refine T_iast _ (hA.t_e) (show (11 : Int32) = nI 11 from rfl) (by omega) (by decide) dX13_counted_185 rfl ?_
      refine T_nm (fun M12 e12 => ?_)
      have hA := AV.mv (hA.p_v (by omega)) e12
      have hM := hM.frU e12 (by omega)
      have hS := hS.frU e12 (by omega)
      have hW := hW.frV e12 (by omega)
      have hK : ∀ q, q < sz → M12 q = M q := fun q hq => (by rw [e12, up_a (by omega)]; exact hK q hq)
      refine T_dup dX13_counted_186 rfl rfl ?_
      refine T_bipush (12) dX13_counted_187 rfl rfl ?_
      refine T_aload0 dX13_counted_189 rfl ?_
      refine g13_86 _ rfl (hM.t_m) (hM.g_n) dX13_counted_190 rfl ?_
      refine T_iast _ (hA.t_e) (show (12 : Int32) = nI 12 from rfl) (by omega) (by decide) dX13_counted_193 rfl ?_
      refine T_nm (fun M13 e13 => ?_)
      have hA := AV.mv (hA.p_v (by omega)) e13
      have hM := hM.frU e13 (by omega)
      have hS := hS.frU e13 (by omega)
      have hW := hW.frV e13 (by omega)
      have hK : ∀ q, q < sz → M13 q = M q := fun q hq => (by rw [e13, up_a (by omega)]; exact hK q hq)
      refine T_astore4 rfl (by decide) dX13_counted_194 rfl ?_
      refine T_aload4 dX13_counted_196 rfl ?_
      refine T_iload1 dX13_counted_198 rfl ?_
      refine T_iald _ (hA.t_e) rfl (by omega) (by decide) dX13_counted_199 rfl (hA.g_v (by omega)) ?_
      refine T_iret rfl rfl dX13_counted_200 ?_
      refine ⟨congrArg (fun z => some (Value.int z)) ?_, rfl, hT, hK⟩
      rcases (show j = 0 ∨ j = 1 ∨ j = 2 ∨ j = 3 ∨ j = 4 ∨ j = 5 ∨ j = 6 ∨ j = 7 ∨ j = 8 ∨ j = 9 ∨ j = 10 ∨ j = 11 ∨ j = 12 by omega) with rfl | rfl | rfl | rfl | rfl | rfl | rfl | rfl | rfl | rfl | rfl | rfl | rfl <;> first | (simp [uI, cntF, totF, hsOn, lkAll, wb_all, nb_all]; done) | (simp [uI, cntF, totF, hsOn, lkAll, wb_all, nb_all]; first | exact hp | exact hq)
    ·
      have c14 := lt_in rfl c14
      refine T_iload2 dX13_counted_19 rfl ?_
      refine T_aload0 dX13_counted_20 rfl ?_
      refine g13_47 _ rfl (hM.t_m) (hM.g_s1) dX13_counted_21 rfl ?_
      refine g13_297 _ rfl (hS.t_s) (hS.g_a2) dX13_counted_24 rfl ?_
      refine T_iload4 dX13_counted_27 rfl ?_
      refine T_iald _ (hS.t_a2) rfl (by omega) (by decide) dX13_counted_29 rfl (hS.g_wher (by omega)) ?_
      refine T_iconst (-1) dX13_counted_30 rfl rfl ?_
      refine T_icmp_ne 38 34 dX13_counted_31 (by decide) rfl (fun c29 => ?_) (fun c29 => ?_)
      ·
        refine T_iconst (1) dX13_counted_38 rfl rfl ?_
        refine T_iadd dX13_counted_39 rfl ?_
        refine T_istore2 rfl (by decide) dX13_counted_40 rfl ?_
        refine T_iload3 dX13_counted_41 rfl ?_
        refine T_aload0 dX13_counted_42 rfl ?_
        refine g13_47 _ rfl (hM.t_m) (hM.g_s1) dX13_counted_43 rfl ?_
        refine g13_300 _ rfl (hS.t_s) (hS.g_a6) dX13_counted_46 rfl ?_
        refine T_iload4 dX13_counted_49 rfl ?_
        refine T_iald _ (hS.t_a6) rfl (by omega) (by decide) dX13_counted_51 rfl (hS.g_link (by omega)) ?_
        refine T_iadd dX13_counted_52 rfl ?_
        refine T_istore3 rfl (by decide) dX13_counted_53 rfl ?_
        first | refine T_iinc4 rfl (by decide) dX13_counted_54 rfl (inc1 _) ?_ | refine T_iinc4 rfl (by decide) dX13_counted_54 rfl rfl ?_
        refine T_goto 7 dX13_counted_57 (by decide) ?_
        first | exact ih (k + 1) _ _ (by omega) (by rw [sm, hp]; simp [c29]) (by rw [sm, hq]) (by omega)
      ·
        refine T_iconst (0) dX13_counted_34 rfl rfl ?_
        refine T_goto 39 dX13_counted_35 (by decide) ?_
        refine T_iadd dX13_counted_39 rfl ?_
        refine T_istore2 rfl (by decide) dX13_counted_40 rfl ?_
        refine T_iload3 dX13_counted_41 rfl ?_
        refine T_aload0 dX13_counted_42 rfl ?_
        refine g13_47 _ rfl (hM.t_m) (hM.g_s1) dX13_counted_43 rfl ?_
        refine g13_300 _ rfl (hS.t_s) (hS.g_a6) dX13_counted_46 rfl ?_
        refine T_iload4 dX13_counted_49 rfl ?_
        refine T_iald _ (hS.t_a6) rfl (by omega) (by decide) dX13_counted_51 rfl (hS.g_link (by omega)) ?_
        refine T_iadd dX13_counted_52 rfl ?_
        refine T_istore3 rfl (by decide) dX13_counted_53 rfl ?_
        first | refine T_iinc4 rfl (by decide) dX13_counted_54 rfl (inc1 _) ?_ | refine T_iinc4 rfl (by decide) dX13_counted_54 rfl rfl ?_
        refine T_goto 7 dX13_counted_57 (by decide) ?_
        first | exact ih (k + 1) _ _ (by omega) (by rw [sm, hp]; simp [c29]) (by rw [sm, hq]) (by omega)
set_option maxHeartbeats 1000000 in
theorem c_X13_counted {l : Launch} {D : va_G} {cA : Nat → ClassId} {n0 : Nat} {sg adK adV : Nat → Nat} {sgA smA wdA bS LS : Nat} {xs : Nat → Int32} (hX : SF n0 (XW0 sg adK adV sgA smA wdA n0 bS LS xs)) {sz : Nat} {τ : TY} {N1 N2 M : ME} {m y z n8 tk dp a b c hc wc sn : Nat} {B : Nat → Nat} {ω ρ π : RH} {σ : Nat → Nat} {μ κ : Nat → Int32} (hM : MV τ N1 M m y z (m + 26) (m + 40) n8 tk dp B ω) (hS : SL τ N2 M (m + 26) a b c ρ m μ κ) (hW : WN τ M m y (m + 26) a b c hc wc sn ρ π σ) (hL : y = m + 7 ∨ m + 54 ≤ y) {j : Nat} (hj : j < 13) : CT l D cA n0 (XW0 sg adK adV sgA smA wdA n0 bS LS xs) mX13_counted 3 1 13 sz τ M [.ref m, .int (nI j)] (fun v' sz' τ' M' => v' = some (.int (cntF a b c n8 ρ j)) ∧ sz' = sz + 1 ∧ (∀ q, q < sz → τ' q = τ q) ∧ (∀ q, q < sz → M' q = M q)) := by
  refine CT.of (ls := [.ref m, .int (nI j), UU, UU, UU]) (by decide) (Nat.le_of_ble_eq_true rfl) rfl ?_
  refine T_iconst (0) dX13_counted_0 rfl rfl ?_
  refine T_istore2 rfl (by decide) dX13_counted_1 rfl ?_
  refine T_iconst (0) dX13_counted_2 rfl rfl ?_
  refine T_istore3 rfl (by decide) dX13_counted_3 rfl ?_
  refine T_iconst (0) dX13_counted_4 rfl rfl ?_
  refine T_istore4 rfl (by decide) dX13_counted_5 rfl ?_
  exact L_X13_counted hX hM hS hW hL hj (b + 1) 0 0 0 (Nat.zero_le _) rfl rfl (by omega)
