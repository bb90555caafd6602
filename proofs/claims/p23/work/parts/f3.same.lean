/-! what isSame compares -/
def roF (ρ : RH) (h : Nat) : Int32 := if ρ 15 h < 0 then 0 else 1
theorem ro_e {a b c : Nat} {ρ : RH} (hi : RI a b c ρ) (ha : a ≤ 8) : ∀ k, k ≤ b → sm (roF ρ) k = nI k - hsOn k ρ (-1)
  | 0, _ => by show (0 : Int32) = nI 0 - 0; decide
  | k + 1, hk => by
    have ih := ro_e hi ha k (by omega)
    unfold hsOn at ih ⊢
    rw [sm, sm, ih, ← nI_1 k]
    have : roF ρ k = 1 - (if ρ 15 k = -1 then 1 else 0) := by
      unfold roF
      rcases (hi.1 k (by omega)).1 with e | ⟨t, ht, e⟩
      · rw [e]; decide
      · rw [e, if_neg (nI_nneg (by omega)), if_neg (nI_m1 (by omega))]; rfl
    rw [this]
    generalize sm _ k = x1
    generalize (if ρ 15 k = -1 then (1 : Int32) else 0) = x2
    generalize nI k = x3
    apply Int32.toBitVec_inj.mp
    simp only [Int32.toBitVec_add, Int32.toBitVec_sub]
    have : (1 : Int32).toBitVec = 1#32 := rfl
    rw [this]
    bv_omega
theorem lg_e {ρ : RH} {g k : Nat} (hk : k < 4) : lgF ρ g k = ρ (31 + k) g := by
  rcases (by omega : k = 0 ∨ k = 1 ∨ k = 2 ∨ k = 3) with rfl | rfl | rfl | rfl <;> rfl
theorem dc_0 : ∀ n, n < 14 → ∀ w, w < 61 * (n + 1) → Op.cmpValue (FP.dcmp (FP.ddiv (FP.i2d (nI w)) (FP.i2d (nI (n + 1)))) (FP.ddiv (FP.i2d (nI w)) (FP.i2d (nI (n + 1))))) .l = 0 := by decide +kernel
theorem me_c {ρ : RH} {c : Nat} (hc : c ≤ 14) (h : ∀ l, l < c → 1 ≤ ρ 31 l ∧ ρ 31 l ≤ 60) : Op.cmpValue (FP.dcmp (meF c ρ) (meF c ρ)) .l = 0 := by
  obtain ⟨n, w, h1, h2, h3, h4⟩ := wn_60 h
  unfold meF
  by_cases h0 : nOf c ρ 3 = 0
  · rw [if_pos h0]; decide +kernel
  · rw [if_neg h0]
    rw [h3] at h0
    have hn : n ≠ 0 := fun q => h0 (by rw [q]; rfl)
    obtain ⟨k, rfl⟩ : ∃ k, n = k + 1 := ⟨n - 1, by omega⟩
    rw [h3, h4]
    exact dc_0 k (by omega) w (by omega)
theorem SM.at5 {τ : TY} {M0 M : ME} {j e : Nat} {A : Nat → Nat} {Rw : Nat → Nat → Nat} {cn : Nat → Nat} {ρ : RH} {μ : Nat → Int32} {κ ω : Nat → Nat → Int32} (h : SM τ M0 M j e A Rw cn ρ μ κ ω) {i k : Nat} (hi : i < cn 5) (hk : k < 4) : M (Rw 5 i) k = .int (lgF ρ i k) := by
  rw [lg_e hk]; exact h.2.2.2.1.2.2.2.2.1 i k hi hk
set_option maxHeartbeats 1000000 in
theorem I5_isSame {l : Launch} {D : va_G} {cA : Nat → ClassId} {n0 : Nat} {sg adK adV : Nat → Nat} {sgA smA wdA bS LS : Nat} {xs : Nat → Int32} (hX : SF n0 (XW0 sg adK adV sgA smA wdA n0 bS LS xs)) (hl : l.stackTraces = false) {x r p r2 p2 hc wc sc j e : Nat} {A : Nat → Nat} {Rw : Nat → Nat → Nat} {cn : Nat → Nat} {ρ π : RH} {ν : NU} {σ : Nat → Nat} {B : Nat → Nat} {fa : Int32} {μ : Nat → Int32} {κ ω : Nat → Nat → Int32} {s0 : Nat} (hlo : x + 144 ≤ s0 ∧ e ≤ s0) (hI : RI (cn 3) (cn 4) (cn 5) ρ) {sk dA : Nat} {τk : TY} {Mk : ME} (hC : CS sg τk Mk x r p r2 p2 0 (cn 3) (cn 4) (cn 5) hc wc sc ρ ν π σ B fa) (hS : SM τk Mk Mk j e A Rw cn ρ μ κ ω) (hta : τk dA = (100, 13)) (hD : ∀ i, i < 13 → Mk dA i = .int (cntF (cn 3) (cn 4) (cn 5) 0 ρ i)) {y2 y3 y6 y7 y8 y9 : Value} : ∀ (n : Nat) (k : Nat) (hk : k ≤ 13), 13 - k < n → T l D cA n0 (XW0 sg adK adV sgA smA wdA n0 bS LS xs) mX11_isSame 10 (1 * (13 - k)) (6 * (13 - k)) sk τk Mk 543 [.ref j, .ref x, y2, y3, .ref dA, .int (nI k), y6, y7, y8, y9] [] (fun v' _ _ _ => v' = some (.int 1)) (fun _ _ _ _ => False) := by
  intro n
  induction n with
  | zero => intros; omega
  | succ n ih =>
    intro k hk hn
    have hok := hS.ok
    unfold CnOK at hok
    have hin := hS.in0
    refine T_iload5 dX11_isSame_543 rfl ?_
    refine T_bipush (13) dX11_isSame_545 rfl rfl ?_
    refine T_icmp_ge 572 550 dX11_isSame_547 (by decide) rfl (fun c9 => ?_) (fun c9 => ?_)
    ·
      have c9 := (nI_leI (a := 13) (by omega) (by omega)).mp c9
      refine T_aload1 dX11_isSame_572 rfl ?_
      refine T_less (bk1 := 0) (bn1 := 0) (by omega) (by omega) ?_
      refine q_mean hX hl hC hI k11_100 (by decide) (Nat.le_of_ble_eq_true rfl) dX11_isSame_573 rfl ?_
      refine T_aload0 dX11_isSame_576 rfl ?_
      refine T_iconst (3) dX11_isSame_577 rfl rfl ?_
      refine T_iconst (-1) dX11_isSame_578 rfl rfl ?_
      refine T_cV2 (mc' := 0) (ms' := 0) (c_X11_number hX hS 3 (-1)) hX k11_50 (Or.inl ⟨_, _, _, _, hS.t0, by decide, rfl⟩) (by decide) (Nat.le_of_ble_eq_true rfl) dX11_isSame_579 rfl ?_
      rintro _ szq τq Mq ⟨rfl, ea, eb, ec⟩
      obtain rfl := ea.symm
      obtain rfl := eb.symm
      obtain rfl := ec.symm
      rw [nu_w]
      refine T_if_ne 589 585 dX11_isSame_582 (by decide) rfl (fun c582 => ?_) (fun c582 => ?_)
      ·
        refine T_aload0 dX11_isSame_589 rfl ?_
        refine T_iconst (3) dX11_isSame_590 rfl rfl ?_
        refine T_iconst (-1) dX11_isSame_591 rfl rfl ?_
        refine T_cV2 (mc' := 0) (ms' := 0) (c_X11_weigh hX hS 3 (-1)) hX k11_27 (Or.inl ⟨_, _, _, _, hS.t0, by decide, rfl⟩) (by decide) (Nat.le_of_ble_eq_true rfl) dX11_isSame_592 rfl ?_
        rintro _ szq τq Mq ⟨rfl, ea, eb, ec⟩
        obtain rfl := ea.symm
        obtain rfl := eb.symm
        obtain rfl := ec.symm
        rw [wg_w]
        refine T_i2d dX11_isSame_595 rfl ?_
        refine T_aload0 dX11_isSame_596 rfl ?_
        refine T_iconst (3) dX11_isSame_597 rfl rfl ?_
        refine T_iconst (-1) dX11_isSame_598 rfl rfl ?_
        refine T_cV2 (mc' := 0) (ms' := 0) (c_X11_number hX hS 3 (-1)) hX k11_50 (Or.inl ⟨_, _, _, _, hS.t0, by decide, rfl⟩) (by decide) (Nat.le_of_ble_eq_true rfl) dX11_isSame_599 rfl ?_
        rintro _ szq τq Mq ⟨rfl, ea, eb, ec⟩
        obtain rfl := ea.symm
        obtain rfl := eb.symm
        obtain rfl := ec.symm
        rw [nu_w]
        refine T_i2d dX11_isSame_602 rfl ?_
        refine T_ddiv dX11_isSame_603 rfl (me_ok (by omega) hI.2 c582) ?_
        have hz := me_c (c := cn 5) (by omega) hI.2
        first
          | (have em : meF (cn 5) ρ = FP.ddiv (FP.i2d (wOf (cn 5) ρ 3)) (FP.i2d (nOf (cn 5) ρ 3)) := if_neg c582
             rw [← em])
          | (have em : meF (cn 5) ρ = 0 := if_pos c582
             rw [em] at hz ⊢)
        refine T_dcmp dX11_isSame_604 rfl ?_
        refine T_if_ne_f 612 608 dX11_isSame_605 (by decide) rfl hz ?_
        refine T_iconst (1) dX11_isSame_608 rfl rfl ?_
        refine T_goto 613 dX11_isSame_609 (by decide) ?_
        refine T_iret rfl rfl dX11_isSame_613 ?_
        rfl
      ·
        refine T_dconst0 dX11_isSame_585 rfl ?_
        refine T_goto 604 dX11_isSame_586 (by decide) ?_
        have hz := me_c (c := cn 5) (by omega) hI.2
        first
          | (have em : meF (cn 5) ρ = FP.ddiv (FP.i2d (wOf (cn 5) ρ 3)) (FP.i2d (nOf (cn 5) ρ 3)) := if_neg c582
             rw [← em])
          | (have em : meF (cn 5) ρ = 0 := if_pos c582
             rw [em] at hz ⊢)
        refine T_dcmp dX11_isSame_604 rfl ?_
        refine T_if_ne_f 612 608 dX11_isSame_605 (by decide) rfl hz ?_
        refine T_iconst (1) dX11_isSame_608 rfl rfl ?_
        refine T_goto 613 dX11_isSame_609 (by decide) ?_
        refine T_iret rfl rfl dX11_isSame_613 ?_
        rfl
    ·
      have c9 : k < 13 := Nat.lt_of_not_le (fun q => c9 ((nI_leI (a := 13) (by omega) (by omega)).mpr q))
      refine T_aload1 dX11_isSame_550 rfl ?_
      refine T_iload5 dX11_isSame_551 rfl ?_
      refine T_less (bk1 := 1 * (13 - (k + 1)) + 1) (bn1 := 6 * (13 - (k + 1)) + 6) (by omega) (by omega) ?_
      refine q_count hX hl hC c9 k11_97 (by decide) (Nat.le_of_ble_eq_true rfl) dX11_isSame_553 rfl ?_
      refine T_aload4 dX11_isSame_556 rfl ?_
      refine T_iload5 dX11_isSame_558 rfl ?_
      refine T_iald k hta rfl c9 (by decide) dX11_isSame_560 rfl (hD k c9) ?_
      refine T_icmp_eq_t 566 dX11_isSame_561 (by decide) rfl ?_
      first | refine T_iinc5 rfl (by decide) dX11_isSame_566 rfl (inc1 _) ?_ | refine T_iinc5 rfl (by decide) dX11_isSame_566 rfl rfl ?_
      refine T_goto 543 dX11_isSame_569 (by decide) ?_
      exact ih (k + 1) (by omega) (by omega)
set_option maxHeartbeats 1000000 in
theorem J4_isSame {l : Launch} {D : va_G} {cA : Nat → ClassId} {n0 : Nat} {sg adK adV : Nat → Nat} {sgA smA wdA bS LS : Nat} {xs : Nat → Int32} (hX : SF n0 (XW0 sg adK adV sgA smA wdA n0 bS LS xs)) (hl : l.stackTraces = false) {x r p r2 p2 hc wc sc j e : Nat} {A : Nat → Nat} {Rw : Nat → Nat → Nat} {cn : Nat → Nat} {ρ π : RH} {ν : NU} {σ : Nat → Nat} {B : Nat → Nat} {fa : Int32} {μ : Nat → Int32} {κ ω : Nat → Nat → Int32} {s0 : Nat} (hlo : x + 144 ≤ s0 ∧ e ≤ s0) (hI : RI (cn 3) (cn 4) (cn 5) ρ) {sk g : Nat} {τk : TY} {Mk : ME} (hC : CS sg τk Mk x r p r2 p2 0 (cn 3) (cn 4) (cn 5) hc wc sc ρ ν π σ B fa) (hS : SM τk Mk Mk j e A Rw cn ρ μ κ ω) (hg : g < cn 5) {bk bn : Nat} {y2 y3 y6 y7 y8 y9 : Value} (KK : T l D cA n0 (XW0 sg adK adV sgA smA wdA n0 bS LS xs) mX11_isSame 10 bk bn sk τk Mk 428 [.ref j, .ref x, y2, y3, .int (nI g), .int (nI 4), y6, y7, y8, y9] [] (fun v' _ _ _ => v' = some (.int 1)) (fun _ _ _ _ => False)) : ∀ (n : Nat) (k : Nat) (hk : k ≤ 4), 4 - k < n → T l D cA n0 (XW0 sg adK adV sgA smA wdA n0 bS LS xs) mX11_isSame 10 (bk + 2 * (4 - k)) (bn + 12 * (4 - k)) sk τk Mk 393 [.ref j, .ref x, y2, y3, .int (nI g), .int (nI k), y6, y7, y8, y9] [] (fun v' _ _ _ => v' = some (.int 1)) (fun _ _ _ _ => False) := by
  intro n
  induction n with
  | zero => intros; omega
  | succ n ih =>
    intro k hk hn
    have hok := hS.ok
    unfold CnOK at hok
    have hin := hS.in0
    refine T_iload5 dX11_isSame_393 rfl ?_
    refine T_iconst (4) dX11_isSame_395 rfl rfl ?_
    refine T_icmp_ge 428 399 dX11_isSame_396 (by decide) rfl (fun c9 => ?_) (fun c9 => ?_)
    ·
      have c9 := (nI_leI (a := 4) (by omega) (by omega)).mp c9
      have hk4 : k = 4 := by omega
      subst hk4
      exact T_less (by omega) (by omega) KK
    ·
      have c9 : k < 4 := Nat.lt_of_not_le (fun q => c9 ((nI_leI (a := 4) (by omega) (by omega)).mpr q))
      refine T_aload1 dX11_isSame_399 rfl ?_
      refine T_iload4 dX11_isSame_400 rfl ?_
      refine T_iload5 dX11_isSame_402 rfl ?_
      refine T_less (bk1 := bk + 2 * (4 - (k + 1)) + 2) (bn1 := bn + 12 * (4 - (k + 1)) + 12) (by omega) (by omega) ?_
      refine q_log hX hl hC hg c9 k11_95 (by decide) (Nat.le_of_ble_eq_true rfl) dX11_isSame_404 rfl ?_
      refine T_aload0 dX11_isSame_407 rfl ?_
      refine g11_18 _ rfl hS.t0 (hS.pa (f := 5) (by decide) (by decide)) dX11_isSame_408 rfl ?_
      refine T_iload4 dX11_isSame_411 rfl ?_
      refine T_aaldA _ hS.ta5 rfl (by omega) (by omega) dX11_isSame_413 rfl (hS.pr (f := 5) (by decide) (by decide) (by omega)) ?_
      refine T_iload5 dX11_isSame_414 rfl ?_
      refine T_iald k (hS.tr5 hg) rfl c9 (by decide) dX11_isSame_416 rfl (hS.at5 hg c9) ?_
      refine T_icmp_eq_t 422 dX11_isSame_417 (by decide) rfl ?_
      first | refine T_iinc5 rfl (by decide) dX11_isSame_422 rfl (inc1 _) ?_ | refine T_iinc5 rfl (by decide) dX11_isSame_422 rfl rfl ?_
      refine T_goto 393 dX11_isSame_425 (by decide) ?_
      exact ih (k + 1) (by omega) (by omega)
set_option maxHeartbeats 1000000 in
theorem I4_isSame {l : Launch} {D : va_G} {cA : Nat → ClassId} {n0 : Nat} {sg adK adV : Nat → Nat} {sgA smA wdA bS LS : Nat} {xs : Nat → Int32} (hX : SF n0 (XW0 sg adK adV sgA smA wdA n0 bS LS xs)) (hl : l.stackTraces = false) {x r p r2 p2 hc wc sc j e : Nat} {A : Nat → Nat} {Rw : Nat → Nat → Nat} {cn : Nat → Nat} {ρ π : RH} {ν : NU} {σ : Nat → Nat} {B : Nat → Nat} {fa : Int32} {μ : Nat → Int32} {κ ω : Nat → Nat → Int32} {s0 : Nat} (hlo : x + 144 ≤ s0 ∧ e ≤ s0) (hI : RI (cn 3) (cn 4) (cn 5) ρ) {sk : Nat} {τk : TY} {Mk : ME} (hs0 : s0 ≤ sk) (hC : CS sg τk Mk x r p r2 p2 0 (cn 3) (cn 4) (cn 5) hc wc sc ρ ν π σ B fa) (hS : SM τk Mk Mk j e A Rw cn ρ μ κ ω) : ∀ (n : Nat) (g : Nat) (y5 : Value) (y6 : Value) (y7 : Value) (y8 : Value) (y9 : Value) (hg : g ≤ cn 5), cn 5 - g < n → T l D cA n0 (XW0 sg adK adV sgA smA wdA n0 bS LS xs) mX11_isSame 10 (8 * (14 - g) + 14) (48 * (14 - g) + 91) sk τk Mk 380 [.ref j, .ref x, .int (nI (cn 4) - hsOn (cn 4) ρ (-1)), .int (lkAll (cn 4) ρ), .int (nI g), y5, y6, y7, y8, y9] [] (fun v' _ _ _ => v' = some (.int 1)) (fun _ _ _ _ => False) := by
  intro n
  induction n with
  | zero => intros; omega
  | succ n ih =>
    intro g y5 y6 y7 y8 y9 hg hn
    have hok := hS.ok
    unfold CnOK at hok
    have hin := hS.in0
    refine T_iload4 dX11_isSame_380 rfl ?_
    refine T_aload0 dX11_isSame_382 rfl ?_
    refine g11_18 _ rfl hS.t0 (hS.pa (f := 5) (by decide) (by decide)) dX11_isSame_383 rfl ?_
    refine T_alen (j := 8) hS.ta5 (by decide) dX11_isSame_386 rfl ?_
    refine T_icmp_ge 434 390 dX11_isSame_387 (by decide) rfl (fun c9 => ?_) (fun c9 => ?_)
    ·
      have c9 := le_out rfl c9
      refine T_bipush (13) dX11_isSame_434 rfl rfl ?_
      refine T_less (bk1 := 13 * 1 + 1) (bn1 := 78 + 13) (by omega) (by omega) ?_
      refine T_newa (atype := .int) (N := 13) 0 (fun _ => .int 0) ka_int (by decide) rfl rfl (by decide) rfl dX11_isSame_436 rfl ?_
      refine T_nt (fun τ1 eτ => ?_)
      refine T_nm (fun M0 e0 => ?_)
      have hta : τ1 sk = (100, 13) := by rw [eτ]; exact tyN_s _ _ _
      have hT1 : ∀ q, q ≠ sk → τ1 q = τk q := fun q hq => by rw [eτ]; exact tyN_n hq
      have hC := (hC.tau (τ' := τ1) (fun q g1 g2 => hT1 q (by omega))).fr (M1 := M0) (fun q g1 g2 => by rw [e0]; exact meN_n (by omega))
      have hS := (hS.tau (τ' := τ1) (fun q g1 g2 => hT1 q (by omega))).fr (M1 := M0) (fun q g1 g2 => by rw [e0]; exact meN_n (by omega))
      refine T_dup dX11_isSame_438 rfl rfl ?_
      refine T_iconst (0) dX11_isSame_439 rfl rfl ?_
      refine T_aload0 dX11_isSame_440 rfl ?_
      refine g11_44 _ rfl hS.t0 hS.g0_0 dX11_isSame_441 rfl ?_
      refine T_iast 0 hta rfl (by decide) (by decide) dX11_isSame_444 rfl ?_
      refine T_nm (fun M1 e1 => ?_)
      have hC := hC.fr (M1 := M1) (fun q g1 g2 => by rw [e1]; exact up_a (by omega))
      have hS := hS.fr (M1 := M1) (fun q g1 g2 => by rw [e1]; exact up_a (by omega))
      refine T_dup dX11_isSame_445 rfl rfl ?_
      refine T_iconst (1) dX11_isSame_446 rfl rfl ?_
      refine T_aload0 dX11_isSame_447 rfl ?_
      refine g11_40 _ rfl hS.t0 hS.g0_1 dX11_isSame_448 rfl ?_
      refine T_iast 1 hta rfl (by decide) (by decide) dX11_isSame_451 rfl ?_
      refine T_nm (fun M2 e2 => ?_)
      have hC := hC.fr (M1 := M2) (fun q g1 g2 => by rw [e2]; exact up_a (by omega))
      have hS := hS.fr (M1 := M2) (fun q g1 g2 => by rw [e2]; exact up_a (by omega))
      refine T_dup dX11_isSame_452 rfl rfl ?_
      refine T_iconst (2) dX11_isSame_453 rfl rfl ?_
      refine T_aload0 dX11_isSame_454 rfl ?_
      refine g11_9 _ rfl hS.t0 (hS.pa (f := 3) (by decide) (by decide)) dX11_isSame_455 rfl ?_
      refine T_alen (j := 8) hS.ta3 (by decide) dX11_isSame_458 rfl ?_
      refine T_iast 2 hta rfl (by decide) (by decide) dX11_isSame_459 rfl ?_
      refine T_nm (fun M3 e3 => ?_)
      have hC := hC.fr (M1 := M3) (fun q g1 g2 => by rw [e3]; exact up_a (by omega))
      have hS := hS.fr (M1 := M3) (fun q g1 g2 => by rw [e3]; exact up_a (by omega))
      refine T_dup dX11_isSame_460 rfl rfl ?_
      refine T_iconst (3) dX11_isSame_461 rfl rfl ?_
      refine T_aload0 dX11_isSame_462 rfl ?_
      refine g11_15 _ rfl hS.t0 (hS.pa (f := 4) (by decide) (by decide)) dX11_isSame_463 rfl ?_
      refine T_alen (j := 8) hS.ta4 (by decide) dX11_isSame_466 rfl ?_
      refine T_iast 3 hta rfl (by decide) (by decide) dX11_isSame_467 rfl ?_
      refine T_nm (fun M4 e4 => ?_)
      have hC := hC.fr (M1 := M4) (fun q g1 g2 => by rw [e4]; exact up_a (by omega))
      have hS := hS.fr (M1 := M4) (fun q g1 g2 => by rw [e4]; exact up_a (by omega))
      refine T_dup dX11_isSame_468 rfl rfl ?_
      refine T_iconst (4) dX11_isSame_469 rfl rfl ?_
      refine T_aload0 dX11_isSame_470 rfl ?_
      refine g11_18 _ rfl hS.t0 (hS.pa (f := 5) (by decide) (by decide)) dX11_isSame_471 rfl ?_
      refine T_alen (j := 8) hS.ta5 (by decide) dX11_isSame_474 rfl ?_
      refine T_iast 4 hta rfl (by decide) (by decide) dX11_isSame_475 rfl ?_
      refine T_nm (fun M5 e5 => ?_)
      have hC := hC.fr (M1 := M5) (fun q g1 g2 => by rw [e5]; exact up_a (by omega))
      have hS := hS.fr (M1 := M5) (fun q g1 g2 => by rw [e5]; exact up_a (by omega))
      refine T_dup dX11_isSame_476 rfl rfl ?_
      refine T_iconst (5) dX11_isSame_477 rfl rfl ?_
      refine T_aload0 dX11_isSame_478 rfl ?_
      refine T_iconst (0) dX11_isSame_479 rfl rfl ?_
      refine T_iconst (-1) dX11_isSame_480 rfl rfl ?_
      refine T_cV2 (mc' := 0) (ms' := 0) (c_X11_weigh hX hS 0 (-1)) hX k11_27 (Or.inl ⟨_, _, _, _, hS.t0, by decide, rfl⟩) (by decide) (Nat.le_of_ble_eq_true rfl) dX11_isSame_481 rfl ?_
      rintro _ szq τq Mq ⟨rfl, ea, eb, ec⟩
      obtain rfl := ea.symm
      obtain rfl := eb.symm
      obtain rfl := ec.symm
      rw [wg_w]
      refine T_iast 5 hta rfl (by decide) (by decide) dX11_isSame_484 rfl ?_
      refine T_nm (fun M6 e6 => ?_)
      have hC := hC.fr (M1 := M6) (fun q g1 g2 => by rw [e6]; exact up_a (by omega))
      have hS := hS.fr (M1 := M6) (fun q g1 g2 => by rw [e6]; exact up_a (by omega))
      refine T_dup dX11_isSame_485 rfl rfl ?_
      refine T_bipush (6) dX11_isSame_486 rfl rfl ?_
      refine T_aload0 dX11_isSame_488 rfl ?_
      refine T_iconst (3) dX11_isSame_489 rfl rfl ?_
      refine T_iconst (-1) dX11_isSame_490 rfl rfl ?_
      refine T_cV2 (mc' := 0) (ms' := 0) (c_X11_weigh hX hS 3 (-1)) hX k11_27 (Or.inl ⟨_, _, _, _, hS.t0, by decide, rfl⟩) (by decide) (Nat.le_of_ble_eq_true rfl) dX11_isSame_491 rfl ?_
      rintro _ szq τq Mq ⟨rfl, ea, eb, ec⟩
      obtain rfl := ea.symm
      obtain rfl := eb.symm
      obtain rfl := ec.symm
      rw [wg_w]
      refine T_iast 6 hta rfl (by decide) (by decide) dX11_isSame_494 rfl ?_
      refine T_nm (fun M7 e7 => ?_)
      have hC := hC.fr (M1 := M7) (fun q g1 g2 => by rw [e7]; exact up_a (by omega))
      have hS := hS.fr (M1 := M7) (fun q g1 g2 => by rw [e7]; exact up_a (by omega))
      refine T_dup dX11_isSame_495 rfl rfl ?_
      refine T_bipush (7) dX11_isSame_496 rfl rfl ?_
      refine T_aload0 dX11_isSame_498 rfl ?_
      refine T_iconst (3) dX11_isSame_499 rfl rfl ?_
      refine T_iconst (-1) dX11_isSame_500 rfl rfl ?_
      refine T_cV2 (mc' := 0) (ms' := 0) (c_X11_number hX hS 3 (-1)) hX k11_50 (Or.inl ⟨_, _, _, _, hS.t0, by decide, rfl⟩) (by decide) (Nat.le_of_ble_eq_true rfl) dX11_isSame_501 rfl ?_
      rintro _ szq τq Mq ⟨rfl, ea, eb, ec⟩
      obtain rfl := ea.symm
      obtain rfl := eb.symm
      obtain rfl := ec.symm
      rw [nu_w]
      refine T_iast 7 hta rfl (by decide) (by decide) dX11_isSame_504 rfl ?_
      refine T_nm (fun M8 e8 => ?_)
      have hC := hC.fr (M1 := M8) (fun q g1 g2 => by rw [e8]; exact up_a (by omega))
      have hS := hS.fr (M1 := M8) (fun q g1 g2 => by rw [e8]; exact up_a (by omega))
      refine T_dup dX11_isSame_505 rfl rfl ?_
      refine T_bipush (8) dX11_isSame_506 rfl rfl ?_
      refine T_aload0 dX11_isSame_508 rfl ?_
      refine T_iconst (2) dX11_isSame_509 rfl rfl ?_
      refine T_iconst (-1) dX11_isSame_510 rfl rfl ?_
      refine T_cV2 (mc' := 0) (ms' := 0) (c_X11_number hX hS 2 (-1)) hX k11_50 (Or.inl ⟨_, _, _, _, hS.t0, by decide, rfl⟩) (by decide) (Nat.le_of_ble_eq_true rfl) dX11_isSame_511 rfl ?_
      rintro _ szq τq Mq ⟨rfl, ea, eb, ec⟩
      obtain rfl := ea.symm
      obtain rfl := eb.symm
      obtain rfl := ec.symm
      rw [nu_w]
      refine T_iast 8 hta rfl (by decide) (by decide) dX11_isSame_514 rfl ?_
      refine T_nm (fun M9 e9 => ?_)
      have hC := hC.fr (M1 := M9) (fun q g1 g2 => by rw [e9]; exact up_a (by omega))
      have hS := hS.fr (M1 := M9) (fun q g1 g2 => by rw [e9]; exact up_a (by omega))
      refine T_dup dX11_isSame_515 rfl rfl ?_
      refine T_bipush (9) dX11_isSame_516 rfl rfl ?_
      refine T_iload2 dX11_isSame_518 rfl ?_
      refine T_iast 9 hta rfl (by decide) (by decide) dX11_isSame_519 rfl ?_
      refine T_nm (fun M10 e10 => ?_)
      have hC := hC.fr (M1 := M10) (fun q g1 g2 => by rw [e10]; exact up_a (by omega))
      have hS := hS.fr (M1 := M10) (fun q g1 g2 => by rw [e10]; exact up_a (by omega))
      refine T_dup dX11_isSame_520 rfl rfl ?_
      refine T_bipush (10) dX11_isSame_521 rfl rfl ?_
      refine T_iload3 dX11_isSame_523 rfl ?_
      refine T_iast 10 hta rfl (by decide) (by decide) dX11_isSame_524 rfl ?_
      refine T_nm (fun M11 e11 => ?_)
      have hC := hC.fr (M1 := M11) (fun q g1 g2 => by rw [e11]; exact up_a (by omega))
      have hS := hS.fr (M1 := M11) (fun q g1 g2 => by rw [e11]; exact up_a (by omega))
      refine T_dup dX11_isSame_525 rfl rfl ?_
      refine T_bipush (11) dX11_isSame_526 rfl rfl ?_
      refine T_aload0 dX11_isSame_528 rfl ?_
      refine g11_68 _ rfl hS.t0 hS.g0_2 dX11_isSame_529 rfl ?_
      refine T_iast 11 hta rfl (by decide) (by decide) dX11_isSame_532 rfl ?_
      refine T_nm (fun M12 e12 => ?_)
      have hC := hC.fr (M1 := M12) (fun q g1 g2 => by rw [e12]; exact up_a (by omega))
      have hS := hS.fr (M1 := M12) (fun q g1 g2 => by rw [e12]; exact up_a (by omega))
      refine T_dup dX11_isSame_533 rfl rfl ?_
      refine T_bipush (12) dX11_isSame_534 rfl rfl ?_
      refine T_iconst (0) dX11_isSame_536 rfl rfl ?_
      refine T_iast 12 hta rfl (by decide) (by decide) dX11_isSame_537 rfl ?_
      refine T_nm (fun M13 e13 => ?_)
      have hC := hC.fr (M1 := M13) (fun q g1 g2 => by rw [e13]; exact up_a (by omega))
      have hS := hS.fr (M1 := M13) (fun q g1 g2 => by rw [e13]; exact up_a (by omega))
      have hD : ∀ i, i < 13 → M13 sk i = .int (cntF (cn 3) (cn 4) (cn 5) 0 ρ i) := fun i hi => by
        rcases (by omega : i = 0 ∨ i = 1 ∨ i = 2 ∨ i = 3 ∨ i = 4 ∨ i = 5 ∨ i = 6 ∨ i = 7 ∨ i = 8 ∨ i = 9 ∨ i = 10 ∨ i = 11 ∨ i = 12) with rfl | rfl | rfl | rfl | rfl | rfl | rfl | rfl | rfl | rfl | rfl | rfl | rfl
        all_goals (rw [e13, e12, e11, e10, e9, e8, e7, e6, e5, e4, e3, e2, e1]; (repeat (first | rw [up_s] | rw [up_k (by decide)])); first | rfl | exact congrArg Value.int rfl)
      refine T_astore4 rfl (by decide) dX11_isSame_538 rfl ?_
      refine T_iconst (0) dX11_isSame_540 rfl rfl ?_
      refine T_istore5 rfl (by decide) dX11_isSame_541 rfl ?_
      exact T_less (by omega) (by omega) (I5_isSame hX hl hlo hI hC hS hta hD 14 0 (by decide) (by decide))
    ·
      have c9 := lt_in rfl c9
      refine T_iconst (0) dX11_isSame_390 rfl rfl ?_
      refine T_istore5 rfl (by decide) dX11_isSame_391 rfl ?_
      refine T_less (bk1 := 8 * (14 - (g + 1)) + 14 + 2 * 4) (bn1 := 48 * (14 - (g + 1)) + 91 + 12 * 4) (by omega) (by omega) ?_
      exact J4_isSame hX hl hlo hI hC hS c9 (by
        refine T_iinc4 rfl (by decide) dX11_isSame_428 rfl (inc1 _) ?_
        refine T_goto 380 dX11_isSame_431 (by decide) ?_
        exact ih (g + 1) _ _ _ _ _ (by omega) (by omega)) 5 0 (by decide) (by decide)
set_option maxHeartbeats 1000000 in
theorem J33_isSame {l : Launch} {D : va_G} {cA : Nat → ClassId} {n0 : Nat} {sg adK adV : Nat → Nat} {sgA smA wdA bS LS : Nat} {xs : Nat → Int32} (hX : SF n0 (XW0 sg adK adV sgA smA wdA n0 bS LS xs)) (hl : l.stackTraces = false) {x r p r2 p2 hc wc sc j e : Nat} {A : Nat → Nat} {Rw : Nat → Nat → Nat} {cn : Nat → Nat} {ρ π : RH} {ν : NU} {σ : Nat → Nat} {B : Nat → Nat} {fa : Int32} {μ : Nat → Int32} {κ ω : Nat → Nat → Int32} {s0 : Nat} (hlo : x + 144 ≤ s0 ∧ e ≤ s0) (hI : RI (cn 3) (cn 4) (cn 5) ρ) {sk t : Nat} {τk : TY} {Mk : ME} (hC : CS sg τk Mk x r p r2 p2 0 (cn 3) (cn 4) (cn 5) hc wc sc ρ ν π σ B fa) (hS : SM τk Mk Mk j e A Rw cn ρ μ κ ω) (ht : t < cn 3) {bk bn : Nat} {dA : Nat} {y2 y3 y5 y8 y9 : Value} (KK : T l D cA n0 (XW0 sg adK adV sgA smA wdA n0 bS LS xs) mX11_isSame 10 bk bn sk τk Mk 371 [.ref j, .ref x, y2, y3, .int (nI t), y5, .ref dA, .int (nI (cn 4)), y8, y9] [] (fun v' _ _ _ => v' = some (.int 1)) (fun _ _ _ _ => False)) : ∀ (n : Nat) (h : Nat) (hh : h ≤ cn 4), cn 4 - h < n → T l D cA n0 (XW0 sg adK adV sgA smA wdA n0 bS LS xs) mX11_isSame 10 (bk + 2 * (cn 4 - h)) (bn + 12 * (cn 4 - h)) sk τk Mk 334 [.ref j, .ref x, y2, y3, .int (nI t), y5, .ref dA, .int (nI h), y8, y9] [] (fun v' _ _ _ => v' = some (.int 1)) (fun _ _ _ _ => False) := by
  intro n
  induction n with
  | zero => intros; omega
  | succ n ih =>
    intro h hh hn
    have hok := hS.ok
    unfold CnOK at hok
    have hin := hS.in0
    refine T_iload7 dX11_isSame_334 rfl ?_
    refine T_aload0 dX11_isSame_336 rfl ?_
    refine g11_15 _ rfl hS.t0 (hS.pa (f := 4) (by decide) (by decide)) dX11_isSame_337 rfl ?_
    refine T_alen (j := 8) hS.ta4 (by decide) dX11_isSame_340 rfl ?_
    refine T_icmp_ge 371 344 dX11_isSame_341 (by decide) rfl (fun c9 => ?_) (fun c9 => ?_)
    ·
      have c9 := le_out rfl c9
      have hk4 : h = cn 4 := by omega
      subst hk4
      exact T_less (by omega) (by omega) KK
    ·
      have c9 := lt_in rfl c9
      refine T_aload1 dX11_isSame_344 rfl ?_
      refine T_iload7 dX11_isSame_345 rfl ?_
      refine T_iload4 dX11_isSame_347 rfl ?_
      refine T_less (bk1 := bk + 2 * (cn 4 - (h + 1)) + 2) (bn1 := bn + 12 * (cn 4 - (h + 1)) + 12) (by omega) (by omega) ?_
      refine q_needs hX hl hC c9 ht k11_94 (by decide) (Nat.le_of_ble_eq_true rfl) dX11_isSame_349 rfl ?_
      refine T_aload0 dX11_isSame_352 rfl ?_
      refine T_iload7 dX11_isSame_353 rfl ?_
      refine T_iload4 dX11_isSame_355 rfl ?_
      refine T_cV2 (mc' := 0) (ms' := 0) (c_X11_needs hX hS (x := nI h) (nI_nneg (by omega)) ht) hX k11_65 (Or.inl ⟨_, _, _, _, hS.t0, by decide, rfl⟩) (by decide) (Nat.le_of_ble_eq_true rfl) dX11_isSame_357 rfl ?_
      rintro _ szq τq Mq ⟨rfl, ea, eb, ec⟩
      obtain rfl := ea.symm
      obtain rfl := eb.symm
      obtain rfl := ec.symm
      refine T_icmp_eq_t 365 dX11_isSame_360 (by decide) rfl ?_
      first | refine T_iinc7 rfl (by decide) dX11_isSame_365 rfl (inc1 _) ?_ | refine T_iinc7 rfl (by decide) dX11_isSame_365 rfl rfl ?_
      refine T_goto 334 dX11_isSame_368 (by decide) ?_
      exact ih (h + 1) (by omega) (by omega)
set_option maxHeartbeats 1000000 in
theorem J32_isSame {l : Launch} {D : va_G} {cA : Nat → ClassId} {n0 : Nat} {sg adK adV : Nat → Nat} {sgA smA wdA bS LS : Nat} {xs : Nat → Int32} (hX : SF n0 (XW0 sg adK adV sgA smA wdA n0 bS LS xs)) (hl : l.stackTraces = false) {x r p r2 p2 hc wc sc j e : Nat} {A : Nat → Nat} {Rw : Nat → Nat → Nat} {cn : Nat → Nat} {ρ π : RH} {ν : NU} {σ : Nat → Nat} {B : Nat → Nat} {fa : Int32} {μ : Nat → Int32} {κ ω : Nat → Nat → Int32} {s0 : Nat} (hlo : x + 144 ≤ s0 ∧ e ≤ s0) (hI : RI (cn 3) (cn 4) (cn 5) ρ) {sk t : Nat} {τk : TY} {Mk : ME} (hC : CS sg τk Mk x r p r2 p2 0 (cn 3) (cn 4) (cn 5) hc wc sc ρ ν π σ B fa) (hS : SM τk Mk Mk j e A Rw cn ρ μ κ ω) (ht : t < cn 3) {bk bn : Nat} {dA : Nat} (hta : τk dA = (100, 5)) (hD : ∀ i, i < 5 → Mk dA i = .int (stF (cn 4) (cn 5) ρ t i)) {y2 y3 y5 y8 y9 : Value} (KK : T l D cA n0 (XW0 sg adK adV sgA smA wdA n0 bS LS xs) mX11_isSame 10 bk bn sk τk Mk 331 [.ref j, .ref x, y2, y3, .int (nI t), y5, .ref dA, .int (nI 5), y8, y9] [] (fun v' _ _ _ => v' = some (.int 1)) (fun _ _ _ _ => False)) : ∀ (n : Nat) (k : Nat) (hk : k ≤ 5), 5 - k < n → T l D cA n0 (XW0 sg adK adV sgA smA wdA n0 bS LS xs) mX11_isSame 10 (bk + 2 * (5 - k)) (bn + 12 * (5 - k)) sk τk Mk 301 [.ref j, .ref x, y2, y3, .int (nI t), y5, .ref dA, .int (nI k), y8, y9] [] (fun v' _ _ _ => v' = some (.int 1)) (fun _ _ _ _ => False) := by
  intro n
  induction n with
  | zero => intros; omega
  | succ n ih =>
    intro k hk hn
    have hok := hS.ok
    unfold CnOK at hok
    have hin := hS.in0
    refine T_iload7 dX11_isSame_301 rfl ?_
    refine T_iconst (5) dX11_isSame_303 rfl rfl ?_
    refine T_icmp_ge 331 307 dX11_isSame_304 (by decide) rfl (fun c9 => ?_) (fun c9 => ?_)
    ·
      have c9 := (nI_leI (a := 5) (by omega) (by omega)).mp c9
      have hk5 : k = 5 := by omega
      subst hk5
      exact T_less (by omega) (by omega) KK
    ·
      have c9 : k < 5 := Nat.lt_of_not_le (fun q => c9 ((nI_leI (a := 5) (by omega) (by omega)).mpr q))
      refine T_aload1 dX11_isSame_307 rfl ?_
      refine T_iload4 dX11_isSame_308 rfl ?_
      refine T_iload7 dX11_isSame_310 rfl ?_
      refine T_less (bk1 := bk + 2 * (5 - (k + 1)) + 2) (bn1 := bn + 12 * (5 - (k + 1)) + 12) (by omega) (by omega) ?_
      refine q_stretch hX hl hC ht c9 k11_91 (by decide) (Nat.le_of_ble_eq_true rfl) dX11_isSame_312 rfl ?_
      refine T_aload6 dX11_isSame_315 rfl ?_
      refine T_iload7 dX11_isSame_317 rfl ?_
      refine T_iald k hta rfl c9 (by decide) dX11_isSame_319 rfl (hD k c9) ?_
      refine T_icmp_eq_t 325 dX11_isSame_320 (by decide) rfl ?_
      first | refine T_iinc7 rfl (by decide) dX11_isSame_325 rfl (inc1 _) ?_ | refine T_iinc7 rfl (by decide) dX11_isSame_325 rfl rfl ?_
      refine T_goto 301 dX11_isSame_328 (by decide) ?_
      exact ih (k + 1) (by omega) (by omega)
set_option maxHeartbeats 1000000 in
theorem J31_isSame {l : Launch} {D : va_G} {cA : Nat → ClassId} {n0 : Nat} {sg adK adV : Nat → Nat} {sgA smA wdA bS LS : Nat} {xs : Nat → Int32} (hX : SF n0 (XW0 sg adK adV sgA smA wdA n0 bS LS xs)) (hl : l.stackTraces = false) {x r p r2 p2 hc wc sc j e : Nat} {A : Nat → Nat} {Rw : Nat → Nat → Nat} {cn : Nat → Nat} {ρ π : RH} {ν : NU} {σ : Nat → Nat} {B : Nat → Nat} {fa : Int32} {μ : Nat → Int32} {κ ω : Nat → Nat → Int32} {s0 : Nat} (hlo : x + 144 ≤ s0 ∧ e ≤ s0) (hI : RI (cn 3) (cn 4) (cn 5) ρ) {sk t : Nat} {τk : TY} {Mk : ME} (hC : CS sg τk Mk x r p r2 p2 0 (cn 3) (cn 4) (cn 5) hc wc sc ρ ν π σ B fa) (hS : SM τk Mk Mk j e A Rw cn ρ μ κ ω) (ht : t < cn 3) {bk bn : Nat} {y2 y3 : Value} (KK : ∀ y8 y9, T l D cA n0 (XW0 sg adK adV sgA smA wdA n0 bS LS xs) mX11_isSame 10 bk bn sk τk Mk 242 [.ref j, .ref x, y2, y3, .int (nI t), .int (hsOn (cn 4) ρ (nI t)), .ref (A 4), .int (nI (cn 4)), y8, y9] [] (fun v' _ _ _ => v' = some (.int 1)) (fun _ _ _ _ => False)) : ∀ (n : Nat) (h : Nat) (acc : Int32) (y9 : Value) (hh : h ≤ cn 4) (ha : acc = sm (fun h => if ρ 15 h = nI t then 1 else 0) h), cn 4 - h < n → T l D cA n0 (XW0 sg adK adV sgA smA wdA n0 bS LS xs) mX11_isSame 10 bk bn sk τk Mk 203 [.ref j, .ref x, y2, y3, .int (nI t), .int acc, .ref (A 4), .int (nI (cn 4)), .int (nI h), y9] [] (fun v' _ _ _ => v' = some (.int 1)) (fun _ _ _ _ => False) := by
  intro n
  induction n with
  | zero => intros; omega
  | succ n ih =>
    intro h acc y9 hh ha hn
    have hok := hS.ok
    unfold CnOK at hok
    have hin := hS.in0
    refine T_iload8 dX11_isSame_203 rfl ?_
    refine T_iload7 dX11_isSame_205 rfl ?_
    refine T_icmp_ge 242 210 dX11_isSame_207 (by decide) rfl (fun c9 => ?_) (fun c9 => ?_)
    ·
      have c9 := le_out rfl c9
      have hk4 : h = cn 4 := by omega
      subst hk4
      rw [show acc = hsOn (cn 4) ρ (nI t) from ha]
      exact KK _ _
    ·
      have c9 := lt_in rfl c9
      refine T_aload6 dX11_isSame_210 rfl ?_
      refine T_iload8 dX11_isSame_212 rfl ?_
      refine T_aaldA _ hS.ta4 rfl (by omega) (by omega) dX11_isSame_214 rfl (hS.pr (f := 4) (by decide) (by decide) (by omega)) ?_
      refine T_astore9 rfl (by decide) dX11_isSame_215 rfl ?_
      refine T_iload5 dX11_isSame_217 rfl ?_
      refine T_joinI 233 (fun y => y = if ρ 15 h = nI t then 1 else 0) (fun hJ => ?_) (fun x233 hx233 => ?_)
      ·
        refine T_aload9 dX11_isSame_219 rfl ?_
        refine T_iconst (4) dX11_isSame_221 rfl rfl ?_
        refine T_iald 4 (hS.tr4 (by omega)) rfl (by decide) (by decide) dX11_isSame_222 rfl (hS.g4_4 (by omega)) ?_
        refine T_iload4 dX11_isSame_223 rfl ?_
        refine T_icmp_ne 232 228 dX11_isSame_225 (by decide) rfl (fun c225 => ?_) (fun c225 => ?_)
        ·
          refine T_iconst (0) dX11_isSame_232 rfl rfl ?_
          refine hJ _ ?_
          first | exact (if_pos c225).symm | exact (if_neg c225).symm
        ·
          refine T_iconst (1) dX11_isSame_228 rfl rfl ?_
          refine T_goto 233 dX11_isSame_229 (by decide) ?_
          refine hJ _ ?_
          first | exact (if_pos c225).symm | exact (if_neg c225).symm
      ·
        subst hx233
        refine T_iadd dX11_isSame_233 rfl ?_
        refine T_istore5 rfl (by decide) dX11_isSame_234 rfl ?_
        first | refine T_iinc8 rfl (by decide) dX11_isSame_236 rfl (inc1 _) ?_ | refine T_iinc8 rfl (by decide) dX11_isSame_236 rfl rfl ?_
        refine T_goto 203 dX11_isSame_239 (by decide) ?_
        exact ih (h + 1) _ _ (by omega) (by rw [sm, ha]) (by omega)
set_option maxHeartbeats 1000000 in
theorem I3_isSame {l : Launch} {D : va_G} {cA : Nat → ClassId} {n0 : Nat} {sg adK adV : Nat → Nat} {sgA smA wdA bS LS : Nat} {xs : Nat → Int32} (hX : SF n0 (XW0 sg adK adV sgA smA wdA n0 bS LS xs)) (hl : l.stackTraces = false) {x r p r2 p2 hc wc sc j e : Nat} {A : Nat → Nat} {Rw : Nat → Nat → Nat} {cn : Nat → Nat} {ρ π : RH} {ν : NU} {σ : Nat → Nat} {B : Nat → Nat} {fa : Int32} {μ : Nat → Int32} {κ ω : Nat → Nat → Int32} {s0 : Nat} (hlo : x + 144 ≤ s0 ∧ e ≤ s0) (hI : RI (cn 3) (cn 4) (cn 5) ρ) : ∀ (n : Nat) (sk : Nat) (τk : TY) (Mk : ME) (t : Nat) (y5 : Value) (y6 : Value) (y7 : Value) (y8 : Value) (y9 : Value) (hs0 : s0 ≤ sk) (hC : CS sg τk Mk x r p r2 p2 0 (cn 3) (cn 4) (cn 5) hc wc sc ρ ν π σ B fa) (hS : SM τk Mk Mk j e A Rw cn ρ μ κ ω) (ht : t ≤ cn 3), cn 3 - t < n → T l D cA n0 (XW0 sg adK adV sgA smA wdA n0 bS LS xs) mX11_isSame 10 (21 * (6 - t) + 126) (125 * (6 - t) + 763) sk τk Mk 176 [.ref j, .ref x, .int (nI (cn 4) - hsOn (cn 4) ρ (-1)), .int (lkAll (cn 4) ρ), .int (nI t), y5, y6, y7, y8, y9] [] (fun v' _ _ _ => v' = some (.int 1)) (fun _ _ _ _ => False) := by
  intro n
  induction n with
  | zero => intros; omega
  | succ n ih =>
    intro sk τk Mk t y5 y6 y7 y8 y9 hs0 hC hS ht hn
    have hok := hS.ok
    unfold CnOK at hok
    have hin := hS.in0
    refine T_iload4 dX11_isSame_176 rfl ?_
    refine T_aload0 dX11_isSame_178 rfl ?_
    refine g11_9 _ rfl hS.t0 (hS.pa (f := 3) (by decide) (by decide)) dX11_isSame_179 rfl ?_
    refine T_alen (j := 8) hS.ta3 (by decide) dX11_isSame_182 rfl ?_
    refine T_icmp_ge 377 186 dX11_isSame_183 (by decide) rfl (fun c9 => ?_) (fun c9 => ?_)
    ·
      have c9 := le_out rfl c9
      refine T_iconst (0) dX11_isSame_377 rfl rfl ?_
      refine T_istore4 rfl (by decide) dX11_isSame_378 rfl ?_
      exact T_less (by omega) (by omega) (I4_isSame hX hl hlo hI hs0 hC hS (cn 5 + 1) 0 _ _ _ _ _ (Nat.zero_le _) (by omega))
    ·
      have c9 := lt_in rfl c9
      refine T_iconst (0) dX11_isSame_186 rfl rfl ?_
      refine T_istore5 rfl (by decide) dX11_isSame_187 rfl ?_
      refine T_aload0 dX11_isSame_189 rfl ?_
      refine g11_15 _ rfl hS.t0 (hS.pa (f := 4) (by decide) (by decide)) dX11_isSame_190 rfl ?_
      refine T_astore6 rfl (by decide) dX11_isSame_193 rfl ?_
      refine T_aload6 dX11_isSame_195 rfl ?_
      refine T_alen (j := 8) hS.ta4 (by decide) dX11_isSame_197 rfl ?_
      refine T_istore7 rfl (by decide) dX11_isSame_198 rfl ?_
      refine T_iconst (0) dX11_isSame_200 rfl rfl ?_
      refine T_istore8 rfl (by decide) dX11_isSame_201 rfl ?_
      refine T_less (bk1 := 21 * (6 - (t + 1)) + 126 + 21) (bn1 := 125 * (6 - (t + 1)) + 763 + 125) (by omega) (by omega) ?_
      refine J31_isSame hX hl hlo hI hC hS c9 (fun y8 y9 => ?_) (cn 4 + 1) 0 0 _ (Nat.zero_le _) rfl (by omega)
      refine T_iconst (5) dX11_isSame_242 rfl rfl ?_
      refine T_less (bk1 := 21 * (6 - (t + 1)) + 126 + 20 + 1) (bn1 := 125 * (6 - (t + 1)) + 763 + 120 + 5) (by omega) (by omega) ?_
      refine T_newa (atype := .int) (N := 5) 0 (fun _ => .int 0) ka_int (by decide) rfl rfl (by decide) rfl dX11_isSame_243 rfl ?_
      refine T_nt (fun τ1 eτ => ?_)
      refine T_nm (fun M0 e0 => ?_)
      have hta : τ1 sk = (100, 5) := by rw [eτ]; exact tyN_s _ _ _
      have hT1 : ∀ q, q ≠ sk → τ1 q = τk q := fun q hq => by rw [eτ]; exact tyN_n hq
      have hC := (hC.tau (τ' := τ1) (fun q g1 g2 => hT1 q (by omega))).fr (M1 := M0) (fun q g1 g2 => by rw [e0]; exact meN_n (by omega))
      have hS := (hS.tau (τ' := τ1) (fun q g1 g2 => hT1 q (by omega))).fr (M1 := M0) (fun q g1 g2 => by rw [e0]; exact meN_n (by omega))
      refine T_dup dX11_isSame_245 rfl rfl ?_
      refine T_iconst (0) dX11_isSame_246 rfl rfl ?_
      refine T_aload0 dX11_isSame_247 rfl ?_
      refine g11_9 _ rfl hS.t0 (hS.pa (f := 3) (by decide) (by decide)) dX11_isSame_248 rfl ?_
      refine T_iload4 dX11_isSame_251 rfl ?_
      refine T_aaldA t hS.ta3 rfl c9 (by omega) dX11_isSame_253 rfl (hS.pr (f := 3) (by decide) (by decide) c9) ?_
      refine T_iconst (0) dX11_isSame_254 rfl rfl ?_
      refine T_iald 0 (hS.tr3 (by omega)) rfl (by decide) (by decide) dX11_isSame_255 rfl (hS.g3_0 (by omega)) ?_
      refine T_iast 0 hta rfl (by decide) (by decide) dX11_isSame_256 rfl ?_
      refine T_nm (fun M1 e1 => ?_)
      have hC := hC.fr (M1 := M1) (fun q g1 g2 => by rw [e1]; exact up_a (by omega))
      have hS := hS.fr (M1 := M1) (fun q g1 g2 => by rw [e1]; exact up_a (by omega))
      refine T_dup dX11_isSame_257 rfl rfl ?_
      refine T_iconst (1) dX11_isSame_258 rfl rfl ?_
      refine T_aload0 dX11_isSame_259 rfl ?_
      refine g11_9 _ rfl hS.t0 (hS.pa (f := 3) (by decide) (by decide)) dX11_isSame_260 rfl ?_
      refine T_iload4 dX11_isSame_263 rfl ?_
      refine T_aaldA t hS.ta3 rfl c9 (by omega) dX11_isSame_265 rfl (hS.pr (f := 3) (by decide) (by decide) c9) ?_
      refine T_iconst (1) dX11_isSame_266 rfl rfl ?_
      refine T_iald 1 (hS.tr3 (by omega)) rfl (by decide) (by decide) dX11_isSame_267 rfl (hS.g3_1 (by omega)) ?_
      refine T_iast 1 hta rfl (by decide) (by decide) dX11_isSame_268 rfl ?_
      refine T_nm (fun M2 e2 => ?_)
      have hC := hC.fr (M1 := M2) (fun q g1 g2 => by rw [e2]; exact up_a (by omega))
      have hS := hS.fr (M1 := M2) (fun q g1 g2 => by rw [e2]; exact up_a (by omega))
      refine T_dup dX11_isSame_269 rfl rfl ?_
      refine T_iconst (2) dX11_isSame_270 rfl rfl ?_
      refine T_aload0 dX11_isSame_271 rfl ?_
      refine g11_9 _ rfl hS.t0 (hS.pa (f := 3) (by decide) (by decide)) dX11_isSame_272 rfl ?_
      refine T_iload4 dX11_isSame_275 rfl ?_
      refine T_aaldA t hS.ta3 rfl c9 (by omega) dX11_isSame_277 rfl (hS.pr (f := 3) (by decide) (by decide) c9) ?_
      refine T_iconst (2) dX11_isSame_278 rfl rfl ?_
      refine T_iald 2 (hS.tr3 (by omega)) rfl (by decide) (by decide) dX11_isSame_279 rfl (hS.g3_2 (by omega)) ?_
      refine T_iast 2 hta rfl (by decide) (by decide) dX11_isSame_280 rfl ?_
      refine T_nm (fun M3 e3 => ?_)
      have hC := hC.fr (M1 := M3) (fun q g1 g2 => by rw [e3]; exact up_a (by omega))
      have hS := hS.fr (M1 := M3) (fun q g1 g2 => by rw [e3]; exact up_a (by omega))
      refine T_dup dX11_isSame_281 rfl rfl ?_
      refine T_iconst (3) dX11_isSame_282 rfl rfl ?_
      refine T_iload5 dX11_isSame_283 rfl ?_
      refine T_iast 3 hta rfl (by decide) (by decide) dX11_isSame_285 rfl ?_
      refine T_nm (fun M4 e4 => ?_)
      have hC := hC.fr (M1 := M4) (fun q g1 g2 => by rw [e4]; exact up_a (by omega))
      have hS := hS.fr (M1 := M4) (fun q g1 g2 => by rw [e4]; exact up_a (by omega))
      refine T_dup dX11_isSame_286 rfl rfl ?_
      refine T_iconst (4) dX11_isSame_287 rfl rfl ?_
      refine T_aload0 dX11_isSame_288 rfl ?_
      refine T_iconst (2) dX11_isSame_289 rfl rfl ?_
      refine T_iload4 dX11_isSame_290 rfl ?_
      refine T_cV2 (mc' := 0) (ms' := 0) (c_X11_number hX hS 2 (nI t)) hX k11_50 (Or.inl ⟨_, _, _, _, hS.t0, by decide, rfl⟩) (by decide) (Nat.le_of_ble_eq_true rfl) dX11_isSame_292 rfl ?_
      rintro _ szq τq Mq ⟨rfl, ea, eb, ec⟩
      obtain rfl := ea.symm
      obtain rfl := eb.symm
      obtain rfl := ec.symm
      rw [nu_f (nI_nneg (by omega))]
      refine T_iast 4 hta rfl (by decide) (by decide) dX11_isSame_295 rfl ?_
      refine T_nm (fun M5 e5 => ?_)
      have hC := hC.fr (M1 := M5) (fun q g1 g2 => by rw [e5]; exact up_a (by omega))
      have hS := hS.fr (M1 := M5) (fun q g1 g2 => by rw [e5]; exact up_a (by omega))
      have hD : ∀ i, i < 5 → M5 sk i = .int (stF (cn 4) (cn 5) ρ t i) := fun i hi => by
        rcases (by omega : i = 0 ∨ i = 1 ∨ i = 2 ∨ i = 3 ∨ i = 4) with rfl | rfl | rfl | rfl | rfl
        all_goals (rw [e5, e4, e3, e2, e1]; (repeat (first | rw [up_s] | rw [up_k (by decide)])); first | rfl | exact congrArg Value.int rfl)
      refine T_astore6 rfl (by decide) dX11_isSame_296 rfl ?_
      refine T_iconst (0) dX11_isSame_298 rfl rfl ?_
      refine T_istore7 rfl (by decide) dX11_isSame_299 rfl ?_
      refine T_less (bk1 := (21 * (6 - (t + 1)) + 126) + 10 + 2 * (5 - 0)) (bn1 := (125 * (6 - (t + 1)) + 763) + 60 + 12 * (5 - 0)) (by omega) (by omega) ?_
      refine J32_isSame hX hl hlo hI hC hS c9 hta hD ?_ 6 0 (by decide) (by decide)
      refine T_iconst (0) dX11_isSame_331 rfl rfl ?_
      refine T_istore7 rfl (by decide) dX11_isSame_332 rfl ?_
      refine T_less (bk1 := (21 * (6 - (t + 1)) + 126) + 2 * (cn 4 - 0)) (bn1 := (125 * (6 - (t + 1)) + 763) + 12 * (cn 4 - 0)) (by omega) (by omega) ?_
      refine J33_isSame hX hl hlo hI hC hS c9 ?_ (cn 4 + 1) 0 (Nat.zero_le _) (by omega)
      refine T_iinc4 rfl (by decide) dX11_isSame_371 rfl (inc1 _) ?_
      refine T_goto 176 dX11_isSame_374 (by decide) ?_
      exact ih _ _ _ (t + 1) _ _ _ _ _ (by omega) hC hS (by omega) (by omega)
set_option maxHeartbeats 1000000 in
theorem J2_isSame {l : Launch} {D : va_G} {cA : Nat → ClassId} {n0 : Nat} {sg adK adV : Nat → Nat} {sgA smA wdA bS LS : Nat} {xs : Nat → Int32} (hX : SF n0 (XW0 sg adK adV sgA smA wdA n0 bS LS xs)) (hl : l.stackTraces = false) {x r p r2 p2 hc wc sc j e : Nat} {A : Nat → Nat} {Rw : Nat → Nat → Nat} {cn : Nat → Nat} {ρ π : RH} {ν : NU} {σ : Nat → Nat} {B : Nat → Nat} {fa : Int32} {μ : Nat → Int32} {κ ω : Nat → Nat → Int32} {s0 : Nat} (hlo : x + 144 ≤ s0 ∧ e ≤ s0) (hI : RI (cn 3) (cn 4) (cn 5) ρ) {sk h : Nat} {τk : TY} {Mk : ME} (hC : CS sg τk Mk x r p r2 p2 0 (cn 3) (cn 4) (cn 5) hc wc sc ρ ν π σ B fa) (hS : SM τk Mk Mk j e A Rw cn ρ μ κ ω) (hh : h < cn 4) {bk bn : Nat} {dA : Nat} (hta : τk dA = (100, 10)) (hD : ∀ i, i < 10 → Mk dA i = .int (hsF (cn 5) ρ h i)) {y2 y3 y5 y8 y9 : Value} (KK : T l D cA n0 (XW0 sg adK adV sgA smA wdA n0 bS LS xs) mX11_isSame 10 bk bn sk τk Mk 145 [.ref j, .ref x, y2, y3, .int (nI h), y5, .ref dA, .int (nI 10), y8, y9] [] (fun v' _ _ _ => v' = some (.int 1)) (fun _ _ _ _ => False)) : ∀ (n : Nat) (k : Nat) (hk : k ≤ 10), 10 - k < n → T l D cA n0 (XW0 sg adK adV sgA smA wdA n0 bS LS xs) mX11_isSame 10 (bk + 2 * (10 - k)) (bn + 12 * (10 - k)) sk τk Mk 114 [.ref j, .ref x, y2, y3, .int (nI h), y5, .ref dA, .int (nI k), y8, y9] [] (fun v' _ _ _ => v' = some (.int 1)) (fun _ _ _ _ => False) := by
  intro n
  induction n with
  | zero => intros; omega
  | succ n ih =>
    intro k hk hn
    have hok := hS.ok
    unfold CnOK at hok
    have hin := hS.in0
    refine T_iload7 dX11_isSame_114 rfl ?_
    refine T_bipush (10) dX11_isSame_116 rfl rfl ?_
    refine T_icmp_ge 145 121 dX11_isSame_118 (by decide) rfl (fun c9 => ?_) (fun c9 => ?_)
    ·
      have c9 := (nI_leI (a := 10) (by omega) (by omega)).mp c9
      have hk5 : k = 10 := by omega
      subst hk5
      exact T_less (by omega) (by omega) KK
    ·
      have c9 : k < 10 := Nat.lt_of_not_le (fun q => c9 ((nI_leI (a := 10) (by omega) (by omega)).mpr q))
      refine T_aload1 dX11_isSame_121 rfl ?_
      refine T_iload4 dX11_isSame_122 rfl ?_
      refine T_iload7 dX11_isSame_124 rfl ?_
      refine T_less (bk1 := bk + 2 * (10 - (k + 1)) + 2) (bn1 := bn + 12 * (10 - (k + 1)) + 12) (by omega) (by omega) ?_
      refine q_horse hX hl hC hI hh c9 k11_87 (by decide) (Nat.le_of_ble_eq_true rfl) dX11_isSame_126 rfl ?_
      refine T_aload6 dX11_isSame_129 rfl ?_
      refine T_iload7 dX11_isSame_131 rfl ?_
      refine T_iald k hta rfl c9 (by decide) dX11_isSame_133 rfl (hD k c9) ?_
      refine T_icmp_eq_t 139 dX11_isSame_134 (by decide) rfl ?_
      first | refine T_iinc7 rfl (by decide) dX11_isSame_139 rfl (inc1 _) ?_ | refine T_iinc7 rfl (by decide) dX11_isSame_139 rfl rfl ?_
      refine T_goto 114 dX11_isSame_142 (by decide) ?_
      exact ih (k + 1) (by omega) (by omega)
set_option maxHeartbeats 1000000 in
theorem I2_isSame {l : Launch} {D : va_G} {cA : Nat → ClassId} {n0 : Nat} {sg adK adV : Nat → Nat} {sgA smA wdA bS LS : Nat} {xs : Nat → Int32} (hX : SF n0 (XW0 sg adK adV sgA smA wdA n0 bS LS xs)) (hl : l.stackTraces = false) {x r p r2 p2 hc wc sc j e : Nat} {A : Nat → Nat} {Rw : Nat → Nat → Nat} {cn : Nat → Nat} {ρ π : RH} {ν : NU} {σ : Nat → Nat} {B : Nat → Nat} {fa : Int32} {μ : Nat → Int32} {κ ω : Nat → Nat → Int32} {s0 : Nat} (hlo : x + 144 ≤ s0 ∧ e ≤ s0) (hI : RI (cn 3) (cn 4) (cn 5) ρ) : ∀ (n : Nat) (sk : Nat) (τk : TY) (Mk : ME) (h : Nat) (ro : Int32) (lk : Int32) (y5 : Value) (y6 : Value) (y7 : Value) (y8 : Value) (y9 : Value) (hs0 : s0 ≤ sk) (hC : CS sg τk Mk x r p r2 p2 0 (cn 3) (cn 4) (cn 5) hc wc sc ρ ν π σ B fa) (hS : SM τk Mk Mk j e A Rw cn ρ μ κ ω) (hh : h ≤ cn 4) (hro : ro = sm (roF ρ) h) (hlk : lk = sm (fun h => ρ 12 h) h), cn 4 - h < n → T l D cA n0 (XW0 sg adK adV sgA smA wdA n0 bS LS xs) mX11_isSame 10 (21 * (5 - h) + 252) (130 * (5 - h) + 1513) sk τk Mk 7 [.ref j, .ref x, .int ro, .int lk, .int (nI h), y5, y6, y7, y8, y9] [] (fun v' _ _ _ => v' = some (.int 1)) (fun _ _ _ _ => False) := by
  intro n
  induction n with
  | zero => intros; omega
  | succ n ih =>
    intro sk τk Mk h ro lk y5 y6 y7 y8 y9 hs0 hC hS hh hro hlk hn
    have hok := hS.ok
    unfold CnOK at hok
    have hin := hS.in0
    refine T_iload4 dX11_isSame_7 rfl ?_
    refine T_aload0 dX11_isSame_9 rfl ?_
    refine g11_15 _ rfl hS.t0 (hS.pa (f := 4) (by decide) (by decide)) dX11_isSame_10 rfl ?_
    refine T_alen (j := 8) hS.ta4 (by decide) dX11_isSame_13 rfl ?_
    refine T_icmp_ge 173 17 dX11_isSame_14 (by decide) rfl (fun c9 => ?_) (fun c9 => ?_)
    ·
      have c9 := le_out rfl c9
      refine T_iconst (0) dX11_isSame_173 rfl rfl ?_
      refine T_istore4 rfl (by decide) dX11_isSame_174 rfl ?_
      have hk4 : h = cn 4 := by omega
      subst hk4
      rw [show ro = nI (cn 4) - hsOn (cn 4) ρ (-1) from hro.trans (ro_e hI (by omega) _ (Nat.le_refl _)), show lk = lkAll (cn 4) ρ from hlk]
      exact T_less (by omega) (by omega) (I3_isSame hX hl hlo hI (cn 3 + 1) _ _ _ 0 _ _ _ _ _ hs0 hC hS (Nat.zero_le _) (by omega))
    ·
      have c9 := lt_in rfl c9
      refine T_aload0 dX11_isSame_17 rfl ?_
      refine g11_15 _ rfl hS.t0 (hS.pa (f := 4) (by decide) (by decide)) dX11_isSame_18 rfl ?_
      refine T_iload4 dX11_isSame_21 rfl ?_
      refine T_aaldA _ hS.ta4 rfl (by omega) (by omega) dX11_isSame_23 rfl (hS.pr (f := 4) (by decide) (by decide) (by omega)) ?_
      refine T_astore5 rfl (by decide) dX11_isSame_24 rfl ?_
      refine T_bipush (10) dX11_isSame_26 rfl rfl ?_
      refine T_less (bk1 := 21 * (5 - (h + 1)) + 252 + 20 + 1) (bn1 := 130 * (5 - (h + 1)) + 1513 + 120 + 10) (by omega) (by omega) ?_
      refine T_newa (atype := .int) (N := 10) 0 (fun _ => .int 0) ka_int (by decide) rfl rfl (by decide) rfl dX11_isSame_28 rfl ?_
      refine T_nt (fun τ1 eτ => ?_)
      refine T_nm (fun M0 e0 => ?_)
      have hta : τ1 sk = (100, 10) := by rw [eτ]; exact tyN_s _ _ _
      have hT1 : ∀ q, q ≠ sk → τ1 q = τk q := fun q hq => by rw [eτ]; exact tyN_n hq
      have hC := (hC.tau (τ' := τ1) (fun q g1 g2 => hT1 q (by omega))).fr (M1 := M0) (fun q g1 g2 => by rw [e0]; exact meN_n (by omega))
      have hS := (hS.tau (τ' := τ1) (fun q g1 g2 => hT1 q (by omega))).fr (M1 := M0) (fun q g1 g2 => by rw [e0]; exact meN_n (by omega))
      refine T_dup dX11_isSame_30 rfl rfl ?_
      refine T_iconst (0) dX11_isSame_31 rfl rfl ?_
      refine T_aload5 dX11_isSame_32 rfl ?_
      refine T_iconst (0) dX11_isSame_34 rfl rfl ?_
      refine T_iald 0 (hS.tr4 (by omega)) rfl (by decide) (by decide) dX11_isSame_35 rfl (hS.g4_0 (by omega)) ?_
      refine T_iast 0 hta rfl (by decide) (by decide) dX11_isSame_36 rfl ?_
      refine T_nm (fun M1 e1 => ?_)
      have hC := hC.fr (M1 := M1) (fun q g1 g2 => by rw [e1]; exact up_a (by omega))
      have hS := hS.fr (M1 := M1) (fun q g1 g2 => by rw [e1]; exact up_a (by omega))
      refine T_dup dX11_isSame_37 rfl rfl ?_
      refine T_iconst (1) dX11_isSame_38 rfl rfl ?_
      refine T_aload5 dX11_isSame_39 rfl ?_
      refine T_iconst (1) dX11_isSame_41 rfl rfl ?_
      refine T_iald 1 (hS.tr4 (by omega)) rfl (by decide) (by decide) dX11_isSame_42 rfl (hS.g4_1 (by omega)) ?_
      refine T_iast 1 hta rfl (by decide) (by decide) dX11_isSame_43 rfl ?_
      refine T_nm (fun M2 e2 => ?_)
      have hC := hC.fr (M1 := M2) (fun q g1 g2 => by rw [e2]; exact up_a (by omega))
      have hS := hS.fr (M1 := M2) (fun q g1 g2 => by rw [e2]; exact up_a (by omega))
      refine T_dup dX11_isSame_44 rfl rfl ?_
      refine T_iconst (2) dX11_isSame_45 rfl rfl ?_
      refine T_aload5 dX11_isSame_46 rfl ?_
      refine T_iconst (2) dX11_isSame_48 rfl rfl ?_
      refine T_iald 2 (hS.tr4 (by omega)) rfl (by decide) (by decide) dX11_isSame_49 rfl (hS.g4_2 (by omega)) ?_
      refine T_iast 2 hta rfl (by decide) (by decide) dX11_isSame_50 rfl ?_
      refine T_nm (fun M3 e3 => ?_)
      have hC := hC.fr (M1 := M3) (fun q g1 g2 => by rw [e3]; exact up_a (by omega))
      have hS := hS.fr (M1 := M3) (fun q g1 g2 => by rw [e3]; exact up_a (by omega))
      refine T_dup dX11_isSame_51 rfl rfl ?_
      refine T_iconst (3) dX11_isSame_52 rfl rfl ?_
      refine T_aload5 dX11_isSame_53 rfl ?_
      refine T_iconst (3) dX11_isSame_55 rfl rfl ?_
      refine T_iald 3 (hS.tr4 (by omega)) rfl (by decide) (by decide) dX11_isSame_56 rfl (hS.g4_3 (by omega)) ?_
      refine T_iast 3 hta rfl (by decide) (by decide) dX11_isSame_57 rfl ?_
      refine T_nm (fun M4 e4 => ?_)
      have hC := hC.fr (M1 := M4) (fun q g1 g2 => by rw [e4]; exact up_a (by omega))
      have hS := hS.fr (M1 := M4) (fun q g1 g2 => by rw [e4]; exact up_a (by omega))
      refine T_dup dX11_isSame_58 rfl rfl ?_
      refine T_iconst (4) dX11_isSame_59 rfl rfl ?_
      refine T_aload5 dX11_isSame_60 rfl ?_
      refine T_iconst (4) dX11_isSame_62 rfl rfl ?_
      refine T_iald 4 (hS.tr4 (by omega)) rfl (by decide) (by decide) dX11_isSame_63 rfl (hS.g4_4 (by omega)) ?_
      refine T_iast 4 hta rfl (by decide) (by decide) dX11_isSame_64 rfl ?_
      refine T_nm (fun M5 e5 => ?_)
      have hC := hC.fr (M1 := M5) (fun q g1 g2 => by rw [e5]; exact up_a (by omega))
      have hS := hS.fr (M1 := M5) (fun q g1 g2 => by rw [e5]; exact up_a (by omega))
      refine T_dup dX11_isSame_65 rfl rfl ?_
      refine T_iconst (5) dX11_isSame_66 rfl rfl ?_
      refine T_aload5 dX11_isSame_67 rfl ?_
      refine T_iconst (5) dX11_isSame_69 rfl rfl ?_
      refine T_iald 5 (hS.tr4 (by omega)) rfl (by decide) (by decide) dX11_isSame_70 rfl (hS.g4_5 (by omega)) ?_
      refine T_iast 5 hta rfl (by decide) (by decide) dX11_isSame_71 rfl ?_
      refine T_nm (fun M6 e6 => ?_)
      have hC := hC.fr (M1 := M6) (fun q g1 g2 => by rw [e6]; exact up_a (by omega))
      have hS := hS.fr (M1 := M6) (fun q g1 g2 => by rw [e6]; exact up_a (by omega))
      refine T_dup dX11_isSame_72 rfl rfl ?_
      refine T_bipush (6) dX11_isSame_73 rfl rfl ?_
      refine T_aload5 dX11_isSame_75 rfl ?_
      refine T_bipush (6) dX11_isSame_77 rfl rfl ?_
      refine T_iald 6 (hS.tr4 (by omega)) rfl (by decide) (by decide) dX11_isSame_79 rfl (hS.g4_6 (by omega)) ?_
      refine T_iast 6 hta rfl (by decide) (by decide) dX11_isSame_80 rfl ?_
      refine T_nm (fun M7 e7 => ?_)
      have hC := hC.fr (M1 := M7) (fun q g1 g2 => by rw [e7]; exact up_a (by omega))
      have hS := hS.fr (M1 := M7) (fun q g1 g2 => by rw [e7]; exact up_a (by omega))
      refine T_dup dX11_isSame_81 rfl rfl ?_
      refine T_bipush (7) dX11_isSame_82 rfl rfl ?_
      refine T_aload0 dX11_isSame_84 rfl ?_
      refine T_iload4 dX11_isSame_85 rfl ?_
      refine T_cV1 (mc' := 0) (ms' := 0) (c_X11_load hX hS (x := nI h) (nI_nneg (by omega))) hX k11_31 (Or.inl ⟨_, _, _, _, hS.t0, by decide, rfl⟩) (by decide) (Nat.le_of_ble_eq_true rfl) dX11_isSame_87 rfl ?_
      rintro _ szq τq Mq ⟨rfl, ea, eb, ec⟩
      obtain rfl := ea.symm
      obtain rfl := eb.symm
      obtain rfl := ec.symm
      refine T_iast 7 hta rfl (by decide) (by decide) dX11_isSame_90 rfl ?_
      refine T_nm (fun M8 e8 => ?_)
      have hC := hC.fr (M1 := M8) (fun q g1 g2 => by rw [e8]; exact up_a (by omega))
      have hS := hS.fr (M1 := M8) (fun q g1 g2 => by rw [e8]; exact up_a (by omega))
      refine T_dup dX11_isSame_91 rfl rfl ?_
      refine T_bipush (8) dX11_isSame_92 rfl rfl ?_
      refine T_aload5 dX11_isSame_94 rfl ?_
      refine T_bipush (7) dX11_isSame_96 rfl rfl ?_
      refine T_iald 7 (hS.tr4 (by omega)) rfl (by decide) (by decide) dX11_isSame_98 rfl (hS.g4_7 (by omega)) ?_
      refine T_iast 8 hta rfl (by decide) (by decide) dX11_isSame_99 rfl ?_
      refine T_nm (fun M9 e9 => ?_)
      have hC := hC.fr (M1 := M9) (fun q g1 g2 => by rw [e9]; exact up_a (by omega))
      have hS := hS.fr (M1 := M9) (fun q g1 g2 => by rw [e9]; exact up_a (by omega))
      refine T_dup dX11_isSame_100 rfl rfl ?_
      refine T_bipush (9) dX11_isSame_101 rfl rfl ?_
      refine T_aload5 dX11_isSame_103 rfl ?_
      refine T_bipush (8) dX11_isSame_105 rfl rfl ?_
      refine T_iald 8 (hS.tr4 (by omega)) rfl (by decide) (by decide) dX11_isSame_107 rfl (hS.g4_8 (by omega)) ?_
      refine T_iast 9 hta rfl (by decide) (by decide) dX11_isSame_108 rfl ?_
      refine T_nm (fun M10 e10 => ?_)
      have hC := hC.fr (M1 := M10) (fun q g1 g2 => by rw [e10]; exact up_a (by omega))
      have hS := hS.fr (M1 := M10) (fun q g1 g2 => by rw [e10]; exact up_a (by omega))
      have hD : ∀ i, i < 10 → M10 sk i = .int (hsF (cn 5) ρ h i) := fun i hi => by
        rcases (by omega : i = 0 ∨ i = 1 ∨ i = 2 ∨ i = 3 ∨ i = 4 ∨ i = 5 ∨ i = 6 ∨ i = 7 ∨ i = 8 ∨ i = 9) with rfl | rfl | rfl | rfl | rfl | rfl | rfl | rfl | rfl | rfl
        all_goals (rw [e10, e9, e8, e7, e6, e5, e4, e3, e2, e1]; (repeat (first | rw [up_s] | rw [up_k (by decide)])); first | rfl | exact congrArg Value.int rfl)
      refine T_astore6 rfl (by decide) dX11_isSame_109 rfl ?_
      refine T_iconst (0) dX11_isSame_111 rfl rfl ?_
      refine T_istore7 rfl (by decide) dX11_isSame_112 rfl ?_
      refine T_less (bk1 := (21 * (5 - (h + 1)) + 252) + 2 * (10 - 0)) (bn1 := (130 * (5 - (h + 1)) + 1513) + 12 * (10 - 0)) (by omega) (by omega) ?_
      refine J2_isSame hX hl hlo hI hC hS c9 hta hD ?_ 11 0 (by decide) (by decide)
      refine T_iload2 dX11_isSame_145 rfl ?_
      refine T_joinI 158 (fun y => y = roF ρ h) (fun hJ => ?_) (fun x158 hx158 => ?_)
      ·
        refine T_aload5 dX11_isSame_146 rfl ?_
        refine T_iconst (4) dX11_isSame_148 rfl rfl ?_
        refine T_iald 4 (hS.tr4 (by omega)) rfl (by decide) (by decide) dX11_isSame_149 rfl (hS.g4_4 (by omega)) ?_
        refine T_if_ge 157 153 dX11_isSame_150 (by decide) rfl (fun c150 => ?_) (fun c150 => ?_)
        ·
          refine T_iconst (1) dX11_isSame_157 rfl rfl ?_
          refine hJ _ ?_
          unfold roF
          first | exact (if_neg (Int32.not_lt.mpr c150)).symm | exact (if_pos (Int32.not_le.mp c150)).symm
        ·
          refine T_iconst (0) dX11_isSame_153 rfl rfl ?_
          refine T_goto 158 dX11_isSame_154 (by decide) ?_
          refine hJ _ ?_
          unfold roF
          first | exact (if_neg (Int32.not_lt.mpr c150)).symm | exact (if_pos (Int32.not_le.mp c150)).symm
      ·
        subst hx158
        refine T_iadd dX11_isSame_158 rfl ?_
        refine T_istore2 rfl (by decide) dX11_isSame_159 rfl ?_
        refine T_iload3 dX11_isSame_160 rfl ?_
        refine T_aload5 dX11_isSame_161 rfl ?_
        refine T_iconst (1) dX11_isSame_163 rfl rfl ?_
        refine T_iald 1 (hS.tr4 (by omega)) rfl (by decide) (by decide) dX11_isSame_164 rfl (hS.g4_1 (by omega)) ?_
        refine T_iadd dX11_isSame_165 rfl ?_
        refine T_istore3 rfl (by decide) dX11_isSame_166 rfl ?_
        first | refine T_iinc4 rfl (by decide) dX11_isSame_167 rfl (inc1 _) ?_ | refine T_iinc4 rfl (by decide) dX11_isSame_167 rfl rfl ?_
        refine T_goto 7 dX11_isSame_170 (by decide) ?_
        exact ih _ _ _ (h + 1) _ _ _ _ _ _ _ (by omega) hC hS (by omega) (by rw [sm, hro]) (by rw [sm, hlk]) (by omega)
set_option maxHeartbeats 1000000 in
theorem c_X11_isSame {l : Launch} {D : va_G} {cA : Nat → ClassId} {n0 : Nat} {sg adK adV : Nat → Nat} {sgA smA wdA bS LS : Nat} {xs : Nat → Int32} (hX : SF n0 (XW0 sg adK adV sgA smA wdA n0 bS LS xs)) {sz : Nat} {τ : TY} (hl : l.stackTraces = false) {x r p r2 p2 hc wc sc j e : Nat} {A : Nat → Nat} {Rw : Nat → Nat → Nat} {cn : Nat → Nat} {ρ π : RH} {ν : NU} {σ : Nat → Nat} {B : Nat → Nat} {fa : Int32} {μ : Nat → Int32} {κ ω : Nat → Nat → Int32} {M : ME}  (hlo : x + 144 ≤ sz ∧ e ≤ sz) (hI : RI (cn 3) (cn 4) (cn 5) ρ) (hC : CS sg τ M x r p r2 p2 0 (cn 3) (cn 4) (cn 5) hc wc sc ρ ν π σ B fa) (hS : SM τ M M j e A Rw cn ρ μ κ ω) : CT l D cA n0 (XW0 sg adK adV sgA smA wdA n0 bS LS xs) mX11_isSame 10 357 2163 sz τ M [.ref j, .ref x] (fun v' _ _ _ => v' = some (.int 1)) := by
  refine CT.of (ls := [.ref j, .ref x, UU, UU, UU, UU, UU, UU, UU, UU]) (by decide) (Nat.le_of_ble_eq_true rfl) rfl ?_
  have hok := hS.ok
  unfold CnOK at hok
  have hin := hS.in0
  refine T_iconst (0) dX11_isSame_0 rfl rfl ?_
  refine T_istore2 rfl (by decide) dX11_isSame_1 rfl ?_
  refine T_iconst (0) dX11_isSame_2 rfl rfl ?_
  refine T_istore3 rfl (by decide) dX11_isSame_3 rfl ?_
  refine T_iconst (0) dX11_isSame_4 rfl rfl ?_
  refine T_istore4 rfl (by decide) dX11_isSame_5 rfl ?_
  exact T_less (by omega) (by omega) (I2_isSame hX hl hlo hI (cn 4 + 1) _ _ _ 0 0 0 _ _ _ _ _ (Nat.le_refl _) hC hS (Nat.zero_le _) rfl rfl (by omega))
