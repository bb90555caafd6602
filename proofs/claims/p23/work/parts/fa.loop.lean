/-! the law's loop put together -/
/-- the law's own picture out of the list that was made -/
theorem PF.toS {τ : TY} {M : ME} {j e : Nat} {A : Nat → Nat} {Rw : Nat → Nat → Nat} {Δ : Nat → Nat → Nat} {ρ : RH} (ok : LDok Δ) (h : PF τ M j e A (Δ 0) (Δ 0) Rw (VL Δ)) (hR : RFr Δ ρ) (h6 : ρ 6 0 = 0) (h7 : ρ 7 0 = 0) : SM τ M M j e A Rw (Δ 0) ρ (fun i => VL Δ 4 i 9) (VL Δ 6) (VL Δ 7) := by
  obtain ⟨r1, r2, r3, r8⟩ := hR
  refine ⟨ok.1, ⟨h.t0, ⟨h.ta (by decide) (by decide), h.ta (by decide) (by decide), h.ta (by decide) (by decide), h.ta (by decide) (by decide), h.ta (by decide) (by decide)⟩, ⟨fun i hi => h.tr (f := 3) (by decide) (by decide) hi, fun i hi => h.tr (f := 4) (by decide) (by decide) hi, fun i hi => h.tr (f := 5) (by decide) (by decide) hi, fun i hi => h.tr (f := 6) (by decide) (by decide) hi, fun i hi => h.tr (f := 7) (by decide) (by decide) hi⟩, ⟨h.je, fun f a b => h.ina a b, fun f i a b c => h.inr a b c⟩, fun f i i' a b c d e => h.inj a b c d e⟩, ⟨fun f a b => h.pa a b, fun f i a b c => h.pr a b c⟩, ⟨fun k hk => ?_, fun i k hi hk => ?_, fun i k hi hk => ?_, fun i hi => ?_, fun i k hi hk => ?_, fun i k hi hk => ?_, fun i k hi hk => ?_⟩, Fr.rf _ _ _⟩
  · rw [h.1.2.2 k hk]
    rcases (by omega : k = 0 ∨ k = 1 ∨ k = 2) with rfl | rfl | rfl
    · exact congrArg Value.int h6.symm
    · exact congrArg Value.int h7.symm
    · exact congrArg Value.int r8.symm
  · rw [h.v (f := 3) (by decide) (by decide) hi hk]
    obtain ⟨g1, g2, g3⟩ := r1 i hi
    rcases (by omega : k = 0 ∨ k = 1 ∨ k = 2) with rfl | rfl | rfl
    · exact congrArg Value.int g1.symm
    · exact congrArg Value.int g2.symm
    · exact congrArg Value.int g3.symm
  · rw [h.v (f := 4) (by decide) (by decide) hi (show k < 10 by omega)]
    obtain ⟨g1, g2, g3, g4, g5, g6, g7, g8, g9, -⟩ := r2 i hi
    rcases (by omega : k = 0 ∨ k = 1 ∨ k = 2 ∨ k = 3 ∨ k = 4 ∨ k = 5 ∨ k = 6 ∨ k = 7 ∨ k = 8) with rfl | rfl | rfl | rfl | rfl | rfl | rfl | rfl | rfl
    · exact congrArg Value.int g1.symm
    · exact congrArg Value.int g2.symm
    · exact congrArg Value.int g3.symm
    · exact congrArg Value.int g4.symm
    · exact congrArg Value.int g5.symm
    · exact congrArg Value.int g6.symm
    · exact congrArg Value.int g7.symm
    · exact congrArg Value.int g8.symm
    · exact congrArg Value.int g9.symm
  · exact h.v (f := 4) (by decide) (by decide) hi (show 9 < 10 by decide)
  · rw [h.v (f := 5) (by decide) (by decide) hi hk]
    obtain ⟨g1, g2, g3, g4⟩ := r3 i hi
    rcases (by omega : k = 0 ∨ k = 1 ∨ k = 2 ∨ k = 3) with rfl | rfl | rfl | rfl
    · exact congrArg Value.int g1.symm
    · exact congrArg Value.int g2.symm
    · exact congrArg Value.int g3.symm
    · exact congrArg Value.int g4.symm
  · exact h.v (f := 6) (by decide) (by decide) hi hk
  · exact h.v (f := 7) (by decide) (by decide) hi hk
theorem RFr.si {Δ : Nat → Nat → Nat} {ρ : RH} (ok : LDok Δ) (hR : RFr Δ ρ) (h6 : ρ 6 0 = 0) : SI (Δ 0 3) (Δ 0 4) (Δ 0 5) ρ := by
  obtain ⟨⟨o3, o4, o5, o6, o7⟩, ⟨o8, o9, o10⟩, ⟨o11, o12, o13, o14⟩, o15, -, -⟩ := ok
  obtain ⟨r1, r2, r3, r8⟩ := hR
  refine ⟨⟨o3, o4.2, o5⟩, fun h hh => ?_, fun l hl => ?_, fun t ht => ?_, ⟨0, by decide, h6⟩, fun h hh => ?_, fun l hl => ?_⟩
  · obtain ⟨g1, g2, g3, g4, g5, g6, g7, g8, g9, g10⟩ := r2 h hh
    refine ⟨Or.inl ⟨g5, g6, g7⟩, ⟨fun z => by rw [g6] at z; exact absurd z (by decide), fun ⟨l, l1, l2, _⟩ => by rw [(r3 l l1).2.1] at l2; exact absurd l2 (by decide)⟩, ⟨_, (o12 h).2, g2, fun _ => (o12 h).1⟩, ⟨_, (o11 h).1, (o11 h).2, g1⟩, ⟨_, (o13 h).1, (o13 h).2, g3⟩⟩
  · exact Or.inl (r3 l hl).2
  · obtain ⟨g1, g2, g3⟩ := r1 t ht
    exact ⟨_, _, _, ⟨(o8 t).1, (o8 t).2, o9 t, Nat.le_of_lt_succ (o10 t)⟩, g1, g2, g3⟩
  · obtain ⟨g1, g2, g3, g4, g5, g6, g7, g8, g9, g10⟩ := r2 h hh
    refine ⟨Or.inl g5, Or.inl g6, ?_, Or.inl g10, by rw [g8]; decide⟩
    rw [g4]
    rcases (by have := o14 h; omega : Δ 7 h = 0 ∨ Δ 7 h = 1) with e | e
    · rw [e]; exact Or.inl rfl
    · rw [e]; exact Or.inr rfl
  · rw [(r3 l hl).1]
    have := o15 l
    exact ⟨(nI_leI (a := 1) (by decide) (by omega)).mpr this.1, (nI_leI (b := 60) (by omega) (by decide)).mpr this.2⟩
set_option maxHeartbeats 4000000 in
theorem law_loop {l : Launch} {D : va_G} {cA : Nat → ClassId} {n0 : Nat} {sg adK adV : Nat → Nat} {sgA smA wdA bS LS : Nat} {xs : Nat → Int32} (hX : SF n0 (XW0 sg adK adV sgA smA wdA n0 bS LS xs)) (hl : l.stackTraces = false) {nn : String} {x r p r2 p2 hc wc sc j e tb : Nat} {A : Nat → Nat} {Rw : Nat → Nat → Nat} {cn : Nat → Nat} {π : RH} {ν : NU} {σ : Nat → Nat} {B : Nat → Nat} {fa W0 : Int32} {κ ω : Nat → Nat → Int32} (hL : LS ≤ 260) (hd : e ≤ x ∨ x + 144 ≤ j) (ho : PlOK (cn 3) (cn 4) hc wc σ π) (e6 : hc = cn 6) (e7 : wc = cn 7) (hPE : PE cn σ π κ ω) : ∀ (n t s0 : Nat) (τ : TY) (M : ME) (ρ : RH) (μ : Nat → Int32) (y6 y7 y8 y9 y10 y11 y12 y13 y14 y15 y16 y17 y18 y19 y20 y21 y22 y23 y24 y25 y26 y27 y28 y29 y30 y31 y32 y33 : Value), t + n = 60 → x + 144 ≤ s0 → e ≤ s0 → CS sg τ M x r p r2 p2 0 (cn 3) (cn 4) (cn 5) hc wc sc ρ ν π σ B fa → SM τ M M j e A Rw cn ρ μ κ ω → SI (cn 3) (cn 4) (cn 5) ρ → ρ 6 0 = nI t → sm (fun l => ρ 31 l) (cn 5) = W0 → T l D cA n0 (XW0 sg adK adV sgA smA wdA n0 bS LS xs) (mLN nn) 2048 (n * 700 + 360) (n * 4200 + 2200) s0 τ M 45 (.ref bS :: .ref tb :: .ref j :: .ref x :: .int W0 :: .int (nI t) :: y6 :: y7 :: y8 :: y9 :: y10 :: y11 :: y12 :: y13 :: y14 :: y15 :: y16 :: y17 :: y18 :: y19 :: y20 :: y21 :: y22 :: y23 :: y24 :: y25 :: y26 :: y27 :: y28 :: y29 :: y30 :: y31 :: y32 :: y33 :: []) [] Q1L (fun _ _ _ _ => False) := by
  intro n
  induction n with
  | zero =>
    intro t s0 τ M ρ μ y6 y7 y8 y9 y10 y11 y12 y13 y14 y15 y16 y17 y18 y19 y20 y21 y22 y23 y24 y25 y26 y27 y28 y29 y30 y31 y32 y33 htn hx0 he0 hC hS hI hh hW
    have ht : t = 60 := by omega
    subst ht
    refine T_iload5 dL_law_45 rfl ?_
    refine T_bipush (60) dL_law_47 rfl rfl ?_
    refine T_icmp_ge 1631 52 dL_law_49 (by decide) rfl (fun _ => ?_) (fun c => absurd (by decide) c)
    refine T_aload2 dL_law_1631 rfl ?_
    refine T_aload3 dL_law_1632 rfl ?_
    refine T_less (bk1 := 0 + 357) (bn1 := 0 + 2163) (by omega) (by omega) ?_
    refine T_cV1 (mc' := 357) (ms' := 2163) (c_X11_isSame hX hl ⟨hx0, he0⟩ hI.2.2.2.2.2 hC hS) hX kL_256 (Or.inl ⟨_, _, _, _, hS.t0, by decide, rfl⟩) (Nat.le_of_ble_eq_true rfl) (Nat.le_of_ble_eq_true rfl) dL_law_1633 rfl ?_
    rintro v9 _ _ _ rfl
    exact T_iret rfl rfl dL_law_1636 rfl
  | succ n ih =>
    intro t s0 τ M ρ μ y6 y7 y8 y9 y10 y11 y12 y13 y14 y15 y16 y17 y18 y19 y20 y21 y22 y23 y24 y25 y26 y27 y28 y29 y30 y31 y32 y33 htn hx0 he0 hC hS hI hh hW
    have hok := hS.ok
    have hok1 := hS.ok
    unfold CnOK at hok1
    have hje := hS.in0
    have hlo : x + 144 ≤ s0 ∧ e ≤ s0 ∧ j < e := ⟨hx0, he0, hje⟩
    refine T_iload5 dL_law_45 rfl ?_
    refine T_bipush (60) dL_law_47 rfl rfl ?_
    refine T_icmp_ge 1631 52 dL_law_49 (by decide) rfl (fun c => absurd ((nI_leI (a := 60) (b := t) (by decide) (by omega)).mp c) (by omega)) (fun _ => ?_)
    refine T_less (bk1 := n * 700 + 360 + 698 + 2) (bn1 := n * 4200 + 2200 + 4188 + 12) (by omega) (by omega) ?_
    refine PA_law hX hl hd hlo hok hI hL (by omega) hC hS (fun v M1 ρ1 hC hS hI h61 h31 => ?_)
    replace hh := h61.trans hh
    replace hW := (sm_cong (f := fun l => ρ1 31 l) (g := fun l => ρ 31 l) (n := cn 5) (fun l _ => h31 l)).trans hW
    refine T_less (bk1 := n * 700 + 360 + 668 + 30) (bn1 := n * 4200 + 2200 + 3988 + 200) (by omega) (by omega) ?_
    refine PB_law (sz := s0) hX hl hd hlo hok hI hC hS (fun τ1 M2 hC hS hA hF => ?_)
    refine T_less (bk1 := n * 700 + 360 + 548 + 24 * (cn 4 - 0)) (bn1 := n * 4200 + 2200 + 3268 + 144 * (cn 4 - 0)) (by omega) (by omega) ?_
    refine IC_law hX hl hd hlo hok hI hA (fun M3 y15a hC hS hF => ?_) (cn 4 + 1) 0 M2 _ (Nat.zero_le _) hC hS hF (by omega)
    refine T_iconst (0) dL_law_378 rfl rfl ?_
    refine T_istore14 rfl (Nat.le_of_ble_eq_true rfl) dL_law_379 rfl ?_
    refine T_less (bk1 := n * 700 + 360 + 536 + 2 * (cn 3 - 0)) (bn1 := n * 4200 + 2200 + 3196 + 12 * (cn 3 - 0)) (by omega) (by omega) ?_
    refine ID1_law hX hl hd hlo hok hI hA (fun M4 hC hS hF => ?_) (cn 3 + 1) 0 M3 (Nat.zero_le _) hC hS hF (by omega)
    refine T_iconst (0) dL_law_406 rfl rfl ?_
    refine T_istore14 rfl (Nat.le_of_ble_eq_true rfl) dL_law_407 rfl ?_
    refine T_less (bk1 := n * 700 + 360 + 424 + 8 * (cn 5 - 0)) (bn1 := n * 4200 + 2200 + 2524 + 48 * (cn 5 - 0)) (by omega) (by omega) ?_
    refine ID3_law hX hl hd hlo hok hI hA (fun M5 y15b hC hS hF => ?_) (cn 5 + 1) 0 M4 _ (Nat.zero_le _) hC hS hF (by omega)
    refine T_less (bk1 := n * 700 + 360 + 384 + 40) (bn1 := n * 4200 + 2200 + 2284 + 240) (by omega) (by omega) ?_
    refine PE_law (sz := s0) hX hl hd hlo hok hI ho hC hS hA hF (fun τ2 M6 g0 ar b21 b22 dg h0 hA hta hC hS hF hT hg0 hAR hh0 => ?_)
    refine T_less (bk1 := n * 700 + 360 + 369 + 15) (bn1 := n * 4200 + 2200 + 2194 + 90) (by omega) (by omega) ?_
    refine PF_law hX hl hd hlo hok hI ho e6 e7 hPE hh (by omega) hA hta hC hS hF hT hg0 hAR hh0 (fun M7 ρ2 μ2 hC hS hF hI1 hHR => ?_)
    refine T_iconst (0) dL_law_879 rfl rfl ?_
    refine T_istore28 rfl (Nat.le_of_ble_eq_true rfl) dL_law_880 rfl ?_
    refine T_iconst (0) dL_law_882 rfl rfl ?_
    refine T_istore29 rfl (Nat.le_of_ble_eq_true rfl) dL_law_883 rfl ?_
    refine T_less (bk1 := n * 700 + 360 + 199 + 34 * (cn 4 - 0)) (bn1 := n * 4200 + 2200 + 1174 + 204 * (cn 4 - 0)) (by omega) (by omega) ?_
    refine IG_law hX hl (μ := μ2) (A := A) (Rw := Rw) (κ := κ) (ω := ω) hd hlo hok hI hA hC hF hI1 hHR (fun y30a y31a y32a => ?_) (cn 4 + 1) 0 0 _ _ _ (Nat.zero_le _) rfl (by omega)
    refine T_iload28 dL_law_1274 rfl ?_
    refine T_iload27 dL_law_1276 rfl ?_
    refine T_icmp_eq_t 1283 dL_law_1278 (by decide) hHR.br ?_
    refine T_iconst (0) dL_law_1283 rfl rfl ?_
    refine T_istore29 rfl (Nat.le_of_ble_eq_true rfl) dL_law_1284 rfl ?_
    refine T_iload8 dL_law_1286 rfl ?_
    refine T_less (bk1 := n * 700 + 360 + 198 + 1) (bn1 := n * 4200 + 2200 + 1168 + cn 3) (by omega) (by omega) ?_
    refine T_newa (atype := .int) (N := cn 3) 0 (fun _ => .int 0) ka_int (by decide) rfl rfl (by omega) rfl dL_law_1288 rfl ?_
    rw [show s0 + 4 + cn 4 + cn 5 + 1 + 1 = s0 + 4 + cn 4 + cn 5 + 2 by omega]
    refine T_nt (fun τ3 eτ => ?_)
    refine T_nm (fun M8 e8 => ?_)
    have hta2 : τ3 (s0 + 4 + cn 4 + cn 5 + 1) = (100, cn 3) := by rw [eτ]; exact tyN_s _ _ _
    have hTq : ∀ q, q < s0 + 4 + cn 4 + cn 5 + 1 → τ3 q = τ2 q := fun q hq => by rw [eτ]; exact tyN_n (by omega)
    have hMq : ∀ q, q < s0 + 4 + cn 4 + cn 5 + 1 → M8 q = M7 q := fun q hq => by rw [e8]; exact meN_n (by omega)
    replace hA := hA.fr (fun q g1 g2 => hTq q (by omega))
    replace hC := (hC.tau (τ' := τ3) (fun q g1 g2 => hTq q (by omega))).fr (fun q g1 g2 => hMq q (by omega))
    replace hS := (hS.tau (τ' := τ3) (fun q g1 g2 => hTq q (by omega))).fr (fun q g1 g2 => hMq q (by omega))
    replace hF := hF.fr (M' := M8) (fun q g1 g2 => hMq q (by omega))
    have hL0 : ∀ u, u < cn 3 → M8 (s0 + 4 + cn 4 + cn 5 + 1) u = .int (sm (fun l => if ρ2 32 l = 2 ∧ ρ2 33 l = nI u then 1 else 0) 0) := fun u hu => by rw [e8, meN_s]; rfl
    refine T_astore30 rfl (Nat.le_of_ble_eq_true rfl) dL_law_1290 rfl ?_
    refine T_iconst (0) dL_law_1292 rfl rfl ?_
    refine T_istore31 rfl (Nat.le_of_ble_eq_true rfl) dL_law_1293 rfl ?_
    refine T_less (bk1 := n * 700 + 360 + 58 + 10 * (cn 5 - 0)) (bn1 := n * 4200 + 2200 + 328 + 60 * (cn 5 - 0)) (by omega) (by omega) ?_
    refine IH_law hX hl hd hlo hok hI hA hta2 hI1 hHR (fun M9 y32b y33b hC hS hF hL9 => ?_) (cn 5 + 1) 0 M8 0 _ _ (Nat.zero_le _) hC hS hF hL0 rfl (by omega)
    refine T_iload29 dL_law_1540 rfl ?_
    refine T_iload4 dL_law_1542 rfl ?_
    refine T_icmp_eq_t 1549 dL_law_1544 (by decide) hW ?_
    refine T_iconst (0) dL_law_1549 rfl rfl ?_
    refine T_istore31 rfl (Nat.le_of_ble_eq_true rfl) dL_law_1550 rfl ?_
    refine T_less (bk1 := n * 700 + 360 + 34 + 4 * (cn 3 - 0)) (bn1 := n * 4200 + 2200 + 184 + 24 * (cn 3 - 0)) (by omega) (by omega) ?_
    refine II_law hX hl (μ1 := μ2) (A := A) (Rw := Rw) (κ := κ) (ω := ω) hd hlo hok hI hA hta2 hC hF hL9 hHR ?_ (cn 3 + 1) 0 (Nat.zero_le _) (by omega)
    refine T_iinc5 rfl (Nat.le_of_ble_eq_true rfl) dL_law_1625 rfl (nI_1 t) ?_
    refine T_goto 45 dL_law_1628 (by decide) ?_
    have h62 : ρ2 6 0 = nI (t + 1) := by rw [hHR.1.1, hh]; exact nI_1 t
    have hW2 : sm (fun l => ρ2 31 l) (cn 5) = W0 := (sm_cong (f := fun l => ρ2 31 l) (g := fun l => ρ1 31 l) (n := cn 5) (fun l _ => hHR.1.2 31 l (by unfold FX; omega) (by decide))).trans hW
    exact T_less (by omega) (by omega) (ih (t + 1) _ _ _ _ _ _ _ _ _ _ _ _ _ _ _ _ _ _ _ _ _ _ _ _ _ _ _ _ _ _ _ _ _ (by omega) (by omega) (by omega) hC hS hI1 h62 hW2)
