/-! the reference is told a list -/
def P5 (x : Int32) : Prop := x = 0 ∨ x = 2 ∨ x = 3 ∨ x = 4 ∨ x = 5
theorem i5 {p : Prop} {d : Decidable p} {a b : Int32} (ha : P5 a) (hb : P5 b) : P5 (@ite _ p d a b) := by
  by_cases e : p
  · rw [if_pos e]; exact ha
  · rw [if_neg e]; exact hb
theorem er5 {V : Nat → Int64} {rl : Nat → Int32} {t : Nat} : erF V rl t = 0 ∨ erF V rl t = 2 ∨ erF V rl t = 3 ∨ erF V rl t = 4 ∨ erF V rl t = 5 := by
  show P5 (erF V rl t)
  have k0 : P5 0 := Or.inl rfl
  have k2 : P5 2 := Or.inr (Or.inl rfl)
  have k3 : P5 3 := Or.inr (Or.inr (Or.inl rfl))
  have k4 : P5 4 := Or.inr (Or.inr (Or.inr (Or.inl rfl)))
  have k5 : P5 5 := Or.inr (Or.inr (Or.inr (Or.inr rfl)))
  unfold erF ngE rgE
  exact i5 (i5 (i5 k4 k0) k2) (i5 (i5 (i5 k4 k0) k2) (i5 (i5 (i5 k4 k0) k2) (i5 (i5 k4 k0) (i5 (i5 k4 k0) (i5 (i5 k3 k0) (i5 (i5 k3 k0) (i5 (i5 k5 k0) (i5 (i5 k5 k0) (i5 (i5 k5 k0) (i5 (i5 k5 k0) k0))))))))))
theorem fl5 {V : Nat → Int64} {S : Nat → Int32} {rl : Nat → Int32} : ∀ t, (flF V S rl t).1 = 0 ∨ (flF V S rl t).1 = 2 ∨ (flF V S rl t).1 = 3 ∨ (flF V S rl t).1 = 4 ∨ (flF V S rl t).1 = 5
  | 0 => Or.inl rfl
  | t + 1 => by
    show nfE (flF V S rl t).1 (erF V rl t) = 0 ∨ _
    have h : (flF V S rl (t + 1)).1 = nfE (flF V S rl t).1 (erF V rl t) := rfl
    rw [h]
    unfold nfE
    by_cases e : (flF V S rl t).1 = 0
    · rw [if_pos e]; exact er5
    · rw [if_neg e]; exact fl5 t
theorem erV_p {V : Nat → Int64} {S : Nat → Int32} {q : PQ} (h : ¬ erV V S q = 0) : ¬ erV V S q ≤ 0 := by
  unfold erV at h ⊢
  by_cases e : q.1 = true
  · rw [if_pos e] at h ⊢
    rcases fl5 (V := V) (S := S) (rl := q.2.2.2.2.2) q.2.1 with g | g | g | g | g <;> rw [g] at h ⊢ <;> first | exact absurd rfl h | decide
  · rw [if_neg e]; decide
theorem erA_0 {V : Nat → Int64} {S : Nat → Int32} {q : PQ} (h : erV V S q = 0) : q.1 = true ∧ (flF V S q.2.2.2.2.2 q.2.1).1 = 0 ∧ erA V S q = -1 := by
  unfold erV at h
  unfold erA
  by_cases e : q.1 = true
  · rw [if_pos e] at h ⊢; exact ⟨e, h, flF_m1 h⟩
  · rw [if_neg e] at h; exact absurd h (by decide)
/-- the reference's new list *as* the rules have it -/
def NWP (τ : TY) (M : ME) (z : Nat) (V : Nat → Int64) (q' : PQ) (β' w : RH) : Prop :=
  PV τ M M z (cntR q'.2.2.2.2.2 1 q'.2.1) (cntR q'.2.2.2.2.2 2 q'.2.1) (cntR q'.2.2.2.2.2 3 q'.2.1) (cntR q'.2.2.2.2.2 4 q'.2.1) (cntR q'.2.2.2.2.2 4 q'.2.1) (cntR q'.2.2.2.2.2 5 q'.2.1) (cntR q'.2.2.2.2.2 5 q'.2.1) (psF q'.2.2.2.1 q'.2.2.1) (cnF q'.2.2.2.1 q'.2.2.1) w ∧ GPi V w q'.2 (cnF q'.2.2.2.1 q'.2.2.1) ∧ (∀ f i, dfB f = true → w f i = dtF V q'.2.2.2.2.2 q'.2.1 f i) ∧ (∀ i, i < cntR q'.2.2.2.2.2 4 q'.2.1 → i < 12 → PK q'.2 (β' 52 i) (w 52 i) ∧ PK q'.2 (β' 53 i) (w 53 i) ∧ PK q'.2 (β' 54 i) (w 54 i)) ∧ (∀ i, i < cntR q'.2.2.2.2.2 5 q'.2.1 → i < 12 → PK q'.2 (β' 57 i) (w 57 i) ∧ PK q'.2 (β' 59 i) (w 59 i))
set_option maxHeartbeats 1000000 in
theorem c_X13_teach {l : Launch} {D : va_G} {cA : Nat → ClassId} {n0 : Nat} {sg adK adV : Nat → Nat} {sgA smA wdA bS LS : Nat} {xs : Nat → Int32} (hX : SF n0 (XW0 sg adK adV sgA smA wdA n0 bS LS xs)) {sz : Nat} {τ : TY} {N1 N2 M : ME} {m y z0 s1 s2 n8 tk dp lt : Nat} {B : Nat → Nat} {K : Nat → Nat} {S : Nat → Int32} {V : Nat → Int64} {ω β' ρ : RH} {μ κ : Nat → Int32} {q' : PQ} (hM : MV τ N1 M m y z0 s1 s2 n8 tk dp B ω) (hS : SV τ N2 M s1 m ρ μ κ) (hms : m + 7 ≤ s1 ∨ s1 + 14 ≤ m) (hn2 : n8 ≤ 2000) (h8 : ∀ i, B i < 256) (hT : Toks B n8 lt K S V) (hL : LSr K (fun t => (V t).toInt32) pq0 be0 q' β') : CT l D cA n0 (XW0 sg adK adV sgA smA wdA n0 bS LS xs) mX13_teach 103 19 1396 sz τ M [.ref m] (fun v' sz' τ' M' => v' = some (.int (erV V S q')) ∧ sz' = sz + 19 ∧ (∀ b, b < sz → τ' b = τ b) ∧ (∀ b, b < sz → ¬ (m ≤ b ∧ b < m + 7) → ¬ (s1 ≤ b ∧ b < s1 + 14) → M' b = M b) ∧ (erV V S q' = 0 → (q'.1 = true ∧ RGS K q'.2 ∧ NS q'.2 ∧ q'.2.1 ≤ lt ∧ q'.2.2.1 ≤ q'.2.1) ∧ ∃ tk1 dp1 ω1 w, MV τ' M' M' m sz sz s1 s2 0 tk1 dp1 B ω1 ∧ ω1 90 0 = 0 ∧ ω1 91 0 = erA V S q' ∧ NWP τ' M' sz V q' β' w ∧ ∃ ρ', SV τ' M' M' s1 m ρ' μ κ ∧ BGN ρ w ρ') ∧ (¬ erV V S q' = 0 → (∃ tk1 dp1 ω1, MV τ' M' M' m y sz s1 s2 0 tk1 dp1 B ω1 ∧ ω1 90 0 = 0 ∧ ω1 91 0 = erA V S q') ∧ SV τ' M' M' s1 m ρ μ κ)) := by
  refine CT.of (ls := [.ref m, UU]) (by decide) (Nat.le_of_ble_eq_true rfl) rfl ?_
  refine T_szb (fun hz => ?_)
  have z1 := hM.hi hz
  have z2 := (hz (s1 + 13) _ hS.t_a13 (by decide)).2
  have hM := hM.rf
  have hS := hS.rf
  have hC : ∀ b, b < sz → ¬ (m ≤ b ∧ b < m + 7) → ¬ (s1 ≤ b ∧ b < s1 + 14) → M b = M b := fun _ _ _ _ => rfl
  refine T_aload0 dX13_teach_0 rfl ?_
  refine T_iconst (0) dX13_teach_1 rfl rfl ?_
  refine p13_57 rfl (hM.t_m) dX13_teach_2 rfl ?_
  refine T_nm (fun M1 e1 => ?_)
  have hM := MV.mv hM.p_th e1
  have hS := hS.frU e1 (by omega)
  have hC : ∀ b, b < sz → ¬ (m ≤ b ∧ b < m + 7) → ¬ (s1 ≤ b ∧ b < s1 + 14) → M1 b = M b := fun b g1 g2 g3 => (by rw [e1]; exact (up_a (by omega)).trans (hC b g1 g2 g3))
  refine T_aload0 dX13_teach_5 rfl ?_
  refine T_iconst (-1) dX13_teach_6 rfl rfl ?_
  refine p13_13 rfl (hM.t_m) dX13_teach_7 rfl ?_
  refine T_nm (fun M2 e2 => ?_)
  have hM := MV.mv hM.p_ea e2
  have hS := hS.frU e2 (by omega)
  have hC : ∀ b, b < sz → ¬ (m ≤ b ∧ b < m + 7) → ¬ (s1 ≤ b ∧ b < s1 + 14) → M2 b = M b := fun b g1 g2 g3 => (by rw [e2]; exact (up_a (by omega)).trans (hC b g1 g2 g3))
  refine T_aload0 dX13_teach_10 rfl ?_
  refine T_cV0 (c_X13_read hX hM.rf hn2 h8 hT hL) hX k13_294 (Or.inl ⟨_, _, _, _, (hM.t_m), by decide, rfl⟩) (by decide) (Nat.le_of_ble_eq_true rfl) dX13_teach_11 rfl ?_
  rintro _ _ τ2 M9 ⟨rfl, rfl, hTy, hB9, ω1, ⟨hq1, hq2⟩, hOK, hER⟩
  rw [u2_f (by decide), u2_s] at hq1
  rw [u2_s] at hq2
  have hS := (hS.tau (τ' := τ2) (fun q g1 g2 => hTy q (by omega))).fr (M1 := M9) (fun q g1 g2 => hB9 q (by omega) (by omega))
  have hC : ∀ b, b < sz → ¬ (m ≤ b ∧ b < m + 7) → ¬ (s1 ≤ b ∧ b < s1 + 14) → M9 b = M b := fun b g1 g2 g3 => (hB9 b g1 g2).trans (hC b g1 g2 g3)
  refine T_istore1 rfl (by decide) dX13_teach_14 rfl ?_
  by_cases e0 : erV V S q' = 0
  ·
    obtain ⟨hq9, w9, ⟨tk2, dp2, ω2, w, hM, hω, hV, hG, hD⟩, hMW, hrg, hns, hs4, hsn⟩ := hOK e0
    have hw5 : ∀ f i, ¬ f = 71 → dfB f = false → w f i = w9 f i := fun f i h1 h2 => (hD f i h1).2 h2
    refine T_aload0 dX13_teach_15 rfl ?_
    refine T_iconst (0) dX13_teach_16 rfl rfl ?_
    refine p13_86 rfl (hM.t_m) dX13_teach_17 rfl ?_
    refine T_nm (fun M1 e1 => ?_)
    have hM := MV.mv (hM.p_n (n := 0) rfl) e1
    have hV := hV.frU e1 (by omega)
    have hS := hS.frU e1 (by omega)
    have hC : ∀ b, b < sz → ¬ (m ≤ b ∧ b < m + 7) → ¬ (s1 ≤ b ∧ b < s1 + 14) → M1 b = M b := fun b g1 g2 g3 => (by rw [e1]; exact (up_a (by omega)).trans (hC b g1 g2 g3))
    refine T_iload1 dX13_teach_20 rfl ?_
    refine T_if_le_t 26 dX13_teach_21 (by decide) (by rw [e0]; decide) ?_
    refine T_aload0 dX13_teach_26 rfl ?_
    refine T_aload0 dX13_teach_27 rfl ?_
    refine g13_39 _ rfl (hM.t_m) (hM.g_z) dX13_teach_28 rfl ?_
    refine p13_35 rfl (hM.t_m) dX13_teach_31 rfl ?_
    refine T_nm (fun M2 e2 => ?_)
    have hM := MV.mv hM.p_y e2
    have hV := hV.frU e2 (by omega)
    have hS := hS.frU e2 (by omega)
    have hC : ∀ b, b < sz → ¬ (m ≤ b ∧ b < m + 7) → ¬ (s1 ≤ b ∧ b < s1 + 14) → M2 b = M b := fun b g1 g2 g3 => (by rw [e2]; exact (up_a (by omega)).trans (hC b g1 g2 g3))
    refine T_aload0 dX13_teach_34 rfl ?_
    refine g13_47 _ rfl (hM.t_m) (hM.g_s1) dX13_teach_35 rfl ?_
    refine T_cV0 (c_X12_begin hX hS hV (y := sz) ⟨hM.t_m, hM.g_y, by omega, by omega⟩) hX k13_54 (Or.inl ⟨_, _, _, _, (hS.t_s), by decide, rfl⟩) (by decide) (Nat.le_of_ble_eq_true rfl) dX13_teach_38 rfl ?_
    rintro _ _ _ M7 ⟨rfl, rfl, rfl, ρ', hS7, hBG⟩
    have hM := hM.fr (M1 := M7) (fun b g1 g2 => hS7.frame b (by omega))
    have hV := hV.fr (M1 := M7) (fun b g1 g2 => hS7.frame b (by omega))
    have hC : ∀ b, b < sz → ¬ (m ≤ b ∧ b < m + 7) → ¬ (s1 ≤ b ∧ b < s1 + 14) → M7 b = M b := fun b g1 g2 g3 => (hS7.frame b (by omega)).trans (hC b g1 g2 g3)
    refine T_iconst (0) dX13_teach_41 rfl rfl ?_
    refine T_iret rfl rfl dX13_teach_42 ?_
    exact ⟨by rw [e0], rfl, hTy, hC, fun _ => ⟨⟨hq9, hrg, hns, hs4, hsn⟩, _, _, ω2, w, hM.rf, by rw [hω 90 _ (by decide), hq1], by rw [hω 91 _ (by decide), hq2, (erA_0 e0).2.2], ⟨hV.rf, hG, fun f i hf => (hD f i (by rintro rfl; exact absurd hf (by decide))).1 hf, fun i h1 h2 => by rw [hw5 52 i (by decide) rfl, hw5 53 i (by decide) rfl, hw5 54 i (by decide) rfl]; exact hMW.1 i h1 h2, fun i h1 h2 => by rw [hw5 57 i (by decide) rfl, hw5 59 i (by decide) rfl]; exact hMW.2.1 i h1 h2⟩, ρ', hS7.rf, hBG⟩, fun q => absurd e0 q⟩
  ·
    obtain ⟨tk2, dp2, ω2, hM, hx1, hx2⟩ := hER e0
    refine T_aload0 dX13_teach_15 rfl ?_
    refine T_iconst (0) dX13_teach_16 rfl rfl ?_
    refine p13_86 rfl (hM.t_m) dX13_teach_17 rfl ?_
    refine T_nm (fun M1 e1 => ?_)
    have hM := MV.mv (hM.p_n (n := 0) rfl) e1
    have hS := hS.frU e1 (by omega)
    have hC : ∀ b, b < sz → ¬ (m ≤ b ∧ b < m + 7) → ¬ (s1 ≤ b ∧ b < s1 + 14) → M1 b = M b := fun b g1 g2 g3 => (by rw [e1]; exact (up_a (by omega)).trans (hC b g1 g2 g3))
    refine T_iload1 dX13_teach_20 rfl ?_
    refine T_if_le_f 26 24 dX13_teach_21 (by decide) rfl (erV_p e0) ?_
    refine T_iload1 dX13_teach_24 rfl ?_
    refine T_iret rfl rfl dX13_teach_25 ?_
    exact ⟨rfl, rfl, hTy, hC, fun q => absurd q e0, fun _ => ⟨⟨_, _, ω2, hM.rf, hx1.trans hq1, hx2⟩, hS.rf⟩⟩
