theorem wn_60 {ρ : RH} {c : Nat} (h : ∀ l, l < c → 1 ≤ ρ 31 l ∧ ρ 31 l ≤ 60) : ∃ n w, n ≤ c ∧ w ≤ 60 * n ∧ nOf c ρ 3 = nI n ∧ wOf c ρ 3 = nI w := by
  unfold nOf wOf
  induction c with
  | zero => exact ⟨0, 0, by omega, by omega, rfl, rfl⟩
  | succ c ih =>
    obtain ⟨n, w, h1, h2, h3, h4⟩ := ih (fun l hl => h l (by omega))
    rw [sm, sm, h3, h4]
    by_cases e : ρ 32 c = 3
    · rw [if_pos e, if_pos e]
      have h5 := h c (by omega)
      obtain ⟨j, hj, e2⟩ := nI_of2 (M := 60) (n := 60) (by decide) (Int32.not_lt.mpr (Int32.le_trans (by decide) h5.1)) h5.2
      exact ⟨n + 1, w + j, by omega, by omega, nI_1 n, by rw [e2, nI_add]⟩
    · rw [if_neg e, if_neg e]
      exact ⟨n, w, by omega, h2, Int32.add_zero _, Int32.add_zero _⟩
def meF (c : Nat) (ρ : RH) : UInt64 := if nOf c ρ 3 = 0 then 0 else FP.ddiv (FP.i2d (wOf c ρ 3)) (FP.i2d (nOf c ρ 3))
theorem me_ok {ρ : RH} {c : Nat} (hc : c ≤ 20) (h : ∀ l, l < c → 1 ≤ ρ 31 l ∧ ρ 31 l ≤ 60) (h0 : ¬ nOf c ρ 3 = 0) : vf_n64 (FP.ddiv (FP.i2d (wOf c ρ 3)) (FP.i2d (nOf c ρ 3))) := by
  obtain ⟨n, w, h1, h2, h3, h4⟩ := wn_60 h
  rw [h3] at h0
  have hn : n ≠ 0 := fun q => h0 (by rw [q]; rfl)
  obtain ⟨k, rfl⟩ : ∃ k, n = k + 1 := ⟨n - 1, by omega⟩
  rw [h3, h4]
  exact dd_t k (by omega) w (by omega)
set_option maxHeartbeats 1000000 in
theorem c_X13_mean {l : Launch} {D : va_G} {cA : Nat → ClassId} {n0 : Nat} {sg adK adV : Nat → Nat} {sgA smA wdA bS LS : Nat} {xs : Nat → Int32} (hX : SF n0 (XW0 sg adK adV sgA smA wdA n0 bS LS xs)) {sz : Nat} {τ : TY} {N1 N2 M : ME} {m y z n8 tk dp a b c hc wc sn : Nat} {B : Nat → Nat} {ω ρ π : RH} {σ : Nat → Nat} {μ κ : Nat → Int32} (hM : MV τ N1 M m y z (m + 26) (m + 40) n8 tk dp B ω) (hS : SL τ N2 M (m + 26) a b c ρ m μ κ) (hW : WN τ M m y (m + 26) a b c hc wc sn ρ π σ) (hL : y = m + 7 ∨ m + 54 ≤ y) (hi : RI a b c ρ) : CT l D cA n0 (XW0 sg adK adV sgA smA wdA n0 bS LS xs) mX13_mean 2 0 0 sz τ M [.ref m] (fun v' sz' τ' M' => v' = some (.double (meF c ρ)) ∧ TH τ M m sz sz' τ' M' 0) := by
  refine CT.of (ls := [.ref m, UU]) (by decide) (Nat.le_of_ble_eq_true rfl) rfl ?_
  refine T_szb (fun hz => ?_)
  have z1 := hM.hi hz
  have hm : m < sz := by omega
  obtain ⟨l3, l4, l5, l6, l7, l8⟩ := hW.ok
  refine T_aload0 dX13_mean_0 rfl ?_
  refine T_iconst (0) dX13_mean_1 rfl rfl ?_
  refine p13_57 rfl (hM.t_m) dX13_mean_2 rfl ?_
  refine T_nm (fun M1 e1 => ?_)
  have hM := MV.mv hM.p_th e1
  have hS := hS.frU e1 (by omega)
  have hW := hW.frV e1 (by omega)
  refine T_aload0 dX13_mean_5 rfl ?_
  refine g13_47 _ rfl (hM.t_m) (hM.g_s1) dX13_mean_6 rfl ?_
  refine T_iconst (3) dX13_mean_9 rfl rfl ?_
  refine T_iconst (-1) dX13_mean_10 rfl rfl ?_
  refine T_cV2 (c_X12_logs hX hS hW _ _) hX k13_310 (Or.inl ⟨_, _, _, _, (hS.t_s), by decide, rfl⟩) (by decide) (Nat.le_of_ble_eq_true rfl) dX13_mean_11 rfl ?_
  rintro _ _ _ _ ⟨rfl, rfl, rfl, rfl⟩
  rw [nb_all]
  refine T_istore1 rfl (by decide) dX13_mean_14 rfl ?_
  refine T_iload1 dX13_mean_15 rfl ?_
  refine T_if_ne 23 19 dX13_mean_16 (by decide) rfl (fun c16 => ?_) (fun c16 => ?_)
  ·
    refine T_aload0 dX13_mean_23 rfl ?_
    refine g13_47 _ rfl (hM.t_m) (hM.g_s1) dX13_mean_24 rfl ?_
    refine T_iconst (3) dX13_mean_27 rfl rfl ?_
    refine T_iconst (-1) dX13_mean_28 rfl rfl ?_
    refine T_cV2 (c_X12_weights hX hS hW _ _) hX k13_307 (Or.inl ⟨_, _, _, _, (hS.t_s), by decide, rfl⟩) (by decide) (Nat.le_of_ble_eq_true rfl) dX13_mean_29 rfl ?_
    rintro _ _ _ _ ⟨rfl, rfl, rfl, rfl⟩
    refine T_i2d dX13_mean_32 rfl ?_
    refine T_iload1 dX13_mean_33 rfl ?_
    refine T_i2d dX13_mean_34 rfl ?_
    refine T_ddiv dX13_mean_35 rfl (by rw [wb_all]; exact me_ok l5 hi.2 c16) ?_
    refine T_dret rfl dX13_mean_36 ?_
    refine ⟨congrArg (fun z => some (Value.double z)) ?_, TH.b e1⟩
    unfold meF
    first | (rw [if_pos c16]; done) | (rw [if_neg c16, wb_all])
  ·
    refine T_dconst0 dX13_mean_19 rfl ?_
    refine T_goto 36 dX13_mean_20 (by decide) ?_
    refine T_dret rfl dX13_mean_36 ?_
    refine ⟨congrArg (fun z => some (Value.double z)) ?_, TH.b e1⟩
    unfold meF
    first | (rw [if_pos c16]; done) | (rw [if_neg c16, wb_all])
