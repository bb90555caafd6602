theorem u2_same {ρ : RH} {f i : Nat} {x : Int32} (h : ρ f i = x) : u2 ρ f i x = ρ := by
  funext g j
  simp only [u2]; split
  · rename_i q; rw [q.1, q.2, h]
  · rfl
theorem tire_m {x : Int32} (h0 : 0 ≤ x) (h1 : x ≤ 60) : maxI 0 (x - 2) = maxI 0 (minI (x + -2) 60) ∧ maxI 0 (x - 4) = maxI 0 (minI (x + -4) 60) := by
  obtain ⟨j, hj, rfl⟩ := nI_of2 (M := 60) (n := 60) (by decide) (Int32.not_lt.mpr h0) h1
  exact (by decide : ∀ j, j < 61 → maxI 0 (nI j - 2) = maxI 0 (minI (nI j + -2) 60) ∧ maxI 0 (nI j - 4) = maxI 0 (minI (nI j + -4) 60)) j (by omega)
/-- the model's loading -/
def ldC (c : Nat) (ρ : RH) (j : Nat) (x : Int32) : RH := if (psC ρ (nI j) x c).2.2 = 0 then (psC ρ (nI j) x c).1 else standC (psC ρ (nI j) x c).1 j 0 1 0
def ldM (c : Nat) (ρ : RH) (μ : Nat → Int32) (j : Nat) (x : Int32) : Nat → Int32 := if (psC ρ (nI j) x c).2.2 = 0 then μ else uI μ j 1
theorem ps_0 {a b c : Nat} {ρ : RH} {x : Int32} (h : RI a b c ρ) : ∀ k, k ≤ c → psC ρ x 0 k = (ρ, 0, 0)
  | 0, _ => rfl
  | k + 1, hk => by
    have e := ps_0 (x := x) h k (by omega)
    rw [psC_n (fun q => ?_), e]
    have q3 := q.2.2
    rw [e] at q3
    have w := (h.2 k (by omega)).1
    have q4 : ρ 31 k ≤ 0 := by have : (0 : Int32) + ρ 31 k = ρ 31 k := Int32.zero_add _; rw [← this]; exact q3
    exact absurd (Int32.le_trans w q4) (by decide)
theorem ld_sg {c hc j : Nat} {σ : Nat → Nat} {π ρ : RH} : ∀ f i, f ≠ 20 → ldC c ρ j (mwG c ρ σ π (nI j) 0 hc) f i = sgC c hc σ π ρ j f i := fun f i hf => by
  unfold ldC sgC psR
  by_cases e : (psC ρ (nI j) (mwG c ρ σ π (nI j) 0 hc) c).2.2 = 0
  · rw [if_pos e, if_pos e, if_pos rfl]
  · rw [if_neg e, if_neg e, if_neg (by decide), u2_f hf]
set_option maxHeartbeats 1000000 in
theorem c_X12_carryOut {l : Launch} {D : va_G} {cA : Nat → ClassId} {n0 : Nat} {sg adK adV : Nat → Nat} {sgA smA wdA bS LS : Nat} {xs : Nat → Int32} (hX : SF n0 (XW0 sg adK adV sgA smA wdA n0 bS LS xs)) {sz : Nat} {τ : TY} {M0 M : ME} {m y s a b c hc wc sn : Nat} {ρ π : RH} {σ : Nat → Nat} {f t : Nat} (hs : SgOK a b σ (π 70) f t) (htn : t ≤ sn) {μ κ : Nat → Int32} (hS : SL τ M0 M s a b c ρ m μ κ) (hW : WN τ M m y s a b c hc wc sn ρ π σ) : CT l D cA n0 (XW0 sg adK adV sgA smA wdA n0 bS LS xs) mX12_carryOut 4 0 0 sz τ M [.ref s, .int (nI (psF σ f)), .int (nI (psF σ t))] (fun v' sz' τ' M' => v' = some (.int ((evF c ρ σ (π 70) f κ (t - f)).1 0)) ∧ sz' = sz ∧ τ' = τ ∧ ∃ κ', SL τ M0 M' s a b c ρ m μ κ') := by
  refine CT.of (ls := [.ref s, .int (nI (psF σ f)), .int (nI (psF σ t)), UU, UU, UU]) (by decide) (Nat.le_of_ble_eq_true rfl) rfl ?_
  refine T_iconst (-1) dX12_carryOut_0 rfl rfl ?_
  refine T_istore3 rfl (by decide) dX12_carryOut_1 rfl ?_
  refine T_iload1 dX12_carryOut_2 rfl ?_
  refine T_istore4 rfl (by decide) dX12_carryOut_3 rfl ?_
  have y1 : nI (hgF σ f 0) + -1 = -1 := by show nI 0 + -1 = -1; decide
  have h := L_X12_carryOut (l := l) (D := D) (cA := cA) (sz := sz) hX hs htn (t - f + 1) 0 κ UU M (by have := hs.1; omega) rfl hS hW (by omega)
  rw [y1] at h
  exact h
set_option maxHeartbeats 1000000 in
theorem L_X12_loadUp {l : Launch} {D : va_G} {cA : Nat → ClassId} {n0 : Nat} {sg adK adV : Nat → Nat} {sgA smA wdA bS LS : Nat} {xs : Nat → Int32} (hX : SF n0 (XW0 sg adK adV sgA smA wdA n0 bS LS xs)) {sz : Nat} {τ : TY} {M0 : ME} {m y s a b c hc wc sn : Nat} {ρ π : RH} {σ : Nat → Nat} {μ κ : Nat → Int32} {j : Nat} (hj : j < b) (x : Int32) : ∀ (n : Nat) (k : Nat) (Mk : ME) (hk : k ≤ c) (hS : SL τ M0 Mk s a b c ((psC ρ (nI j) x k).1) m μ κ) (hW : WN τ Mk m y s a b c hc wc sn ρ π σ), c - k < n → T l D cA n0 (XW0 sg adK adV sgA smA wdA n0 bS LS xs) mX12_loadUp 2 0 0 sz τ Mk 8 [.ref s, .int (nI j), .int x, .int (psC ρ (nI j) x k).2.1, .int (nI (psC ρ (nI j) x k).2.2), .int (nI k)] [] (MUq none sz τ (fun M' => SL τ M0 M' s a b c (ldC c ρ j x) m (ldM c ρ μ j x) (κ))) (fun _ _ _ _ => False) := by
  intro n
  induction n with
  | zero => intros; omega
  | succ n ih =>
    intro k Mk hk hS hW hn
    obtain ⟨l3, l4, l5, l6, l7, l8⟩ := hW.ok
    have h5 := psC_5 (ρ := ρ) (x := nI j) (m := x) (k := k)
    refine T_iload5 dX12_loadUp_8 rfl ?_
    refine T_aload0 dX12_loadUp_10 rfl ?_
    refine g12_3 _ rfl (hS.t_s) (hS.g_m) dX12_loadUp_11 rfl ?_
    refine g12_75 _ rfl (hW.t_m) (hW.g_pl) dX12_loadUp_14 rfl ?_
    refine g12_84 _ rfl (hW.t_q) (hW.g_logs) dX12_loadUp_17 rfl ?_
    refine T_icmp_ge 94 23 dX12_loadUp_20 (by decide) rfl (fun c9 => ?_) (fun c9 => ?_)
    ·
      have c9 := le_out rfl c9
      refine T_iload4 dX12_loadUp_94 rfl ?_
      refine T_if_ne 100 99 dX12_loadUp_96 (by decide) rfl (fun c88 => ?_) (fun c88 => ?_)
      ·
        refine T_aload0 dX12_loadUp_100 rfl ?_
        refine g12_19 _ rfl (hS.t_s) (hS.g_a2) dX12_loadUp_101 rfl ?_
        refine T_iload1 dX12_loadUp_104 rfl ?_
        refine T_iconst (0) dX12_loadUp_105 rfl rfl ?_
        refine T_iast _ (hS.t_a2) rfl (by omega) (by decide) dX12_loadUp_106 rfl ?_
        refine T_nm (fun M1 e1 => ?_)
        have hS := SL.mv (hS.p_wher (by omega)) e1
        have hW := hW.frU e1 (by omega)
        refine T_aload0 dX12_loadUp_107 rfl ?_
        refine g12_22 _ rfl (hS.t_s) (hS.g_a3) dX12_loadUp_108 rfl ?_
        refine T_iload1 dX12_loadUp_111 rfl ?_
        refine T_iconst (1) dX12_loadUp_112 rfl rfl ?_
        refine T_iast _ (hS.t_a3) rfl (by omega) (by decide) dX12_loadUp_113 rfl ?_
        refine T_nm (fun M2 e2 => ?_)
        have hS := SL.mv (hS.p_down (by omega)) e2
        have hW := hW.frU e2 (by omega)
        refine T_aload0 dX12_loadUp_114 rfl ?_
        refine g12_25 _ rfl (hS.t_s) (hS.g_a4) dX12_loadUp_115 rfl ?_
        refine T_iload1 dX12_loadUp_118 rfl ?_
        refine T_iconst (0) dX12_loadUp_119 rfl rfl ?_
        refine T_iast _ (hS.t_a4) rfl (by omega) (by decide) dX12_loadUp_120 rfl ?_
        refine T_nm (fun M3 e3 => ?_)
        have hS := SL.mv (hS.p_gone (by omega)) e3
        have hW := hW.frU e3 (by omega)
        refine T_aload0 dX12_loadUp_121 rfl ?_
        refine g12_40 _ rfl (hS.t_s) (hS.g_a9) dX12_loadUp_122 rfl ?_
        refine T_iload1 dX12_loadUp_125 rfl ?_
        refine T_iconst (1) dX12_loadUp_126 rfl rfl ?_
        refine T_iast _ (hS.t_a9) rfl (by omega) (by decide) dX12_loadUp_127 rfl ?_
        refine T_nm (fun M4 e4 => ?_)
        have hS := SL.mv (hS.p_move (by omega)) e4
        have hW := hW.frU e4 (by omega)
        refine T_vret rfl dX12_loadUp_128 ?_
        have e9 : psC ρ (nI j) x c = psC ρ (nI j) x k := by first | exact psC_full c20 hk | exact congrArg (psC ρ (nI j) x) (show c = k by omega)
        first
          | (have e0 : (psC ρ (nI j) x k).2.2 = 0 := (nI_eq (by omega) (by omega)).mp c88
             exact ⟨rfl, rfl, rfl, by unfold ldC ldM; rw [e9, if_pos e0, if_pos e0]; exact hS⟩)
          | (have e0 : ¬ (psC ρ (nI j) x k).2.2 = 0 := fun q => c88 (by rw [q]; rfl)
             exact ⟨rfl, rfl, rfl, by unfold ldC ldM; rw [e9, if_neg e0, if_neg e0]; exact hS⟩)
      ·
        refine T_vret rfl dX12_loadUp_99 ?_
        have e9 : psC ρ (nI j) x c = psC ρ (nI j) x k := by first | exact psC_full c20 hk | exact congrArg (psC ρ (nI j) x) (show c = k by omega)
        first
          | (have e0 : (psC ρ (nI j) x k).2.2 = 0 := (nI_eq (by omega) (by omega)).mp c88
             exact ⟨rfl, rfl, rfl, by unfold ldC ldM; rw [e9, if_pos e0, if_pos e0]; exact hS⟩)
          | (have e0 : ¬ (psC ρ (nI j) x k).2.2 = 0 := fun q => c88 (by rw [q]; rfl)
             exact ⟨rfl, rfl, rfl, by unfold ldC ldM; rw [e9, if_neg e0, if_neg e0]; exact hS⟩)
    ·
      have c9 := lt_in rfl c9
      refine T_iload4 dX12_loadUp_23 rfl ?_
      refine T_iconst (5) dX12_loadUp_25 rfl rfl ?_
      refine T_icmp_ge 94 29 dX12_loadUp_26 (by decide) rfl (fun c20 => ?_) (fun c20 => ?_)
      ·
        have c20 := le_out (c := 5) rfl c20
        refine T_iload4 dX12_loadUp_94 rfl ?_
        refine T_if_ne 100 99 dX12_loadUp_96 (by decide) rfl (fun c88 => ?_) (fun c88 => ?_)
        ·
          refine T_aload0 dX12_loadUp_100 rfl ?_
          refine g12_19 _ rfl (hS.t_s) (hS.g_a2) dX12_loadUp_101 rfl ?_
          refine T_iload1 dX12_loadUp_104 rfl ?_
          refine T_iconst (0) dX12_loadUp_105 rfl rfl ?_
          refine T_iast _ (hS.t_a2) rfl (by omega) (by decide) dX12_loadUp_106 rfl ?_
          refine T_nm (fun M5 e5 => ?_)
          have hS := SL.mv (hS.p_wher (by omega)) e5
          have hW := hW.frU e5 (by omega)
          refine T_aload0 dX12_loadUp_107 rfl ?_
          refine g12_22 _ rfl (hS.t_s) (hS.g_a3) dX12_loadUp_108 rfl ?_
          refine T_iload1 dX12_loadUp_111 rfl ?_
          refine T_iconst (1) dX12_loadUp_112 rfl rfl ?_
          refine T_iast _ (hS.t_a3) rfl (by omega) (by decide) dX12_loadUp_113 rfl ?_
          refine T_nm (fun M6 e6 => ?_)
          have hS := SL.mv (hS.p_down (by omega)) e6
          have hW := hW.frU e6 (by omega)
          refine T_aload0 dX12_loadUp_114 rfl ?_
          refine g12_25 _ rfl (hS.t_s) (hS.g_a4) dX12_loadUp_115 rfl ?_
          refine T_iload1 dX12_loadUp_118 rfl ?_
          refine T_iconst (0) dX12_loadUp_119 rfl rfl ?_
          refine T_iast _ (hS.t_a4) rfl (by omega) (by decide) dX12_loadUp_120 rfl ?_
          refine T_nm (fun M7 e7 => ?_)
          have hS := SL.mv (hS.p_gone (by omega)) e7
          have hW := hW.frU e7 (by omega)
          refine T_aload0 dX12_loadUp_121 rfl ?_
          refine g12_40 _ rfl (hS.t_s) (hS.g_a9) dX12_loadUp_122 rfl ?_
          refine T_iload1 dX12_loadUp_125 rfl ?_
          refine T_iconst (1) dX12_loadUp_126 rfl rfl ?_
          refine T_iast _ (hS.t_a9) rfl (by omega) (by decide) dX12_loadUp_127 rfl ?_
          refine T_nm (fun M8 e8 => ?_)
          have hS := SL.mv (hS.p_move (by omega)) e8
          have hW := hW.frU e8 (by omega)
          refine T_vret rfl dX12_loadUp_128 ?_
          have e9 : psC ρ (nI j) x c = psC ρ (nI j) x k := by first | exact psC_full c20 hk | exact congrArg (psC ρ (nI j) x) (show c = k by omega)
          first
            | (have e0 : (psC ρ (nI j) x k).2.2 = 0 := (nI_eq (by omega) (by omega)).mp c88
               exact ⟨rfl, rfl, rfl, by unfold ldC ldM; rw [e9, if_pos e0, if_pos e0]; exact hS⟩)
            | (have e0 : ¬ (psC ρ (nI j) x k).2.2 = 0 := fun q => c88 (by rw [q]; rfl)
               exact ⟨rfl, rfl, rfl, by unfold ldC ldM; rw [e9, if_neg e0, if_neg e0]; exact hS⟩)
        ·
          refine T_vret rfl dX12_loadUp_99 ?_
          have e9 : psC ρ (nI j) x c = psC ρ (nI j) x k := by first | exact psC_full c20 hk | exact congrArg (psC ρ (nI j) x) (show c = k by omega)
          first
            | (have e0 : (psC ρ (nI j) x k).2.2 = 0 := (nI_eq (by omega) (by omega)).mp c88
               exact ⟨rfl, rfl, rfl, by unfold ldC ldM; rw [e9, if_pos e0, if_pos e0]; exact hS⟩)
            | (have e0 : ¬ (psC ρ (nI j) x k).2.2 = 0 := fun q => c88 (by rw [q]; rfl)
               exact ⟨rfl, rfl, rfl, by unfold ldC ldM; rw [e9, if_neg e0, if_neg e0]; exact hS⟩)
      ·
        have c20 := lt_in (c := 5) rfl c20
        refine T_aload0 dX12_loadUp_29 rfl ?_
        refine g12_43 _ rfl (hS.t_s) (hS.g_a10) dX12_loadUp_30 rfl ?_
        refine T_iload5 dX12_loadUp_33 rfl ?_
        refine T_iald _ (hS.t_a10) rfl (by omega) (by decide) dX12_loadUp_35 rfl (hS.g_lies (by omega)) ?_
        refine T_if_ne 88 39 dX12_loadUp_36 (by decide) rfl (fun c33 => ?_) (fun c33 => ?_)
        ·
          rw [psC_at (Nat.le_refl _)] at c33
          first | refine T_iinc5 rfl (by decide) dX12_loadUp_88 rfl (inc1 _) ?_ | refine T_iinc5 rfl (by decide) dX12_loadUp_88 rfl rfl ?_
          refine T_goto 8 dX12_loadUp_91 (by decide) ?_
          first
            | (have e := psC_y c20 c33 c49
               have h := ih (k + 1) _ (by omega) (by rw [e]; exact hS) hW (by omega)
               rw [e] at h
               exact h)
            | (have e : psC ρ (nI j) x (k + 1) = psC ρ (nI j) x k := psC_n (fun q => by first | exact c33 q.2.1 | exact c49 q.2.2)
               have h := ih (k + 1) _ (by omega) (by rw [e]; exact hS) hW (by omega)
               rw [e] at h
               exact h)
        ·
          rw [psC_at (Nat.le_refl _)] at c33
          refine T_iload3 dX12_loadUp_39 rfl ?_
          refine T_aload0 dX12_loadUp_40 rfl ?_
          refine g12_3 _ rfl (hS.t_s) (hS.g_m) dX12_loadUp_41 rfl ?_
          refine g12_75 _ rfl (hW.t_m) (hW.g_pl) dX12_loadUp_44 rfl ?_
          refine g12_87 _ rfl (hW.t_q) (hW.g_weight) dX12_loadUp_47 rfl ?_
          refine T_iload5 dX12_loadUp_50 rfl ?_
          refine T_iald _ (hW.t_weight) rfl (by omega) (by decide) dX12_loadUp_52 rfl (hW.v_weight (by omega)) ?_
          refine T_iadd dX12_loadUp_53 rfl ?_
          refine T_iload2 dX12_loadUp_54 rfl ?_
          refine T_icmp_le 61 58 dX12_loadUp_55 (by decide) rfl (fun c49 => ?_) (fun c49 => ?_)
          ·
            refine T_aload0 dX12_loadUp_61 rfl ?_
            refine T_iload5 dX12_loadUp_62 rfl ?_
            refine T_iconst (1) dX12_loadUp_64 rfl rfl ?_
            refine T_iload1 dX12_loadUp_65 rfl ?_
            refine T_cV3 (c_X12_put hX hS.rf (hW.ks (KS.rf ρ).ps) (by omega) _ _) hX k12_128 (Or.inl ⟨_, _, _, _, (hS.t_s), by decide, rfl⟩) (by decide) (Nat.le_of_ble_eq_true rfl) dX12_loadUp_66 rfl ?_
            rintro _ _ _ M1 ⟨rfl, rfl, rfl, hN⟩
            have hW := hW.nx hN.frame
            have hS := hN.bs hS.frame
            refine T_iload3 dX12_loadUp_69 rfl ?_
            refine T_aload0 dX12_loadUp_70 rfl ?_
            refine g12_3 _ rfl (hS.t_s) (hS.g_m) dX12_loadUp_71 rfl ?_
            refine g12_75 _ rfl (hW.t_m) (hW.g_pl) dX12_loadUp_74 rfl ?_
            refine g12_87 _ rfl (hW.t_q) (hW.g_weight) dX12_loadUp_77 rfl ?_
            refine T_iload5 dX12_loadUp_80 rfl ?_
            refine T_iald _ (hW.t_weight) rfl (by omega) (by decide) dX12_loadUp_82 rfl (hW.v_weight (by omega)) ?_
            refine T_iadd dX12_loadUp_83 rfl ?_
            refine T_istore3 rfl (by decide) dX12_loadUp_84 rfl ?_
            first | refine T_iinc4 rfl (by decide) dX12_loadUp_85 rfl (inc1 _) ?_ | refine T_iinc4 rfl (by decide) dX12_loadUp_85 rfl rfl ?_
            first | refine T_iinc5 rfl (by decide) dX12_loadUp_88 rfl (inc1 _) ?_ | refine T_iinc5 rfl (by decide) dX12_loadUp_88 rfl rfl ?_
            refine T_goto 8 dX12_loadUp_91 (by decide) ?_
            first
              | (have e := psC_y c20 c33 c49
                 have h := ih (k + 1) _ (by omega) (by rw [e]; exact hS) hW (by omega)
                 rw [e] at h
                 exact h)
              | (have e : psC ρ (nI j) x (k + 1) = psC ρ (nI j) x k := psC_n (fun q => by first | exact c33 q.2.1 | exact c49 q.2.2)
                 have h := ih (k + 1) _ (by omega) (by rw [e]; exact hS) hW (by omega)
                 rw [e] at h
                 exact h)
          ·
            refine T_goto 88 dX12_loadUp_58 (by decide) ?_
            first | refine T_iinc5 rfl (by decide) dX12_loadUp_88 rfl (inc1 _) ?_ | refine T_iinc5 rfl (by decide) dX12_loadUp_88 rfl rfl ?_
            refine T_goto 8 dX12_loadUp_91 (by decide) ?_
            first
              | (have e := psC_y c20 c33 c49
                 have h := ih (k + 1) _ (by omega) (by rw [e]; exact hS) hW (by omega)
                 rw [e] at h
                 exact h)
              | (have e : psC ρ (nI j) x (k + 1) = psC ρ (nI j) x k := psC_n (fun q => by first | exact c33 q.2.1 | exact c49 q.2.2)
                 have h := ih (k + 1) _ (by omega) (by rw [e]; exact hS) hW (by omega)
                 rw [e] at h
                 exact h)
set_option maxHeartbeats 1000000 in
theorem c_X12_loadUp {l : Launch} {D : va_G} {cA : Nat → ClassId} {n0 : Nat} {sg adK adV : Nat → Nat} {sgA smA wdA bS LS : Nat} {xs : Nat → Int32} (hX : SF n0 (XW0 sg adK adV sgA smA wdA n0 bS LS xs)) {sz : Nat} {τ : TY} {M0 M : ME} {m y s a b c hc wc sn : Nat} {ρ π : RH} {σ : Nat → Nat} {μ κ : Nat → Int32} (hS : SL τ M0 M s a b c ρ m μ κ) (hW : WN τ M m y s a b c hc wc sn ρ π σ) {j : Nat} (hj : j < b) (x : Int32) : CT l D cA n0 (XW0 sg adK adV sgA smA wdA n0 bS LS xs) mX12_loadUp 2 0 0 sz τ M [.ref s, .int (nI j), .int x] (MUq none sz τ (fun M' => SL τ M0 M' s a b c (ldC c ρ j x) m (ldM c ρ μ j x) (κ))) := by
  refine CT.of (ls := [.ref s, .int (nI j), .int x, UU, UU, UU]) (by decide) (Nat.le_of_ble_eq_true rfl) rfl ?_
  refine T_iconst (0) dX12_loadUp_0 rfl rfl ?_
  refine T_istore3 rfl (by decide) dX12_loadUp_1 rfl ?_
  refine T_iconst (0) dX12_loadUp_2 rfl rfl ?_
  refine T_istore4 rfl (by decide) dX12_loadUp_3 rfl ?_
  refine T_iconst (0) dX12_loadUp_5 rfl rfl ?_
  refine T_istore5 rfl (by decide) dX12_loadUp_6 rfl ?_
  exact L_X12_loadUp hX hj x (c + 1) 0 M (Nat.zero_le _) hS hW (by omega)
theorem psI_n {σ : Nat → Nat} {x : Int32} {n : Nat} (h : x = nI n) (hn : n ≤ 400) : psI σ x = nI (psF σ n) := by
  unfold psI; rw [h, nI_cl (by omega)]
/-- a plan that the model can carry out -/
def PmOK (a b c hc wc sn : Nat) (σ : Nat → Nat) (π : RH) : Prop := (∀ i, i < hc → ∃ f m t, π 52 i = nI f ∧ π 53 i = nI m ∧ π 54 i = nI t ∧ m ≤ t ∧ t ≤ sn ∧ SgOK a b σ (π 70) f m ∧ (m < t → SgOK a b σ (π 70) m t)) ∧ (∀ i, i < wc → ∃ f t, π 57 i = nI f ∧ π 59 i = nI t ∧ t ≤ sn ∧ SgOK a b σ (π 70) f t ∧ ∀ ρ, b01 (vxF c ρ σ (π 70) (π 57 i) (π 59 i)))
theorem nps_lt {σ : Nat → Nat} {m t : Nat} (h : nI (psF σ t) ≤ nI (psF σ m)) (h2 : m ≤ t) (ht : t ≤ 400) : m = t := by
  have := ps_out h ht (by omega); omega
set_option maxHeartbeats 1000000 in
theorem L_X12_haul {l : Launch} {D : va_G} {cA : Nat → ClassId} {n0 : Nat} {sg adK adV : Nat → Nat} {sgA smA wdA bS LS : Nat} {xs : Nat → Int32} (hX : SF n0 (XW0 sg adK adV sgA smA wdA n0 bS LS xs)) {sz : Nat} {τ : TY} {M0 : ME} {m y s a b c hc wc sn : Nat} {ρ π : RH} {σ : Nat → Nat} {μ : Nat → Int32} (ho : PmOK a b c hc wc sn σ π) {j : Nat} (hj : j < b) (hi : RI a b c ρ) : ∀ (n : Nat) (k : Nat) (κ : Nat → Int32) (Mk : ME) (hk : k ≤ hc) (hS : SL τ M0 Mk s a b c ρ m μ κ) (hW : WN τ Mk m y s a b c hc wc sn ρ π σ), hc - k < n → T l D cA n0 (XW0 sg adK adV sgA smA wdA n0 bS LS xs) mX12_haul 6 0 0 sz τ Mk 2 [.ref s, .int (nI j), .int (nI k)] [] (fun v' sz' τ' M' => v' = none ∧ sz' = sz ∧ τ' = τ ∧ ∃ κ', SL τ M0 M' s a b c (ldC c ρ j (mwG c ρ σ π (nI j) k (hc - k))) m (ldM c ρ μ j (mwG c ρ σ π (nI j) k (hc - k))) κ') (fun _ _ _ _ => False) := by
  intro n
  induction n with
  | zero => intros; omega
  | succ n ih =>
    intro k κ Mk hk hS hW hn
    obtain ⟨l3, l4, l5, l6, l7, l8⟩ := hW.ok
    refine T_iload2 dX12_haul_2 rfl ?_
    refine T_aload0 dX12_haul_3 rfl ?_
    refine g12_3 _ rfl (hS.t_s) (hS.g_m) dX12_haul_4 rfl ?_
    refine g12_75 _ rfl (hW.t_m) (hW.g_pl) dX12_haul_7 rfl ?_
    refine g12_106 _ rfl (hW.t_q) (hW.g_hauls) dX12_haul_10 rfl ?_
    refine T_icmp_ge 133 16 dX12_haul_13 (by decide) rfl (fun c7 => ?_) (fun c7 => ?_)
    ·
      have c7 := le_out rfl c7
      refine T_vret rfl dX12_haul_133 ?_
      rw [mwG_0 c7]
      have e := ps_0 (x := nI j) hi c (Nat.le_refl _)
      refine ⟨rfl, rfl, rfl, κ, ?_⟩
      unfold ldC ldM
      rw [e, if_pos rfl, if_pos rfl]
      exact hS
    ·
      have c7 := lt_in rfl c7
      obtain ⟨f, t1, t, f1, f2, f3, f4, f5, f6, f7⟩ := ho.1 k c7
      refine T_aload0 dX12_haul_16 rfl ?_
      refine g12_3 _ rfl (hS.t_s) (hS.g_m) dX12_haul_17 rfl ?_
      refine g12_75 _ rfl (hW.t_m) (hW.g_pl) dX12_haul_20 rfl ?_
      refine g12_109 _ rfl (hW.t_q) (hW.g_hauler) dX12_haul_23 rfl ?_
      refine T_iload2 dX12_haul_26 rfl ?_
      refine T_iald _ (hW.t_hauler) rfl (by omega) (by decide) dX12_haul_27 rfl (hW.v_hauler (by omega)) ?_
      refine T_iload1 dX12_haul_28 rfl ?_
      refine T_icmp_ne 127 32 dX12_haul_29 (by decide) rfl (fun c24 => ?_) (fun c24 => ?_)
      ·
        first | refine T_iinc2 rfl (by decide) dX12_haul_127 rfl (inc1 _) ?_ | refine T_iinc2 rfl (by decide) dX12_haul_127 rfl rfl ?_
        refine T_goto 2 dX12_haul_130 (by decide) ?_
        rw [mwG_n c7 (fun q => by first | exact c24 q.1 | exact q.2.elim (fun y2 => absurd ((nI_eq (by omega) (by omega)).mp (f2.symm.trans (y2.trans f3))) (by omega)) (fun y2 => y2 c55))]
        exact ih (k + 1) _ _ (by omega) hS hW (by omega)
      ·
        refine T_aload0 dX12_haul_32 rfl ?_
        refine g12_3 _ rfl (hS.t_s) (hS.g_m) dX12_haul_33 rfl ?_
        refine g12_75 _ rfl (hW.t_m) (hW.g_pl) dX12_haul_36 rfl ?_
        refine g12_112 _ rfl (hW.t_q) (hW.g_haulTested) dX12_haul_39 rfl ?_
        refine T_iload2 dX12_haul_42 rfl ?_
        refine T_iald _ (hW.t_haulTested) rfl (by omega) (by decide) dX12_haul_43 rfl (hW.v_haulTested (by omega)) ?_
        refine T_aload0 dX12_haul_44 rfl ?_
        refine g12_3 _ rfl (hS.t_s) (hS.g_m) dX12_haul_45 rfl ?_
        refine g12_75 _ rfl (hW.t_m) (hW.g_pl) dX12_haul_48 rfl ?_
        refine g12_115 _ rfl (hW.t_q) (hW.g_sumEnd) dX12_haul_51 rfl ?_
        refine T_iload2 dX12_haul_54 rfl ?_
        refine T_iald _ (hW.t_sumEnd) rfl (by omega) (by decide) dX12_haul_55 rfl (hW.v_sumEnd (by omega)) ?_
        rw [psI_n f3 (by omega), psI_n f2 (by omega)]
        refine T_icmp_le 93 59 dX12_haul_56 (by decide) rfl (fun c37 => ?_) (fun c37 => ?_)
        ·
          have c37 : π 53 k = π 54 k := by rw [f2, f3]; exact congrArg nI (nps_lt c37 f4 (by omega))
          refine T_aload0 dX12_haul_93 rfl ?_
          refine T_iload1 dX12_haul_94 rfl ?_
          refine T_aload0 dX12_haul_95 rfl ?_
          refine T_aload0 dX12_haul_96 rfl ?_
          refine g12_3 _ rfl (hS.t_s) (hS.g_m) dX12_haul_97 rfl ?_
          refine g12_75 _ rfl (hW.t_m) (hW.g_pl) dX12_haul_100 rfl ?_
          refine g12_121 _ rfl (hW.t_q) (hW.g_sum) dX12_haul_103 rfl ?_
          refine T_iload2 dX12_haul_106 rfl ?_
          refine T_iald _ (hW.t_sum) rfl (by omega) (by decide) dX12_haul_107 rfl (hW.v_sum (by omega)) ?_
          refine T_aload0 dX12_haul_108 rfl ?_
          refine g12_3 _ rfl (hS.t_s) (hS.g_m) dX12_haul_109 rfl ?_
          refine g12_75 _ rfl (hW.t_m) (hW.g_pl) dX12_haul_112 rfl ?_
          refine g12_115 _ rfl (hW.t_q) (hW.g_sumEnd) dX12_haul_115 rfl ?_
          refine T_iload2 dX12_haul_118 rfl ?_
          refine T_iald _ (hW.t_sumEnd) rfl (by omega) (by decide) dX12_haul_119 rfl (hW.v_sumEnd (by omega)) ?_
          have f66 := f6.1
          rw [psI_n f1 (by omega), psI_n f2 (by omega)]
          refine T_cV2 (c_X12_carryOut hX f6 (by omega) hS.rf hW) hX k12_118 (Or.inl ⟨_, _, _, _, (hS.t_s), by decide, rfl⟩) (by decide) (Nat.le_of_ble_eq_true rfl) dX12_haul_120 rfl ?_
          rintro _ _ _ M1 ⟨rfl, rfl, rfl, κ1, hN⟩
          have hW := hW.nx hN.frame
          have hS := hN.bs hS.frame
          refine T_cV2 (c_X12_loadUp hX hS.rf hW hj _) hX k12_124 (Or.inl ⟨_, _, _, _, (hS.t_s), by decide, rfl⟩) (by decide) (Nat.le_of_ble_eq_true rfl) dX12_haul_123 rfl ?_
          rintro _ _ _ M1 ⟨rfl, rfl, rfl, hN⟩
          have hW := hW.nx hN.frame
          have hS := hN.bs hS.frame
          refine T_vret rfl dX12_haul_126 ?_
          rw [mwG_y c7 c24 (by first | exact Or.inl c37 | exact Or.inr c55)]
          rw [ev_vx f6 f1 f2] at hS
          exact ⟨rfl, rfl, rfl, _, hS⟩
        ·
          have f8 : t1 < t := Nat.lt_of_le_of_ne f4 (fun q => c37 (by rw [q]; exact Int32.le_refl _))
          refine T_aload0 dX12_haul_59 rfl ?_
          refine T_aload0 dX12_haul_60 rfl ?_
          refine g12_3 _ rfl (hS.t_s) (hS.g_m) dX12_haul_61 rfl ?_
          refine g12_75 _ rfl (hW.t_m) (hW.g_pl) dX12_haul_64 rfl ?_
          refine g12_115 _ rfl (hW.t_q) (hW.g_sumEnd) dX12_haul_67 rfl ?_
          refine T_iload2 dX12_haul_70 rfl ?_
          refine T_iald _ (hW.t_sumEnd) rfl (by omega) (by decide) dX12_haul_71 rfl (hW.v_sumEnd (by omega)) ?_
          refine T_aload0 dX12_haul_72 rfl ?_
          refine g12_3 _ rfl (hS.t_s) (hS.g_m) dX12_haul_73 rfl ?_
          refine g12_75 _ rfl (hW.t_m) (hW.g_pl) dX12_haul_76 rfl ?_
          refine g12_112 _ rfl (hW.t_q) (hW.g_haulTested) dX12_haul_79 rfl ?_
          refine T_iload2 dX12_haul_82 rfl ?_
          refine T_iald _ (hW.t_haulTested) rfl (by omega) (by decide) dX12_haul_83 rfl (hW.v_haulTested (by omega)) ?_
          rw [psI_n f3 (by omega), psI_n f2 (by omega)]
          refine T_cV2 (c_X12_carryOut hX (f7 f8) f5 hS.rf hW) hX k12_118 (Or.inl ⟨_, _, _, _, (hS.t_s), by decide, rfl⟩) (by decide) (Nat.le_of_ble_eq_true rfl) dX12_haul_84 rfl ?_
          rintro _ _ _ M1 ⟨rfl, rfl, rfl, κ1, hN⟩
          have hW := hW.nx hN.frame
          have hS := hN.bs hS.frame
          refine T_if_ne 93 90 dX12_haul_87 (by decide) rfl (fun c55 => ?_) (fun c55 => ?_)
          ·
            rw [ev_vx (f7 f8) f2 f3] at c55
            refine T_aload0 dX12_haul_93 rfl ?_
            refine T_iload1 dX12_haul_94 rfl ?_
            refine T_aload0 dX12_haul_95 rfl ?_
            refine T_aload0 dX12_haul_96 rfl ?_
            refine g12_3 _ rfl (hS.t_s) (hS.g_m) dX12_haul_97 rfl ?_
            refine g12_75 _ rfl (hW.t_m) (hW.g_pl) dX12_haul_100 rfl ?_
            refine g12_121 _ rfl (hW.t_q) (hW.g_sum) dX12_haul_103 rfl ?_
            refine T_iload2 dX12_haul_106 rfl ?_
            refine T_iald _ (hW.t_sum) rfl (by omega) (by decide) dX12_haul_107 rfl (hW.v_sum (by omega)) ?_
            refine T_aload0 dX12_haul_108 rfl ?_
            refine g12_3 _ rfl (hS.t_s) (hS.g_m) dX12_haul_109 rfl ?_
            refine g12_75 _ rfl (hW.t_m) (hW.g_pl) dX12_haul_112 rfl ?_
            refine g12_115 _ rfl (hW.t_q) (hW.g_sumEnd) dX12_haul_115 rfl ?_
            refine T_iload2 dX12_haul_118 rfl ?_
            refine T_iald _ (hW.t_sumEnd) rfl (by omega) (by decide) dX12_haul_119 rfl (hW.v_sumEnd (by omega)) ?_
            have f66 := f6.1
            rw [psI_n f1 (by omega), psI_n f2 (by omega)]
            refine T_cV2 (c_X12_carryOut hX f6 (by omega) hS.rf hW) hX k12_118 (Or.inl ⟨_, _, _, _, (hS.t_s), by decide, rfl⟩) (by decide) (Nat.le_of_ble_eq_true rfl) dX12_haul_120 rfl ?_
            rintro _ _ _ M1 ⟨rfl, rfl, rfl, κ1, hN⟩
            have hW := hW.nx hN.frame
            have hS := hN.bs hS.frame
            refine T_cV2 (c_X12_loadUp hX hS.rf hW hj _) hX k12_124 (Or.inl ⟨_, _, _, _, (hS.t_s), by decide, rfl⟩) (by decide) (Nat.le_of_ble_eq_true rfl) dX12_haul_123 rfl ?_
            rintro _ _ _ M1 ⟨rfl, rfl, rfl, hN⟩
            have hW := hW.nx hN.frame
            have hS := hN.bs hS.frame
            refine T_vret rfl dX12_haul_126 ?_
            rw [mwG_y c7 c24 (by first | exact Or.inl c37 | exact Or.inr c55)]
            rw [ev_vx f6 f1 f2] at hS
            exact ⟨rfl, rfl, rfl, _, hS⟩
          ·
            rw [ev_vx (f7 f8) f2 f3] at c55
            refine T_goto 127 dX12_haul_90 (by decide) ?_
            first | refine T_iinc2 rfl (by decide) dX12_haul_127 rfl (inc1 _) ?_ | refine T_iinc2 rfl (by decide) dX12_haul_127 rfl rfl ?_
            refine T_goto 2 dX12_haul_130 (by decide) ?_
            rw [mwG_n c7 (fun q => by first | exact c24 q.1 | exact q.2.elim (fun y2 => absurd ((nI_eq (by omega) (by omega)).mp (f2.symm.trans (y2.trans f3))) (by omega)) (fun y2 => y2 c55))]
            exact ih (k + 1) _ _ (by omega) hS hW (by omega)
set_option maxHeartbeats 1000000 in
theorem c_X12_haul {l : Launch} {D : va_G} {cA : Nat → ClassId} {n0 : Nat} {sg adK adV : Nat → Nat} {sgA smA wdA bS LS : Nat} {xs : Nat → Int32} (hX : SF n0 (XW0 sg adK adV sgA smA wdA n0 bS LS xs)) {sz : Nat} {τ : TY} {M0 M : ME} {m y s a b c hc wc sn : Nat} {ρ π : RH} {σ : Nat → Nat} {μ κ : Nat → Int32} (ho : PmOK a b c hc wc sn σ π) {j : Nat} (hj : j < b) (hi : RI a b c ρ) (hS : SL τ M0 M s a b c ρ m μ κ) (hW : WN τ M m y s a b c hc wc sn ρ π σ) : CT l D cA n0 (XW0 sg adK adV sgA smA wdA n0 bS LS xs) mX12_haul 6 0 0 sz τ M [.ref s, .int (nI j)] (fun v' sz' τ' M' => v' = none ∧ sz' = sz ∧ τ' = τ ∧ ∃ κ', SL τ M0 M' s a b c (ldC c ρ j (mwG c ρ σ π (nI j) 0 hc)) m (ldM c ρ μ j (mwG c ρ σ π (nI j) 0 hc)) κ') := by
  refine CT.of (ls := [.ref s, .int (nI j), UU]) (by decide) (Nat.le_of_ble_eq_true rfl) rfl ?_
  refine T_iconst (0) dX12_haul_0 rfl rfl ?_
  refine T_istore2 rfl (by decide) dX12_haul_1 rfl ?_
  exact L_X12_haul hX ho hj hi (hc + 1) 0 κ M (Nat.zero_le _) hS hW (by omega)
set_option maxHeartbeats 1000000 in
theorem L_X12_waits {l : Launch} {D : va_G} {cA : Nat → ClassId} {n0 : Nat} {sg adK adV : Nat → Nat} {sgA smA wdA bS LS : Nat} {xs : Nat → Int32} (hX : SF n0 (XW0 sg adK adV sgA smA wdA n0 bS LS xs)) {sz : Nat} {τ : TY} {M0 : ME} {m y s a b c hc wc sn : Nat} {ρ π : RH} {σ : Nat → Nat} {μ : Nat → Int32} (ho : PmOK a b c hc wc sn σ π) {j : Nat} (hj : j < b) : ∀ (n : Nat) (k : Nat) (κ : Nat → Int32) (Mk : ME) (hk : k ≤ wc) (hS : SL τ M0 Mk s a b c ρ m μ κ) (hW : WN τ Mk m y s a b c hc wc sn ρ π σ), wc - k < n → T l D cA n0 (XW0 sg adK adV sgA smA wdA n0 bS LS xs) mX12_waits 5 0 0 sz τ Mk 2 [.ref s, .int (nI j), .int (nI k)] [] (fun v' sz' τ' M' => v' = some (.int (wtG c ρ σ π (nI j) (ρ 15 j) k (wc - k))) ∧ sz' = sz ∧ τ' = τ ∧ ∃ κ', SL τ M0 M' s a b c ρ m μ κ') (fun _ _ _ _ => False) := by
  intro n
  induction n with
  | zero => intros; omega
  | succ n ih =>
    intro k κ Mk hk hS hW hn
    obtain ⟨l3, l4, l5, l6, l7, l8⟩ := hW.ok
    refine T_iload2 dX12_waits_2 rfl ?_
    refine T_aload0 dX12_waits_3 rfl ?_
    refine g12_3 _ rfl (hS.t_s) (hS.g_m) dX12_waits_4 rfl ?_
    refine g12_75 _ rfl (hW.t_m) (hW.g_pl) dX12_waits_7 rfl ?_
    refine g12_132 _ rfl (hW.t_q) (hW.g_waits) dX12_waits_10 rfl ?_
    refine T_icmp_ge 93 16 dX12_waits_13 (by decide) rfl (fun c7 => ?_) (fun c7 => ?_)
    ·
      have c7 := le_out rfl c7
      refine T_iconst (0) dX12_waits_93 rfl rfl ?_
      refine T_iret rfl rfl dX12_waits_94 ?_
      refine ⟨congrArg (fun z => some (Value.int z)) ?_, rfl, rfl, _, hS⟩
      exact (wtG_0 c7).symm
    ·
      have c7 := lt_in rfl c7
      obtain ⟨f, t, f1, f3, f5, f7, f9⟩ := ho.2 k c7
      refine T_aload0 dX12_waits_16 rfl ?_
      refine g12_3 _ rfl (hS.t_s) (hS.g_m) dX12_waits_17 rfl ?_
      refine g12_75 _ rfl (hW.t_m) (hW.g_pl) dX12_waits_20 rfl ?_
      refine g12_135 _ rfl (hW.t_q) (hW.g_waiter) dX12_waits_23 rfl ?_
      refine T_iload2 dX12_waits_26 rfl ?_
      refine T_iald _ (hW.t_waiter) rfl (by omega) (by decide) dX12_waits_27 rfl (hW.v_waiter (by omega)) ?_
      refine T_iload1 dX12_waits_28 rfl ?_
      refine T_icmp_ne 87 32 dX12_waits_29 (by decide) rfl (fun c27 => ?_) (fun c27 => ?_)
      ·
        first | refine T_iinc2 rfl (by decide) dX12_waits_87 rfl (inc1 _) ?_ | refine T_iinc2 rfl (by decide) dX12_waits_87 rfl rfl ?_
        refine T_goto 2 dX12_waits_90 (by decide) ?_
        rw [wtG_n c7 (fun q => by first | exact c27 q.1 | exact c36 q.2.1 | exact q.2.2 c54)]
        exact ih (k + 1) _ _ (by omega) hS hW (by omega)
      ·
        refine T_aload0 dX12_waits_32 rfl ?_
        refine g12_3 _ rfl (hS.t_s) (hS.g_m) dX12_waits_33 rfl ?_
        refine g12_75 _ rfl (hW.t_m) (hW.g_pl) dX12_waits_36 rfl ?_
        refine g12_138 _ rfl (hW.t_q) (hW.g_place) dX12_waits_39 rfl ?_
        refine T_iload2 dX12_waits_42 rfl ?_
        refine T_iald _ (hW.t_place) rfl (by omega) (by decide) dX12_waits_43 rfl (hW.v_place (by omega)) ?_
        refine T_aload0 dX12_waits_44 rfl ?_
        refine g12_19 _ rfl (hS.t_s) (hS.g_a2) dX12_waits_45 rfl ?_
        refine T_iload1 dX12_waits_48 rfl ?_
        refine T_iald _ (hS.t_a2) rfl (by omega) (by decide) dX12_waits_49 rfl (hS.g_wher (by omega)) ?_
        refine T_icmp_ne 87 53 dX12_waits_50 (by decide) rfl (fun c36 => ?_) (fun c36 => ?_)
        ·
          first | refine T_iinc2 rfl (by decide) dX12_waits_87 rfl (inc1 _) ?_ | refine T_iinc2 rfl (by decide) dX12_waits_87 rfl rfl ?_
          refine T_goto 2 dX12_waits_90 (by decide) ?_
          rw [wtG_n c7 (fun q => by first | exact c27 q.1 | exact c36 q.2.1 | exact q.2.2 c54)]
          exact ih (k + 1) _ _ (by omega) hS hW (by omega)
        ·
          refine T_aload0 dX12_waits_53 rfl ?_
          refine T_aload0 dX12_waits_54 rfl ?_
          refine g12_3 _ rfl (hS.t_s) (hS.g_m) dX12_waits_55 rfl ?_
          refine g12_75 _ rfl (hW.t_m) (hW.g_pl) dX12_waits_58 rfl ?_
          refine g12_141 _ rfl (hW.t_q) (hW.g_test) dX12_waits_61 rfl ?_
          refine T_iload2 dX12_waits_64 rfl ?_
          refine T_iald _ (hW.t_test) rfl (by omega) (by decide) dX12_waits_65 rfl (hW.v_test (by omega)) ?_
          refine T_aload0 dX12_waits_66 rfl ?_
          refine g12_3 _ rfl (hS.t_s) (hS.g_m) dX12_waits_67 rfl ?_
          refine g12_75 _ rfl (hW.t_m) (hW.g_pl) dX12_waits_70 rfl ?_
          refine g12_144 _ rfl (hW.t_q) (hW.g_tested) dX12_waits_73 rfl ?_
          refine T_iload2 dX12_waits_76 rfl ?_
          refine T_iald _ (hW.t_tested) rfl (by omega) (by decide) dX12_waits_77 rfl (hW.v_tested (by omega)) ?_
          have f66 := f7.1
          rw [psI_n f1 (by omega), psI_n f3 (by omega)]
          refine T_cV2 (c_X12_carryOut hX f7 f5 hS.rf hW) hX k12_118 (Or.inl ⟨_, _, _, _, (hS.t_s), by decide, rfl⟩) (by decide) (Nat.le_of_ble_eq_true rfl) dX12_waits_78 rfl ?_
          rintro _ _ _ M1 ⟨rfl, rfl, rfl, κ1, hN⟩
          have hW := hW.nx hN.frame
          have hS := hN.bs hS.frame
          refine T_iconst (1) dX12_waits_81 rfl rfl ?_
          refine T_icmp_ne 87 85 dX12_waits_82 (by decide) rfl (fun c54 => ?_) (fun c54 => ?_)
          ·
            rw [ev_vx f7 f1 f3] at c54
            have c54 : vxF c ρ σ (π 70) (π 57 k) (π 59 k) = 0 := (f9 ρ).resolve_right c54
            first | refine T_iinc2 rfl (by decide) dX12_waits_87 rfl (inc1 _) ?_ | refine T_iinc2 rfl (by decide) dX12_waits_87 rfl rfl ?_
            refine T_goto 2 dX12_waits_90 (by decide) ?_
            rw [wtG_n c7 (fun q => by first | exact c27 q.1 | exact c36 q.2.1 | exact q.2.2 c54)]
            exact ih (k + 1) _ _ (by omega) hS hW (by omega)
          ·
            rw [ev_vx f7 f1 f3] at c54
            refine T_iconst (1) dX12_waits_85 rfl rfl ?_
            refine T_iret rfl rfl dX12_waits_86 ?_
            refine ⟨congrArg (fun z => some (Value.int z)) ?_, rfl, rfl, _, hS⟩
            exact (wtG_y c7 ⟨c27, c36, fun q => by rw [c54] at q; exact absurd q (by decide)⟩).symm
set_option maxHeartbeats 1000000 in
theorem c_X12_waits {l : Launch} {D : va_G} {cA : Nat → ClassId} {n0 : Nat} {sg adK adV : Nat → Nat} {sgA smA wdA bS LS : Nat} {xs : Nat → Int32} (hX : SF n0 (XW0 sg adK adV sgA smA wdA n0 bS LS xs)) {sz : Nat} {τ : TY} {M0 M : ME} {m y s a b c hc wc sn : Nat} {ρ π : RH} {σ : Nat → Nat} {μ κ : Nat → Int32} (ho : PmOK a b c hc wc sn σ π) {j : Nat} (hj : j < b) (hS : SL τ M0 M s a b c ρ m μ κ) (hW : WN τ M m y s a b c hc wc sn ρ π σ) : CT l D cA n0 (XW0 sg adK adV sgA smA wdA n0 bS LS xs) mX12_waits 5 0 0 sz τ M [.ref s, .int (nI j)] (fun v' sz' τ' M' => v' = some (.int (wtG c ρ σ π (nI j) (ρ 15 j) 0 wc)) ∧ sz' = sz ∧ τ' = τ ∧ ∃ κ', SL τ M0 M' s a b c ρ m μ κ') := by
  refine CT.of (ls := [.ref s, .int (nI j), UU]) (by decide) (Nat.le_of_ble_eq_true rfl) rfl ?_
  refine T_iconst (0) dX12_waits_0 rfl rfl ?_
  refine T_istore2 rfl (by decide) dX12_waits_1 rfl ?_
  exact L_X12_waits hX ho hj (wc + 1) 0 κ M (Nat.zero_le _) hS hW (by omega)
