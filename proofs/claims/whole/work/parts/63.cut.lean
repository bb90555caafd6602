def MkI (B : Nat → Nat) (ln : Nat) (ω : RH) (i : Nat) : Prop := gdT B ln i ∧ ω 80 i = nI (kdF (tkK B ln (tP B ln i))) ∧ ω 82 i = nI (tkE B ln (tP B ln i) - tP B ln i)
def MkJ (B : Nat → Nat) (ln : Nat) (ω : RH) (i : Nat) : Prop := ω 81 i = nI (tP B ln i) ∧ ω 83 i = 0 ∧ ω 84 i = 0
/-- the tokens as the model has them -/
def MTk (B : Nat → Nat) (ln lt : Nat) (ω : RH) : Prop := lt ≤ 400 ∧ (∀ i, i < lt → MkI B ln ω i) ∧ (∀ i, i ≤ lt → MkJ B ln ω i) ∧ (lt = 400 ∨ ¬ gdT B ln lt) ∧ ω 80 lt = if tP B ln lt < ln then 901 else 900
theorem kdF_lt : ∀ o, o < 48 → kdF o < 400 := by decide
theorem tkK_48 {B : Nat → Nat} {ln p : Nat} : tkK B ln p < 48 := by
  unfold tkK
  split
  · exact kwF_48
  · split
    · decide
    · exact se_48 _
theorem mkK_g {B : Nat → Nat} {ln k : Nat} (h : gdT B ln k) : mkK B ln (tP B ln k) = kdF (tkK B ln (tP B ln k)) ∧ mkK B ln (tP B ln k) < 400 := by
  have e : mkK B ln (tP B ln k) = kdF (tkK B ln (tP B ln k)) := by unfold mkK; rw [if_pos h.1, if_pos h.2]
  exact ⟨e, by rw [e]; exact kdF_lt _ tkK_48⟩
theorem mkK_n {B : Nat → Nat} {ln k : Nat} (h : ¬ gdT B ln k) : mkK B ln (tP B ln k) = if tP B ln k < ln then 901 else 900 := by
  unfold mkK
  by_cases q : tP B ln k < ln
  · rw [if_pos q, if_pos q, if_neg (fun z => h ⟨q, z⟩)]
  · rw [if_neg q, if_neg q]
theorem MkI.keep {B : Nat → Nat} {ln i : Nat} {ω ω' : RH} (h : MkI B ln ω i) (h1 : ω' 80 i = ω 80 i) (h2 : ω' 82 i = ω 82 i) : MkI B ln ω' i := ⟨h.1, by rw [h1]; exact h.2.1, by rw [h2]; exact h.2.2⟩
theorem MkJ.keep {B : Nat → Nat} {ln i : Nat} {ω ω' : RH} (h : MkJ B ln ω i) (h1 : ω' 81 i = ω 81 i) (h2 : ω' 83 i = ω 83 i) (h3 : ω' 84 i = ω 84 i) : MkJ B ln ω' i := ⟨by rw [h1]; exact h.1, by rw [h2]; exact h.2.1, by rw [h3]; exact h.2.2⟩
theorem bF_bl {B : Nat → Nat} {ln q : Nat} (h8 : ∀ i, B i < 256) : (bF B ln q = 32 ∨ bF B ln q = 10) ↔ (q < ln ∧ blB (B q) = true) := by
  by_cases h : q < ln
  · rw [bF_y h]
    have e : blB (B q) = true ↔ (B q = 32 ∨ B q = 10) := by unfold blB; simp
    rw [e]
    exact ⟨fun z => ⟨h, z.imp (fun y => (nI_is (h8 q) 32 (by omega)).mp y) (fun y => (nI_is (h8 q) 10 (by omega)).mp y)⟩, fun z => z.2.imp (fun y => (nI_is (h8 q) 32 (by omega)).mpr y) (fun y => (nI_is (h8 q) 10 (by omega)).mpr y)⟩
  · rw [bF_n h]; exact ⟨fun z => absurd z (by decide), fun z => absurd z.1 h⟩
theorem plF_le {B : Nat → Nat} {ln : Nat} : ∀ k, (∀ i, i < k → gdT B ln i) → plF B ln k ≤ ln
  | 0, _ => Nat.zero_le _
  | k + 1, h => tkE_le (h k (Nat.lt_succ_self _)).1
theorem tP_le {B : Nat → Nat} {ln k : Nat} (h : ∀ i, i < k → gdT B ln i) : tP B ln k ≤ ln := rn_le (plF_le k h)
def cW (ω : RH) (k : Nat) (t x v : Int32) : RH := u2 (u2 (u2 (u2 (u2 ω 81 k t) 83 k 0) 84 k 0) 82 k x) 80 k v
theorem cW_o {ω : RH} {k : Nat} {t x v : Int32} {f i : Nat} (h : i ≠ k ∨ 84 < f) : cW ω k t x v f i = ω f i := by
  unfold cW
  rcases h with h | h
  · rw [u2_i h, u2_i h, u2_i h, u2_i h, u2_i h]
  · rw [u2_f (by omega), u2_f (by omega), u2_f (by omega), u2_f (by omega), u2_f (by omega)]
theorem cW_n {ω : RH} {k : Nat} {t x v : Int32} : cW ω k t x v 80 k = v ∧ cW ω k t x v 81 k = t ∧ cW ω k t x v 82 k = x ∧ cW ω k t x v 83 k = 0 ∧ cW ω k t x v 84 k = 0 := by
  unfold cW; simp [u2]
theorem u2_u2 {ρ : RH} {f i : Nat} {x y : Int32} : u2 (u2 ρ f i x) f i y = u2 ρ f i y := by
  funext g j; simp only [u2]; split <;> rfl
theorem MV.mvW {τ : TY} {M0 M : ME} {m y z s1 s2 ln tk dp : Nat} {B : Nat → Nat} {ω ω' : RH} (h : MV τ M0 M m y z s1 s2 ln tk dp B ω) (e : ω = ω') : MV τ M0 M m y z s1 s2 ln tk dp B ω' := e ▸ h
section CUT
variable {B : Nat → Nat} {ln k : Nat} {ω ω0 : RH} {x v : Int32}
theorem mk_D (h : nI (mkK B ln (tP B ln k)) < 900) : gdT B ln k := Classical.byContradiction fun z => by
  rw [mkK_n z] at h
  split at h <;> exact absurd h (by decide)
theorem mk_A (h : ¬ nI (mkK B ln (tP B ln k)) < 900) : ¬ gdT B ln k ∧ nI (mkK B ln (tP B ln k)) = if tP B ln k < ln then 901 else 900 := by
  have hn : ¬ gdT B ln k := fun z => h (nI_lt (b := 900) (by have := (mkK_g z).2; omega) (by omega))
  exact ⟨hn, by rw [mkK_n hn]; split <;> rfl⟩
theorem mk_C (h : ¬ nI (mkK B ln (tP B ln k)) = 900) : tP B ln k < ln := Classical.byContradiction fun q => h (by unfold mkK; rw [if_neg q]; rfl)
theorem cut_fin (hk : k ≤ 400) (hQ : ∀ i, i < k → MkI B ln ω i) (hJ : ∀ i, i < k → MkJ B ln ω i) (h9 : ∀ f i, 84 < f → ω f i = ω0 f i) (hg : k = 400 ∨ ¬ gdT B ln k) (hv : v = if tP B ln k < ln then 901 else 900) : MTk B ln k (cW ω k (nI (tP B ln k)) x v) ∧ ∀ f i, 84 < f → cW ω k (nI (tP B ln k)) x v f i = ω0 f i := by
  obtain ⟨n0, n1, n2, n3, n4⟩ := cW_n (ω := ω) (k := k) (t := nI (tP B ln k)) (x := x) (v := v)
  refine ⟨⟨hk, fun i hi => (hQ i hi).keep (cW_o (Or.inl (by omega))) (cW_o (Or.inl (by omega))), fun i hi => ?_, hg, by rw [n0]; exact hv⟩, fun f i hf => (cW_o (Or.inr hf)).trans (h9 f i hf)⟩
  by_cases e : i = k
  · subst e; exact ⟨n1, n3, n4⟩
  · exact (hJ i (by omega)).keep (cW_o (Or.inl e)) (cW_o (Or.inl e)) (cW_o (Or.inl e))
theorem cut_nx (hQ : ∀ i, i < k → MkI B ln ω i) (hJ : ∀ i, i < k → MkJ B ln ω i) (h9 : ∀ f i, 84 < f → ω f i = ω0 f i) (hg : gdT B ln k) (hx : x = nI (tkE B ln (tP B ln k) - tP B ln k)) : (∀ i, i < k + 1 → MkI B ln (cW ω k (nI (tP B ln k)) x (nI (mkK B ln (tP B ln k)))) i) ∧ (∀ i, i < k + 1 → MkJ B ln (cW ω k (nI (tP B ln k)) x (nI (mkK B ln (tP B ln k)))) i) ∧ (∀ f i, 84 < f → cW ω k (nI (tP B ln k)) x (nI (mkK B ln (tP B ln k))) f i = ω0 f i) ∧ nI (tP B ln k) + x = nI (plF B ln (k + 1)) := by
  obtain ⟨n0, n1, n2, n3, n4⟩ := cW_n (ω := ω) (k := k) (t := nI (tP B ln k)) (x := x) (v := nI (mkK B ln (tP B ln k)))
  refine ⟨fun i hi => ?_, fun i hi => ?_, fun f i hf => (cW_o (Or.inr hf)).trans (h9 f i hf), ?_⟩
  · by_cases e : i = k
    · subst e; exact ⟨hg, by rw [n0, (mkK_g hg).1], by rw [n2, hx]⟩
    · exact (hQ i (by omega)).keep (cW_o (Or.inl e)) (cW_o (Or.inl e))
  · by_cases e : i = k
    · subst e; exact ⟨n1, n3, n4⟩
    · exact (hJ i (by omega)).keep (cW_o (Or.inl e)) (cW_o (Or.inl e)) (cW_o (Or.inl e))
  · rw [hx, nI_add]
    refine congrArg nI ?_
    show _ = tkE B ln (tP B ln k)
    have := hg.2
    omega
end CUT

set_option maxHeartbeats 1000000 in
theorem L2_X13_cut {l : Launch} {D : va_G} {cA : Nat → ClassId} {n0 : Nat} {sg adK adV : Nat → Nat} {sgA smA wdA bS LS : Nat} {xs : Nat → Int32} (hX : SF n0 (XW0 sg adK adV sgA smA wdA n0 bS LS xs)) {sz : Nat} {τ : TY} {M0 : ME} {m y z s1 s2 ln tk dp : Nat} {B : Nat → Nat} {ω0 : RH} (hl2 : ln ≤ 2000) (h8 : ∀ i, B i < 256) {k : Nat} (hk : k ≤ 400) {ω : RH} {M : ME} (hM : MV τ M0 M m y z s1 s2 ln tk dp B ω) (hQ : ∀ i, i < k → MkI B ln ω i) (hJ2 : ∀ i, i < k → MkJ B ln ω i) (h9 : ∀ f i, 84 < f → ω f i = ω0 f i) (nx : ∀ (ω2 : RH) (M2 : ME), k < 400 → MV τ M0 M2 m y z s1 s2 ln tk dp B ω2 → (∀ i, i < k + 1 → MkI B ln ω2 i) → (∀ i, i < k + 1 → MkJ B ln ω2 i) → (∀ f i, 84 < f → ω2 f i = ω0 f i) → T l D cA n0 (XW0 sg adK adV sgA smA wdA n0 bS LS xs) mX13_cut 9 0 0 sz τ M2 4 [.ref m, .int (nI (plF B ln (k + 1))), .int (nI (k + 1))] [] (fun v' sz' τ' M' => v' = none ∧ sz' = sz ∧ τ' = τ ∧ ∃ lt ω', MV τ M0 M' m y z s1 s2 ln tk dp B ω' ∧ MTk B ln lt ω' ∧ (∀ f i, 84 < f → ω' f i = ω0 f i)) (fun _ _ _ _ => False)) : ∀ (n : Nat) (q : Nat) (hq : q ≤ ln) (hr : rn blB B ln q = tP B ln k), ln - q < n → T l D cA n0 (XW0 sg adK adV sgA smA wdA n0 bS LS xs) mX13_cut 9 0 0 sz τ M 11 [.ref m, .int (nI q), .int (nI k)] [] (fun v' sz' τ' M' => v' = none ∧ sz' = sz ∧ τ' = τ ∧ ∃ lt ω', MV τ M0 M' m y z s1 s2 ln tk dp B ω' ∧ MTk B ln lt ω' ∧ (∀ f i, 84 < f → ω' f i = ω0 f i)) (fun _ _ _ _ => False) := by
  intro n
  induction n with
  | zero => intros; omega
  | succ n ih =>
    intro q hq hr hn
    refine T_aload0 dX13_cut_11 rfl ?_
    refine T_iload1 dX13_cut_12 rfl ?_
    refine T_cV1 (c_X13_byteOf hX hM hl2 (by omega)) hX k13_89 (Or.inl ⟨_, _, _, _, (hM.t_m), by decide, rfl⟩) (by decide) (Nat.le_of_ble_eq_true rfl) dX13_cut_13 rfl ?_
    rintro _ _ _ _ ⟨rfl, rfl, rfl, rfl⟩
    refine T_bipush (32) dX13_cut_16 rfl rfl ?_
    refine T_icmp_eq 31 21 dX13_cut_18 (by decide) rfl (fun c18 => ?_) (fun c18 => ?_)
    ·
      first | refine T_iinc1 rfl (by decide) dX13_cut_31 rfl (inc1 _) ?_ | refine T_iinc1 rfl (by decide) dX13_cut_31 rfl rfl ?_
      refine T_goto 11 dX13_cut_34 (by decide) ?_
      have hy : q < ln ∧ blB (B q) = true := (bF_bl h8).mp (by first | exact Or.inl c18 | exact Or.inr c28)
      exact ih (q + 1) (by omega) (by rw [← hr]; exact (rn_y hy.1 hy.2).symm) (by omega)
    ·
      refine T_aload0 dX13_cut_21 rfl ?_
      refine T_iload1 dX13_cut_22 rfl ?_
      refine T_cV1 (c_X13_byteOf hX hM hl2 (by omega)) hX k13_89 (Or.inl ⟨_, _, _, _, (hM.t_m), by decide, rfl⟩) (by decide) (Nat.le_of_ble_eq_true rfl) dX13_cut_23 rfl ?_
      rintro _ _ _ _ ⟨rfl, rfl, rfl, rfl⟩
      refine T_bipush (10) dX13_cut_26 rfl rfl ?_
      refine T_icmp_ne 37 31 dX13_cut_28 (by decide) rfl (fun c28 => ?_) (fun c28 => ?_)
      ·
        have e9 : q = tP B ln k := by rw [← hr]; exact (rn_n (fun z => ((bF_bl h8).mpr z).elim c18 c28)).symm
        subst e9
        refine T_aload0 dX13_cut_37 rfl ?_
        refine g13_20 _ rfl (hM.t_m) (hM.g_fr) dX13_cut_38 rfl ?_
        refine T_iload2 dX13_cut_41 rfl ?_
        refine T_iload1 dX13_cut_42 rfl ?_
        refine T_iast _ (hM.t_fr) rfl (by omega) (by decide) dX13_cut_43 rfl ?_
        refine T_nm (fun M1 e1 => ?_)
        have hM := MV.mv (hM.p_vfr (by omega)) e1
        refine T_aload0 dX13_cut_44 rfl ?_
        refine g13_26 _ rfl (hM.t_m) (hM.g_ro) dX13_cut_45 rfl ?_
        refine T_iload2 dX13_cut_48 rfl ?_
        refine T_iconst (0) dX13_cut_49 rfl rfl ?_
        refine T_iast _ (hM.t_ro) rfl (by omega) (by decide) dX13_cut_50 rfl ?_
        refine T_nm (fun M2 e2 => ?_)
        have hM := MV.mv (hM.p_vro (by omega)) e2
        refine T_aload0 dX13_cut_51 rfl ?_
        refine g13_29 _ rfl (hM.t_m) (hM.g_me) dX13_cut_52 rfl ?_
        refine T_iload2 dX13_cut_55 rfl ?_
        refine T_iconst (0) dX13_cut_56 rfl rfl ?_
        refine T_iast _ (hM.t_me) rfl (by omega) (by decide) dX13_cut_57 rfl ?_
        refine T_nm (fun M3 e3 => ?_)
        have hM := MV.mv (hM.p_vme (by omega)) e3
        refine T_aload0 dX13_cut_58 rfl ?_
        refine g13_17 _ rfl (hM.t_m) (hM.g_kd) dX13_cut_59 rfl ?_
        refine T_iload2 dX13_cut_62 rfl ?_
        refine T_aload0 dX13_cut_63 rfl ?_
        refine T_iload1 dX13_cut_64 rfl ?_
        refine T_iload2 dX13_cut_65 rfl ?_
        refine T_cV2 (c_X13_kindAt hX hM hl2 h8 (i := k) (by omega) (by omega)) hX k13_121 (Or.inl ⟨_, _, _, _, (hM.t_m), by decide, rfl⟩) (by decide) (Nat.le_of_ble_eq_true rfl) dX13_cut_66 rfl ?_
        rintro _ _ _ M1 ⟨rfl, rfl, rfl, x, hM, hx⟩
        refine T_iast _ (hM.t_kd) rfl (by omega) (by decide) dX13_cut_69 rfl ?_
        refine T_nm (fun M4 e4 => ?_)
        have hM := MV.mv (hM.p_vkd (by omega)) e4
        refine T_iload2 dX13_cut_70 rfl ?_
        refine T_sipush (400) dX13_cut_71 rfl rfl ?_
        refine T_icmp_ne 98 77 dX13_cut_74 (by decide) rfl (fun c74 => ?_) (fun c74 => ?_)
        ·
          have c74 : ¬ k = 400 := fun z => c74 (by rw [z]; rfl)
          refine T_aload0 dX13_cut_98 rfl ?_
          refine g13_17 _ rfl (hM.t_m) (hM.g_kd) dX13_cut_99 rfl ?_
          refine T_iload2 dX13_cut_102 rfl ?_
          refine T_iald _ (hM.t_kd) rfl (by omega) (by decide) dX13_cut_103 rfl (hM.g_vkd (by omega)) ?_
          refine T_sipush (900) dX13_cut_104 rfl rfl ?_
          refine T_icmp_lt 111 110 dX13_cut_107 (by decide) rfl (fun c107 => ?_) (fun c107 => ?_)
          ·
            rw [u2_s] at c107
            refine T_iload1 dX13_cut_111 rfl ?_
            refine T_aload0 dX13_cut_112 rfl ?_
            refine g13_23 _ rfl (hM.t_m) (hM.g_mn) dX13_cut_113 rfl ?_
            refine T_iload2 dX13_cut_116 rfl ?_
            refine T_iald _ (hM.t_mn) rfl (by omega) (by decide) dX13_cut_117 rfl (hM.g_vmn (by omega)) ?_
            first
              | rw [show (u2 (u2 (u2 (u2 (u2 ω 81 k (nI (tP B ln k))) 83 k 0) 84 k 0) 82 k x) 80 k (nI (mkK B ln (tP B ln k)))) 82 k = x from (cW_n (ω := ω) (k := k) (t := nI (tP B ln k)) (x := x) (v := nI (mkK B ln (tP B ln k)))).2.2.1]
              | skip
            refine T_iadd dX13_cut_118 rfl ?_
            refine T_istore1 rfl (by decide) dX13_cut_119 rfl ?_
            first | refine T_iinc2 rfl (by decide) dX13_cut_120 rfl (inc1 _) ?_ | refine T_iinc2 rfl (by decide) dX13_cut_120 rfl rfl ?_
            refine T_goto 4 dX13_cut_123 (by decide) ?_
            first
              | exact absurd (show (901 : Int32) < 900 from c107) (by decide)
              | (rw [c86] at c107; exact absurd c107 (by decide))
              | (have hg : gdT B ln k := mk_D c107
                 have h7 := cut_nx hQ hJ2 h9 hg (hx hg.1 hg.2)
                 have h8 := nx _ _ (by omega) hM h7.1 h7.2.1 h7.2.2.1
                 rw [← h7.2.2.2] at h8
                 exact h8)
          ·
            rw [u2_s] at c107
            refine T_vret rfl dX13_cut_110 ?_
            first
              | (obtain ⟨g1, g2⟩ := mk_A (show ¬ nI (mkK B ln (tP B ln k)) < 900 from c107)
                 have h7 := cut_fin (x := x) hk hQ hJ2 h9 (Or.inr g1) g2
                 exact ⟨rfl, rfl, rfl, k, _, hM, h7.1, h7.2⟩)
              | (have h7 := cut_fin (x := x) (v := 901) hk hQ hJ2 h9 (Or.inl c74) (if_pos (mk_C c86)).symm
                 exact ⟨rfl, rfl, rfl, k, cW ω k (nI (tP B ln k)) x 901, hM.mvW u2_u2, h7.1, h7.2⟩)
        ·
          have c74 : k = 400 := (nI_eq (b := 400) (by omega) (by omega)).mp c74
          refine T_aload0 dX13_cut_77 rfl ?_
          refine g13_17 _ rfl (hM.t_m) (hM.g_kd) dX13_cut_78 rfl ?_
          refine T_iload2 dX13_cut_81 rfl ?_
          refine T_iald _ (hM.t_kd) rfl (by omega) (by decide) dX13_cut_82 rfl (hM.g_vkd (by omega)) ?_
          refine T_sipush (900) dX13_cut_83 rfl rfl ?_
          refine T_icmp_eq 98 89 dX13_cut_86 (by decide) rfl (fun c86 => ?_) (fun c86 => ?_)
          ·
            rw [u2_s] at c86
            refine T_aload0 dX13_cut_98 rfl ?_
            refine g13_17 _ rfl (hM.t_m) (hM.g_kd) dX13_cut_99 rfl ?_
            refine T_iload2 dX13_cut_102 rfl ?_
            refine T_iald _ (hM.t_kd) rfl (by omega) (by decide) dX13_cut_103 rfl (hM.g_vkd (by omega)) ?_
            refine T_sipush (900) dX13_cut_104 rfl rfl ?_
            refine T_icmp_lt 111 110 dX13_cut_107 (by decide) rfl (fun c107 => ?_) (fun c107 => ?_)
            ·
              rw [u2_s] at c107
              refine T_iload1 dX13_cut_111 rfl ?_
              refine T_aload0 dX13_cut_112 rfl ?_
              refine g13_23 _ rfl (hM.t_m) (hM.g_mn) dX13_cut_113 rfl ?_
              refine T_iload2 dX13_cut_116 rfl ?_
              refine T_iald _ (hM.t_mn) rfl (by omega) (by decide) dX13_cut_117 rfl (hM.g_vmn (by omega)) ?_
              first
                | rw [show (u2 (u2 (u2 (u2 (u2 ω 81 k (nI (tP B ln k))) 83 k 0) 84 k 0) 82 k x) 80 k (nI (mkK B ln (tP B ln k)))) 82 k = x from (cW_n (ω := ω) (k := k) (t := nI (tP B ln k)) (x := x) (v := nI (mkK B ln (tP B ln k)))).2.2.1]
                | skip
              refine T_iadd dX13_cut_118 rfl ?_
              refine T_istore1 rfl (by decide) dX13_cut_119 rfl ?_
              first | refine T_iinc2 rfl (by decide) dX13_cut_120 rfl (inc1 _) ?_ | refine T_iinc2 rfl (by decide) dX13_cut_120 rfl rfl ?_
              refine T_goto 4 dX13_cut_123 (by decide) ?_
              first
                | exact absurd (show (901 : Int32) < 900 from c107) (by decide)
                | (rw [c86] at c107; exact absurd c107 (by decide))
                | (have hg : gdT B ln k := mk_D c107
                   have h7 := cut_nx hQ hJ2 h9 hg (hx hg.1 hg.2)
                   have h8 := nx _ _ (by omega) hM h7.1 h7.2.1 h7.2.2.1
                   rw [← h7.2.2.2] at h8
                   exact h8)
            ·
              rw [u2_s] at c107
              refine T_vret rfl dX13_cut_110 ?_
              first
                | (obtain ⟨g1, g2⟩ := mk_A (show ¬ nI (mkK B ln (tP B ln k)) < 900 from c107)
                   have h7 := cut_fin (x := x) hk hQ hJ2 h9 (Or.inr g1) g2
                   exact ⟨rfl, rfl, rfl, k, _, hM, h7.1, h7.2⟩)
                | (have h7 := cut_fin (x := x) (v := 901) hk hQ hJ2 h9 (Or.inl c74) (if_pos (mk_C c86)).symm
                   exact ⟨rfl, rfl, rfl, k, cW ω k (nI (tP B ln k)) x 901, hM.mvW u2_u2, h7.1, h7.2⟩)
          ·
            rw [u2_s] at c86
            refine T_aload0 dX13_cut_89 rfl ?_
            refine g13_17 _ rfl (hM.t_m) (hM.g_kd) dX13_cut_90 rfl ?_
            refine T_iload2 dX13_cut_93 rfl ?_
            refine T_sipush (901) dX13_cut_94 rfl rfl ?_
            refine T_iast _ (hM.t_kd) rfl (by omega) (by decide) dX13_cut_97 rfl ?_
            refine T_nm (fun M5 e5 => ?_)
            have hM := MV.mv (hM.p_vkd (by omega)) e5
            refine T_aload0 dX13_cut_98 rfl ?_
            refine g13_17 _ rfl (hM.t_m) (hM.g_kd) dX13_cut_99 rfl ?_
            refine T_iload2 dX13_cut_102 rfl ?_
            refine T_iald _ (hM.t_kd) rfl (by omega) (by decide) dX13_cut_103 rfl (hM.g_vkd (by omega)) ?_
            refine T_sipush (900) dX13_cut_104 rfl rfl ?_
            refine T_icmp_lt 111 110 dX13_cut_107 (by decide) rfl (fun c107 => ?_) (fun c107 => ?_)
            ·
              rw [u2_s] at c107
              refine T_iload1 dX13_cut_111 rfl ?_
              refine T_aload0 dX13_cut_112 rfl ?_
              refine g13_23 _ rfl (hM.t_m) (hM.g_mn) dX13_cut_113 rfl ?_
              refine T_iload2 dX13_cut_116 rfl ?_
              refine T_iald _ (hM.t_mn) rfl (by omega) (by decide) dX13_cut_117 rfl (hM.g_vmn (by omega)) ?_
              first
                | rw [show (u2 (u2 (u2 (u2 (u2 ω 81 k (nI (tP B ln k))) 83 k 0) 84 k 0) 82 k x) 80 k (nI (mkK B ln (tP B ln k)))) 82 k = x from (cW_n (ω := ω) (k := k) (t := nI (tP B ln k)) (x := x) (v := nI (mkK B ln (tP B ln k)))).2.2.1]
                | skip
              refine T_iadd dX13_cut_118 rfl ?_
              refine T_istore1 rfl (by decide) dX13_cut_119 rfl ?_
              first | refine T_iinc2 rfl (by decide) dX13_cut_120 rfl (inc1 _) ?_ | refine T_iinc2 rfl (by decide) dX13_cut_120 rfl rfl ?_
              refine T_goto 4 dX13_cut_123 (by decide) ?_
              first
                | exact absurd (show (901 : Int32) < 900 from c107) (by decide)
                | (rw [c86] at c107; exact absurd c107 (by decide))
                | (have hg : gdT B ln k := mk_D c107
                   have h7 := cut_nx hQ hJ2 h9 hg (hx hg.1 hg.2)
                   have h8 := nx _ _ (by omega) hM h7.1 h7.2.1 h7.2.2.1
                   rw [← h7.2.2.2] at h8
                   exact h8)
            ·
              rw [u2_s] at c107
              refine T_vret rfl dX13_cut_110 ?_
              first
                | (obtain ⟨g1, g2⟩ := mk_A (show ¬ nI (mkK B ln (tP B ln k)) < 900 from c107)
                   have h7 := cut_fin (x := x) hk hQ hJ2 h9 (Or.inr g1) g2
                   exact ⟨rfl, rfl, rfl, k, _, hM, h7.1, h7.2⟩)
                | (have h7 := cut_fin (x := x) (v := 901) hk hQ hJ2 h9 (Or.inl c74) (if_pos (mk_C c86)).symm
                   exact ⟨rfl, rfl, rfl, k, cW ω k (nI (tP B ln k)) x 901, hM.mvW u2_u2, h7.1, h7.2⟩)
      ·
        first | refine T_iinc1 rfl (by decide) dX13_cut_31 rfl (inc1 _) ?_ | refine T_iinc1 rfl (by decide) dX13_cut_31 rfl rfl ?_
        refine T_goto 11 dX13_cut_34 (by decide) ?_
        have hy : q < ln ∧ blB (B q) = true := (bF_bl h8).mp (by first | exact Or.inl c18 | exact Or.inr c28)
        exact ih (q + 1) (by omega) (by rw [← hr]; exact (rn_y hy.1 hy.2).symm) (by omega)
set_option maxHeartbeats 1000000 in
theorem L1_X13_cut {l : Launch} {D : va_G} {cA : Nat → ClassId} {n0 : Nat} {sg adK adV : Nat → Nat} {sgA smA wdA bS LS : Nat} {xs : Nat → Int32} (hX : SF n0 (XW0 sg adK adV sgA smA wdA n0 bS LS xs)) {sz : Nat} {τ : TY} {M0 : ME} {m y z s1 s2 ln tk dp : Nat} {B : Nat → Nat} {ω0 : RH} (hl2 : ln ≤ 2000) (h8 : ∀ i, B i < 256) : ∀ (n : Nat) (k : Nat) (ω : RH) (Mk : ME) (hk : k ≤ 400) (hM : MV τ M0 Mk m y z s1 s2 ln tk dp B ω) (hQ : ∀ i, i < k → MkI B ln ω i) (hJ2 : ∀ i, i < k → MkJ B ln ω i) (h9 : ∀ f i, 84 < f → ω f i = ω0 f i), 401 - k < n → T l D cA n0 (XW0 sg adK adV sgA smA wdA n0 bS LS xs) mX13_cut 9 0 0 sz τ Mk 4 [.ref m, .int (nI (plF B ln k)), .int (nI k)] [] (fun v' sz' τ' M' => v' = none ∧ sz' = sz ∧ τ' = τ ∧ ∃ lt ω', MV τ M0 M' m y z s1 s2 ln tk dp B ω' ∧ MTk B ln lt ω' ∧ (∀ f i, 84 < f → ω' f i = ω0 f i)) (fun _ _ _ _ => False) := by
  intro n
  induction n with
  | zero => intros; omega
  | succ n ih =>
    intro k ω Mk hk hM hQ hJ2 h9 hn
    refine T_iload2 dX13_cut_4 rfl ?_
    refine T_sipush (400) dX13_cut_5 rfl rfl ?_
    refine T_icmp_gt_f 126 11 dX13_cut_8 (by decide) rfl (fun q => absurd ((nI_leI (a := k) (b := 400) (by omega) (by omega)).mpr hk) (Int32.not_le.mpr q)) ?_
    exact L2_X13_cut hX hl2 h8 hk hM hQ hJ2 h9 (fun ω2 M2 g1 g2 g3 g4 g5 => ih (k + 1) ω2 M2 (by omega) g2 g3 g4 g5 (by omega)) (ln + 1) _ (plF_le k (fun i hi => (hQ i hi).1)) rfl (by omega)
set_option maxHeartbeats 1000000 in
theorem c_X13_cut {l : Launch} {D : va_G} {cA : Nat → ClassId} {n0 : Nat} {sg adK adV : Nat → Nat} {sgA smA wdA bS LS : Nat} {xs : Nat → Int32} (hX : SF n0 (XW0 sg adK adV sgA smA wdA n0 bS LS xs)) {sz : Nat} {τ : TY} {M0 M : ME} {m y z s1 s2 ln tk dp : Nat} {B : Nat → Nat} {ω0 : RH} (hM : MV τ M0 M m y z s1 s2 ln tk dp B ω0) (hl2 : ln ≤ 2000) (h8 : ∀ i, B i < 256) : CT l D cA n0 (XW0 sg adK adV sgA smA wdA n0 bS LS xs) mX13_cut 9 0 0 sz τ M [.ref m] (fun v' sz' τ' M' => v' = none ∧ sz' = sz ∧ τ' = τ ∧ ∃ lt ω', MV τ M0 M' m y z s1 s2 ln tk dp B ω' ∧ MTk B ln lt ω' ∧ (∀ f i, 84 < f → ω' f i = ω0 f i)) := by
  refine CT.of (ls := [.ref m, UU, UU]) (by decide) (Nat.le_of_ble_eq_true rfl) rfl ?_
  refine T_iconst (0) dX13_cut_0 rfl rfl ?_
  refine T_istore1 rfl (by decide) dX13_cut_1 rfl ?_
  refine T_iconst (0) dX13_cut_2 rfl rfl ?_
  refine T_istore2 rfl (by decide) dX13_cut_3 rfl ?_
  exact L1_X13_cut hX hl2 h8 402 0 _ _ (by omega) hM (fun _ h => absurd h (Nat.not_lt_zero _)) (fun _ h => absurd h (Nat.not_lt_zero _)) (fun _ _ _ => rfl) (by omega)
