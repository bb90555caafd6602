/-- who has moved, before horse k goes out; before horse k moves -/
def M1 (b k : Nat) (μ : Nat → Int32) (ρ : RH) : Prop := ∀ o, o < b → μ o = if o < k then ρ 20 o else 0
def M2 (b k : Nat) (μ : Nat → Int32) (ρ : RH) : Prop := ∀ o, o < b → k ≤ o → μ o = ρ 20 o
theorem ot_n {a c hc k : Nat} {σ : Nat → Nat} {π ρ : RH} (h : ¬ ρ 15 k = -1 ∨ ρ 12 k ≤ 0 ∨ nI a = 0) : otC a c hc σ π ρ k = ρ := if_pos h
theorem M1.n {a b c hc k : Nat} {σ : Nat → Nat} {π ρ : RH} {μ : Nat → Int32} (hm : M1 b k μ ρ) (h : ¬ ρ 15 k = -1 ∨ ρ 12 k ≤ 0 ∨ nI a = 0) : M1 b (k + 1) μ (otC a c hc σ π (u2 ρ 20 k 0) k) := fun o ho => by
  rw [ot_n (by exact h)]
  rw [hm o ho]
  by_cases e : o = k
  · subst e; rw [if_neg (Nat.lt_irrefl _), if_pos (by omega), u2_s]
  · rw [u2_i e]
    by_cases e2 : o < k
    · rw [if_pos e2, if_pos (by omega)]
    · rw [if_neg e2, if_neg (by omega)]
theorem ps_20 {ρ : RH} {x z : Int32} {k o : Nat} : (psC ρ x z k).1 20 o = ρ 20 o := psC_f (by decide)
theorem M1.y {a b c hc k : Nat} {σ : Nat → Nat} {π ρ : RH} {μ : Nat → Int32} (hm : M1 b k μ ρ) (h : ¬ (¬ ρ 15 k = -1 ∨ ρ 12 k ≤ 0 ∨ nI a = 0)) : M1 b (k + 1) (ldM c (u2 ρ 20 k 0) μ k (mwG c (u2 ρ 20 k 0) σ π (nI k) 0 hc)) (otC a c hc σ π (u2 ρ 20 k 0) k) := fun o ho => by
  have e : otC a c hc σ π (u2 ρ 20 k 0) k = sgC c hc σ π (u2 ρ 20 k 0) k := if_neg (by exact h)
  rw [e]
  by_cases e0 : (psC (u2 ρ 20 k 0) (nI k) (mwG c (u2 ρ 20 k 0) σ π (nI k) 0 hc) c).2.2 = 0
  · have eA : sgC c hc σ π (u2 ρ 20 k 0) k = (psC (u2 ρ 20 k 0) (nI k) (mwG c (u2 ρ 20 k 0) σ π (nI k) 0 hc) c).1 := by
      unfold sgC psR; rw [if_pos e0, if_pos rfl]
    rw [eA]
    unfold ldM
    rw [if_pos e0, ps_20, hm o ho]
    by_cases e1 : o = k
    · subst e1; rw [if_neg (Nat.lt_irrefl _), if_pos (by omega), u2_s]
    · rw [u2_i e1]
      by_cases e2 : o < k
      · rw [if_pos e2, if_pos (by omega)]
      · rw [if_neg e2, if_neg (by omega)]
  · have eB : sgC c hc σ π (u2 ρ 20 k 0) k = u2 (standC (psC (u2 ρ 20 k 0) (nI k) (mwG c (u2 ρ 20 k 0) σ π (nI k) 0 hc) c).1 k 0 1 0) 20 k 1 := by
      unfold sgC psR; rw [if_neg e0, if_neg (by decide)]
    rw [eB]
    unfold ldM
    rw [if_neg e0]
    by_cases e1 : o = k
    · subst e1; rw [uI_s, if_pos (by omega), u2_s]
    · rw [uI_i e1, u2_i e1, hm o ho]
      have e3 : standC (psC (u2 ρ 20 k 0) (nI k) (mwG c (u2 ρ 20 k 0) σ π (nI k) 0 hc) c).1 k 0 1 0 20 o = ρ 20 o := by
        unfold standC
        rw [u2_f (by decide), u2_f (by decide), u2_f (by decide), ps_20, u2_i e1]
      by_cases e2 : o < k
      · rw [if_pos e2, if_pos (by omega), e3]
      · rw [if_neg e2, if_neg (by omega)]
theorem mo_n {a b c wc k : Nat} {σ : Nat → Nat} {π ρ : RH} (h : ¬ ρ 20 k = 0 ∨ hasI (ρ 15 k) (nI a) = 0) : moC a b c wc σ π ρ k = ρ := if_pos h
theorem mo_y {a b c wc k t : Nat} {σ : Nat → Nat} {π ρ : RH} (h : ρ 20 k = 0) (ht : t < a) (ha : a ≤ 8) (hp : ρ 15 k = nI t) : moC a b c wc σ π ρ k = mtC a b c wc σ π ρ k t := by
  unfold moC
  rw [if_neg (fun q => q.elim (fun z => z h) (fun z => by rw [hasI_t hp rfl ht] at z; exact absurd z (by decide))), hp, nI_cl (by omega)]
theorem M2.n {b k : Nat} {ρ : RH} {μ : Nat → Int32} (hm : M2 b k μ ρ) : M2 b (k + 1) μ ρ := fun o ho hk => hm o ho (by omega)
theorem M2.y {b k : Nat} {ρ ρ' : RH} {μ μ' : Nat → Int32} (hm : M2 b k μ ρ) (hA : MA b k (uI μ k 1) ρ μ' ρ') : M2 b (k + 1) μ' ρ' := fun o ho hk => hA o ho (by omega) (by rw [uI_i (by omega)]; exact hm o ho (by omega))
theorem M1.all {b : Nat} {ρ : RH} {μ : Nat → Int32} (hm : M1 b b μ ρ) : M2 b 0 μ ρ := fun o ho _ => by rw [hm o ho, if_pos ho]
theorem PcOK.get {a : Nat} {x : Int32} (h : PcOK a x) (h2 : ¬ x = -1) : ∃ t, t < a ∧ x = nI t := h.resolve_left h2
set_option maxHeartbeats 1000000 in
theorem L4_X12_pass {l : Launch} {D : va_G} {cA : Nat → ClassId} {n0 : Nat} {sg adK adV : Nat → Nat} {sgA smA wdA bS LS : Nat} {xs : Nat → Int32} (hX : SF n0 (XW0 sg adK adV sgA smA wdA n0 bS LS xs)) {sz : Nat} {τ : TY} {M0 : ME} {m y s a b c hc wc sn : Nat} {ρ π : RH} {σ : Nat → Nat} {μ κ : Nat → Int32} : ∀ (n : Nat) (k : Nat) (Mk : ME) (hk : k ≤ a) (hS : SL τ M0 Mk s a b c (if ρ 6 0 - ρ 6 0 / 6 * 6 = 0 then fzC ρ k else ρ) m μ κ) (hW : WN τ Mk m y s a b c hc wc sn ρ π σ), a - k < n → T l D cA n0 (XW0 sg adK adV sgA smA wdA n0 bS LS xs) mX12_pass 7 0 0 sz τ Mk 147 [.ref s, .int (nI k)] [] (fun v' sz' τ' M' => v' = none ∧ sz' = sz ∧ τ' = τ ∧ ∃ μ' κ', SL τ M0 M' s a b c (u2 (frC a ρ) 6 0 ((frC a ρ) 6 0 + 1)) m μ' κ') (fun _ _ _ _ => False) := by
  intro n
  induction n with
  | zero => intros; omega
  | succ n ih =>
    intro k Mk hk hS hW hn
    obtain ⟨l3, l4, l5, l6, l7, l8⟩ := hW.ok
    have h6 : (if ρ 6 0 - ρ 6 0 / 6 * 6 = 0 then fzC ρ k else ρ) 6 0 = ρ 6 0 := by split; exact fzC_f (by decide); rfl
    refine T_iload1 dX12_pass_147 rfl ?_
    refine T_aload0 dX12_pass_148 rfl ?_
    refine g12_3 _ rfl (hS.t_s) (hS.g_m) dX12_pass_149 rfl ?_
    refine g12_75 _ rfl (hW.t_m) (hW.g_pl) dX12_pass_152 rfl ?_
    refine g12_169 _ rfl (hW.t_q) (hW.g_stretches) dX12_pass_155 rfl ?_
    refine T_icmp_ge 203 161 dX12_pass_158 (by decide) rfl (fun c7 => ?_) (fun c7 => ?_)
    ·
      have c7 := le_out rfl c7
      refine T_aload0 dX12_pass_203 rfl ?_
      refine T_dup dX12_pass_204 rfl rfl ?_
      refine g12_61 _ rfl (hS.t_s) (hS.g_hour) dX12_pass_205 rfl ?_
      refine T_iconst (1) dX12_pass_208 rfl rfl ?_
      refine T_iadd dX12_pass_209 rfl ?_
      refine p12_61 rfl (hS.t_s) dX12_pass_210 rfl ?_
      refine T_nm (fun M1 e1 => ?_)
      have hS := SL.mv hS.p_hour e1
      have hW := hW.frU e1 (by omega)
      refine T_vret rfl dX12_pass_213 ?_
      refine ⟨rfl, rfl, rfl, μ, κ, ?_⟩
      have e : (if ρ 6 0 - ρ 6 0 / 6 * 6 = 0 then fzC ρ k else ρ) = frC a ρ := by
        unfold frC
        first | (rw [if_neg c168, if_neg c168]; done) | rw [show k = a by omega]
      rw [e] at hS
      exact hS
    ·
      have c7 := lt_in rfl c7
      refine T_aload0 dX12_pass_161 rfl ?_
      refine g12_61 _ rfl (hS.t_s) (hS.g_hour) dX12_pass_162 rfl ?_
      refine T_bipush (6) dX12_pass_165 rfl rfl ?_
      refine T_irem dX12_pass_167 rfl (by decide) ?_
      refine T_if_ne 203 171 dX12_pass_168 (by decide) rfl (fun c168 => ?_) (fun c168 => ?_)
      ·
        rw [h6] at c168
        refine T_aload0 dX12_pass_203 rfl ?_
        refine T_dup dX12_pass_204 rfl rfl ?_
        refine g12_61 _ rfl (hS.t_s) (hS.g_hour) dX12_pass_205 rfl ?_
        refine T_iconst (1) dX12_pass_208 rfl rfl ?_
        refine T_iadd dX12_pass_209 rfl ?_
        refine p12_61 rfl (hS.t_s) dX12_pass_210 rfl ?_
        refine T_nm (fun M2 e2 => ?_)
        have hS := SL.mv hS.p_hour e2
        have hW := hW.frU e2 (by omega)
        refine T_vret rfl dX12_pass_213 ?_
        refine ⟨rfl, rfl, rfl, μ, κ, ?_⟩
        have e : (if ρ 6 0 - ρ 6 0 / 6 * 6 = 0 then fzC ρ k else ρ) = frC a ρ := by
          unfold frC
          first | (rw [if_neg c168, if_neg c168]; done) | rw [show k = a by omega]
        rw [e] at hS
        exact hS
      ·
        rw [h6] at c168
        rw [if_pos c168] at hS
        refine T_aload0 dX12_pass_171 rfl ?_
        refine g12_15 _ rfl (hS.t_s) (hS.g_a1) dX12_pass_172 rfl ?_
        refine T_iload1 dX12_pass_175 rfl ?_
        refine T_iconst (0) dX12_pass_176 rfl rfl ?_
        refine T_bipush (9) dX12_pass_177 rfl rfl ?_
        refine T_aload0 dX12_pass_179 rfl ?_
        refine g12_15 _ rfl (hS.t_s) (hS.g_a1) dX12_pass_180 rfl ?_
        refine T_iload1 dX12_pass_183 rfl ?_
        refine T_iald _ (hS.t_a1) rfl (by omega) (by decide) dX12_pass_184 rfl (hS.g_fros (by omega)) ?_
        refine T_aload0 dX12_pass_185 rfl ?_
        refine g12_65 _ rfl (hS.t_s) (hS.g_weat) dX12_pass_186 rfl ?_
        refine T_iadd dX12_pass_189 rfl ?_
        refine T_min km12_160 (by decide) (Nat.le_of_ble_eq_true rfl) dX12_pass_190 rfl ?_
        refine T_max km12_101 (by decide) (Nat.le_of_ble_eq_true rfl) dX12_pass_193 rfl ?_
        refine T_iast _ (hS.t_a1) rfl (by omega) (by decide) dX12_pass_196 rfl ?_
        refine T_nm (fun M3 e3 => ?_)
        have hS := SL.mv (hS.p_fros (by omega)) e3
        have hW := hW.frU e3 (by omega)
        first | refine T_iinc1 rfl (by decide) dX12_pass_197 rfl (inc1 _) ?_ | refine T_iinc1 rfl (by decide) dX12_pass_197 rfl rfl ?_
        refine T_goto 147 dX12_pass_200 (by decide) ?_
        exact ih (k + 1) _ (by omega) (by rw [if_pos c168, ← fzC_s]; rw [fzC_at (Nat.le_refl _), fzC_f (by decide)] at hS; exact hS) hW (by omega)
set_option maxHeartbeats 1000000 in
theorem L3_X12_pass {l : Launch} {D : va_G} {cA : Nat → ClassId} {n0 : Nat} {sg adK adV : Nat → Nat} {sgA smA wdA bS LS : Nat} {xs : Nat → Int32} (hX : SF n0 (XW0 sg adK adV sgA smA wdA n0 bS LS xs)) {sz : Nat} {τ : TY} {M0 : ME} {m y s a b c hc wc sn : Nat} {ρ π : RH} {σ : Nat → Nat} (ho : PmOK a b c hc wc sn σ π) (hi : RI a b c ρ) : ∀ (n : Nat) (k : Nat) (μ κ : Nat → Int32) (Mk : ME) (hk : k ≤ b) (hS : SL τ M0 Mk s a b c (o2C a b c wc σ π ρ k) m μ κ) (hW : WN τ Mk m y s a b c hc wc sn ρ π σ) (hm : M2 b k μ (o2C a b c wc σ π ρ k)), b - k < n → T l D cA n0 (XW0 sg adK adV sgA smA wdA n0 bS LS xs) mX12_pass 7 0 0 sz τ Mk 90 [.ref s, .int (nI k)] [] (fun v' sz' τ' M' => v' = none ∧ sz' = sz ∧ τ' = τ ∧ ∃ μ' κ', SL τ M0 M' s a b c (u2 (frC a (o2C a b c wc σ π ρ b)) 6 0 ((frC a (o2C a b c wc σ π ρ b)) 6 0 + 1)) m μ' κ') (fun _ _ _ _ => False) := by
  intro n
  induction n with
  | zero => intros; omega
  | succ n ih =>
    intro k μ κ Mk hk hS hW hm hn
    obtain ⟨l3, l4, l5, l6, l7, l8⟩ := hW.ok
    have hi1 := hi.o2 (wc := wc) (σ := σ) (π := π) l3 k hk
    refine T_iload1 dX12_pass_90 rfl ?_
    refine T_aload0 dX12_pass_91 rfl ?_
    refine g12_3 _ rfl (hS.t_s) (hS.g_m) dX12_pass_92 rfl ?_
    refine g12_75 _ rfl (hW.t_m) (hW.g_pl) dX12_pass_95 rfl ?_
    refine g12_179 _ rfl (hW.t_q) (hW.g_horses) dX12_pass_98 rfl ?_
    refine T_icmp_ge 145 104 dX12_pass_101 (by decide) rfl (fun c7 => ?_) (fun c7 => ?_)
    ·
      have c7 := le_out rfl c7
      refine T_iconst (0) dX12_pass_145 rfl rfl ?_
      refine T_istore1 rfl (by decide) dX12_pass_146 rfl ?_
      have hkk : k = b := by omega
      subst hkk
      exact L4_X12_pass hX (ρ := o2C a k c wc σ π ρ k) (a + 1) 0 _ (Nat.zero_le _) (by rw [fzC_0, ite_self]; exact hS) (hW.ks ((KS.rf ρ).o2 k)) (by omega)
    ·
      have c7 := lt_in rfl c7
      refine T_aload0 dX12_pass_104 rfl ?_
      refine g12_19 _ rfl (hS.t_s) (hS.g_a2) dX12_pass_105 rfl ?_
      refine T_iload1 dX12_pass_108 rfl ?_
      refine T_iald _ (hS.t_a2) rfl (by omega) (by decide) dX12_pass_109 rfl (hS.g_wher (by omega)) ?_
      refine T_iconst (-1) dX12_pass_110 rfl rfl ?_
      refine T_icmp_eq 139 114 dX12_pass_111 (by decide) rfl (fun c111 => ?_) (fun c111 => ?_)
      ·
        first | refine T_iinc1 rfl (by decide) dX12_pass_139 rfl (inc1 _) ?_ | refine T_iinc1 rfl (by decide) dX12_pass_139 rfl rfl ?_
        refine T_goto 90 dX12_pass_142 (by decide) ?_
        first
          | (have e : o2C a b c wc σ π ρ (k + 1) = o2C a b c wc σ π ρ k := mo_n (by first | exact Or.inl (by rw [c121]; decide) | exact Or.inr (by rw [c111]; exact hasI_f (by decide)))
             exact ih (k + 1) _ _ _ (by omega) (by rw [e]; exact hS) hW (by rw [e]; exact hm.n) (by omega))
          | (have e : o2C a b c wc σ π ρ (k + 1) = mtC a b c wc σ π (o2C a b c wc σ π ρ k) k t := mo_y c121 ht l3 hp
             exact ih (k + 1) _ _ _ (by omega) (by rw [e]; exact hS) hW (by rw [e]; exact hm.y hA) (by omega))
      ·
        obtain ⟨t, ht, hp⟩ := (hi1.1 k c7).1.get c111
        refine T_aload0 dX12_pass_114 rfl ?_
        refine g12_40 _ rfl (hS.t_s) (hS.g_a9) dX12_pass_115 rfl ?_
        refine T_iload1 dX12_pass_118 rfl ?_
        refine T_iald _ (hS.t_a9) rfl (by omega) (by decide) dX12_pass_119 rfl (hS.g_move (by omega)) ?_
        refine T_iconst (1) dX12_pass_120 rfl rfl ?_
        refine T_icmp_ne 127 124 dX12_pass_121 (by decide) rfl (fun c121 => ?_) (fun c121 => ?_)
        ·
          rw [hm k c7 (Nat.le_refl _)] at c121
          have c121 := (hi1.1 k c7).2.2.2.1.resolve_right c121
          refine T_aload0 dX12_pass_127 rfl ?_
          refine g12_40 _ rfl (hS.t_s) (hS.g_a9) dX12_pass_128 rfl ?_
          refine T_iload1 dX12_pass_131 rfl ?_
          refine T_iconst (1) dX12_pass_132 rfl rfl ?_
          refine T_iast _ (hS.t_a9) rfl (by omega) (by decide) dX12_pass_133 rfl ?_
          refine T_nm (fun M1 e1 => ?_)
          have hS := SL.mv (hS.p_move (by omega)) e1
          have hW := hW.frU e1 (by omega)
          refine T_aload0 dX12_pass_134 rfl ?_
          refine T_iload1 dX12_pass_135 rfl ?_
          refine T_cV1 (c_X12_move hX ho hS.rf (hW.ks ((KS.rf ρ).o2 k)) c7 ht hp hi1) hX k12_192 (Or.inl ⟨_, _, _, _, (hS.t_s), by decide, rfl⟩) (by decide) (Nat.le_of_ble_eq_true rfl) dX12_pass_136 rfl ?_
          rintro _ _ _ M1 ⟨rfl, rfl, rfl, κ1, μ1, hN, hA⟩
          have hW := hW.nx hN.frame
          have hS := hN.bs hS.frame
          first | refine T_iinc1 rfl (by decide) dX12_pass_139 rfl (inc1 _) ?_ | refine T_iinc1 rfl (by decide) dX12_pass_139 rfl rfl ?_
          refine T_goto 90 dX12_pass_142 (by decide) ?_
          first
            | (have e : o2C a b c wc σ π ρ (k + 1) = o2C a b c wc σ π ρ k := mo_n (by first | exact Or.inl (by rw [c121]; decide) | exact Or.inr (by rw [c111]; exact hasI_f (by decide)))
               exact ih (k + 1) _ _ _ (by omega) (by rw [e]; exact hS) hW (by rw [e]; exact hm.n) (by omega))
            | (have e : o2C a b c wc σ π ρ (k + 1) = mtC a b c wc σ π (o2C a b c wc σ π ρ k) k t := mo_y c121 ht l3 hp
               exact ih (k + 1) _ _ _ (by omega) (by rw [e]; exact hS) hW (by rw [e]; exact hm.y hA) (by omega))
        ·
          rw [hm k c7 (Nat.le_refl _)] at c121
          refine T_goto 139 dX12_pass_124 (by decide) ?_
          first | refine T_iinc1 rfl (by decide) dX12_pass_139 rfl (inc1 _) ?_ | refine T_iinc1 rfl (by decide) dX12_pass_139 rfl rfl ?_
          refine T_goto 90 dX12_pass_142 (by decide) ?_
          first
            | (have e : o2C a b c wc σ π ρ (k + 1) = o2C a b c wc σ π ρ k := mo_n (by first | exact Or.inl (by rw [c121]; decide) | exact Or.inr (by rw [c111]; exact hasI_f (by decide)))
               exact ih (k + 1) _ _ _ (by omega) (by rw [e]; exact hS) hW (by rw [e]; exact hm.n) (by omega))
            | (have e : o2C a b c wc σ π ρ (k + 1) = mtC a b c wc σ π (o2C a b c wc σ π ρ k) k t := mo_y c121 ht l3 hp
               exact ih (k + 1) _ _ _ (by omega) (by rw [e]; exact hS) hW (by rw [e]; exact hm.y hA) (by omega))
set_option maxHeartbeats 1000000 in
theorem L2_X12_pass {l : Launch} {D : va_G} {cA : Nat → ClassId} {n0 : Nat} {sg adK adV : Nat → Nat} {sgA smA wdA bS LS : Nat} {xs : Nat → Int32} (hX : SF n0 (XW0 sg adK adV sgA smA wdA n0 bS LS xs)) {sz : Nat} {τ : TY} {M0 : ME} {m y s a b c hc wc sn : Nat} {ρ π : RH} {σ : Nat → Nat} (ho : PmOK a b c hc wc sn σ π) (hi : RI a b c ρ) : ∀ (n : Nat) (k : Nat) (μ κ : Nat → Int32) (Mk : ME) (hk : k ≤ b) (hS : SL τ M0 Mk s a b c (o1C a c hc σ π ρ k) m μ κ) (hW : WN τ Mk m y s a b c hc wc sn ρ π σ) (hm : M1 b k μ (o1C a c hc σ π ρ k)), b - k < n → T l D cA n0 (XW0 sg adK adV sgA smA wdA n0 bS LS xs) mX12_pass 7 0 0 sz τ Mk 31 [.ref s, .int (nI k)] [] (fun v' sz' τ' M' => v' = none ∧ sz' = sz ∧ τ' = τ ∧ ∃ μ' κ', SL τ M0 M' s a b c (u2 (frC a (o2C a b c wc σ π (o1C a c hc σ π ρ b) b)) 6 0 ((frC a (o2C a b c wc σ π (o1C a c hc σ π ρ b) b)) 6 0 + 1)) m μ' κ') (fun _ _ _ _ => False) := by
  intro n
  induction n with
  | zero => intros; omega
  | succ n ih =>
    intro k μ κ Mk hk hS hW hm hn
    obtain ⟨l3, l4, l5, l6, l7, l8⟩ := hW.ok
    have hi1 := hi.o1 (hc := hc) (σ := σ) (π := π) l3 k
    refine T_iload1 dX12_pass_31 rfl ?_
    refine T_aload0 dX12_pass_32 rfl ?_
    refine g12_3 _ rfl (hS.t_s) (hS.g_m) dX12_pass_33 rfl ?_
    refine g12_75 _ rfl (hW.t_m) (hW.g_pl) dX12_pass_36 rfl ?_
    refine g12_179 _ rfl (hW.t_q) (hW.g_horses) dX12_pass_39 rfl ?_
    refine T_icmp_ge 88 45 dX12_pass_42 (by decide) rfl (fun c7 => ?_) (fun c7 => ?_)
    ·
      have c7 := le_out rfl c7
      refine T_iconst (0) dX12_pass_88 rfl rfl ?_
      refine T_istore1 rfl (by decide) dX12_pass_89 rfl ?_
      have hkk : k = b := by omega
      subst hkk
      exact L3_X12_pass hX (ρ := o1C a c hc σ π ρ k) ho (hi.o1 l3 k) (k + 1) 0 _ _ _ (Nat.zero_le _) hS (hW.ks ((KS.rf ρ).o1 k)) hm.all (by omega)
    ·
      have c7 := lt_in rfl c7
      refine T_aload0 dX12_pass_45 rfl ?_
      refine g12_19 _ rfl (hS.t_s) (hS.g_a2) dX12_pass_46 rfl ?_
      refine T_iload1 dX12_pass_49 rfl ?_
      refine T_iald _ (hS.t_a2) rfl (by omega) (by decide) dX12_pass_50 rfl (hS.g_wher (by omega)) ?_
      refine T_iconst (-1) dX12_pass_51 rfl rfl ?_
      refine T_icmp_ne 82 55 dX12_pass_52 (by decide) rfl (fun c52 => ?_) (fun c52 => ?_)
      ·
        first | refine T_iinc1 rfl (by decide) dX12_pass_82 rfl (inc1 _) ?_ | refine T_iinc1 rfl (by decide) dX12_pass_82 rfl rfl ?_
        refine T_goto 31 dX12_pass_85 (by decide) ?_
        first
          | (have hn9 : ¬ (¬ (o1C a c hc σ π ρ k) 15 k = -1 ∨ (o1C a c hc σ π ρ k) 12 k ≤ 0 ∨ nI a = 0) := fun q => q.elim (fun z => z c52) (fun z => z.elim c61 (fun z2 => c74 (by rw [z2]; exact Int32.le_refl _)))
             have e : o1C a c hc σ π ρ (k + 1) = sgC c hc σ π (u2 (o1C a c hc σ π ρ k) 20 k 0) k := if_neg (by exact hn9)
             exact ih (k + 1) _ _ _ (by omega) (by rw [e]; exact hS.cg (fun f i hf => ld_sg f i (by unfold SL_in at hf; omega))) hW (hm.y hn9) (by omega))
          | (have hn9 : (¬ (o1C a c hc σ π ρ k) 15 k = -1 ∨ (o1C a c hc σ π ρ k) 12 k ≤ 0 ∨ nI a = 0) := by first | exact Or.inl c52 | exact Or.inr (Or.inl c61) | exact Or.inr (Or.inr (congrArg nI (Nat.le_zero.mp ((nI_leI (a := a) (b := 0) (by omega) (by omega)).mp c74))))
             have e : o1C a c hc σ π ρ (k + 1) = u2 (o1C a c hc σ π ρ k) 20 k 0 := ot_n (by exact hn9)
             exact ih (k + 1) _ _ _ (by omega) (by rw [e]; exact hS.cg (fun f i hf => (u2_f (by unfold SL_in at hf; omega)).symm)) hW (hm.n hn9) (by omega))
      ·
        refine T_aload0 dX12_pass_55 rfl ?_
        refine g12_31 _ rfl (hS.t_s) (hS.g_a6) dX12_pass_56 rfl ?_
        refine T_iload1 dX12_pass_59 rfl ?_
        refine T_iald _ (hS.t_a6) rfl (by omega) (by decide) dX12_pass_60 rfl (hS.g_link (by omega)) ?_
        refine T_if_le 82 64 dX12_pass_61 (by decide) rfl (fun c61 => ?_) (fun c61 => ?_)
        ·
          first | refine T_iinc1 rfl (by decide) dX12_pass_82 rfl (inc1 _) ?_ | refine T_iinc1 rfl (by decide) dX12_pass_82 rfl rfl ?_
          refine T_goto 31 dX12_pass_85 (by decide) ?_
          first
            | (have hn9 : ¬ (¬ (o1C a c hc σ π ρ k) 15 k = -1 ∨ (o1C a c hc σ π ρ k) 12 k ≤ 0 ∨ nI a = 0) := fun q => q.elim (fun z => z c52) (fun z => z.elim c61 (fun z2 => c74 (by rw [z2]; exact Int32.le_refl _)))
               have e : o1C a c hc σ π ρ (k + 1) = sgC c hc σ π (u2 (o1C a c hc σ π ρ k) 20 k 0) k := if_neg (by exact hn9)
               exact ih (k + 1) _ _ _ (by omega) (by rw [e]; exact hS.cg (fun f i hf => ld_sg f i (by unfold SL_in at hf; omega))) hW (hm.y hn9) (by omega))
            | (have hn9 : (¬ (o1C a c hc σ π ρ k) 15 k = -1 ∨ (o1C a c hc σ π ρ k) 12 k ≤ 0 ∨ nI a = 0) := by first | exact Or.inl c52 | exact Or.inr (Or.inl c61) | exact Or.inr (Or.inr (congrArg nI (Nat.le_zero.mp ((nI_leI (a := a) (b := 0) (by omega) (by omega)).mp c74))))
               have e : o1C a c hc σ π ρ (k + 1) = u2 (o1C a c hc σ π ρ k) 20 k 0 := ot_n (by exact hn9)
               exact ih (k + 1) _ _ _ (by omega) (by rw [e]; exact hS.cg (fun f i hf => (u2_f (by unfold SL_in at hf; omega)).symm)) hW (hm.n hn9) (by omega))
        ·
          refine T_aload0 dX12_pass_64 rfl ?_
          refine g12_3 _ rfl (hS.t_s) (hS.g_m) dX12_pass_65 rfl ?_
          refine g12_75 _ rfl (hW.t_m) (hW.g_pl) dX12_pass_68 rfl ?_
          refine g12_169 _ rfl (hW.t_q) (hW.g_stretches) dX12_pass_71 rfl ?_
          refine T_if_le 82 77 dX12_pass_74 (by decide) rfl (fun c74 => ?_) (fun c74 => ?_)
          ·
            first | refine T_iinc1 rfl (by decide) dX12_pass_82 rfl (inc1 _) ?_ | refine T_iinc1 rfl (by decide) dX12_pass_82 rfl rfl ?_
            refine T_goto 31 dX12_pass_85 (by decide) ?_
            first
              | (have hn9 : ¬ (¬ (o1C a c hc σ π ρ k) 15 k = -1 ∨ (o1C a c hc σ π ρ k) 12 k ≤ 0 ∨ nI a = 0) := fun q => q.elim (fun z => z c52) (fun z => z.elim c61 (fun z2 => c74 (by rw [z2]; exact Int32.le_refl _)))
                 have e : o1C a c hc σ π ρ (k + 1) = sgC c hc σ π (u2 (o1C a c hc σ π ρ k) 20 k 0) k := if_neg (by exact hn9)
                 exact ih (k + 1) _ _ _ (by omega) (by rw [e]; exact hS.cg (fun f i hf => ld_sg f i (by unfold SL_in at hf; omega))) hW (hm.y hn9) (by omega))
              | (have hn9 : (¬ (o1C a c hc σ π ρ k) 15 k = -1 ∨ (o1C a c hc σ π ρ k) 12 k ≤ 0 ∨ nI a = 0) := by first | exact Or.inl c52 | exact Or.inr (Or.inl c61) | exact Or.inr (Or.inr (congrArg nI (Nat.le_zero.mp ((nI_leI (a := a) (b := 0) (by omega) (by omega)).mp c74))))
                 have e : o1C a c hc σ π ρ (k + 1) = u2 (o1C a c hc σ π ρ k) 20 k 0 := ot_n (by exact hn9)
                 exact ih (k + 1) _ _ _ (by omega) (by rw [e]; exact hS.cg (fun f i hf => (u2_f (by unfold SL_in at hf; omega)).symm)) hW (hm.n hn9) (by omega))
          ·
            refine T_aload0 dX12_pass_77 rfl ?_
            refine T_iload1 dX12_pass_78 rfl ?_
            refine T_cV1 (c_X12_haul hX (ρ := u2 (o1C a c hc σ π ρ k) 20 k 0) ho c7 (hi1.u20 (Or.inl rfl)) (hS.rf.cg (fun f i hf => (u2_f (by unfold SL_in at hf; omega)).symm)) (hW.ks (((KS.rf ρ).o1 k).u (by decide)))) hX k12_189 (Or.inl ⟨_, _, _, _, (hS.t_s), by decide, rfl⟩) (by decide) (Nat.le_of_ble_eq_true rfl) dX12_pass_79 rfl ?_
            rintro _ _ _ M1 ⟨rfl, rfl, rfl, κ1, hN⟩
            have hW := hW.nx hN.frame
            have hS := hN.bs hS.frame
            first | refine T_iinc1 rfl (by decide) dX12_pass_82 rfl (inc1 _) ?_ | refine T_iinc1 rfl (by decide) dX12_pass_82 rfl rfl ?_
            refine T_goto 31 dX12_pass_85 (by decide) ?_
            first
              | (have hn9 : ¬ (¬ (o1C a c hc σ π ρ k) 15 k = -1 ∨ (o1C a c hc σ π ρ k) 12 k ≤ 0 ∨ nI a = 0) := fun q => q.elim (fun z => z c52) (fun z => z.elim c61 (fun z2 => c74 (by rw [z2]; exact Int32.le_refl _)))
                 have e : o1C a c hc σ π ρ (k + 1) = sgC c hc σ π (u2 (o1C a c hc σ π ρ k) 20 k 0) k := if_neg (by exact hn9)
                 exact ih (k + 1) _ _ _ (by omega) (by rw [e]; exact hS.cg (fun f i hf => ld_sg f i (by unfold SL_in at hf; omega))) hW (hm.y hn9) (by omega))
              | (have hn9 : (¬ (o1C a c hc σ π ρ k) 15 k = -1 ∨ (o1C a c hc σ π ρ k) 12 k ≤ 0 ∨ nI a = 0) := by first | exact Or.inl c52 | exact Or.inr (Or.inl c61) | exact Or.inr (Or.inr (congrArg nI (Nat.le_zero.mp ((nI_leI (a := a) (b := 0) (by omega) (by omega)).mp c74))))
                 have e : o1C a c hc σ π ρ (k + 1) = u2 (o1C a c hc σ π ρ k) 20 k 0 := ot_n (by exact hn9)
                 exact ih (k + 1) _ _ _ (by omega) (by rw [e]; exact hS.cg (fun f i hf => (u2_f (by unfold SL_in at hf; omega)).symm)) hW (hm.n hn9) (by omega))
set_option maxHeartbeats 1000000 in
theorem L1_X12_pass {l : Launch} {D : va_G} {cA : Nat → ClassId} {n0 : Nat} {sg adK adV : Nat → Nat} {sgA smA wdA bS LS : Nat} {xs : Nat → Int32} (hX : SF n0 (XW0 sg adK adV sgA smA wdA n0 bS LS xs)) {sz : Nat} {τ : TY} {M0 : ME} {m y s a b c hc wc sn : Nat} {ρ π : RH} {σ : Nat → Nat} (ho : PmOK a b c hc wc sn σ π) (hi : RI a b c ρ) : ∀ (n : Nat) (k : Nat) (μ κ : Nat → Int32) (Mk : ME) (hk : k ≤ b) (hS : SL τ M0 Mk s a b c (ρ) m μ κ) (hW : WN τ Mk m y s a b c hc wc sn ρ π σ) (hm : ∀ o, o < k → μ o = 0), b - k < n → T l D cA n0 (XW0 sg adK adV sgA smA wdA n0 bS LS xs) mX12_pass 7 0 0 sz τ Mk 2 [.ref s, .int (nI k)] [] (fun v' sz' τ' M' => v' = none ∧ sz' = sz ∧ τ' = τ ∧ ∃ μ' κ', SL τ M0 M' s a b c (hrC a b c hc wc σ π ρ) m μ' κ') (fun _ _ _ _ => False) := by
  intro n
  induction n with
  | zero => intros; omega
  | succ n ih =>
    intro k μ κ Mk hk hS hW hm hn
    obtain ⟨l3, l4, l5, l6, l7, l8⟩ := hW.ok
    refine T_iload1 dX12_pass_2 rfl ?_
    refine T_aload0 dX12_pass_3 rfl ?_
    refine g12_3 _ rfl (hS.t_s) (hS.g_m) dX12_pass_4 rfl ?_
    refine g12_75 _ rfl (hW.t_m) (hW.g_pl) dX12_pass_7 rfl ?_
    refine g12_179 _ rfl (hW.t_q) (hW.g_horses) dX12_pass_10 rfl ?_
    refine T_icmp_ge 29 16 dX12_pass_13 (by decide) rfl (fun c7 => ?_) (fun c7 => ?_)
    ·
      have c7 := le_out rfl c7
      refine T_iconst (0) dX12_pass_29 rfl rfl ?_
      refine T_istore1 rfl (by decide) dX12_pass_30 rfl ?_
      have hkk : k = b := by omega
      subst hkk
      exact L2_X12_pass hX ho hi (k + 1) 0 _ _ _ (Nat.zero_le _) hS hW (fun o ho2 => by rw [hm o ho2, if_neg (Nat.not_lt_zero _)]) (by omega)
    ·
      have c7 := lt_in rfl c7
      refine T_aload0 dX12_pass_16 rfl ?_
      refine g12_40 _ rfl (hS.t_s) (hS.g_a9) dX12_pass_17 rfl ?_
      refine T_iload1 dX12_pass_20 rfl ?_
      refine T_iconst (0) dX12_pass_21 rfl rfl ?_
      refine T_iast _ (hS.t_a9) rfl (by omega) (by decide) dX12_pass_22 rfl ?_
      refine T_nm (fun M1 e1 => ?_)
      have hS := SL.mv (hS.p_move (by omega)) e1
      have hW := hW.frU e1 (by omega)
      first | refine T_iinc1 rfl (by decide) dX12_pass_23 rfl (inc1 _) ?_ | refine T_iinc1 rfl (by decide) dX12_pass_23 rfl rfl ?_
      refine T_goto 2 dX12_pass_26 (by decide) ?_
      exact ih (k + 1) _ _ _ (by omega) hS hW (fun o ho2 => if e : o = k then by subst e; exact uI_s _ _ _ else by rw [uI_i e]; exact hm o (by omega)) (by omega)
set_option maxHeartbeats 1000000 in
theorem c_X12_pass {l : Launch} {D : va_G} {cA : Nat → ClassId} {n0 : Nat} {sg adK adV : Nat → Nat} {sgA smA wdA bS LS : Nat} {xs : Nat → Int32} (hX : SF n0 (XW0 sg adK adV sgA smA wdA n0 bS LS xs)) {sz : Nat} {τ : TY} {M0 M : ME} {m y s a b c hc wc sn : Nat} {ρ π : RH} {σ : Nat → Nat} {μ κ : Nat → Int32} (ho : PmOK a b c hc wc sn σ π) (hi : RI a b c ρ) (hS : SL τ M0 M s a b c ρ m μ κ) (hW : WN τ M m y s a b c hc wc sn ρ π σ) : CT l D cA n0 (XW0 sg adK adV sgA smA wdA n0 bS LS xs) mX12_pass 7 0 0 sz τ M [.ref s] (fun v' sz' τ' M' => v' = none ∧ sz' = sz ∧ τ' = τ ∧ ∃ μ' κ', SL τ M0 M' s a b c (hrC a b c hc wc σ π ρ) m μ' κ') := by
  refine CT.of (ls := [.ref s, UU]) (by decide) (Nat.le_of_ble_eq_true rfl) rfl ?_
  refine T_iconst (0) dX12_pass_0 rfl rfl ?_
  refine T_istore1 rfl (by decide) dX12_pass_1 rfl ?_
  exact L1_X12_pass hX ho hi (b + 1) 0 _ _ M (Nat.zero_le _) hS hW (fun _ h => absurd h (Nat.not_lt_zero _)) (by omega)
set_option maxHeartbeats 1000000 in
theorem L_X12_pass_ {l : Launch} {D : va_G} {cA : Nat → ClassId} {n0 : Nat} {sg adK adV : Nat → Nat} {sgA smA wdA bS LS : Nat} {xs : Nat → Int32} (hX : SF n0 (XW0 sg adK adV sgA smA wdA n0 bS LS xs)) {sz : Nat} {τ : TY} {M0 : ME} {m y s a b c hc wc sn : Nat} {ρ π : RH} {σ : Nat → Nat} (ho : PmOK a b c hc wc sn σ π) (hi : RI a b c ρ) {hs : Nat} (hs2 : hs < 2 ^ 31) : ∀ (n : Nat) (k : Nat) (μ κ : Nat → Int32) (Mk : ME) (hk : k ≤ hs) (hS : SL τ M0 Mk s a b c (gbC a b c hc wc σ π ρ k) m μ κ) (hW : WN τ Mk m y s a b c hc wc sn ρ π σ), hs - k < n → T l D cA n0 (XW0 sg adK adV sgA smA wdA n0 bS LS xs) mX12_pass_ 8 0 0 sz τ Mk 2 [.ref s, .int (nI hs), .int (nI k)] [] (fun v' sz' τ' M' => v' = none ∧ sz' = sz ∧ τ' = τ ∧ ∃ μ' κ', SL τ M0 M' s a b c (gbC a b c hc wc σ π ρ hs) m μ' κ') (fun _ _ _ _ => False) := by
  intro n
  induction n with
  | zero => intros; omega
  | succ n ih =>
    intro k μ κ Mk hk hS hW hn
    obtain ⟨l3, l4, l5, l6, l7, l8⟩ := hW.ok
    refine T_iload2 dX12_pass__2 rfl ?_
    refine T_iload1 dX12_pass__3 rfl ?_
    refine T_icmp_ge 17 7 dX12_pass__4 (by decide) rfl (fun c7 => ?_) (fun c7 => ?_)
    ·
      have c7 := (nI_leI (by omega) (by omega)).mp c7
      refine T_vret rfl dX12_pass__17 ?_
      have hkk : k = hs := by omega
      subst hkk
      exact ⟨rfl, rfl, rfl, _, _, hS⟩
    ·
      have c7 := Nat.lt_of_not_le (fun q => c7 ((nI_leI (by omega) (by omega)).mpr q))
      refine T_aload0 dX12_pass__7 rfl ?_
      refine T_cV0 (c_X12_pass hX ho (hi.gb l3 k) hS.rf (hW.ks ((KS.rf ρ).gb k))) hX k12_195 (Or.inl ⟨_, _, _, _, (hS.t_s), by decide, rfl⟩) (by decide) (Nat.le_of_ble_eq_true rfl) dX12_pass__8 rfl ?_
      rintro _ _ _ M1 ⟨rfl, rfl, rfl, μ1, κ1, hN⟩
      have hW := hW.nx hN.frame
      have hS := hN.bs hS.frame
      first | refine T_iinc2 rfl (by decide) dX12_pass__11 rfl (inc1 _) ?_ | refine T_iinc2 rfl (by decide) dX12_pass__11 rfl rfl ?_
      refine T_goto 2 dX12_pass__14 (by decide) ?_
      exact ih (k + 1) _ _ _ (by omega) hS hW (by omega)
set_option maxHeartbeats 1000000 in
theorem c_X12_pass_ {l : Launch} {D : va_G} {cA : Nat → ClassId} {n0 : Nat} {sg adK adV : Nat → Nat} {sgA smA wdA bS LS : Nat} {xs : Nat → Int32} (hX : SF n0 (XW0 sg adK adV sgA smA wdA n0 bS LS xs)) {sz : Nat} {τ : TY} {M0 M : ME} {m y s a b c hc wc sn : Nat} {ρ π : RH} {σ : Nat → Nat} {μ κ : Nat → Int32} (ho : PmOK a b c hc wc sn σ π) (hi : RI a b c ρ) (hS : SL τ M0 M s a b c ρ m μ κ) (hW : WN τ M m y s a b c hc wc sn ρ π σ) {hs : Nat} (hs2 : hs < 2 ^ 31) : CT l D cA n0 (XW0 sg adK adV sgA smA wdA n0 bS LS xs) mX12_pass_ 8 0 0 sz τ M [.ref s, .int (nI hs)] (fun v' sz' τ' M' => v' = none ∧ sz' = sz ∧ τ' = τ ∧ ∃ μ' κ', SL τ M0 M' s a b c (gbC a b c hc wc σ π ρ hs) m μ' κ') := by
  refine CT.of (ls := [.ref s, .int (nI hs), UU]) (by decide) (Nat.le_of_ble_eq_true rfl) rfl ?_
  refine T_iconst (0) dX12_pass__0 rfl rfl ?_
  refine T_istore2 rfl (by decide) dX12_pass__1 rfl ?_
  exact L_X12_pass_ hX ho hi hs2 (hs + 1) 0 _ _ M (Nat.zero_le _) hS hW (by omega)
