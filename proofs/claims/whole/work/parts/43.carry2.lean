theorem ev_p {c : Nat} {ρ : RH} {σ : Nat → Nat} {w : Nat → Int32} {f n : Nat} {κ : Nat → Int32} (hz : tkN (σ (f + n)) = 0) : (evF c ρ σ w f κ (n + 1)).1 = uI (evF c ρ σ w f κ n).1 (hgF σ f n) (fdV c ρ (σ (f + n)) (w (f + n))) := by
  show (stpF _ _ _ _ _).1 = _
  unfold stpF
  rw [if_pos hz, hz, ev_hg]; rfl
theorem ev_j {c : Nat} {ρ : RH} {σ : Nat → Nat} {w : Nat → Int32} {f n k : Nat} {κ : Nat → Int32} (hz : ¬ tkN (σ (f + n)) = 0) (hk : hgF σ f n - tkN (σ (f + n)) = k) : (evF c ρ σ w f κ (n + 1)).1 = uI (evF c ρ σ w f κ n).1 k (jnF (σ (f + n)) ((evF c ρ σ w f κ n).1 k) ((evF c ρ σ w f κ n).1 (k + 1))) := by
  show (stpF _ _ _ _ _).1 = _
  unfold stpF
  rw [if_neg hz, ev_hg, hk]
theorem hg_u {σ : Nat → Nat} {f n : Nat} (h : tkN (σ (f + n)) = 1) (h2 : 1 ≤ hgF σ f n) : hgF σ f (n + 1) = hgF σ f n := by
  show hgF σ f n - tkN _ + 1 = _
  rw [h]; omega
theorem ev_u {c : Nat} {ρ : RH} {σ : Nat → Nat} {w : Nat → Int32} {f n : Nat} {κ : Nat → Int32} (h : tkN (σ (f + n)) = 1) : (evF c ρ σ w f κ (n + 1)).1 = uI (evF c ρ σ w f κ n).1 (hgF σ f n - 1) (jnF (σ (f + n)) ((evF c ρ σ w f κ n).1 (hgF σ f n - 1)) ((evF c ρ σ w f κ n).1 (hgF σ f n - 1 + 1))) := ev_j (by omega) (by rw [h])
theorem ev_47 {c : Nat} {ρ : RH} {σ : Nat → Nat} {w : Nat → Int32} {f n : Nat} {κ : Nat → Int32} (h : σ (f + n) = 47) : (evF c ρ σ w f κ (n + 1)).1 = uI (evF c ρ σ w f κ n).1 (hgF σ f n - 1) (-((evF c ρ σ w f κ n).1 (hgF σ f n - 1))) := by
  rw [ev_u (by rw [h]; decide), h]; simp [jnF]
theorem ev_23 {c : Nat} {ρ : RH} {σ : Nat → Nat} {w : Nat → Int32} {f n : Nat} {κ : Nat → Int32} (h : σ (f + n) = 23) : (evF c ρ σ w f κ (n + 1)).1 = uI (evF c ρ σ w f κ n).1 (hgF σ f n - 1) (1 - ((evF c ρ σ w f κ n).1 (hgF σ f n - 1))) := by
  rw [ev_u (by rw [h]; decide), h]; simp [jnF]
theorem ev_b {c : Nat} {ρ : RH} {σ : Nat → Nat} {w : Nat → Int32} {f n : Nat} {κ : Nat → Int32} (h : tkN (σ (f + n)) = 2) : (evF c ρ σ w f κ (n + 1)).1 = uI (evF c ρ σ w f κ n).1 (hgF σ f n - 2) (jnF (σ (f + n)) ((evF c ρ σ w f κ n).1 (hgF σ f n - 2)) ((evF c ρ σ w f κ n).1 (hgF σ f n - 2 + 1))) := ev_j (by omega) (by rw [h])
theorem ps_out {σ : Nat → Nat} {t k : Nat} (h : nI (psF σ t) ≤ nI (psF σ k)) (h1 : t ≤ 400) (h2 : k ≤ 400) : t ≤ k := Nat.le_of_not_lt fun q => by
  have h3 := ps_mono (σ := σ) q
  have h4 := (ps_le (σ := σ) t).1
  have h5 := (ps_le (σ := σ) k).1
  have h6 := (nI_leI (by omega) (by omega)).mp h
  omega
theorem ps_in {σ : Nat → Nat} {t k : Nat} (h : ¬ nI (psF σ t) ≤ nI (psF σ k)) (h1 : t ≤ 400) (h2 : k ≤ 400) : k < t := Nat.lt_of_not_le fun q => by
  have h4 := (ps_le (σ := σ) t).1
  have h5 := (ps_le (σ := σ) k).1
  refine h ((nI_leI (by omega) (by omega)).mpr ?_)
  by_cases e : t = k
  · rw [e]; exact Nat.le_refl _
  · exact Nat.le_of_lt (ps_mono (by omega))
theorem nI_m1p {h : Nat} : nI h + -1 + Int32.ofInt 1 = nI h := by
  rw [Int32.add_assoc]; exact Int32.add_zero _
theorem nI_pr1 {h : Nat} (h1 : 1 ≤ h) : nI h + -1 = nI (h - 1) := by
  obtain ⟨k, rfl⟩ : ∃ k, h = k + 1 := ⟨h - 1, by omega⟩
  rw [← nI_1 k, Int32.add_assoc]
  exact Int32.add_zero _
theorem nI_m2 {h : Nat} (h1 : 2 ≤ h) : nI h + -1 + Int32.ofInt (-1) = nI (h - 2) := by
  rw [nI_pr1 (by omega)]
  exact nI_pr1 (h := h - 1) (by omega)
theorem wd_12 (o : Nat) : wdF o = 1 ∨ wdF o = 2 := by unfold wdF; split <;> simp
set_option maxHeartbeats 1000000 in
theorem L_X12_carryOut {l : Launch} {D : va_G} {cA : Nat → ClassId} {n0 : Nat} {sg adK adV : Nat → Nat} {sgA smA wdA bS LS : Nat} {xs : Nat → Int32} (hX : SF n0 (XW0 sg adK adV sgA smA wdA n0 bS LS xs)) {sz : Nat} {τ : TY} {M0 : ME} {m y s a b c hc wc sn : Nat} {ρ π : RH} {σ : Nat → Nat} {μ : Nat → Int32} {f t : Nat} (hs : SgOK a b σ (π 70) f t) (htn : t ≤ sn) {κ0 : Nat → Int32} : ∀ (n : Nat) (n1 : Nat) (κ : Nat → Int32) (u : Value) (Mk : ME) (hk : f + n1 ≤ t) (hκ : κ = (evF c ρ σ (π 70) f κ0 n1).1) (hS : SL τ M0 Mk s a b c ρ m μ κ) (hW : WN τ Mk m y s a b c hc wc sn ρ π σ), t - (f + n1) < n → T l D cA n0 (XW0 sg adK adV sgA smA wdA n0 bS LS xs) mX12_carryOut 4 0 0 sz τ Mk 5 [.ref s, .int (nI (psF σ f)), .int (nI (psF σ t)), .int (nI (hgF σ f n1) + -1), .int (nI (psF σ (f + n1))), u] [] (fun v' sz' τ' M' => v' = some (.int ((evF c ρ σ (π 70) f κ0 (t - f)).1 0)) ∧ sz' = sz ∧ τ' = τ ∧ ∃ κ', SL τ M0 M' s a b c ρ m μ κ') (fun _ _ _ _ => False) := by
  intro n
  induction n with
  | zero => intros; omega
  | succ n ih =>
    intro n1 κ u Mk hk hκ hS hW hn
    obtain ⟨l3, l4, l5, l6, l7, l8⟩ := hW.ok
    obtain ⟨hft, ht4, hs⟩ := id hs
    have h9 := hg_le (σ := σ) (f := f) n1
    have p1 := (ps_le (σ := σ) (f + n1)).1
    have p2 : psF σ (f + n1 + 1) = psF σ (f + n1) + wdF (σ (f + n1)) := rfl
    have p3 := (ps_le (σ := σ) (f + n1 + 1)).1
    have p4 := wd_12 (σ (f + n1))
    refine T_iload4 dX12_carryOut_5 rfl ?_
    refine T_iload2 dX12_carryOut_7 rfl ?_
    refine T_icmp_ge 191 11 dX12_carryOut_8 (by decide) rfl (fun c8 => ?_) (fun c8 => ?_)
    ·
      have c8 := ps_out c8 ht4 (by omega)
      refine T_aload0 dX12_carryOut_191 rfl ?_
      refine g12_52 _ rfl (hS.t_s) (hS.g_a13) dX12_carryOut_192 rfl ?_
      refine T_iconst (0) dX12_carryOut_195 rfl rfl ?_
      refine T_iald _ (hS.t_a13) (show (0 : Int32) = nI 0 from rfl) (by omega) (by decide) dX12_carryOut_196 rfl (hS.g_stac (by omega)) ?_
      refine T_iret rfl rfl dX12_carryOut_197 ?_
      have e : t - f = n1 := by omega
      rw [e, ← hκ]
      exact ⟨rfl, rfl, rfl, _, hS⟩
    ·
      have c8 := ps_in c8 ht4 (by omega)
      obtain ⟨q1, q2⟩ := hs n1 c8
      refine T_aload0 dX12_carryOut_11 rfl ?_
      refine g12_3 _ rfl (hS.t_s) (hS.g_m) dX12_carryOut_12 rfl ?_
      refine g12_75 _ rfl (hW.t_m) (hW.g_pl) dX12_carryOut_15 rfl ?_
      refine g12_198 _ rfl (hW.t_q) (hW.g_code) dX12_carryOut_18 rfl ?_
      refine T_iload4 dX12_carryOut_21 rfl ?_
      refine T_iald _ (hW.t_code) rfl (by omega) (by decide) dX12_carryOut_23 rfl (hW.v_code (by omega)) ?_
      refine T_istore5 rfl (by decide) dX12_carryOut_24 rfl ?_
      first | refine T_iinc4 rfl (by decide) dX12_carryOut_26 rfl (inc1 _) ?_ | refine T_iinc4 rfl (by decide) dX12_carryOut_26 rfl rfl ?_
      refine T_iload5 dX12_carryOut_29 rfl ?_
      refine T_cSN1 (c_X13_isPushed hX _) hX k12_201 (by decide) (Nat.le_of_ble_eq_true rfl) dX12_carryOut_31 rfl ?_
      rintro _ _ _ _ ⟨rfl, rfl, rfl, rfl⟩
      refine T_if_eq 112 37 dX12_carryOut_34 (by decide) rfl (fun c34 => ?_) (fun c34 => ?_)
      ·
        have q8 := q2.resolve_left (fun z => by rw [(mk_st z).1] at c34; exact absurd c34 (by decide))
        obtain ⟨j1, j2, j3, j4⟩ := tk_jn q8
        obtain ⟨-, z1, z2, z3, z4⟩ := mk_jn q8
        have y3 : psF σ (f + (n1 + 1)) = psF σ (f + n1) + 1 := by show psF σ (f + n1) + wdF (σ (f + n1)) = _; rw [z1]
        refine T_iload5 dX12_carryOut_112 rfl ?_
        refine T_bipush (31) dX12_carryOut_114 rfl rfl ?_
        refine T_icmp_eq 126 119 dX12_carryOut_116 (by decide) rfl (fun c116 => ?_) (fun c116 => ?_)
        ·
          refine T_aload0 dX12_carryOut_126 rfl ?_
          refine g12_52 _ rfl (hS.t_s) (hS.g_a13) dX12_carryOut_127 rfl ?_
          refine T_iload3 dX12_carryOut_130 rfl ?_
          refine T_iload5 dX12_carryOut_131 rfl ?_
          refine T_bipush (31) dX12_carryOut_133 rfl rfl ?_
          refine T_icmp_ne 148 138 dX12_carryOut_135 (by decide) rfl (fun c135 => ?_) (fun c135 => ?_)
          ·
            refine T_iconst (1) dX12_carryOut_148 rfl rfl ?_
            refine T_aload0 dX12_carryOut_149 rfl ?_
            refine g12_52 _ rfl (hS.t_s) (hS.g_a13) dX12_carryOut_150 rfl ?_
            refine T_iload3 dX12_carryOut_153 rfl ?_
            refine T_iald _ (hS.t_a13) (nI_pr1 (by omega)) (by omega) (by decide) dX12_carryOut_154 rfl (hS.g_stac (by omega)) ?_
            refine T_isub dX12_carryOut_155 rfl ?_
            refine T_iast _ (hS.t_a13) (nI_pr1 (by omega)) (by omega) (by decide) dX12_carryOut_156 rfl ?_
            refine T_nm (fun M1 e1 => ?_)
            have hS := SL.mv (hS.p_stac (by omega)) e1
            have hW := hW.frU e1 (by omega)
            refine T_goto 5 dX12_carryOut_157 (by decide) ?_
            first
              | exact absurd c116 c135
              | exact absurd c135 c116
              | (have y1 : hgF σ f (n1 + 1) = hgF σ f n1 + 1 := by show hgF σ f n1 - tkN _ + 1 = _; rw [j1]; rfl
                 have h := ih (n1 + 1) _ (.int (nI (mkF (σ (f + n1))))) _ (by omega) (by rw [ev_p j1, hκ]) hS hW (by omega)
                 rw [y1, show nI (hgF σ f n1 + 1) + -1 = nI (hgF σ f n1) from nI_pr1 (by omega)] at h
                 exact h)
              | (have z7 : σ (f + n1) = 23 := z3 c123
                 have z8 : tkN (σ (f + n1)) = 1 := by rw [z7]; decide
                 have y1 : hgF σ f (n1 + 1) = hgF σ f n1 := hg_u z8 (by omega)
                 have h := ih (n1 + 1) _ (.int (nI (mkF (σ (f + n1))))) _ (by omega) (by rw [ev_23 z7, hκ]) hS hW (by omega)
                 rw [y1, y3] at h
                 exact h)
              | (have z7 : σ (f + n1) = 47 := z2 c116
                 have z8 : tkN (σ (f + n1)) = 1 := by rw [z7]; decide
                 have y1 : hgF σ f (n1 + 1) = hgF σ f n1 := hg_u z8 (by omega)
                 have h := ih (n1 + 1) _ (.int (nI (mkF (σ (f + n1))))) _ (by omega) (by rw [ev_47 z7, hκ]) hS hW (by omega)
                 rw [y1, y3] at h
                 exact h)
              | (have y1 : hgF σ f (n1 + 1) = hgF σ f n1 - 2 + 1 := by show hgF σ f n1 - tkN _ + 1 = _; rw [z6]
                 have h := ih (n1 + 1) _ (.int (nI (mkF (σ (f + n1))))) _ (by omega) (by rw [ev_b z6, hκ]) hS hW (by omega)
                 rw [y1, y3, show nI (hgF σ f n1 - 2 + 1) + -1 = nI (hgF σ f n1 - 2) from nI_pr1 (by omega)] at h
                 exact h)
          ·
            refine T_aload0 dX12_carryOut_138 rfl ?_
            refine g12_52 _ rfl (hS.t_s) (hS.g_a13) dX12_carryOut_139 rfl ?_
            refine T_iload3 dX12_carryOut_142 rfl ?_
            refine T_iald _ (hS.t_a13) (nI_pr1 (by omega)) (by omega) (by decide) dX12_carryOut_143 rfl (hS.g_stac (by omega)) ?_
            refine T_ineg dX12_carryOut_144 rfl ?_
            refine T_goto 156 dX12_carryOut_145 (by decide) ?_
            refine T_iast _ (hS.t_a13) (nI_pr1 (by omega)) (by omega) (by decide) dX12_carryOut_156 rfl ?_
            refine T_nm (fun M2 e2 => ?_)
            have hS := SL.mv (hS.p_stac (by omega)) e2
            have hW := hW.frU e2 (by omega)
            refine T_goto 5 dX12_carryOut_157 (by decide) ?_
            first
              | exact absurd c116 c135
              | exact absurd c135 c116
              | (have y1 : hgF σ f (n1 + 1) = hgF σ f n1 + 1 := by show hgF σ f n1 - tkN _ + 1 = _; rw [j1]; rfl
                 have h := ih (n1 + 1) _ (.int (nI (mkF (σ (f + n1))))) _ (by omega) (by rw [ev_p j1, hκ]) hS hW (by omega)
                 rw [y1, show nI (hgF σ f n1 + 1) + -1 = nI (hgF σ f n1) from nI_pr1 (by omega)] at h
                 exact h)
              | (have z7 : σ (f + n1) = 23 := z3 c123
                 have z8 : tkN (σ (f + n1)) = 1 := by rw [z7]; decide
                 have y1 : hgF σ f (n1 + 1) = hgF σ f n1 := hg_u z8 (by omega)
                 have h := ih (n1 + 1) _ (.int (nI (mkF (σ (f + n1))))) _ (by omega) (by rw [ev_23 z7, hκ]) hS hW (by omega)
                 rw [y1, y3] at h
                 exact h)
              | (have z7 : σ (f + n1) = 47 := z2 c116
                 have z8 : tkN (σ (f + n1)) = 1 := by rw [z7]; decide
                 have y1 : hgF σ f (n1 + 1) = hgF σ f n1 := hg_u z8 (by omega)
                 have h := ih (n1 + 1) _ (.int (nI (mkF (σ (f + n1))))) _ (by omega) (by rw [ev_47 z7, hκ]) hS hW (by omega)
                 rw [y1, y3] at h
                 exact h)
              | (have y1 : hgF σ f (n1 + 1) = hgF σ f n1 - 2 + 1 := by show hgF σ f n1 - tkN _ + 1 = _; rw [z6]
                 have h := ih (n1 + 1) _ (.int (nI (mkF (σ (f + n1))))) _ (by omega) (by rw [ev_b z6, hκ]) hS hW (by omega)
                 rw [y1, y3, show nI (hgF σ f n1 - 2 + 1) + -1 = nI (hgF σ f n1 - 2) from nI_pr1 (by omega)] at h
                 exact h)
        ·
          refine T_iload5 dX12_carryOut_119 rfl ?_
          refine T_bipush (23) dX12_carryOut_121 rfl rfl ?_
          refine T_icmp_ne 160 126 dX12_carryOut_123 (by decide) rfl (fun c123 => ?_) (fun c123 => ?_)
          ·
            obtain ⟨z5, z6⟩ := z4 c116 c123
            refine T_iinc3 rfl (by decide) dX12_carryOut_160 rfl (nI_m2 (by omega)) ?_
            refine T_aload0 dX12_carryOut_163 rfl ?_
            refine g12_52 _ rfl (hS.t_s) (hS.g_a13) dX12_carryOut_164 rfl ?_
            refine T_iload3 dX12_carryOut_167 rfl ?_
            refine T_iload5 dX12_carryOut_168 rfl ?_
            refine T_aload0 dX12_carryOut_170 rfl ?_
            refine g12_52 _ rfl (hS.t_s) (hS.g_a13) dX12_carryOut_171 rfl ?_
            refine T_iload3 dX12_carryOut_174 rfl ?_
            refine T_iald _ (hS.t_a13) rfl (by omega) (by decide) dX12_carryOut_175 rfl (hS.g_stac (by omega)) ?_
            refine T_aload0 dX12_carryOut_176 rfl ?_
            refine g12_52 _ rfl (hS.t_s) (hS.g_a13) dX12_carryOut_177 rfl ?_
            refine T_iload3 dX12_carryOut_180 rfl ?_
            refine T_iconst (1) dX12_carryOut_181 rfl rfl ?_
            refine T_iadd dX12_carryOut_182 rfl ?_
            refine T_iald _ (hS.t_a13) (inc1 _) (by omega) (by decide) dX12_carryOut_183 rfl (hS.g_stac (by omega)) ?_
            refine T_cSN3 (c_X13_both hX z5 _ _) hX k12_210 (by decide) (Nat.le_of_ble_eq_true rfl) dX12_carryOut_184 rfl ?_
            rintro _ _ _ _ ⟨rfl, rfl, rfl, rfl⟩
            refine T_iast _ (hS.t_a13) rfl (by omega) (by decide) dX12_carryOut_187 rfl ?_
            refine T_nm (fun M3 e3 => ?_)
            have hS := SL.mv (hS.p_stac (by omega)) e3
            have hW := hW.frU e3 (by omega)
            refine T_goto 5 dX12_carryOut_188 (by decide) ?_
            first
              | exact absurd c116 c135
              | exact absurd c135 c116
              | (have y1 : hgF σ f (n1 + 1) = hgF σ f n1 + 1 := by show hgF σ f n1 - tkN _ + 1 = _; rw [j1]; rfl
                 have h := ih (n1 + 1) _ (.int (nI (mkF (σ (f + n1))))) _ (by omega) (by rw [ev_p j1, hκ]) hS hW (by omega)
                 rw [y1, show nI (hgF σ f n1 + 1) + -1 = nI (hgF σ f n1) from nI_pr1 (by omega)] at h
                 exact h)
              | (have z7 : σ (f + n1) = 23 := z3 c123
                 have z8 : tkN (σ (f + n1)) = 1 := by rw [z7]; decide
                 have y1 : hgF σ f (n1 + 1) = hgF σ f n1 := hg_u z8 (by omega)
                 have h := ih (n1 + 1) _ (.int (nI (mkF (σ (f + n1))))) _ (by omega) (by rw [ev_23 z7, hκ]) hS hW (by omega)
                 rw [y1, y3] at h
                 exact h)
              | (have z7 : σ (f + n1) = 47 := z2 c116
                 have z8 : tkN (σ (f + n1)) = 1 := by rw [z7]; decide
                 have y1 : hgF σ f (n1 + 1) = hgF σ f n1 := hg_u z8 (by omega)
                 have h := ih (n1 + 1) _ (.int (nI (mkF (σ (f + n1))))) _ (by omega) (by rw [ev_47 z7, hκ]) hS hW (by omega)
                 rw [y1, y3] at h
                 exact h)
              | (have y1 : hgF σ f (n1 + 1) = hgF σ f n1 - 2 + 1 := by show hgF σ f n1 - tkN _ + 1 = _; rw [z6]
                 have h := ih (n1 + 1) _ (.int (nI (mkF (σ (f + n1))))) _ (by omega) (by rw [ev_b z6, hκ]) hS hW (by omega)
                 rw [y1, y3, show nI (hgF σ f n1 - 2 + 1) + -1 = nI (hgF σ f n1 - 2) from nI_pr1 (by omega)] at h
                 exact h)
          ·
            refine T_aload0 dX12_carryOut_126 rfl ?_
            refine g12_52 _ rfl (hS.t_s) (hS.g_a13) dX12_carryOut_127 rfl ?_
            refine T_iload3 dX12_carryOut_130 rfl ?_
            refine T_iload5 dX12_carryOut_131 rfl ?_
            refine T_bipush (31) dX12_carryOut_133 rfl rfl ?_
            refine T_icmp_ne 148 138 dX12_carryOut_135 (by decide) rfl (fun c135 => ?_) (fun c135 => ?_)
            ·
              refine T_iconst (1) dX12_carryOut_148 rfl rfl ?_
              refine T_aload0 dX12_carryOut_149 rfl ?_
              refine g12_52 _ rfl (hS.t_s) (hS.g_a13) dX12_carryOut_150 rfl ?_
              refine T_iload3 dX12_carryOut_153 rfl ?_
              refine T_iald _ (hS.t_a13) (nI_pr1 (by omega)) (by omega) (by decide) dX12_carryOut_154 rfl (hS.g_stac (by omega)) ?_
              refine T_isub dX12_carryOut_155 rfl ?_
              refine T_iast _ (hS.t_a13) (nI_pr1 (by omega)) (by omega) (by decide) dX12_carryOut_156 rfl ?_
              refine T_nm (fun M4 e4 => ?_)
              have hS := SL.mv (hS.p_stac (by omega)) e4
              have hW := hW.frU e4 (by omega)
              refine T_goto 5 dX12_carryOut_157 (by decide) ?_
              first
                | exact absurd c116 c135
                | exact absurd c135 c116
                | (have y1 : hgF σ f (n1 + 1) = hgF σ f n1 + 1 := by show hgF σ f n1 - tkN _ + 1 = _; rw [j1]; rfl
                   have h := ih (n1 + 1) _ (.int (nI (mkF (σ (f + n1))))) _ (by omega) (by rw [ev_p j1, hκ]) hS hW (by omega)
                   rw [y1, show nI (hgF σ f n1 + 1) + -1 = nI (hgF σ f n1) from nI_pr1 (by omega)] at h
                   exact h)
                | (have z7 : σ (f + n1) = 23 := z3 c123
                   have z8 : tkN (σ (f + n1)) = 1 := by rw [z7]; decide
                   have y1 : hgF σ f (n1 + 1) = hgF σ f n1 := hg_u z8 (by omega)
                   have h := ih (n1 + 1) _ (.int (nI (mkF (σ (f + n1))))) _ (by omega) (by rw [ev_23 z7, hκ]) hS hW (by omega)
                   rw [y1, y3] at h
                   exact h)
                | (have z7 : σ (f + n1) = 47 := z2 c116
                   have z8 : tkN (σ (f + n1)) = 1 := by rw [z7]; decide
                   have y1 : hgF σ f (n1 + 1) = hgF σ f n1 := hg_u z8 (by omega)
                   have h := ih (n1 + 1) _ (.int (nI (mkF (σ (f + n1))))) _ (by omega) (by rw [ev_47 z7, hκ]) hS hW (by omega)
                   rw [y1, y3] at h
                   exact h)
                | (have y1 : hgF σ f (n1 + 1) = hgF σ f n1 - 2 + 1 := by show hgF σ f n1 - tkN _ + 1 = _; rw [z6]
                   have h := ih (n1 + 1) _ (.int (nI (mkF (σ (f + n1))))) _ (by omega) (by rw [ev_b z6, hκ]) hS hW (by omega)
                   rw [y1, y3, show nI (hgF σ f n1 - 2 + 1) + -1 = nI (hgF σ f n1 - 2) from nI_pr1 (by omega)] at h
                   exact h)
            ·
              refine T_aload0 dX12_carryOut_138 rfl ?_
              refine g12_52 _ rfl (hS.t_s) (hS.g_a13) dX12_carryOut_139 rfl ?_
              refine T_iload3 dX12_carryOut_142 rfl ?_
              refine T_iald _ (hS.t_a13) (nI_pr1 (by omega)) (by omega) (by decide) dX12_carryOut_143 rfl (hS.g_stac (by omega)) ?_
              refine T_ineg dX12_carryOut_144 rfl ?_
              refine T_goto 156 dX12_carryOut_145 (by decide) ?_
              refine T_iast _ (hS.t_a13) (nI_pr1 (by omega)) (by omega) (by decide) dX12_carryOut_156 rfl ?_
              refine T_nm (fun M5 e5 => ?_)
              have hS := SL.mv (hS.p_stac (by omega)) e5
              have hW := hW.frU e5 (by omega)
              refine T_goto 5 dX12_carryOut_157 (by decide) ?_
              first
                | exact absurd c116 c135
                | exact absurd c135 c116
                | (have y1 : hgF σ f (n1 + 1) = hgF σ f n1 + 1 := by show hgF σ f n1 - tkN _ + 1 = _; rw [j1]; rfl
                   have h := ih (n1 + 1) _ (.int (nI (mkF (σ (f + n1))))) _ (by omega) (by rw [ev_p j1, hκ]) hS hW (by omega)
                   rw [y1, show nI (hgF σ f n1 + 1) + -1 = nI (hgF σ f n1) from nI_pr1 (by omega)] at h
                   exact h)
                | (have z7 : σ (f + n1) = 23 := z3 c123
                   have z8 : tkN (σ (f + n1)) = 1 := by rw [z7]; decide
                   have y1 : hgF σ f (n1 + 1) = hgF σ f n1 := hg_u z8 (by omega)
                   have h := ih (n1 + 1) _ (.int (nI (mkF (σ (f + n1))))) _ (by omega) (by rw [ev_23 z7, hκ]) hS hW (by omega)
                   rw [y1, y3] at h
                   exact h)
                | (have z7 : σ (f + n1) = 47 := z2 c116
                   have z8 : tkN (σ (f + n1)) = 1 := by rw [z7]; decide
                   have y1 : hgF σ f (n1 + 1) = hgF σ f n1 := hg_u z8 (by omega)
                   have h := ih (n1 + 1) _ (.int (nI (mkF (σ (f + n1))))) _ (by omega) (by rw [ev_47 z7, hκ]) hS hW (by omega)
                   rw [y1, y3] at h
                   exact h)
                | (have y1 : hgF σ f (n1 + 1) = hgF σ f n1 - 2 + 1 := by show hgF σ f n1 - tkN _ + 1 = _; rw [z6]
                   have h := ih (n1 + 1) _ (.int (nI (mkF (σ (f + n1))))) _ (by omega) (by rw [ev_b z6, hκ]) hS hW (by omega)
                   rw [y1, y3, show nI (hgF σ f n1 - 2 + 1) + -1 = nI (hgF σ f n1 - 2) from nI_pr1 (by omega)] at h
                   exact h)
      ·
        have q8 := q2.resolve_right (fun z => c34 (mk_jn z).1)
        obtain ⟨j1, -⟩ := tk_st q8
        have h10 : hgF σ f n1 < 400 := by omega
        refine T_iinc3 rfl (by decide) dX12_carryOut_37 rfl nI_m1p ?_
        refine T_aload0 dX12_carryOut_40 rfl ?_
        refine g12_52 _ rfl (hS.t_s) (hS.g_a13) dX12_carryOut_41 rfl ?_
        refine T_iload3 dX12_carryOut_44 rfl ?_
        refine T_aload0 dX12_carryOut_45 rfl ?_
        refine T_iload5 dX12_carryOut_46 rfl ?_
        refine T_joinI 80 (fun v => v = if wdF (σ (f + n1)) = 2 then π 70 (f + n1) else -1) (fun hJ => ?_) (fun x80 hx80 => ?_)
        ·
          refine T_iload5 dX12_carryOut_48 rfl ?_
          refine T_bipush (30) dX12_carryOut_50 rfl rfl ?_
          refine T_icmp_eq 63 55 dX12_carryOut_52 (by decide) rfl (fun c52 => ?_) (fun c52 => ?_)
          ·
            have hw2 : wdF (σ (f + n1)) = 2 := Decidable.byContradiction fun z => by first | exact ((mk_st q8).2.2 z).1 c52 | exact c60 ((mk_st q8).2.2 z).2
            refine T_aload0 dX12_carryOut_63 rfl ?_
            refine g12_3 _ rfl (hS.t_s) (hS.g_m) dX12_carryOut_64 rfl ?_
            refine g12_75 _ rfl (hW.t_m) (hW.g_pl) dX12_carryOut_67 rfl ?_
            refine g12_198 _ rfl (hW.t_q) (hW.g_code) dX12_carryOut_70 rfl ?_
            refine T_iload4 dX12_carryOut_73 rfl ?_
            refine T_iald _ hW.t_code rfl (by omega) (by decide) dX12_carryOut_75 rfl (hW.v_arg (by omega) hw2) ?_
            refine T_goto 80 dX12_carryOut_76 (by decide) ?_
            refine hJ _ ?_
            first | exact (if_pos hw2).symm | exact (if_neg (fun z => ((mk_st q8).2.1 z).elim c52 (fun y2 => y2 c60))).symm
          ·
            refine T_iload5 dX12_carryOut_55 rfl ?_
            refine T_cSN1 (c_X13_isOf hX _) hX k12_204 (by decide) (Nat.le_of_ble_eq_true rfl) dX12_carryOut_57 rfl ?_
            rintro _ _ _ _ ⟨rfl, rfl, rfl, rfl⟩
            refine T_if_eq 79 63 dX12_carryOut_60 (by decide) rfl (fun c60 => ?_) (fun c60 => ?_)
            ·
              refine T_iconst (-1) dX12_carryOut_79 rfl rfl ?_
              refine hJ _ ?_
              first | exact (if_pos hw2).symm | exact (if_neg (fun z => ((mk_st q8).2.1 z).elim c52 (fun y2 => y2 c60))).symm
            ·
              have hw2 : wdF (σ (f + n1)) = 2 := Decidable.byContradiction fun z => by first | exact ((mk_st q8).2.2 z).1 c52 | exact c60 ((mk_st q8).2.2 z).2
              refine T_aload0 dX12_carryOut_63 rfl ?_
              refine g12_3 _ rfl (hS.t_s) (hS.g_m) dX12_carryOut_64 rfl ?_
              refine g12_75 _ rfl (hW.t_m) (hW.g_pl) dX12_carryOut_67 rfl ?_
              refine g12_198 _ rfl (hW.t_q) (hW.g_code) dX12_carryOut_70 rfl ?_
              refine T_iload4 dX12_carryOut_73 rfl ?_
              refine T_iald _ hW.t_code rfl (by omega) (by decide) dX12_carryOut_75 rfl (hW.v_arg (by omega) hw2) ?_
              refine T_goto 80 dX12_carryOut_76 (by decide) ?_
              refine hJ _ ?_
              first | exact (if_pos hw2).symm | exact (if_neg (fun z => ((mk_st q8).2.1 z).elim c52 (fun y2 => y2 c60))).symm
        ·
          refine T_cV2 (c_X12_pushed hX hS hW q8 _ (fun z => by rw [hx80, if_pos z])) hX k12_207 (Or.inl ⟨_, _, _, _, (hS.t_s), by decide, rfl⟩) (by decide) (Nat.le_of_ble_eq_true rfl) dX12_carryOut_80 rfl ?_
          rintro _ _ _ _ ⟨rfl, rfl, rfl, rfl⟩
          refine T_iast _ (hS.t_a13) rfl (by omega) (by decide) dX12_carryOut_83 rfl ?_
          refine T_nm (fun M6 e6 => ?_)
          have hS := SL.mv (hS.p_stac (by omega)) e6
          have hW := hW.frU e6 (by omega)
          refine T_iload4 dX12_carryOut_84 rfl ?_
          refine T_joinI 106 (fun v => v = nI (wdF (σ (f + n1)) - 1)) (fun hJ => ?_) (fun x106 hx106 => ?_)
          ·
            refine T_iload5 dX12_carryOut_86 rfl ?_
            refine T_bipush (30) dX12_carryOut_88 rfl rfl ?_
            refine T_icmp_eq 101 93 dX12_carryOut_90 (by decide) rfl (fun c90 => ?_) (fun c90 => ?_)
            ·
              refine T_iconst (1) dX12_carryOut_101 rfl rfl ?_
              refine T_goto 106 dX12_carryOut_102 (by decide) ?_
              refine hJ _ ?_
              have hw : wdF (σ (f + n1)) = 2 ↔ (nI (mkF (σ (f + n1))) = 30 ∨ ¬ ofF (nI (mkF (σ (f + n1)))) = 0) := ⟨(mk_st q8).2.1, fun z => Decidable.byContradiction fun z2 => z.elim ((mk_st q8).2.2 z2).1 (fun z3 => z3 ((mk_st q8).2.2 z2).2)⟩
              first | (rw [hw.mpr (by first | exact Or.inl c90 | exact Or.inr c98)]; rfl) | (rw [show wdF (σ (f + n1)) = 1 from p4.resolve_right (fun z => (hw.mp z).elim c90 (fun z2 => z2 c98))]; rfl)
            ·
              refine T_iload5 dX12_carryOut_93 rfl ?_
              refine T_cSN1 (c_X13_isOf hX _) hX k12_204 (by decide) (Nat.le_of_ble_eq_true rfl) dX12_carryOut_95 rfl ?_
              rintro _ _ _ _ ⟨rfl, rfl, rfl, rfl⟩
              refine T_if_eq 105 101 dX12_carryOut_98 (by decide) rfl (fun c98 => ?_) (fun c98 => ?_)
              ·
                refine T_iconst (0) dX12_carryOut_105 rfl rfl ?_
                refine hJ _ ?_
                have hw : wdF (σ (f + n1)) = 2 ↔ (nI (mkF (σ (f + n1))) = 30 ∨ ¬ ofF (nI (mkF (σ (f + n1)))) = 0) := ⟨(mk_st q8).2.1, fun z => Decidable.byContradiction fun z2 => z.elim ((mk_st q8).2.2 z2).1 (fun z3 => z3 ((mk_st q8).2.2 z2).2)⟩
                first | (rw [hw.mpr (by first | exact Or.inl c90 | exact Or.inr c98)]; rfl) | (rw [show wdF (σ (f + n1)) = 1 from p4.resolve_right (fun z => (hw.mp z).elim c90 (fun z2 => z2 c98))]; rfl)
              ·
                refine T_iconst (1) dX12_carryOut_101 rfl rfl ?_
                refine T_goto 106 dX12_carryOut_102 (by decide) ?_
                refine hJ _ ?_
                have hw : wdF (σ (f + n1)) = 2 ↔ (nI (mkF (σ (f + n1))) = 30 ∨ ¬ ofF (nI (mkF (σ (f + n1)))) = 0) := ⟨(mk_st q8).2.1, fun z => Decidable.byContradiction fun z2 => z.elim ((mk_st q8).2.2 z2).1 (fun z3 => z3 ((mk_st q8).2.2 z2).2)⟩
                first | (rw [hw.mpr (by first | exact Or.inl c90 | exact Or.inr c98)]; rfl) | (rw [show wdF (σ (f + n1)) = 1 from p4.resolve_right (fun z => (hw.mp z).elim c90 (fun z2 => z2 c98))]; rfl)
          ·
            refine T_iadd dX12_carryOut_106 rfl ?_
            rw [show nI (psF σ (f + n1) + 1) + x106 = nI (psF σ (f + (n1 + 1))) from by rw [hx106, nI_add]; exact congrArg nI (by rw [← Nat.add_assoc, p2]; omega)]
            refine T_istore4 rfl (by decide) dX12_carryOut_107 rfl ?_
            refine T_goto 5 dX12_carryOut_109 (by decide) ?_
            first
              | exact absurd c116 c135
              | exact absurd c135 c116
              | (have y1 : hgF σ f (n1 + 1) = hgF σ f n1 + 1 := by show hgF σ f n1 - tkN _ + 1 = _; rw [j1]; rfl
                 have h := ih (n1 + 1) _ (.int (nI (mkF (σ (f + n1))))) _ (by omega) (by rw [ev_p j1, hκ]) hS hW (by omega)
                 rw [y1, show nI (hgF σ f n1 + 1) + -1 = nI (hgF σ f n1) from nI_pr1 (by omega)] at h
                 exact h)
              | (have z7 : σ (f + n1) = 23 := z3 c123
                 have z8 : tkN (σ (f + n1)) = 1 := by rw [z7]; decide
                 have y1 : hgF σ f (n1 + 1) = hgF σ f n1 := hg_u z8 (by omega)
                 have h := ih (n1 + 1) _ (.int (nI (mkF (σ (f + n1))))) _ (by omega) (by rw [ev_23 z7, hκ]) hS hW (by omega)
                 rw [y1, y3] at h
                 exact h)
              | (have z7 : σ (f + n1) = 47 := z2 c116
                 have z8 : tkN (σ (f + n1)) = 1 := by rw [z7]; decide
                 have y1 : hgF σ f (n1 + 1) = hgF σ f n1 := hg_u z8 (by omega)
                 have h := ih (n1 + 1) _ (.int (nI (mkF (σ (f + n1))))) _ (by omega) (by rw [ev_47 z7, hκ]) hS hW (by omega)
                 rw [y1, y3] at h
                 exact h)
              | (have y1 : hgF σ f (n1 + 1) = hgF σ f n1 - 2 + 1 := by show hgF σ f n1 - tkN _ + 1 = _; rw [z6]
                 have h := ih (n1 + 1) _ (.int (nI (mkF (σ (f + n1))))) _ (by omega) (by rw [ev_b z6, hκ]) hS hW (by omega)
                 rw [y1, y3, show nI (hgF σ f n1 - 2 + 1) + -1 = nI (hgF σ f n1 - 2) from nI_pr1 (by omega)] at h
                 exact h)
