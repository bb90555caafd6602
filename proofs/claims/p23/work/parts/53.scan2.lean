theorem ad_s (x y z : Int64) : x + y - z = x + (y - z) := by
  rw [Int64.sub_eq_add_neg, Int64.add_assoc, ← Int64.sub_eq_add_neg]
section TK
variable {B : Nat → Nat} {ln p k lt : Nat} {σ : Nat → Nat} {vl : Nat → Int64}
theorem tk_w (h : ltB (B p) = true) (hr : rn ldB B ln p = p + k) (h1 : 0 < k) (h2 : k ≤ 10) : tkE B ln p = p + k ∧ tkS B ln p lt σ = u1 σ lt (kwF B p k) ∧ tkL B ln p lt vl = uL vl lt (Int64.ofNat (cN B p k)) := by
  have e : rn ldB B ln p - p = k := by omega
  have e1 : tkE B ln p = p + k := by unfold tkE wdE; rw [if_pos h, e, if_neg (by omega), hr]
  refine ⟨e1, ?_, ?_⟩
  · unfold tkS tkK; rw [e1, if_neg (by omega), if_pos h, e]
  · unfold tkL tkV; rw [e1, if_neg (fun q => q.elim (fun z => by omega) (fun z => z (Or.inl h))), if_pos h, e]
theorem tk_w2 (h : ltB (B p) = true) (hr : rn ldB B ln p = p + k) (h2 : ¬ k ≤ 10) : tkE B ln p = p ∧ tkS B ln p lt σ = σ ∧ tkL B ln p lt vl = vl := by
  have e : rn ldB B ln p - p = k := by omega
  have e1 : tkE B ln p = p := by unfold tkE wdE; rw [if_pos h, e, if_pos (by omega)]
  exact ⟨e1, if_pos e1, if_pos (Or.inl e1)⟩
theorem tk_n (h0 : ltB (B p) = false) (h : dgB (B p) = true) (hr : rn dgB B ln p = p + k) (h1 : 0 < k) (h2 : k ≤ 6) : tkE B ln p = p + k ∧ tkS B ln p lt σ = u1 σ lt 44 ∧ tkL B ln p lt vl = uL vl lt (Int64.ofNat (nN B p k)) := by
  have e : rn dgB B ln p - p = k := by omega
  have h0' : ¬ ltB (B p) = true := by rw [h0]; decide
  have e1 : tkE B ln p = p + k := by unfold tkE nbE; rw [if_neg h0', if_pos h, e, if_neg (by omega), hr]
  refine ⟨e1, ?_, ?_⟩
  · unfold tkS tkK; rw [e1, if_neg (by omega), if_neg h0', if_pos h]
  · unfold tkL tkV; rw [e1, if_neg (fun q => q.elim (fun z => by omega) (fun z => z (Or.inr h))), if_neg h0', e]
theorem tk_n2 (h0 : ltB (B p) = false) (h : dgB (B p) = true) (hr : rn dgB B ln p = p + k) (h2 : ¬ k ≤ 6) : tkE B ln p = p ∧ tkS B ln p lt σ = σ ∧ tkL B ln p lt vl = vl := by
  have e : rn dgB B ln p - p = k := by omega
  have h0' : ¬ ltB (B p) = true := by rw [h0]; decide
  have e1 : tkE B ln p = p := by unfold tkE nbE; rw [if_neg h0', if_pos h, e, if_pos (by omega)]
  exact ⟨e1, if_pos e1, if_pos (Or.inl e1)⟩
theorem se_cases : ∀ k, (seE B p k = p ∧ seK B p k = 43) ∨ p < seE B p k
  | 0 => Or.inl ⟨rfl, rfl⟩
  | k + 1 => by
    unfold seE seK
    split
    · exact se_cases k
    · exact Or.inr (by omega)
theorem se_48 : ∀ k, seK B p k < 48
  | 0 => by show 43 < 48; decide
  | k + 1 => by
    unfold seK
    split
    · exact se_48 k
    · exact kwF_48
theorem tk_s (h0 : ltB (B p) = false) (h : dgB (B p) = false) : tkE B ln p = syE B ln p ∧ tkS B ln p lt σ = (if syE B ln p = p then σ else u1 σ lt (syK B ln p)) ∧ tkL B ln p lt vl = vl := by
  have h0' : ¬ ltB (B p) = true := by rw [h0]; decide
  have h' : ¬ dgB (B p) = true := by rw [h]; decide
  have e1 : tkE B ln p = syE B ln p := by unfold tkE; rw [if_neg h0', if_neg h']
  refine ⟨e1, ?_, ?_⟩
  · unfold tkS tkK; rw [e1, if_neg h0', if_neg h']
  · exact if_pos (Or.inr (fun q => q.elim h0' h'))
theorem ltB_f (h : ¬ ltB (B p) = true) : ltB (B p) = false := by cases e : ltB (B p) <;> simp_all
theorem ldB_y (h : ltB (B p) = true ∨ dgB (B p) = true) : ldB (B p) = true := by unfold ldB; rcases h with h | h <;> simp [h]
theorem ldB_n (h : ¬ ltB (B p) = true) (h2 : ¬ dgB (B p) = true) : ¬ ldB (B p) = true := by unfold ldB; simp [h, h2]
end TK
theorem ii_lt0 {n : Nat} (hn : n < 256) (h : iiF (sx n) 97 122 = 0) : ¬ ltB n = true := fun q => by rw [ii_lt n hn, if_pos q] at h; exact absurd h (by decide)
theorem ii_lt1 {n : Nat} (hn : n < 256) (h : ¬ iiF (sx n) 97 122 = 0) : ltB n = true := Decidable.byContradiction fun q => h (by rw [ii_lt n hn, if_neg q])
theorem ii_dg0 {n : Nat} (hn : n < 256) (h : iiF (sx n) 48 57 = 0) : ¬ dgB n = true := fun q => by rw [ii_dg n hn, if_pos q] at h; exact absurd h (by decide)
theorem ii_dg1 {n : Nat} (hn : n < 256) (h : ¬ iiF (sx n) 48 57 = 0) : dgB n = true := Decidable.byContradiction fun q => h (by rw [ii_dg n hn, if_neg q])
set_option maxHeartbeats 1000000 in
theorem L_X9_scanWord {l : Launch} {D : va_G} {cA : Nat → ClassId} {n0 : Nat} {sg adK adV : Nat → Nat} {sgA smA wdA bS LS : Nat} {xs : Nat → Int32} (hX : SF n0 (XW0 sg adK adV sgA smA wdA n0 bS LS xs)) {sz : Nat} {τ : TY} {M0 N0 M : ME} {t tp ln lt : Nat} {B : Nat → Nat} {σ : Nat → Nat} {st : Nat → Int32} {vl : Nat → Int64} (hT : TM τ M0 M t sg tp ln lt σ st vl) (hB : BM τ N0 M tp B) (hB8 : ∀ i, B i < 256) (hl2 : ln ≤ 2000) {p : Nat} (hp : p < ln) (hlt : lt < 401) (hd : tp < t ∨ t + 4 ≤ tp) (hL : ltB (B p) = true) : ∀ (n : Nat) (k : Nat) (hk : p + k ≤ ln) (hr : rn ldB B ln (p + k) = rn ldB B ln p) (hk0 : k = 0 ∨ 0 < k), ln - (p + k) < n → T l D cA n0 (XW0 sg adK adV sgA smA wdA n0 bS LS xs) mX9_scanWord 8 0 0 sz τ M 5 [.ref t, .int (nI p), .long (Int64.ofNat (cN B p k)), UU, .int (nI (p + k))] [] (fun v' sz' τ' M' => v' = some (.int (nI (tkE B ln p))) ∧ sz' = sz ∧ τ' = τ ∧ TM τ M0 M' t sg tp ln lt (tkS B ln p lt σ) st (tkL B ln p lt vl)) (fun _ _ _ _ => False) := by
  intro n
  induction n with
  | zero => intros; omega
  | succ n ih =>
    intro k hk hr hk0 hn
    refine T_iload4 dX9_scanWord_5 rfl ?_
    refine T_aload0 dX9_scanWord_7 rfl ?_
    refine g9_37 _ rfl (hT.t_t) (hT.g_ln) dX9_scanWord_8 rfl ?_
    refine T_icmp_ge 95 14 dX9_scanWord_11 (by decide) rfl (fun c11 => ?_) (fun c11 => ?_)
    ·
      have c11 : ¬ (p + k < ln) := by have := (nI_leI (by omega) (by omega)).mp c11; omega
      have hr2 : rn ldB B ln p = p + k := by rw [← hr]; exact rn_n (fun q => c11 q.1)
      refine T_iload4 dX9_scanWord_95 rfl ?_
      refine T_iload1 dX9_scanWord_97 rfl ?_
      refine T_isub dX9_scanWord_98 rfl ?_
      rw [nI_sub (by omega) (by omega), show p + k - p = k by omega]
      refine T_bipush (10) dX9_scanWord_99 rfl rfl ?_
      refine T_icmp_le 106 104 dX9_scanWord_101 (by decide) rfl (fun c101 => ?_) (fun c101 => ?_)
      ·
        have c101 := (nI_leI (b := 10) (by omega) (by omega)).mp c101
        refine T_aload0 dX9_scanWord_106 rfl ?_
        refine g9_11 _ rfl (hT.t_t) (hT.g_sa) dX9_scanWord_107 rfl ?_
        refine T_aload0 dX9_scanWord_110 rfl ?_
        refine g9_29 _ rfl (hT.t_t) (hT.g_lt) dX9_scanWord_111 rfl ?_
        refine T_aload0 dX9_scanWord_114 rfl ?_
        refine T_iload1 dX9_scanWord_115 rfl ?_
        refine T_iload4 dX9_scanWord_116 rfl ?_
        refine T_cV2 (c_X9_keywordOrName hX hT hB hB8 hl2 hk) hX k9_77 (Or.inl ⟨_, _, _, _, (hT.t_t), by decide, rfl⟩) (by decide) (Nat.le_of_ble_eq_true rfl) dX9_scanWord_118 rfl ?_
        rintro _ _ _ _ ⟨rfl, rfl, rfl, rfl⟩
        refine T_asgn lt kwF_48 hT.t_sa rfl (by omega) (by decide) dX9_scanWord_121 rfl ?_
        refine T_nm (fun Mq eq => ?_)
        have hT := TM.mv (hT.p_sg (by omega)) eq
        have hB := hB.frU eq (by omega)
        refine T_aload0 dX9_scanWord_122 rfl ?_
        refine g9_25 _ rfl (hT.t_t) (hT.g_va) dX9_scanWord_123 rfl ?_
        refine T_aload0 dX9_scanWord_126 rfl ?_
        refine g9_29 _ rfl (hT.t_t) (hT.g_lt) dX9_scanWord_127 rfl ?_
        refine T_lload2 dX9_scanWord_130 rfl ?_
        refine T_last _ (hT.t_va) rfl (by omega) (by decide) dX9_scanWord_131 rfl ?_
        refine T_nm (fun M1 e1 => ?_)
        have hT := TM.mv (hT.p_vl (by omega)) e1
        have hB := hB.frU e1 (by omega)
        refine T_iload4 dX9_scanWord_132 rfl ?_
        refine T_iret rfl rfl dX9_scanWord_134 ?_
        have hk1 : 0 < k := Nat.pos_of_ne_zero (fun q => by subst q; have := rn_cases hp (ldB_y (B := B) (p := p) (Or.inl hL)); omega)
        obtain ⟨y1, y2, y3⟩ := tk_w (lt := lt) (σ := σ) (vl := vl) hL hr2 hk1 c101
        rw [y1, y2, y3]
        exact ⟨rfl, rfl, rfl, hT⟩
      ·
        have c101 : ¬ k ≤ 10 := fun q => c101 ((nI_leI (b := 10) (by omega) (by omega)).mpr q)
        refine T_iload1 dX9_scanWord_104 rfl ?_
        refine T_iret rfl rfl dX9_scanWord_105 ?_
        obtain ⟨y1, y2, y3⟩ := tk_w2 (lt := lt) (σ := σ) (vl := vl) hL hr2 c101
        rw [y1, y2, y3]
        exact ⟨rfl, rfl, rfl, hT⟩
    ·
      have c11 : p + k < ln := Nat.lt_of_not_le (fun q => c11 ((nI_leI (by omega) (by omega)).mpr q))
      refine T_aload0 dX9_scanWord_14 rfl ?_
      refine g9_33 _ rfl (hT.t_t) (hT.g_tp) dX9_scanWord_15 rfl ?_
      refine T_iload4 dX9_scanWord_18 rfl ?_
      refine T_bald _ (hB.t_tp) rfl (by omega) (by decide) dX9_scanWord_20 rfl (hB.g_by (by omega)) ?_
      refine T_cS1 (c_X9_isLetter hX _) hX k9_59 (by decide) (Nat.le_of_ble_eq_true rfl) dX9_scanWord_21 rfl ?_
      rintro _ _ _ _ ⟨rfl, rfl, rfl, rfl⟩
      refine T_if_ne 40 27 dX9_scanWord_24 (by decide) rfl (fun c24 => ?_) (fun c24 => ?_)
      ·
        have c24 := ii_lt1 (hB8 _) c24
        have c40 := ldB_y (B := B) (p := p + k) (Or.inl c24)
        refine T_lload2 dX9_scanWord_40 rfl ?_
        refine T_ldc2 kl9_75 dX9_scanWord_41 rfl ?_
        refine T_lmul dX9_scanWord_44 rfl ?_
        refine T_joinI 86 (fun v => v.toInt64 = Int64.ofNat (dN (B (p + k)))) (fun hJ => ?_) (fun x86 hx86 => ?_)
        ·
          refine T_aload0 dX9_scanWord_45 rfl ?_
          refine g9_33 _ rfl (hT.t_t) (hT.g_tp) dX9_scanWord_46 rfl ?_
          refine T_iload4 dX9_scanWord_49 rfl ?_
          refine T_bald _ (hB.t_tp) rfl (by omega) (by decide) dX9_scanWord_51 rfl (hB.g_by (by omega)) ?_
          refine T_cS1 (c_X9_isLetter hX _) hX k9_59 (by decide) (Nat.le_of_ble_eq_true rfl) dX9_scanWord_52 rfl ?_
          rintro _ _ _ _ ⟨rfl, rfl, rfl, rfl⟩
          refine T_if_eq 73 58 dX9_scanWord_55 (by decide) rfl (fun c55 => ?_) (fun c55 => ?_)
          ·
            have c55 := ii_lt0 (hB8 _) c55
            refine T_aload0 dX9_scanWord_73 rfl ?_
            refine g9_33 _ rfl (hT.t_t) (hT.g_tp) dX9_scanWord_74 rfl ?_
            refine T_iload4 dX9_scanWord_77 rfl ?_
            refine T_bald _ (hB.t_tp) rfl (by omega) (by decide) dX9_scanWord_79 rfl (hB.g_by (by omega)) ?_
            refine T_bipush (48) dX9_scanWord_80 rfl rfl ?_
            refine T_isub dX9_scanWord_82 rfl ?_
            refine T_bipush (27) dX9_scanWord_83 rfl rfl ?_
            refine T_iadd dX9_scanWord_85 rfl ?_
            refine hJ _ ?_
            first | (have c56 := ltB_f c55; exact dN_D _ (hB8 _) c56 (by first | exact c37 | exact absurd c24 c55)) | exact dN_L _ (hB8 _) c55
          ·
            have c55 := ii_lt1 (hB8 _) c55
            refine T_aload0 dX9_scanWord_58 rfl ?_
            refine g9_33 _ rfl (hT.t_t) (hT.g_tp) dX9_scanWord_59 rfl ?_
            refine T_iload4 dX9_scanWord_62 rfl ?_
            refine T_bald _ (hB.t_tp) rfl (by omega) (by decide) dX9_scanWord_64 rfl (hB.g_by (by omega)) ?_
            refine T_bipush (97) dX9_scanWord_65 rfl rfl ?_
            refine T_isub dX9_scanWord_67 rfl ?_
            refine T_iconst (1) dX9_scanWord_68 rfl rfl ?_
            refine T_iadd dX9_scanWord_69 rfl ?_
            refine T_goto 86 dX9_scanWord_70 (by decide) ?_
            refine hJ _ ?_
            first | (have c56 := ltB_f c55; exact dN_D _ (hB8 _) c56 (by first | exact c37 | exact absurd c24 c55)) | exact dN_L _ (hB8 _) c55
        ·
          refine T_i2l dX9_scanWord_86 rfl ?_
          refine T_ladd dX9_scanWord_87 rfl ?_
          rw [hx86, cN_s]
          refine T_lstore2 rfl (by decide) dX9_scanWord_88 rfl ?_
          first | refine T_iinc4 rfl (by decide) dX9_scanWord_89 rfl (inc1 _) ?_ | refine T_iinc4 rfl (by decide) dX9_scanWord_89 rfl rfl ?_
          refine T_goto 5 dX9_scanWord_92 (by decide) ?_
          exact ih (k + 1) (by omega) (by rw [← hr]; exact (rn_y c11 c40).symm) (Or.inr (by omega)) (by omega)
      ·
        have c24 := ii_lt0 (hB8 _) c24
        refine T_aload0 dX9_scanWord_27 rfl ?_
        refine g9_33 _ rfl (hT.t_t) (hT.g_tp) dX9_scanWord_28 rfl ?_
        refine T_iload4 dX9_scanWord_31 rfl ?_
        refine T_bald _ (hB.t_tp) rfl (by omega) (by decide) dX9_scanWord_33 rfl (hB.g_by (by omega)) ?_
        refine T_cS1 (c_X9_isDigit hX _) hX k9_66 (by decide) (Nat.le_of_ble_eq_true rfl) dX9_scanWord_34 rfl ?_
        rintro _ _ _ _ ⟨rfl, rfl, rfl, rfl⟩
        refine T_if_eq 95 40 dX9_scanWord_37 (by decide) rfl (fun c37 => ?_) (fun c37 => ?_)
        ·
          have c37 := ii_dg0 (hB8 _) c37
          have hr2 : rn ldB B ln p = p + k := by rw [← hr]; exact rn_n (fun q => ldB_n c24 c37 q.2)
          refine T_iload4 dX9_scanWord_95 rfl ?_
          refine T_iload1 dX9_scanWord_97 rfl ?_
          refine T_isub dX9_scanWord_98 rfl ?_
          rw [nI_sub (by omega) (by omega), show p + k - p = k by omega]
          refine T_bipush (10) dX9_scanWord_99 rfl rfl ?_
          refine T_icmp_le 106 104 dX9_scanWord_101 (by decide) rfl (fun c101 => ?_) (fun c101 => ?_)
          ·
            have c101 := (nI_leI (b := 10) (by omega) (by omega)).mp c101
            refine T_aload0 dX9_scanWord_106 rfl ?_
            refine g9_11 _ rfl (hT.t_t) (hT.g_sa) dX9_scanWord_107 rfl ?_
            refine T_aload0 dX9_scanWord_110 rfl ?_
            refine g9_29 _ rfl (hT.t_t) (hT.g_lt) dX9_scanWord_111 rfl ?_
            refine T_aload0 dX9_scanWord_114 rfl ?_
            refine T_iload1 dX9_scanWord_115 rfl ?_
            refine T_iload4 dX9_scanWord_116 rfl ?_
            refine T_cV2 (c_X9_keywordOrName hX hT hB hB8 hl2 hk) hX k9_77 (Or.inl ⟨_, _, _, _, (hT.t_t), by decide, rfl⟩) (by decide) (Nat.le_of_ble_eq_true rfl) dX9_scanWord_118 rfl ?_
            rintro _ _ _ _ ⟨rfl, rfl, rfl, rfl⟩
            refine T_asgn lt kwF_48 hT.t_sa rfl (by omega) (by decide) dX9_scanWord_121 rfl ?_
            refine T_nm (fun Mq eq => ?_)
            have hT := TM.mv (hT.p_sg (by omega)) eq
            have hB := hB.frU eq (by omega)
            refine T_aload0 dX9_scanWord_122 rfl ?_
            refine g9_25 _ rfl (hT.t_t) (hT.g_va) dX9_scanWord_123 rfl ?_
            refine T_aload0 dX9_scanWord_126 rfl ?_
            refine g9_29 _ rfl (hT.t_t) (hT.g_lt) dX9_scanWord_127 rfl ?_
            refine T_lload2 dX9_scanWord_130 rfl ?_
            refine T_last _ (hT.t_va) rfl (by omega) (by decide) dX9_scanWord_131 rfl ?_
            refine T_nm (fun M2 e2 => ?_)
            have hT := TM.mv (hT.p_vl (by omega)) e2
            have hB := hB.frU e2 (by omega)
            refine T_iload4 dX9_scanWord_132 rfl ?_
            refine T_iret rfl rfl dX9_scanWord_134 ?_
            have hk1 : 0 < k := Nat.pos_of_ne_zero (fun q => by subst q; have := rn_cases hp (ldB_y (B := B) (p := p) (Or.inl hL)); omega)
            obtain ⟨y1, y2, y3⟩ := tk_w (lt := lt) (σ := σ) (vl := vl) hL hr2 hk1 c101
            rw [y1, y2, y3]
            exact ⟨rfl, rfl, rfl, hT⟩
          ·
            have c101 : ¬ k ≤ 10 := fun q => c101 ((nI_leI (b := 10) (by omega) (by omega)).mpr q)
            refine T_iload1 dX9_scanWord_104 rfl ?_
            refine T_iret rfl rfl dX9_scanWord_105 ?_
            obtain ⟨y1, y2, y3⟩ := tk_w2 (lt := lt) (σ := σ) (vl := vl) hL hr2 c101
            rw [y1, y2, y3]
            exact ⟨rfl, rfl, rfl, hT⟩
        ·
          have c37 := ii_dg1 (hB8 _) c37
          have c40 := ldB_y (B := B) (p := p + k) (Or.inr c37)
          refine T_lload2 dX9_scanWord_40 rfl ?_
          refine T_ldc2 kl9_75 dX9_scanWord_41 rfl ?_
          refine T_lmul dX9_scanWord_44 rfl ?_
          refine T_joinI 86 (fun v => v.toInt64 = Int64.ofNat (dN (B (p + k)))) (fun hJ => ?_) (fun x86 hx86 => ?_)
          ·
            refine T_aload0 dX9_scanWord_45 rfl ?_
            refine g9_33 _ rfl (hT.t_t) (hT.g_tp) dX9_scanWord_46 rfl ?_
            refine T_iload4 dX9_scanWord_49 rfl ?_
            refine T_bald _ (hB.t_tp) rfl (by omega) (by decide) dX9_scanWord_51 rfl (hB.g_by (by omega)) ?_
            refine T_cS1 (c_X9_isLetter hX _) hX k9_59 (by decide) (Nat.le_of_ble_eq_true rfl) dX9_scanWord_52 rfl ?_
            rintro _ _ _ _ ⟨rfl, rfl, rfl, rfl⟩
            refine T_if_eq 73 58 dX9_scanWord_55 (by decide) rfl (fun c55 => ?_) (fun c55 => ?_)
            ·
              have c55 := ii_lt0 (hB8 _) c55
              refine T_aload0 dX9_scanWord_73 rfl ?_
              refine g9_33 _ rfl (hT.t_t) (hT.g_tp) dX9_scanWord_74 rfl ?_
              refine T_iload4 dX9_scanWord_77 rfl ?_
              refine T_bald _ (hB.t_tp) rfl (by omega) (by decide) dX9_scanWord_79 rfl (hB.g_by (by omega)) ?_
              refine T_bipush (48) dX9_scanWord_80 rfl rfl ?_
              refine T_isub dX9_scanWord_82 rfl ?_
              refine T_bipush (27) dX9_scanWord_83 rfl rfl ?_
              refine T_iadd dX9_scanWord_85 rfl ?_
              refine hJ _ ?_
              first | (have c56 := ltB_f c55; exact dN_D _ (hB8 _) c56 (by first | exact c37 | exact absurd c24 c55)) | exact dN_L _ (hB8 _) c55
            ·
              have c55 := ii_lt1 (hB8 _) c55
              refine T_aload0 dX9_scanWord_58 rfl ?_
              refine g9_33 _ rfl (hT.t_t) (hT.g_tp) dX9_scanWord_59 rfl ?_
              refine T_iload4 dX9_scanWord_62 rfl ?_
              refine T_bald _ (hB.t_tp) rfl (by omega) (by decide) dX9_scanWord_64 rfl (hB.g_by (by omega)) ?_
              refine T_bipush (97) dX9_scanWord_65 rfl rfl ?_
              refine T_isub dX9_scanWord_67 rfl ?_
              refine T_iconst (1) dX9_scanWord_68 rfl rfl ?_
              refine T_iadd dX9_scanWord_69 rfl ?_
              refine T_goto 86 dX9_scanWord_70 (by decide) ?_
              refine hJ _ ?_
              first | (have c56 := ltB_f c55; exact dN_D _ (hB8 _) c56 (by first | exact c37 | exact absurd c24 c55)) | exact dN_L _ (hB8 _) c55
          ·
            refine T_i2l dX9_scanWord_86 rfl ?_
            refine T_ladd dX9_scanWord_87 rfl ?_
            rw [hx86, cN_s]
            refine T_lstore2 rfl (by decide) dX9_scanWord_88 rfl ?_
            first | refine T_iinc4 rfl (by decide) dX9_scanWord_89 rfl (inc1 _) ?_ | refine T_iinc4 rfl (by decide) dX9_scanWord_89 rfl rfl ?_
            refine T_goto 5 dX9_scanWord_92 (by decide) ?_
            exact ih (k + 1) (by omega) (by rw [← hr]; exact (rn_y c11 c40).symm) (Or.inr (by omega)) (by omega)
set_option maxHeartbeats 1000000 in
theorem c_X9_scanWord {l : Launch} {D : va_G} {cA : Nat → ClassId} {n0 : Nat} {sg adK adV : Nat → Nat} {sgA smA wdA bS LS : Nat} {xs : Nat → Int32} (hX : SF n0 (XW0 sg adK adV sgA smA wdA n0 bS LS xs)) {sz : Nat} {τ : TY} {M0 N0 M : ME} {t tp ln lt : Nat} {B : Nat → Nat} {σ : Nat → Nat} {st : Nat → Int32} {vl : Nat → Int64} (hT : TM τ M0 M t sg tp ln lt σ st vl) (hB : BM τ N0 M tp B) (hB8 : ∀ i, B i < 256) (hl2 : ln ≤ 2000) {p : Nat} (hp : p < ln) (hlt : lt < 401) (hd : tp < t ∨ t + 4 ≤ tp) (hL : ltB (B p) = true) : CT l D cA n0 (XW0 sg adK adV sgA smA wdA n0 bS LS xs) mX9_scanWord 8 0 0 sz τ M [.ref t, .int (nI p)] (fun v' sz' τ' M' => v' = some (.int (nI (tkE B ln p))) ∧ sz' = sz ∧ τ' = τ ∧ TM τ M0 M' t sg tp ln lt (tkS B ln p lt σ) st (tkL B ln p lt vl)) := by
  refine CT.of (ls := [.ref t, .int (nI p), UU, UU, UU]) (by decide) (Nat.le_of_ble_eq_true rfl) rfl ?_
  refine T_lconst 0 dX9_scanWord_0 rfl rfl ?_
  refine T_lstore2 rfl (by decide) dX9_scanWord_1 rfl ?_
  refine T_iload1 dX9_scanWord_2 rfl ?_
  refine T_istore4 rfl (by decide) dX9_scanWord_3 rfl ?_
  exact L_X9_scanWord hX hT hB hB8 hl2 hp hlt hd hL (ln + 1) 0 (Nat.le_of_lt hp) rfl (Or.inl rfl) (by omega)
set_option maxHeartbeats 1000000 in
theorem L_X9_scanNumber {l : Launch} {D : va_G} {cA : Nat → ClassId} {n0 : Nat} {sg adK adV : Nat → Nat} {sgA smA wdA bS LS : Nat} {xs : Nat → Int32} (hX : SF n0 (XW0 sg adK adV sgA smA wdA n0 bS LS xs)) {sz : Nat} {τ : TY} {M0 N0 M : ME} {t tp ln lt : Nat} {B : Nat → Nat} {σ : Nat → Nat} {st : Nat → Int32} {vl : Nat → Int64} (hT : TM τ M0 M t sg tp ln lt σ st vl) (hB : BM τ N0 M tp B) (hB8 : ∀ i, B i < 256) (hl2 : ln ≤ 2000) {p : Nat} (hp : p < ln) (hlt : lt < 401) (hd : tp < t ∨ t + 4 ≤ tp) (h0 : ltB (B p) = false) (hL : dgB (B p) = true) : ∀ (n : Nat) (k : Nat) (hk : p + k ≤ ln) (hr : rn dgB B ln (p + k) = rn dgB B ln p), ln - (p + k) < n → T l D cA n0 (XW0 sg adK adV sgA smA wdA n0 bS LS xs) mX9_scanNumber 8 0 0 sz τ M 5 [.ref t, .int (nI p), .long (Int64.ofNat (nN B p k)), UU, .int (nI (p + k))] [] (fun v' sz' τ' M' => v' = some (.int (nI (tkE B ln p))) ∧ sz' = sz ∧ τ' = τ ∧ TM τ M0 M' t sg tp ln lt (tkS B ln p lt σ) st (tkL B ln p lt vl)) (fun _ _ _ _ => False) := by
  intro n
  induction n with
  | zero => intros; omega
  | succ n ih =>
    intro k hk hr hn
    refine T_iload4 dX9_scanNumber_5 rfl ?_
    refine T_aload0 dX9_scanNumber_7 rfl ?_
    refine g9_37 _ rfl (hT.t_t) (hT.g_ln) dX9_scanNumber_8 rfl ?_
    refine T_icmp_ge 52 14 dX9_scanNumber_11 (by decide) rfl (fun c11 => ?_) (fun c11 => ?_)
    ·
      have c11 : ¬ (p + k < ln) := by have := (nI_leI (by omega) (by omega)).mp c11; omega
      have hr2 : rn dgB B ln p = p + k := by rw [← hr]; exact rn_n (fun q => c11 q.1)
      refine T_iload4 dX9_scanNumber_52 rfl ?_
      refine T_iload1 dX9_scanNumber_54 rfl ?_
      refine T_isub dX9_scanNumber_55 rfl ?_
      rw [nI_sub (by omega) (by omega), show p + k - p = k by omega]
      refine T_bipush (6) dX9_scanNumber_56 rfl rfl ?_
      refine T_icmp_le 63 61 dX9_scanNumber_58 (by decide) rfl (fun c101 => ?_) (fun c101 => ?_)
      ·
        have c101 := (nI_leI (b := 6) (by omega) (by omega)).mp c101
        refine T_aload0 dX9_scanNumber_63 rfl ?_
        refine g9_11 _ rfl (hT.t_t) (hT.g_sa) dX9_scanNumber_64 rfl ?_
        refine T_aload0 dX9_scanNumber_67 rfl ?_
        refine g9_29 _ rfl (hT.t_t) (hT.g_lt) dX9_scanNumber_68 rfl ?_
        refine T_sgn (i := 44) (by decide) ks9_108 dX9_scanNumber_71 rfl ?_
        refine T_asgn lt (by decide) hT.t_sa rfl (by omega) (by decide) dX9_scanNumber_74 rfl ?_
        refine T_nm (fun Mq eq => ?_)
        have hT := TM.mv (hT.p_sg (by omega)) eq
        have hB := hB.frU eq (by omega)
        refine T_aload0 dX9_scanNumber_75 rfl ?_
        refine g9_25 _ rfl (hT.t_t) (hT.g_va) dX9_scanNumber_76 rfl ?_
        refine T_aload0 dX9_scanNumber_79 rfl ?_
        refine g9_29 _ rfl (hT.t_t) (hT.g_lt) dX9_scanNumber_80 rfl ?_
        refine T_lload2 dX9_scanNumber_83 rfl ?_
        refine T_last _ (hT.t_va) rfl (by omega) (by decide) dX9_scanNumber_84 rfl ?_
        refine T_nm (fun M1 e1 => ?_)
        have hT := TM.mv (hT.p_vl (by omega)) e1
        have hB := hB.frU e1 (by omega)
        refine T_iload4 dX9_scanNumber_85 rfl ?_
        refine T_iret rfl rfl dX9_scanNumber_87 ?_
        have hk1 : 0 < k := Nat.pos_of_ne_zero (fun q => by subst q; have := rn_cases hp hL; omega)
        obtain ⟨y1, y2, y3⟩ := tk_n (lt := lt) (σ := σ) (vl := vl) h0 hL hr2 hk1 c101
        rw [y1, y2, y3]
        exact ⟨rfl, rfl, rfl, hT⟩
      ·
        have c101 : ¬ k ≤ 6 := fun q => c101 ((nI_leI (b := 6) (by omega) (by omega)).mpr q)
        refine T_iload1 dX9_scanNumber_61 rfl ?_
        refine T_iret rfl rfl dX9_scanNumber_62 ?_
        obtain ⟨y1, y2, y3⟩ := tk_n2 (lt := lt) (σ := σ) (vl := vl) h0 hL hr2 c101
        rw [y1, y2, y3]
        exact ⟨rfl, rfl, rfl, hT⟩
    ·
      have c11 : p + k < ln := Nat.lt_of_not_le (fun q => c11 ((nI_leI (by omega) (by omega)).mpr q))
      refine T_aload0 dX9_scanNumber_14 rfl ?_
      refine g9_33 _ rfl (hT.t_t) (hT.g_tp) dX9_scanNumber_15 rfl ?_
      refine T_iload4 dX9_scanNumber_18 rfl ?_
      refine T_bald _ (hB.t_tp) rfl (by omega) (by decide) dX9_scanNumber_20 rfl (hB.g_by (by omega)) ?_
      refine T_cS1 (c_X9_isDigit hX _) hX k9_66 (by decide) (Nat.le_of_ble_eq_true rfl) dX9_scanNumber_21 rfl ?_
      rintro _ _ _ _ ⟨rfl, rfl, rfl, rfl⟩
      refine T_if_eq 52 27 dX9_scanNumber_24 (by decide) rfl (fun c24 => ?_) (fun c24 => ?_)
      ·
        have c24 := ii_dg0 (hB8 _) c24
        have hr2 : rn dgB B ln p = p + k := by rw [← hr]; exact rn_n (fun q => c24 q.2)
        refine T_iload4 dX9_scanNumber_52 rfl ?_
        refine T_iload1 dX9_scanNumber_54 rfl ?_
        refine T_isub dX9_scanNumber_55 rfl ?_
        rw [nI_sub (by omega) (by omega), show p + k - p = k by omega]
        refine T_bipush (6) dX9_scanNumber_56 rfl rfl ?_
        refine T_icmp_le 63 61 dX9_scanNumber_58 (by decide) rfl (fun c101 => ?_) (fun c101 => ?_)
        ·
          have c101 := (nI_leI (b := 6) (by omega) (by omega)).mp c101
          refine T_aload0 dX9_scanNumber_63 rfl ?_
          refine g9_11 _ rfl (hT.t_t) (hT.g_sa) dX9_scanNumber_64 rfl ?_
          refine T_aload0 dX9_scanNumber_67 rfl ?_
          refine g9_29 _ rfl (hT.t_t) (hT.g_lt) dX9_scanNumber_68 rfl ?_
          refine T_sgn (i := 44) (by decide) ks9_108 dX9_scanNumber_71 rfl ?_
          refine T_asgn lt (by decide) hT.t_sa rfl (by omega) (by decide) dX9_scanNumber_74 rfl ?_
          refine T_nm (fun Mq eq => ?_)
          have hT := TM.mv (hT.p_sg (by omega)) eq
          have hB := hB.frU eq (by omega)
          refine T_aload0 dX9_scanNumber_75 rfl ?_
          refine g9_25 _ rfl (hT.t_t) (hT.g_va) dX9_scanNumber_76 rfl ?_
          refine T_aload0 dX9_scanNumber_79 rfl ?_
          refine g9_29 _ rfl (hT.t_t) (hT.g_lt) dX9_scanNumber_80 rfl ?_
          refine T_lload2 dX9_scanNumber_83 rfl ?_
          refine T_last _ (hT.t_va) rfl (by omega) (by decide) dX9_scanNumber_84 rfl ?_
          refine T_nm (fun M2 e2 => ?_)
          have hT := TM.mv (hT.p_vl (by omega)) e2
          have hB := hB.frU e2 (by omega)
          refine T_iload4 dX9_scanNumber_85 rfl ?_
          refine T_iret rfl rfl dX9_scanNumber_87 ?_
          have hk1 : 0 < k := Nat.pos_of_ne_zero (fun q => by subst q; have := rn_cases hp hL; omega)
          obtain ⟨y1, y2, y3⟩ := tk_n (lt := lt) (σ := σ) (vl := vl) h0 hL hr2 hk1 c101
          rw [y1, y2, y3]
          exact ⟨rfl, rfl, rfl, hT⟩
        ·
          have c101 : ¬ k ≤ 6 := fun q => c101 ((nI_leI (b := 6) (by omega) (by omega)).mpr q)
          refine T_iload1 dX9_scanNumber_61 rfl ?_
          refine T_iret rfl rfl dX9_scanNumber_62 ?_
          obtain ⟨y1, y2, y3⟩ := tk_n2 (lt := lt) (σ := σ) (vl := vl) h0 hL hr2 c101
          rw [y1, y2, y3]
          exact ⟨rfl, rfl, rfl, hT⟩
      ·
        have c24 := ii_dg1 (hB8 _) c24
        refine T_lload2 dX9_scanNumber_27 rfl ?_
        refine T_ldc2 kl9_104 dX9_scanNumber_28 rfl ?_
        refine T_lmul dX9_scanNumber_31 rfl ?_
        refine T_aload0 dX9_scanNumber_32 rfl ?_
        refine g9_33 _ rfl (hT.t_t) (hT.g_tp) dX9_scanNumber_33 rfl ?_
        refine T_iload4 dX9_scanNumber_36 rfl ?_
        refine T_bald _ (hB.t_tp) rfl (by omega) (by decide) dX9_scanNumber_38 rfl (hB.g_by (by omega)) ?_
        refine T_i2l dX9_scanNumber_39 rfl ?_
        refine T_ladd dX9_scanNumber_40 rfl ?_
        refine T_ldc2 kl9_106 dX9_scanNumber_41 rfl ?_
        refine T_lsub dX9_scanNumber_44 rfl ?_
        rw [ad_s, dN_N _ (hB8 _) c24, nN_s]
        refine T_lstore2 rfl (by decide) dX9_scanNumber_45 rfl ?_
        first | refine T_iinc4 rfl (by decide) dX9_scanNumber_46 rfl (inc1 _) ?_ | refine T_iinc4 rfl (by decide) dX9_scanNumber_46 rfl rfl ?_
        refine T_goto 5 dX9_scanNumber_49 (by decide) ?_
        exact ih (k + 1) (by omega) (by rw [← hr]; exact (rn_y c11 c24).symm) (by omega)
set_option maxHeartbeats 1000000 in
theorem c_X9_scanNumber {l : Launch} {D : va_G} {cA : Nat → ClassId} {n0 : Nat} {sg adK adV : Nat → Nat} {sgA smA wdA bS LS : Nat} {xs : Nat → Int32} (hX : SF n0 (XW0 sg adK adV sgA smA wdA n0 bS LS xs)) {sz : Nat} {τ : TY} {M0 N0 M : ME} {t tp ln lt : Nat} {B : Nat → Nat} {σ : Nat → Nat} {st : Nat → Int32} {vl : Nat → Int64} (hT : TM τ M0 M t sg tp ln lt σ st vl) (hB : BM τ N0 M tp B) (hB8 : ∀ i, B i < 256) (hl2 : ln ≤ 2000) {p : Nat} (hp : p < ln) (hlt : lt < 401) (hd : tp < t ∨ t + 4 ≤ tp) (h0 : ltB (B p) = false) (hL : dgB (B p) = true) : CT l D cA n0 (XW0 sg adK adV sgA smA wdA n0 bS LS xs) mX9_scanNumber 8 0 0 sz τ M [.ref t, .int (nI p)] (fun v' sz' τ' M' => v' = some (.int (nI (tkE B ln p))) ∧ sz' = sz ∧ τ' = τ ∧ TM τ M0 M' t sg tp ln lt (tkS B ln p lt σ) st (tkL B ln p lt vl)) := by
  refine CT.of (ls := [.ref t, .int (nI p), UU, UU, UU]) (by decide) (Nat.le_of_ble_eq_true rfl) rfl ?_
  refine T_lconst 0 dX9_scanNumber_0 rfl rfl ?_
  refine T_lstore2 rfl (by decide) dX9_scanNumber_1 rfl ?_
  refine T_iload1 dX9_scanNumber_2 rfl ?_
  refine T_istore4 rfl (by decide) dX9_scanNumber_3 rfl ?_
  exact L_X9_scanNumber hX hT hB hB8 hl2 hp hlt hd h0 hL (ln + 1) 0 (Nat.le_of_lt hp) rfl (by omega)

