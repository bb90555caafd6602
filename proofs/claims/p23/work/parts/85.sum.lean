set_option maxHeartbeats 1000000 in
theorem LIl_X10_digest {l : Launch} {D : va_G} {cA : Nat → ClassId} {n0 : Nat} {sg adK adV : Nat → Nat} {sgA smA wdA bS LS : Nat} {xs : Nat → Int32} (hX : SF n0 (XW0 sg adK adV sgA smA wdA n0 bS LS xs)) {sz : Nat} {τ : TY} (hl : l.stackTraces = false) {N1 N2 M : ME} {x r p r2 p2 n8 a b c : Nat} {ω ρ : RH} {ν : NU} (hV : FV τ N1 M x r p r2 p2 n8 ω) (hR : LM τ N2 M r a b c ρ ν) (hi : RI a b c ρ) {i : Nat} (h2 : i < c) (nx : T l D cA n0 (XW0 sg adK adV sgA smA wdA n0 bS LS xs) mX10_digest 8 0 0 sz τ M 138 [.ref x, .long (dgN (dgN (dgN (dgF 797 (cntF a b c n8 ρ) 13) (stF b c ρ) 5 a) (hsF c ρ) 10 b) (lgF ρ) 4 (i + 1)), UU, .int (nI (i + 1)), .int (nI 4)] [] (fun v' sz' τ' M' => v' = some (.long (dgW a b c n8 ρ)) ∧ sz' = sz ∧ τ' = τ ∧ M' = M) (fun _ _ _ _ => False)) : ∀ (n : Nat) (v : Nat) (hv : v ≤ 4), 4 - v < n → T l D cA n0 (XW0 sg adK adV sgA smA wdA n0 bS LS xs) mX10_digest 8 0 0 sz τ M 152 [.ref x, .long (dgF (dgN (dgN (dgN (dgF 797 (cntF a b c n8 ρ) 13) (stF b c ρ) 5 a) (hsF c ρ) 10 b) (lgF ρ) 4 i) ((lgF ρ) i) v), UU, .int (nI i), .int (nI v)] [] (fun v' sz' τ' M' => v' = some (.long (dgW a b c n8 ρ)) ∧ sz' = sz ∧ τ' = τ ∧ M' = M) (fun _ _ _ _ => False) := by
  intro n
  induction n with
  | zero => intros; omega
  | succ n ih =>
    intro v hv hn
    obtain ⟨la, lb, lc⟩ := hR.ok
    refine T_iload4 dX10_digest_152 rfl ?_
    refine T_iconst (4) dX10_digest_154 rfl rfl ?_
    refine T_icmp_ge 182 158 dX10_digest_155 (by decide) rfl (fun c1 => ?_) (fun c1 => ?_)
    ·
      have c1 : v = 4 := by have := (nI_leI (a := 4) (b := v) (by omega) (by omega)).mp c1; omega
      first | refine T_iinc3 rfl (by decide) dX10_digest_182 rfl (inc1 _) ?_ | refine T_iinc3 rfl (by decide) dX10_digest_182 rfl rfl ?_
      refine T_goto 138 dX10_digest_185 (by decide) ?_
      subst c1
      exact nx
    ·
      have c1 : v < 4 := Nat.lt_of_not_le (fun q => c1 ((nI_leI (a := 4) (by omega) (by omega)).mpr q))
      refine T_lload1 dX10_digest_158 rfl ?_
      refine T_ldc2 kl10_148 dX10_digest_159 rfl ?_
      refine T_lmul dX10_digest_162 rfl ?_
      refine T_aload0 dX10_digest_163 rfl ?_
      refine g10_23 _ rfl (hV.t_x) (hV.g_r) dX10_digest_164 rfl ?_
      refine T_iload3 dX10_digest_167 rfl ?_
      refine T_iload4 dX10_digest_168 rfl ?_
      refine T_cV2 (c_X6_logFact hX hR (by omega) (by omega)) hX k10_105 (Or.inl ⟨_, _, _, _, hR.t, by decide, rfl⟩) (by decide) (Nat.le_of_ble_eq_true rfl) dX10_digest_170 rfl ?_
      rintro _ _ _ _ ⟨rfl, rfl, rfl, rfl⟩
      refine T_i2l dX10_digest_173 rfl ?_
      refine T_ladd dX10_digest_174 rfl ?_
      refine T_lstore1 rfl (by decide) dX10_digest_175 rfl ?_
      first | refine T_iinc4 rfl (by decide) dX10_digest_176 rfl (inc1 _) ?_ | refine T_iinc4 rfl (by decide) dX10_digest_176 rfl rfl ?_
      refine T_goto 152 dX10_digest_179 (by decide) ?_
      exact ih (v + 1) (by omega) (by omega)
set_option maxHeartbeats 1000000 in
theorem LOl_X10_digest {l : Launch} {D : va_G} {cA : Nat → ClassId} {n0 : Nat} {sg adK adV : Nat → Nat} {sgA smA wdA bS LS : Nat} {xs : Nat → Int32} (hX : SF n0 (XW0 sg adK adV sgA smA wdA n0 bS LS xs)) {sz : Nat} {τ : TY} (hl : l.stackTraces = false) {N1 N2 M : ME} {x r p r2 p2 n8 a b c : Nat} {ω ρ : RH} {ν : NU} (hV : FV τ N1 M x r p r2 p2 n8 ω) (hR : LM τ N2 M r a b c ρ ν) (hi : RI a b c ρ) : ∀ (n : Nat) (i : Nat) (u : Value) (h2 : i ≤ c), c - i < n → T l D cA n0 (XW0 sg adK adV sgA smA wdA n0 bS LS xs) mX10_digest 8 0 0 sz τ M 138 [.ref x, .long (dgN (dgN (dgN (dgF 797 (cntF a b c n8 ρ) 13) (stF b c ρ) 5 a) (hsF c ρ) 10 b) (lgF ρ) 4 i), UU, .int (nI i), u] [] (fun v' sz' τ' M' => v' = some (.long (dgW a b c n8 ρ)) ∧ sz' = sz ∧ τ' = τ ∧ M' = M) (fun _ _ _ _ => False) := by
  intro n
  induction n with
  | zero => intros; omega
  | succ n ih =>
    intro i u h2 hn
    obtain ⟨la, lb, lc⟩ := hR.ok
    refine T_iload3 dX10_digest_138 rfl ?_
    refine T_aload0 dX10_digest_139 rfl ?_
    refine g10_23 _ rfl (hV.t_x) (hV.g_r) dX10_digest_140 rfl ?_
    refine g10_102 _ rfl hR.t hR.r5 dX10_digest_143 rfl ?_
    refine T_icmp_ge 188 149 dX10_digest_146 (by decide) rfl (fun c2 => ?_) (fun c2 => ?_)
    ·
      have c2 := le_out rfl c2
      obtain rfl : i = c := by omega
      refine T_lload1 dX10_digest_188 rfl ?_
      refine T_lret rfl dX10_digest_189 ?_
      exact ⟨rfl, rfl, rfl, rfl⟩
    ·
      have c2 := lt_in rfl c2
      refine T_iconst (0) dX10_digest_149 rfl rfl ?_
      refine T_istore4 rfl (by decide) dX10_digest_150 rfl ?_
      exact LIl_X10_digest hX hl hV hR hi c2 (ih (i + 1) _ (by omega) (by omega)) 5 0 (by omega) (by omega)
set_option maxHeartbeats 1000000 in
theorem LIh_X10_digest {l : Launch} {D : va_G} {cA : Nat → ClassId} {n0 : Nat} {sg adK adV : Nat → Nat} {sgA smA wdA bS LS : Nat} {xs : Nat → Int32} (hX : SF n0 (XW0 sg adK adV sgA smA wdA n0 bS LS xs)) {sz : Nat} {τ : TY} (hl : l.stackTraces = false) {N1 N2 M : ME} {x r p r2 p2 n8 a b c : Nat} {ω ρ : RH} {ν : NU} (hV : FV τ N1 M x r p r2 p2 n8 ω) (hR : LM τ N2 M r a b c ρ ν) (hi : RI a b c ρ) {i : Nat} (h2 : i < b) (nx : T l D cA n0 (XW0 sg adK adV sgA smA wdA n0 bS LS xs) mX10_digest 8 0 0 sz τ M 85 [.ref x, .long (dgN (dgN (dgF 797 (cntF a b c n8 ρ) 13) (stF b c ρ) 5 a) (hsF c ρ) 10 (i + 1)), UU, .int (nI (i + 1)), .int (nI 10)] [] (fun v' sz' τ' M' => v' = some (.long (dgW a b c n8 ρ)) ∧ sz' = sz ∧ τ' = τ ∧ M' = M) (fun _ _ _ _ => False)) : ∀ (n : Nat) (v : Nat) (hv : v ≤ 10), 10 - v < n → T l D cA n0 (XW0 sg adK adV sgA smA wdA n0 bS LS xs) mX10_digest 8 0 0 sz τ M 99 [.ref x, .long (dgF (dgN (dgN (dgF 797 (cntF a b c n8 ρ) 13) (stF b c ρ) 5 a) (hsF c ρ) 10 i) ((hsF c ρ) i) v), UU, .int (nI i), .int (nI v)] [] (fun v' sz' τ' M' => v' = some (.long (dgW a b c n8 ρ)) ∧ sz' = sz ∧ τ' = τ ∧ M' = M) (fun _ _ _ _ => False) := by
  intro n
  induction n with
  | zero => intros; omega
  | succ n ih =>
    intro v hv hn
    obtain ⟨la, lb, lc⟩ := hR.ok
    refine T_iload4 dX10_digest_99 rfl ?_
    refine T_bipush (10) dX10_digest_101 rfl rfl ?_
    refine T_icmp_ge 130 106 dX10_digest_103 (by decide) rfl (fun c1 => ?_) (fun c1 => ?_)
    ·
      have c1 : v = 10 := by have := (nI_leI (a := 10) (b := v) (by omega) (by omega)).mp c1; omega
      first | refine T_iinc3 rfl (by decide) dX10_digest_130 rfl (inc1 _) ?_ | refine T_iinc3 rfl (by decide) dX10_digest_130 rfl rfl ?_
      refine T_goto 85 dX10_digest_133 (by decide) ?_
      subst c1
      exact nx
    ·
      have c1 : v < 10 := Nat.lt_of_not_le (fun q => c1 ((nI_leI (a := 10) (by omega) (by omega)).mpr q))
      refine T_lload1 dX10_digest_106 rfl ?_
      refine T_ldc2 kl10_148 dX10_digest_107 rfl ?_
      refine T_lmul dX10_digest_110 rfl ?_
      refine T_aload0 dX10_digest_111 rfl ?_
      refine g10_23 _ rfl (hV.t_x) (hV.g_r) dX10_digest_112 rfl ?_
      refine T_iload3 dX10_digest_115 rfl ?_
      refine T_iload4 dX10_digest_116 rfl ?_
      refine T_cV2 (c_X6_horseFact hX hR hi.B (by omega) (by omega)) hX k10_99 (Or.inl ⟨_, _, _, _, hR.t, by decide, rfl⟩) (by decide) (Nat.le_of_ble_eq_true rfl) dX10_digest_118 rfl ?_
      rintro _ _ _ _ ⟨rfl, rfl, rfl, rfl⟩
      refine T_i2l dX10_digest_121 rfl ?_
      refine T_ladd dX10_digest_122 rfl ?_
      refine T_lstore1 rfl (by decide) dX10_digest_123 rfl ?_
      first | refine T_iinc4 rfl (by decide) dX10_digest_124 rfl (inc1 _) ?_ | refine T_iinc4 rfl (by decide) dX10_digest_124 rfl rfl ?_
      refine T_goto 99 dX10_digest_127 (by decide) ?_
      exact ih (v + 1) (by omega) (by omega)
set_option maxHeartbeats 1000000 in
theorem LOh_X10_digest {l : Launch} {D : va_G} {cA : Nat → ClassId} {n0 : Nat} {sg adK adV : Nat → Nat} {sgA smA wdA bS LS : Nat} {xs : Nat → Int32} (hX : SF n0 (XW0 sg adK adV sgA smA wdA n0 bS LS xs)) {sz : Nat} {τ : TY} (hl : l.stackTraces = false) {N1 N2 M : ME} {x r p r2 p2 n8 a b c : Nat} {ω ρ : RH} {ν : NU} (hV : FV τ N1 M x r p r2 p2 n8 ω) (hR : LM τ N2 M r a b c ρ ν) (hi : RI a b c ρ) : ∀ (n : Nat) (i : Nat) (u : Value) (h2 : i ≤ b), b - i < n → T l D cA n0 (XW0 sg adK adV sgA smA wdA n0 bS LS xs) mX10_digest 8 0 0 sz τ M 85 [.ref x, .long (dgN (dgN (dgF 797 (cntF a b c n8 ρ) 13) (stF b c ρ) 5 a) (hsF c ρ) 10 i), UU, .int (nI i), u] [] (fun v' sz' τ' M' => v' = some (.long (dgW a b c n8 ρ)) ∧ sz' = sz ∧ τ' = τ ∧ M' = M) (fun _ _ _ _ => False) := by
  intro n
  induction n with
  | zero => intros; omega
  | succ n ih =>
    intro i u h2 hn
    obtain ⟨la, lb, lc⟩ := hR.ok
    refine T_iload3 dX10_digest_85 rfl ?_
    refine T_aload0 dX10_digest_86 rfl ?_
    refine g10_23 _ rfl (hV.t_x) (hV.g_r) dX10_digest_87 rfl ?_
    refine g10_96 _ rfl hR.t hR.r4 dX10_digest_90 rfl ?_
    refine T_icmp_ge 136 96 dX10_digest_93 (by decide) rfl (fun c2 => ?_) (fun c2 => ?_)
    ·
      have c2 := le_out rfl c2
      obtain rfl : i = b := by omega
      refine T_iconst (0) dX10_digest_136 rfl rfl ?_
      refine T_istore3 rfl (by decide) dX10_digest_137 rfl ?_
      exact LOl_X10_digest hX hl hV hR hi (c + 1) 0 _ (Nat.zero_le _) (by omega)
    ·
      have c2 := lt_in rfl c2
      refine T_iconst (0) dX10_digest_96 rfl rfl ?_
      refine T_istore4 rfl (by decide) dX10_digest_97 rfl ?_
      exact LIh_X10_digest hX hl hV hR hi c2 (ih (i + 1) _ (by omega) (by omega)) 11 0 (by omega) (by omega)
set_option maxHeartbeats 1000000 in
theorem LIs_X10_digest {l : Launch} {D : va_G} {cA : Nat → ClassId} {n0 : Nat} {sg adK adV : Nat → Nat} {sgA smA wdA bS LS : Nat} {xs : Nat → Int32} (hX : SF n0 (XW0 sg adK adV sgA smA wdA n0 bS LS xs)) {sz : Nat} {τ : TY} (hl : l.stackTraces = false) {N1 N2 M : ME} {x r p r2 p2 n8 a b c : Nat} {ω ρ : RH} {ν : NU} (hV : FV τ N1 M x r p r2 p2 n8 ω) (hR : LM τ N2 M r a b c ρ ν) (hi : RI a b c ρ) {i : Nat} (h2 : i < a) (nx : T l D cA n0 (XW0 sg adK adV sgA smA wdA n0 bS LS xs) mX10_digest 8 0 0 sz τ M 33 [.ref x, .long (dgN (dgF 797 (cntF a b c n8 ρ) 13) (stF b c ρ) 5 (i + 1)), UU, .int (nI (i + 1)), .int (nI 5)] [] (fun v' sz' τ' M' => v' = some (.long (dgW a b c n8 ρ)) ∧ sz' = sz ∧ τ' = τ ∧ M' = M) (fun _ _ _ _ => False)) : ∀ (n : Nat) (v : Nat) (hv : v ≤ 5), 5 - v < n → T l D cA n0 (XW0 sg adK adV sgA smA wdA n0 bS LS xs) mX10_digest 8 0 0 sz τ M 47 [.ref x, .long (dgF (dgN (dgF 797 (cntF a b c n8 ρ) 13) (stF b c ρ) 5 i) ((stF b c ρ) i) v), UU, .int (nI i), .int (nI v)] [] (fun v' sz' τ' M' => v' = some (.long (dgW a b c n8 ρ)) ∧ sz' = sz ∧ τ' = τ ∧ M' = M) (fun _ _ _ _ => False) := by
  intro n
  induction n with
  | zero => intros; omega
  | succ n ih =>
    intro v hv hn
    obtain ⟨la, lb, lc⟩ := hR.ok
    refine T_iload4 dX10_digest_47 rfl ?_
    refine T_iconst (5) dX10_digest_49 rfl rfl ?_
    refine T_icmp_ge 77 53 dX10_digest_50 (by decide) rfl (fun c1 => ?_) (fun c1 => ?_)
    ·
      have c1 : v = 5 := by have := (nI_leI (a := 5) (b := v) (by omega) (by omega)).mp c1; omega
      first | refine T_iinc3 rfl (by decide) dX10_digest_77 rfl (inc1 _) ?_ | refine T_iinc3 rfl (by decide) dX10_digest_77 rfl rfl ?_
      refine T_goto 33 dX10_digest_80 (by decide) ?_
      subst c1
      exact nx
    ·
      have c1 : v < 5 := Nat.lt_of_not_le (fun q => c1 ((nI_leI (a := 5) (by omega) (by omega)).mpr q))
      refine T_lload1 dX10_digest_53 rfl ?_
      refine T_ldc2 kl10_148 dX10_digest_54 rfl ?_
      refine T_lmul dX10_digest_57 rfl ?_
      refine T_aload0 dX10_digest_58 rfl ?_
      refine g10_23 _ rfl (hV.t_x) (hV.g_r) dX10_digest_59 rfl ?_
      refine T_iload3 dX10_digest_62 rfl ?_
      refine T_iload4 dX10_digest_63 rfl ?_
      refine T_cV2 (c_X6_stretchFact hX hR (by omega) (by omega)) hX k10_92 (Or.inl ⟨_, _, _, _, hR.t, by decide, rfl⟩) (by decide) (Nat.le_of_ble_eq_true rfl) dX10_digest_65 rfl ?_
      rintro _ _ _ _ ⟨rfl, rfl, rfl, rfl⟩
      refine T_i2l dX10_digest_68 rfl ?_
      refine T_ladd dX10_digest_69 rfl ?_
      refine T_lstore1 rfl (by decide) dX10_digest_70 rfl ?_
      first | refine T_iinc4 rfl (by decide) dX10_digest_71 rfl (inc1 _) ?_ | refine T_iinc4 rfl (by decide) dX10_digest_71 rfl rfl ?_
      refine T_goto 47 dX10_digest_74 (by decide) ?_
      exact ih (v + 1) (by omega) (by omega)
set_option maxHeartbeats 1000000 in
theorem LOs_X10_digest {l : Launch} {D : va_G} {cA : Nat → ClassId} {n0 : Nat} {sg adK adV : Nat → Nat} {sgA smA wdA bS LS : Nat} {xs : Nat → Int32} (hX : SF n0 (XW0 sg adK adV sgA smA wdA n0 bS LS xs)) {sz : Nat} {τ : TY} (hl : l.stackTraces = false) {N1 N2 M : ME} {x r p r2 p2 n8 a b c : Nat} {ω ρ : RH} {ν : NU} (hV : FV τ N1 M x r p r2 p2 n8 ω) (hR : LM τ N2 M r a b c ρ ν) (hi : RI a b c ρ) : ∀ (n : Nat) (i : Nat) (u : Value) (h2 : i ≤ a), a - i < n → T l D cA n0 (XW0 sg adK adV sgA smA wdA n0 bS LS xs) mX10_digest 8 0 0 sz τ M 33 [.ref x, .long (dgN (dgF 797 (cntF a b c n8 ρ) 13) (stF b c ρ) 5 i), UU, .int (nI i), u] [] (fun v' sz' τ' M' => v' = some (.long (dgW a b c n8 ρ)) ∧ sz' = sz ∧ τ' = τ ∧ M' = M) (fun _ _ _ _ => False) := by
  intro n
  induction n with
  | zero => intros; omega
  | succ n ih =>
    intro i u h2 hn
    obtain ⟨la, lb, lc⟩ := hR.ok
    refine T_iload3 dX10_digest_33 rfl ?_
    refine T_aload0 dX10_digest_34 rfl ?_
    refine g10_23 _ rfl (hV.t_x) (hV.g_r) dX10_digest_35 rfl ?_
    refine g10_89 _ rfl hR.t hR.r3 dX10_digest_38 rfl ?_
    refine T_icmp_ge 83 44 dX10_digest_41 (by decide) rfl (fun c2 => ?_) (fun c2 => ?_)
    ·
      have c2 := le_out rfl c2
      obtain rfl : i = a := by omega
      refine T_iconst (0) dX10_digest_83 rfl rfl ?_
      refine T_istore3 rfl (by decide) dX10_digest_84 rfl ?_
      exact LOh_X10_digest hX hl hV hR hi (b + 1) 0 _ (Nat.zero_le _) (by omega)
    ·
      have c2 := lt_in rfl c2
      refine T_iconst (0) dX10_digest_44 rfl rfl ?_
      refine T_istore4 rfl (by decide) dX10_digest_45 rfl ?_
      exact LIs_X10_digest hX hl hV hR hi c2 (ih (i + 1) _ (by omega) (by omega)) 6 0 (by omega) (by omega)
set_option maxHeartbeats 1000000 in
theorem LC_X10_digest {l : Launch} {D : va_G} {cA : Nat → ClassId} {n0 : Nat} {sg adK adV : Nat → Nat} {sgA smA wdA bS LS : Nat} {xs : Nat → Int32} (hX : SF n0 (XW0 sg adK adV sgA smA wdA n0 bS LS xs)) {sz : Nat} {τ : TY} (hl : l.stackTraces = false) {N1 N2 M : ME} {x r p r2 p2 n8 a b c : Nat} {ω ρ : RH} {ν : NU} (hV : FV τ N1 M x r p r2 p2 n8 ω) (hR : LM τ N2 M r a b c ρ ν) (hi : RI a b c ρ) : ∀ (n : Nat) (v : Nat) (hv : v ≤ 13), 13 - v < n → T l D cA n0 (XW0 sg adK adV sgA smA wdA n0 bS LS xs) mX10_digest 8 (13 - v) (6 * (13 - v)) sz τ M 6 [.ref x, .long (dgF 797 (cntF a b c n8 ρ) v), UU, .int (nI v), UU] [] (fun v' sz' τ' M' => v' = some (.long (dgW a b c n8 ρ)) ∧ sz' = sz ∧ τ' = τ ∧ M' = M) (fun _ _ _ _ => False) := by
  intro n
  induction n with
  | zero => intros; omega
  | succ n ih =>
    intro v hv hn
    obtain ⟨la, lb, lc⟩ := hR.ok
    refine T_iload3 dX10_digest_6 rfl ?_
    refine T_bipush (13) dX10_digest_7 rfl rfl ?_
    refine T_icmp_ge 31 12 dX10_digest_9 (by decide) rfl (fun c1 => ?_) (fun c1 => ?_)
    ·
      have c1 : v = 13 := by have := (nI_leI (a := 13) (b := v) (by omega) (by omega)).mp c1; omega
      refine T_iconst (0) dX10_digest_31 rfl rfl ?_
      refine T_istore3 rfl (by decide) dX10_digest_32 rfl ?_
      subst c1
      refine T_room (bk2 := 0) (bn2 := 0) (by omega) (by omega) ?_
      exact LOs_X10_digest hX hl hV hR hi (a + 1) 0 _ (Nat.zero_le _) (by omega)
    ·
      have c1 : v < 13 := Nat.lt_of_not_le (fun q => c1 ((nI_leI (a := 13) (by omega) (by omega)).mpr q))
      refine T_lload1 dX10_digest_12 rfl ?_
      refine T_ldc2 kl10_148 dX10_digest_13 rfl ?_
      refine T_lmul dX10_digest_16 rfl ?_
      refine T_aload0 dX10_digest_17 rfl ?_
      refine T_iload3 dX10_digest_18 rfl ?_
      refine T_room (bk2 := (13 - (v + 1)) + 1) (bn2 := (6 * (13 - (v + 1))) + 6) (by omega) (by omega) ?_
      refine T_cXV1 (c_X10_count hX hl hV hR _) hX k10_150 (Or.inl ⟨_, _, _, _, hV.t_x, by decide, rfl⟩) (by decide) (Nat.le_of_ble_eq_true rfl) dX10_digest_19 rfl ?_ (by
        rintro _ _ z2 _ _ ⟨⟨rfl, h5⟩, _⟩ hz
        exact absurd ((ii_1 (nI_pos2 (by omega)) ((nI_leI (b := 12) (by omega) (by omega)).mpr (by omega))).symm.trans h5) (by decide))
      rintro _ _ _ _ ⟨⟨rfl, _⟩, rfl, rfl, rfl⟩
      rw [nI_cl (by omega)]
      refine T_i2l dX10_digest_22 rfl ?_
      refine T_ladd dX10_digest_23 rfl ?_
      refine T_lstore1 rfl (by decide) dX10_digest_24 rfl ?_
      first | refine T_iinc3 rfl (by decide) dX10_digest_25 rfl (inc1 _) ?_ | refine T_iinc3 rfl (by decide) dX10_digest_25 rfl rfl ?_
      refine T_goto 6 dX10_digest_28 (by decide) ?_
      exact ih (v + 1) (by omega) (by omega)
set_option maxHeartbeats 1000000 in
theorem c_X10_digest {l : Launch} {D : va_G} {cA : Nat → ClassId} {n0 : Nat} {sg adK adV : Nat → Nat} {sgA smA wdA bS LS : Nat} {xs : Nat → Int32} (hX : SF n0 (XW0 sg adK adV sgA smA wdA n0 bS LS xs)) {sz : Nat} {τ : TY} (hl : l.stackTraces = false) {N1 N2 M : ME} {x r p r2 p2 n8 a b c : Nat} {ω ρ : RH} {ν : NU} (hV : FV τ N1 M x r p r2 p2 n8 ω) (hR : LM τ N2 M r a b c ρ ν) (hi : RI a b c ρ) : CT l D cA n0 (XW0 sg adK adV sgA smA wdA n0 bS LS xs) mX10_digest 8 13 78 sz τ M [.ref x] (fun v' sz' τ' M' => v' = some (.long (dgW a b c n8 ρ)) ∧ sz' = sz ∧ τ' = τ ∧ M' = M) := by
  refine CT.of (ls := [.ref x, UU, UU, UU, UU]) (by decide) (Nat.le_of_ble_eq_true rfl) rfl ?_
  refine T_ldc2 kl10_146 dX10_digest_0 rfl ?_
  refine T_lstore1 rfl (by decide) dX10_digest_3 rfl ?_
  refine T_iconst (0) dX10_digest_4 rfl rfl ?_
  refine T_istore3 rfl (by decide) dX10_digest_5 rfl ?_
  refine T_room (bk2 := (13 - 0)) (bn2 := (6 * (13 - 0))) (by omega) (by omega) ?_
  exact LC_X10_digest hX hl hV hR hi 14 0 (by omega) (by omega)

