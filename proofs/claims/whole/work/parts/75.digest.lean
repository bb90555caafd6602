def dgF (d : Int64) (f : Nat → Int32) : Nat → Int64
  | 0 => d
  | k + 1 => dgF d f k * 31 + (f k).toInt64
def dgN (d : Int64) (g : Nat → Nat → Int32) (w : Nat) : Nat → Int64
  | 0 => d
  | k + 1 => dgF (dgN d g w k) (g k) w
def dgW (a b c n8 : Nat) (ρ : RH) : Int64 := dgN (dgN (dgN (dgF 797 (cntF a b c n8 ρ) 13) (stF b c ρ) 5 a) (hsF c ρ) 10 b) (lgF ρ) 4 c
set_option maxHeartbeats 1000000 in
theorem LIl_X13_digest {l : Launch} {D : va_G} {cA : Nat → ClassId} {n0 : Nat} {sg adK adV : Nat → Nat} {sgA smA wdA bS LS : Nat} {xs : Nat → Int32} (hX : SF n0 (XW0 sg adK adV sgA smA wdA n0 bS LS xs)) {M1 : ME} {s0 : Nat} {τ0 : TY} {N1 N2 : ME} {m y z n8 tk dp a b c hc wc sn : Nat} {B : Nat → Nat} {ω ρ π : RH} {σ : Nat → Nat} {μ κ : Nat → Int32} (hM0 : MV τ0 N1 M1 m y z (m + 26) (m + 40) n8 tk dp B ω) (hS0 : SL τ0 N2 M1 (m + 26) a b c ρ m μ κ) (hW0 : WN τ0 M1 m y (m + 26) a b c hc wc sn ρ π σ) (hL : y = m + 7 ∨ m + 54 ≤ y) (hb : m + 54 ≤ s0 ∧ y + 19 ≤ s0) {i : Nat} (hi : i < c) (nx : ∀ (szk : Nat) (τk : TY) (Mk : ME), s0 ≤ szk → (∀ q, q < s0 → τk q = τ0 q) → (∀ q, q < s0 → Mk q = M1 q) → T l D cA n0 (XW0 sg adK adV sgA smA wdA n0 bS LS xs) mX13_digest 4 (0) (0) szk τk Mk 137 [.ref m, .long (dgN (dgN (dgN (dgF 797 (cntF a b c n8 ρ) 13) (stF b c ρ) 5 a) (hsF c ρ) 10 b) (lgF ρ) 4 (i + 1)), UU, .int (nI (i + 1)), .int (nI 4)] [] (fun v' sz' τ' M' => v' = some (.long (dgW a b c n8 ρ)) ∧ s0 ≤ sz' ∧ (∀ q, q < s0 → τ' q = τ0 q) ∧ (∀ q, q < s0 → M' q = M1 q)) (fun _ _ _ _ => False)) : ∀ (n : Nat) (v : Nat) (szk : Nat) (τk : TY) (Mk : ME) (hv : v ≤ 4) (hz : s0 ≤ szk) (hT : ∀ q, q < s0 → τk q = τ0 q) (hK : ∀ q, q < s0 → Mk q = M1 q), 4 - v < n → T l D cA n0 (XW0 sg adK adV sgA smA wdA n0 bS LS xs) mX13_digest 4 (0) (0) szk τk Mk 151 [.ref m, .long (dgF (dgN (dgN (dgN (dgF 797 (cntF a b c n8 ρ) 13) (stF b c ρ) 5 a) (hsF c ρ) 10 b) (lgF ρ) 4 i) ((lgF ρ) i) v), UU, .int (nI i), .int (nI v)] [] (fun v' sz' τ' M' => v' = some (.long (dgW a b c n8 ρ)) ∧ s0 ≤ sz' ∧ (∀ q, q < s0 → τ' q = τ0 q) ∧ (∀ q, q < s0 → M' q = M1 q)) (fun _ _ _ _ => False) := by
  intro n
  induction n with
  | zero => intros; omega
  | succ n ih =>
    intro v szk τk Mk hv hz hT hK hn
    obtain ⟨l3, l4, l5, l6, l7, l8⟩ := hW0.ok
    have hM := (hM0.tau (τ' := τk) (fun q g1 g2 => hT q (by omega))).fr (M1 := Mk) (fun q g1 g2 => hK q (by omega))
    have hS := (hS0.tau (τ' := τk) (fun q g1 g2 => hT q (by omega))).fr (M1 := Mk) (fun q g1 g2 => hK q (by omega))
    have hW := hW0.al (τ' := τk) (M1 := Mk) (hK m (by omega)) (fun q g1 g2 => hK q (by omega)) (hT m (by omega)) (fun q g1 g2 => hT q (by omega))
    refine T_iload4 dX13_digest_151 rfl ?_
    refine T_iconst (3) dX13_digest_153 rfl rfl ?_
    refine T_icmp_gt 178 157 dX13_digest_154 (by decide) rfl (fun c1 => ?_) (fun c1 => ?_)
    ·
      have c1 : v = 4 := by have := Nat.lt_of_not_le (fun q => absurd ((nI_leI (a := v) (b := 3) (by omega) (by omega)).mpr q) (Int32.not_le.mpr c1)); omega
      first | refine T_iinc3 rfl (by decide) dX13_digest_178 rfl (inc1 _) ?_ | refine T_iinc3 rfl (by decide) dX13_digest_178 rfl rfl ?_
      refine T_goto 137 dX13_digest_181 (by decide) ?_
      subst c1
      refine T_room (by omega) (by omega) (nx _ _ _ hz hT hK)
    ·
      have c1 : v < 4 := Nat.lt_of_not_le (fun q => c1 (nI_lt (a := 3) (by omega) (by omega)))
      refine T_lload1 dX13_digest_157 rfl ?_
      refine T_ldc2 kl13_382 dX13_digest_158 rfl ?_
      refine T_lmul dX13_digest_161 rfl ?_
      refine T_aload0 dX13_digest_162 rfl ?_
      refine T_iload3 dX13_digest_163 rfl ?_
      refine T_iload4 dX13_digest_164 rfl ?_
      refine T_cV2 (c_X13_logTold hX hM hS hW hL hi (by omega)) hX k13_359 (Or.inl ⟨_, _, _, _, (hM.t_m), by decide, rfl⟩) (by decide) (Nat.le_of_ble_eq_true rfl) dX13_digest_166 rfl ?_
      rintro _ _ _ _ ⟨rfl, rfl, rfl, rfl⟩
      refine T_i2l dX13_digest_169 rfl ?_
      refine T_ladd dX13_digest_170 rfl ?_
      refine T_lstore1 rfl (by decide) dX13_digest_171 rfl ?_
      first | refine T_iinc4 rfl (by decide) dX13_digest_172 rfl (inc1 _) ?_ | refine T_iinc4 rfl (by decide) dX13_digest_172 rfl rfl ?_
      refine T_goto 151 dX13_digest_175 (by decide) ?_
      exact ih (v + 1) _ _ _ (by omega) hz hT hK (by omega)
set_option maxHeartbeats 1000000 in
theorem LOl_X13_digest {l : Launch} {D : va_G} {cA : Nat → ClassId} {n0 : Nat} {sg adK adV : Nat → Nat} {sgA smA wdA bS LS : Nat} {xs : Nat → Int32} (hX : SF n0 (XW0 sg adK adV sgA smA wdA n0 bS LS xs)) {M1 : ME} {s0 : Nat} {τ0 : TY} {N1 N2 : ME} {m y z n8 tk dp a b c hc wc sn : Nat} {B : Nat → Nat} {ω ρ π : RH} {σ : Nat → Nat} {μ κ : Nat → Int32} (hM0 : MV τ0 N1 M1 m y z (m + 26) (m + 40) n8 tk dp B ω) (hS0 : SL τ0 N2 M1 (m + 26) a b c ρ m μ κ) (hW0 : WN τ0 M1 m y (m + 26) a b c hc wc sn ρ π σ) (hL : y = m + 7 ∨ m + 54 ≤ y) (hb : m + 54 ≤ s0 ∧ y + 19 ≤ s0) : ∀ (n : Nat) (i : Nat) (u : Value) (szk : Nat) (τk : TY) (Mk : ME) (hi : i ≤ c) (hz : s0 ≤ szk) (hT : ∀ q, q < s0 → τk q = τ0 q) (hK : ∀ q, q < s0 → Mk q = M1 q), c - i < n → T l D cA n0 (XW0 sg adK adV sgA smA wdA n0 bS LS xs) mX13_digest 4 (0) (0) szk τk Mk 137 [.ref m, .long (dgN (dgN (dgN (dgF 797 (cntF a b c n8 ρ) 13) (stF b c ρ) 5 a) (hsF c ρ) 10 b) (lgF ρ) 4 i), UU, .int (nI i), u] [] (fun v' sz' τ' M' => v' = some (.long (dgW a b c n8 ρ)) ∧ s0 ≤ sz' ∧ (∀ q, q < s0 → τ' q = τ0 q) ∧ (∀ q, q < s0 → M' q = M1 q)) (fun _ _ _ _ => False) := by
  intro n
  induction n with
  | zero => intros; omega
  | succ n ih =>
    intro i u szk τk Mk hi hz hT hK hn
    obtain ⟨l3, l4, l5, l6, l7, l8⟩ := hW0.ok
    have hM := (hM0.tau (τ' := τk) (fun q g1 g2 => hT q (by omega))).fr (M1 := Mk) (fun q g1 g2 => hK q (by omega))
    have hS := (hS0.tau (τ' := τk) (fun q g1 g2 => hT q (by omega))).fr (M1 := Mk) (fun q g1 g2 => hK q (by omega))
    have hW := hW0.al (τ' := τk) (M1 := Mk) (hK m (by omega)) (fun q g1 g2 => hK q (by omega)) (hT m (by omega)) (fun q g1 g2 => hT q (by omega))
    refine T_iload3 dX13_digest_137 rfl ?_
    refine T_aload0 dX13_digest_138 rfl ?_
    first | refine g13_35 _ rfl (hM.t_m) (hM.g_y) dX13_digest_139 rfl ?_ | refine g13_35 _ rfl (hW.t_m) (hW.g_pl) dX13_digest_139 rfl ?_
    refine g13_70 _ rfl (hW.t_q) (hW.g_logs) dX13_digest_142 rfl ?_
    refine T_icmp_ge 184 148 dX13_digest_145 (by decide) rfl (fun c2 => ?_) (fun c2 => ?_)
    ·
      have c2 := le_out rfl c2
      obtain rfl : i = c := by omega
      refine T_lload1 dX13_digest_184 rfl ?_
      refine T_lret rfl dX13_digest_185 ?_
      exact ⟨rfl, hz, hT, hK⟩
    ·
      have c2 := lt_in rfl c2
      refine T_iconst (0) dX13_digest_148 rfl rfl ?_
      refine T_istore4 rfl (by decide) dX13_digest_149 rfl ?_
      refine T_room (bk2 := (0)) (bn2 := (0)) (by omega) (by omega) ?_
      exact LIl_X13_digest hX hM0 hS0 hW0 hL hb c2 (fun szk τk Mk g1 g2 g3 => ih (i + 1) _ _ _ _ (by omega) g1 g2 g3 (by omega)) 5 0 _ _ _ (by omega) hz hT hK (by omega)
set_option maxHeartbeats 1000000 in
theorem LIh_X13_digest {l : Launch} {D : va_G} {cA : Nat → ClassId} {n0 : Nat} {sg adK adV : Nat → Nat} {sgA smA wdA bS LS : Nat} {xs : Nat → Int32} (hX : SF n0 (XW0 sg adK adV sgA smA wdA n0 bS LS xs)) {M1 : ME} {s0 : Nat} {τ0 : TY} {N1 N2 : ME} {m y z n8 tk dp a b c hc wc sn : Nat} {B : Nat → Nat} {ω ρ π : RH} {σ : Nat → Nat} {μ κ : Nat → Int32} (hM0 : MV τ0 N1 M1 m y z (m + 26) (m + 40) n8 tk dp B ω) (hS0 : SL τ0 N2 M1 (m + 26) a b c ρ m μ κ) (hW0 : WN τ0 M1 m y (m + 26) a b c hc wc sn ρ π σ) (hL : y = m + 7 ∨ m + 54 ≤ y) (hb : m + 54 ≤ s0 ∧ y + 19 ≤ s0) {i : Nat} (hi : i < b) (nx : ∀ (szk : Nat) (τk : TY) (Mk : ME), s0 ≤ szk → (∀ q, q < s0 → τk q = τ0 q) → (∀ q, q < s0 → Mk q = M1 q) → T l D cA n0 (XW0 sg adK adV sgA smA wdA n0 bS LS xs) mX13_digest 4 (10 * (b - (i + 1)) + 0) (100 * (b - (i + 1)) + 0) szk τk Mk 87 [.ref m, .long (dgN (dgN (dgF 797 (cntF a b c n8 ρ) 13) (stF b c ρ) 5 a) (hsF c ρ) 10 (i + 1)), UU, .int (nI (i + 1)), .int (nI 10)] [] (fun v' sz' τ' M' => v' = some (.long (dgW a b c n8 ρ)) ∧ s0 ≤ sz' ∧ (∀ q, q < s0 → τ' q = τ0 q) ∧ (∀ q, q < s0 → M' q = M1 q)) (fun _ _ _ _ => False)) : ∀ (n : Nat) (v : Nat) (szk : Nat) (τk : TY) (Mk : ME) (hv : v ≤ 10) (hz : s0 ≤ szk) (hT : ∀ q, q < s0 → τk q = τ0 q) (hK : ∀ q, q < s0 → Mk q = M1 q), 10 - v < n → T l D cA n0 (XW0 sg adK adV sgA smA wdA n0 bS LS xs) mX13_digest 4 (10 * (b - (i + 1)) + (10 - v) + 0) (100 * (b - (i + 1)) + (100 - 10 * v) + 0) szk τk Mk 101 [.ref m, .long (dgF (dgN (dgN (dgF 797 (cntF a b c n8 ρ) 13) (stF b c ρ) 5 a) (hsF c ρ) 10 i) ((hsF c ρ) i) v), UU, .int (nI i), .int (nI v)] [] (fun v' sz' τ' M' => v' = some (.long (dgW a b c n8 ρ)) ∧ s0 ≤ sz' ∧ (∀ q, q < s0 → τ' q = τ0 q) ∧ (∀ q, q < s0 → M' q = M1 q)) (fun _ _ _ _ => False) := by
  intro n
  induction n with
  | zero => intros; omega
  | succ n ih =>
    intro v szk τk Mk hv hz hT hK hn
    obtain ⟨l3, l4, l5, l6, l7, l8⟩ := hW0.ok
    have hM := (hM0.tau (τ' := τk) (fun q g1 g2 => hT q (by omega))).fr (M1 := Mk) (fun q g1 g2 => hK q (by omega))
    have hS := (hS0.tau (τ' := τk) (fun q g1 g2 => hT q (by omega))).fr (M1 := Mk) (fun q g1 g2 => hK q (by omega))
    have hW := hW0.al (τ' := τk) (M1 := Mk) (hK m (by omega)) (fun q g1 g2 => hK q (by omega)) (hT m (by omega)) (fun q g1 g2 => hT q (by omega))
    refine T_iload4 dX13_digest_101 rfl ?_
    refine T_bipush (9) dX13_digest_103 rfl rfl ?_
    refine T_icmp_gt 129 108 dX13_digest_105 (by decide) rfl (fun c1 => ?_) (fun c1 => ?_)
    ·
      have c1 : v = 10 := by have := Nat.lt_of_not_le (fun q => absurd ((nI_leI (a := v) (b := 9) (by omega) (by omega)).mpr q) (Int32.not_le.mpr c1)); omega
      first | refine T_iinc3 rfl (by decide) dX13_digest_129 rfl (inc1 _) ?_ | refine T_iinc3 rfl (by decide) dX13_digest_129 rfl rfl ?_
      refine T_goto 87 dX13_digest_132 (by decide) ?_
      subst c1
      refine T_room (by omega) (by omega) (nx _ _ _ hz hT hK)
    ·
      have c1 : v < 10 := Nat.lt_of_not_le (fun q => c1 (nI_lt (a := 9) (by omega) (by omega)))
      refine T_lload1 dX13_digest_108 rfl ?_
      refine T_ldc2 kl13_382 dX13_digest_109 rfl ?_
      refine T_lmul dX13_digest_112 rfl ?_
      refine T_aload0 dX13_digest_113 rfl ?_
      refine T_iload3 dX13_digest_114 rfl ?_
      refine T_iload4 dX13_digest_115 rfl ?_
      refine T_room (bk2 := (10 * (b - (i + 1)) + (10 - (v + 1)) + 0) + 1) (bn2 := (100 * (b - (i + 1)) + (100 - 10 * (v + 1)) + 0) + 10) (by omega) (by omega) ?_
      refine T_cV2 (c_X13_horseTold hX hM hS hW hL hi (by omega)) hX k13_344 (Or.inl ⟨_, _, _, _, (hM.t_m), by decide, rfl⟩) (by decide) (Nat.le_of_ble_eq_true rfl) dX13_digest_117 rfl ?_
      rintro _ sz9 τ9 M9 ⟨rfl, rfl, hT9, hK9⟩
      refine T_i2l dX13_digest_120 rfl ?_
      refine T_ladd dX13_digest_121 rfl ?_
      refine T_lstore1 rfl (by decide) dX13_digest_122 rfl ?_
      first | refine T_iinc4 rfl (by decide) dX13_digest_123 rfl (inc1 _) ?_ | refine T_iinc4 rfl (by decide) dX13_digest_123 rfl rfl ?_
      refine T_goto 101 dX13_digest_126 (by decide) ?_
      exact ih (v + 1) _ _ _ (by omega) (by omega) (fun q g => (hT9 q (by omega)).trans (hT q g)) (fun q g => (hK9 q (by omega)).trans (hK q g)) (by omega)
set_option maxHeartbeats 1000000 in
theorem LOh_X13_digest {l : Launch} {D : va_G} {cA : Nat → ClassId} {n0 : Nat} {sg adK adV : Nat → Nat} {sgA smA wdA bS LS : Nat} {xs : Nat → Int32} (hX : SF n0 (XW0 sg adK adV sgA smA wdA n0 bS LS xs)) {M1 : ME} {s0 : Nat} {τ0 : TY} {N1 N2 : ME} {m y z n8 tk dp a b c hc wc sn : Nat} {B : Nat → Nat} {ω ρ π : RH} {σ : Nat → Nat} {μ κ : Nat → Int32} (hM0 : MV τ0 N1 M1 m y z (m + 26) (m + 40) n8 tk dp B ω) (hS0 : SL τ0 N2 M1 (m + 26) a b c ρ m μ κ) (hW0 : WN τ0 M1 m y (m + 26) a b c hc wc sn ρ π σ) (hL : y = m + 7 ∨ m + 54 ≤ y) (hb : m + 54 ≤ s0 ∧ y + 19 ≤ s0) : ∀ (n : Nat) (i : Nat) (u : Value) (szk : Nat) (τk : TY) (Mk : ME) (hi : i ≤ b) (hz : s0 ≤ szk) (hT : ∀ q, q < s0 → τk q = τ0 q) (hK : ∀ q, q < s0 → Mk q = M1 q), b - i < n → T l D cA n0 (XW0 sg adK adV sgA smA wdA n0 bS LS xs) mX13_digest 4 (10 * (b - i) + 0) (100 * (b - i) + 0) szk τk Mk 87 [.ref m, .long (dgN (dgN (dgF 797 (cntF a b c n8 ρ) 13) (stF b c ρ) 5 a) (hsF c ρ) 10 i), UU, .int (nI i), u] [] (fun v' sz' τ' M' => v' = some (.long (dgW a b c n8 ρ)) ∧ s0 ≤ sz' ∧ (∀ q, q < s0 → τ' q = τ0 q) ∧ (∀ q, q < s0 → M' q = M1 q)) (fun _ _ _ _ => False) := by
  intro n
  induction n with
  | zero => intros; omega
  | succ n ih =>
    intro i u szk τk Mk hi hz hT hK hn
    obtain ⟨l3, l4, l5, l6, l7, l8⟩ := hW0.ok
    have hM := (hM0.tau (τ' := τk) (fun q g1 g2 => hT q (by omega))).fr (M1 := Mk) (fun q g1 g2 => hK q (by omega))
    have hS := (hS0.tau (τ' := τk) (fun q g1 g2 => hT q (by omega))).fr (M1 := Mk) (fun q g1 g2 => hK q (by omega))
    have hW := hW0.al (τ' := τk) (M1 := Mk) (hK m (by omega)) (fun q g1 g2 => hK q (by omega)) (hT m (by omega)) (fun q g1 g2 => hT q (by omega))
    refine T_iload3 dX13_digest_87 rfl ?_
    refine T_aload0 dX13_digest_88 rfl ?_
    first | refine g13_35 _ rfl (hM.t_m) (hM.g_y) dX13_digest_89 rfl ?_ | refine g13_35 _ rfl (hW.t_m) (hW.g_pl) dX13_digest_89 rfl ?_
    refine g13_67 _ rfl (hW.t_q) (hW.g_horses) dX13_digest_92 rfl ?_
    refine T_icmp_ge 135 98 dX13_digest_95 (by decide) rfl (fun c2 => ?_) (fun c2 => ?_)
    ·
      have c2 := le_out rfl c2
      obtain rfl : i = b := by omega
      refine T_iconst (0) dX13_digest_135 rfl rfl ?_
      refine T_istore3 rfl (by decide) dX13_digest_136 rfl ?_
      refine T_room (bk2 := 0) (bn2 := 0) (by omega) (by omega) ?_
      exact LOl_X13_digest hX hM0 hS0 hW0 hL hb (c + 1) 0 _ _ _ _ (Nat.zero_le _) hz hT hK (by omega)
    ·
      have c2 := lt_in rfl c2
      refine T_iconst (0) dX13_digest_98 rfl rfl ?_
      refine T_istore4 rfl (by decide) dX13_digest_99 rfl ?_
      refine T_room (bk2 := (10 * (b - (i + 1)) + (10 - 0) + 0)) (bn2 := (100 * (b - (i + 1)) + (100 - 10 * 0) + 0)) (by omega) (by omega) ?_
      exact LIh_X13_digest hX hM0 hS0 hW0 hL hb c2 (fun szk τk Mk g1 g2 g3 => ih (i + 1) _ _ _ _ (by omega) g1 g2 g3 (by omega)) 11 0 _ _ _ (by omega) hz hT hK (by omega)
set_option maxHeartbeats 1000000 in
theorem LIs_X13_digest {l : Launch} {D : va_G} {cA : Nat → ClassId} {n0 : Nat} {sg adK adV : Nat → Nat} {sgA smA wdA bS LS : Nat} {xs : Nat → Int32} (hX : SF n0 (XW0 sg adK adV sgA smA wdA n0 bS LS xs)) {M1 : ME} {s0 : Nat} {τ0 : TY} {N1 N2 : ME} {m y z n8 tk dp a b c hc wc sn : Nat} {B : Nat → Nat} {ω ρ π : RH} {σ : Nat → Nat} {μ κ : Nat → Int32} (hM0 : MV τ0 N1 M1 m y z (m + 26) (m + 40) n8 tk dp B ω) (hS0 : SL τ0 N2 M1 (m + 26) a b c ρ m μ κ) (hW0 : WN τ0 M1 m y (m + 26) a b c hc wc sn ρ π σ) (hL : y = m + 7 ∨ m + 54 ≤ y) (hb : m + 54 ≤ s0 ∧ y + 19 ≤ s0) {i : Nat} (hi : i < a) (nx : ∀ (szk : Nat) (τk : TY) (Mk : ME), s0 ≤ szk → (∀ q, q < s0 → τk q = τ0 q) → (∀ q, q < s0 → Mk q = M1 q) → T l D cA n0 (XW0 sg adK adV sgA smA wdA n0 bS LS xs) mX13_digest 4 (5 * (a - (i + 1)) + 10 * b) (25 * (a - (i + 1)) + 100 * b) szk τk Mk 38 [.ref m, .long (dgN (dgF 797 (cntF a b c n8 ρ) 13) (stF b c ρ) 5 (i + 1)), UU, .int (nI (i + 1)), .int (nI 5)] [] (fun v' sz' τ' M' => v' = some (.long (dgW a b c n8 ρ)) ∧ s0 ≤ sz' ∧ (∀ q, q < s0 → τ' q = τ0 q) ∧ (∀ q, q < s0 → M' q = M1 q)) (fun _ _ _ _ => False)) : ∀ (n : Nat) (v : Nat) (szk : Nat) (τk : TY) (Mk : ME) (hv : v ≤ 5) (hz : s0 ≤ szk) (hT : ∀ q, q < s0 → τk q = τ0 q) (hK : ∀ q, q < s0 → Mk q = M1 q), 5 - v < n → T l D cA n0 (XW0 sg adK adV sgA smA wdA n0 bS LS xs) mX13_digest 4 (5 * (a - (i + 1)) + (5 - v) + 10 * b) (25 * (a - (i + 1)) + (25 - 5 * v) + 100 * b) szk τk Mk 52 [.ref m, .long (dgF (dgN (dgF 797 (cntF a b c n8 ρ) 13) (stF b c ρ) 5 i) ((stF b c ρ) i) v), UU, .int (nI i), .int (nI v)] [] (fun v' sz' τ' M' => v' = some (.long (dgW a b c n8 ρ)) ∧ s0 ≤ sz' ∧ (∀ q, q < s0 → τ' q = τ0 q) ∧ (∀ q, q < s0 → M' q = M1 q)) (fun _ _ _ _ => False) := by
  intro n
  induction n with
  | zero => intros; omega
  | succ n ih =>
    intro v szk τk Mk hv hz hT hK hn
    obtain ⟨l3, l4, l5, l6, l7, l8⟩ := hW0.ok
    have hM := (hM0.tau (τ' := τk) (fun q g1 g2 => hT q (by omega))).fr (M1 := Mk) (fun q g1 g2 => hK q (by omega))
    have hS := (hS0.tau (τ' := τk) (fun q g1 g2 => hT q (by omega))).fr (M1 := Mk) (fun q g1 g2 => hK q (by omega))
    have hW := hW0.al (τ' := τk) (M1 := Mk) (hK m (by omega)) (fun q g1 g2 => hK q (by omega)) (hT m (by omega)) (fun q g1 g2 => hT q (by omega))
    refine T_iload4 dX13_digest_52 rfl ?_
    refine T_iconst (4) dX13_digest_54 rfl rfl ?_
    refine T_icmp_gt 79 58 dX13_digest_55 (by decide) rfl (fun c1 => ?_) (fun c1 => ?_)
    ·
      have c1 : v = 5 := by have := Nat.lt_of_not_le (fun q => absurd ((nI_leI (a := v) (b := 4) (by omega) (by omega)).mpr q) (Int32.not_le.mpr c1)); omega
      first | refine T_iinc3 rfl (by decide) dX13_digest_79 rfl (inc1 _) ?_ | refine T_iinc3 rfl (by decide) dX13_digest_79 rfl rfl ?_
      refine T_goto 38 dX13_digest_82 (by decide) ?_
      subst c1
      refine T_room (by omega) (by omega) (nx _ _ _ hz hT hK)
    ·
      have c1 : v < 5 := Nat.lt_of_not_le (fun q => c1 (nI_lt (a := 4) (by omega) (by omega)))
      refine T_lload1 dX13_digest_58 rfl ?_
      refine T_ldc2 kl13_382 dX13_digest_59 rfl ?_
      refine T_lmul dX13_digest_62 rfl ?_
      refine T_aload0 dX13_digest_63 rfl ?_
      refine T_iload3 dX13_digest_64 rfl ?_
      refine T_iload4 dX13_digest_65 rfl ?_
      refine T_room (bk2 := (5 * (a - (i + 1)) + (5 - (v + 1)) + 10 * b) + 1) (bn2 := (25 * (a - (i + 1)) + (25 - 5 * (v + 1)) + 100 * b) + 5) (by omega) (by omega) ?_
      refine T_cV2 (c_X13_stretchTold hX hM hS hW hL hi (by omega)) hX k13_322 (Or.inl ⟨_, _, _, _, (hM.t_m), by decide, rfl⟩) (by decide) (Nat.le_of_ble_eq_true rfl) dX13_digest_67 rfl ?_
      rintro _ sz9 τ9 M9 ⟨rfl, rfl, hT9, hK9⟩
      refine T_i2l dX13_digest_70 rfl ?_
      refine T_ladd dX13_digest_71 rfl ?_
      refine T_lstore1 rfl (by decide) dX13_digest_72 rfl ?_
      first | refine T_iinc4 rfl (by decide) dX13_digest_73 rfl (inc1 _) ?_ | refine T_iinc4 rfl (by decide) dX13_digest_73 rfl rfl ?_
      refine T_goto 52 dX13_digest_76 (by decide) ?_
      exact ih (v + 1) _ _ _ (by omega) (by omega) (fun q g => (hT9 q (by omega)).trans (hT q g)) (fun q g => (hK9 q (by omega)).trans (hK q g)) (by omega)
set_option maxHeartbeats 1000000 in
theorem LOs_X13_digest {l : Launch} {D : va_G} {cA : Nat → ClassId} {n0 : Nat} {sg adK adV : Nat → Nat} {sgA smA wdA bS LS : Nat} {xs : Nat → Int32} (hX : SF n0 (XW0 sg adK adV sgA smA wdA n0 bS LS xs)) {M1 : ME} {s0 : Nat} {τ0 : TY} {N1 N2 : ME} {m y z n8 tk dp a b c hc wc sn : Nat} {B : Nat → Nat} {ω ρ π : RH} {σ : Nat → Nat} {μ κ : Nat → Int32} (hM0 : MV τ0 N1 M1 m y z (m + 26) (m + 40) n8 tk dp B ω) (hS0 : SL τ0 N2 M1 (m + 26) a b c ρ m μ κ) (hW0 : WN τ0 M1 m y (m + 26) a b c hc wc sn ρ π σ) (hL : y = m + 7 ∨ m + 54 ≤ y) (hb : m + 54 ≤ s0 ∧ y + 19 ≤ s0) : ∀ (n : Nat) (i : Nat) (u : Value) (szk : Nat) (τk : TY) (Mk : ME) (hi : i ≤ a) (hz : s0 ≤ szk) (hT : ∀ q, q < s0 → τk q = τ0 q) (hK : ∀ q, q < s0 → Mk q = M1 q), a - i < n → T l D cA n0 (XW0 sg adK adV sgA smA wdA n0 bS LS xs) mX13_digest 4 (5 * (a - i) + 10 * b) (25 * (a - i) + 100 * b) szk τk Mk 38 [.ref m, .long (dgN (dgF 797 (cntF a b c n8 ρ) 13) (stF b c ρ) 5 i), UU, .int (nI i), u] [] (fun v' sz' τ' M' => v' = some (.long (dgW a b c n8 ρ)) ∧ s0 ≤ sz' ∧ (∀ q, q < s0 → τ' q = τ0 q) ∧ (∀ q, q < s0 → M' q = M1 q)) (fun _ _ _ _ => False) := by
  intro n
  induction n with
  | zero => intros; omega
  | succ n ih =>
    intro i u szk τk Mk hi hz hT hK hn
    obtain ⟨l3, l4, l5, l6, l7, l8⟩ := hW0.ok
    have hM := (hM0.tau (τ' := τk) (fun q g1 g2 => hT q (by omega))).fr (M1 := Mk) (fun q g1 g2 => hK q (by omega))
    have hS := (hS0.tau (τ' := τk) (fun q g1 g2 => hT q (by omega))).fr (M1 := Mk) (fun q g1 g2 => hK q (by omega))
    have hW := hW0.al (τ' := τk) (M1 := Mk) (hK m (by omega)) (fun q g1 g2 => hK q (by omega)) (hT m (by omega)) (fun q g1 g2 => hT q (by omega))
    refine T_iload3 dX13_digest_38 rfl ?_
    refine T_aload0 dX13_digest_39 rfl ?_
    first | refine g13_35 _ rfl (hM.t_m) (hM.g_y) dX13_digest_40 rfl ?_ | refine g13_35 _ rfl (hW.t_m) (hW.g_pl) dX13_digest_40 rfl ?_
    refine g13_60 _ rfl (hW.t_q) (hW.g_stretches) dX13_digest_43 rfl ?_
    refine T_icmp_ge 85 49 dX13_digest_46 (by decide) rfl (fun c2 => ?_) (fun c2 => ?_)
    ·
      have c2 := le_out rfl c2
      obtain rfl : i = a := by omega
      refine T_iconst (0) dX13_digest_85 rfl rfl ?_
      refine T_istore3 rfl (by decide) dX13_digest_86 rfl ?_
      refine T_room (bk2 := 10 * (b - 0) + 0) (bn2 := 100 * (b - 0) + 0) (by omega) (by omega) ?_
      exact LOh_X13_digest hX hM0 hS0 hW0 hL hb (b + 1) 0 _ _ _ _ (Nat.zero_le _) hz hT hK (by omega)
    ·
      have c2 := lt_in rfl c2
      refine T_iconst (0) dX13_digest_49 rfl rfl ?_
      refine T_istore4 rfl (by decide) dX13_digest_50 rfl ?_
      refine T_room (bk2 := (5 * (a - (i + 1)) + (5 - 0) + 10 * b)) (bn2 := (25 * (a - (i + 1)) + (25 - 5 * 0) + 100 * b)) (by omega) (by omega) ?_
      exact LIs_X13_digest hX hM0 hS0 hW0 hL hb c2 (fun szk τk Mk g1 g2 g3 => ih (i + 1) _ _ _ _ (by omega) g1 g2 g3 (by omega)) 6 0 _ _ _ (by omega) hz hT hK (by omega)
set_option maxHeartbeats 1000000 in
theorem LC_X13_digest {l : Launch} {D : va_G} {cA : Nat → ClassId} {n0 : Nat} {sg adK adV : Nat → Nat} {sgA smA wdA bS LS : Nat} {xs : Nat → Int32} (hX : SF n0 (XW0 sg adK adV sgA smA wdA n0 bS LS xs)) {M1 : ME} {s0 : Nat} {τ0 : TY} {N1 N2 : ME} {m y z n8 tk dp a b c hc wc sn : Nat} {B : Nat → Nat} {ω ρ π : RH} {σ : Nat → Nat} {μ κ : Nat → Int32} (hM0 : MV τ0 N1 M1 m y z (m + 26) (m + 40) n8 tk dp B ω) (hS0 : SL τ0 N2 M1 (m + 26) a b c ρ m μ κ) (hW0 : WN τ0 M1 m y (m + 26) a b c hc wc sn ρ π σ) (hL : y = m + 7 ∨ m + 54 ≤ y) (hb : m + 54 ≤ s0 ∧ y + 19 ≤ s0) : ∀ (n : Nat) (v : Nat) (szk : Nat) (τk : TY) (Mk : ME) (hv : v ≤ 13) (hz : s0 ≤ szk) (hT : ∀ q, q < s0 → τk q = τ0 q) (hK : ∀ q, q < s0 → Mk q = M1 q), 13 - v < n → T l D cA n0 (XW0 sg adK adV sgA smA wdA n0 bS LS xs) mX13_digest 4 ((13 - v) + (5 * a + 10 * b)) ((169 - 13 * v) + (25 * a + 100 * b)) szk τk Mk 11 [.ref m, .long (dgF 797 (cntF a b c n8 ρ) v), UU, .int (nI v), UU] [] (fun v' sz' τ' M' => v' = some (.long (dgW a b c n8 ρ)) ∧ s0 ≤ sz' ∧ (∀ q, q < s0 → τ' q = τ0 q) ∧ (∀ q, q < s0 → M' q = M1 q)) (fun _ _ _ _ => False) := by
  intro n
  induction n with
  | zero => intros; omega
  | succ n ih =>
    intro v szk τk Mk hv hz hT hK hn
    obtain ⟨l3, l4, l5, l6, l7, l8⟩ := hW0.ok
    have hM := (hM0.tau (τ' := τk) (fun q g1 g2 => hT q (by omega))).fr (M1 := Mk) (fun q g1 g2 => hK q (by omega))
    have hS := (hS0.tau (τ' := τk) (fun q g1 g2 => hT q (by omega))).fr (M1 := Mk) (fun q g1 g2 => hK q (by omega))
    have hW := hW0.al (τ' := τk) (M1 := Mk) (hK m (by omega)) (fun q g1 g2 => hK q (by omega)) (hT m (by omega)) (fun q g1 g2 => hT q (by omega))
    refine T_iload3 dX13_digest_11 rfl ?_
    refine T_bipush (12) dX13_digest_12 rfl rfl ?_
    refine T_icmp_gt 36 17 dX13_digest_14 (by decide) rfl (fun c1 => ?_) (fun c1 => ?_)
    ·
      have c1 : v = 13 := by have := Nat.lt_of_not_le (fun q => absurd ((nI_leI (a := v) (b := 12) (by omega) (by omega)).mpr q) (Int32.not_le.mpr c1)); omega
      refine T_iconst (0) dX13_digest_36 rfl rfl ?_
      refine T_istore3 rfl (by decide) dX13_digest_37 rfl ?_
      subst c1
      refine T_room (bk2 := 5 * (a - 0) + 10 * b) (bn2 := 25 * (a - 0) + 100 * b) (by omega) (by omega) ?_
      exact LOs_X13_digest hX hM0 hS0 hW0 hL hb (a + 1) 0 _ _ _ _ (Nat.zero_le _) hz hT hK (by omega)
    ·
      have c1 : v < 13 := Nat.lt_of_not_le (fun q => c1 (nI_lt (a := 12) (by omega) (by omega)))
      refine T_lload1 dX13_digest_17 rfl ?_
      refine T_ldc2 kl13_382 dX13_digest_18 rfl ?_
      refine T_lmul dX13_digest_21 rfl ?_
      refine T_aload0 dX13_digest_22 rfl ?_
      refine T_iload3 dX13_digest_23 rfl ?_
      refine T_room (bk2 := ((13 - (v + 1)) + (5 * a + 10 * b)) + 1) (bn2 := ((169 - 13 * (v + 1)) + (25 * a + 100 * b)) + 13) (by omega) (by omega) ?_
      refine T_cV1 (c_X13_counted hX hM hS hW hL (by omega)) hX k13_315 (Or.inl ⟨_, _, _, _, (hM.t_m), by decide, rfl⟩) (by decide) (Nat.le_of_ble_eq_true rfl) dX13_digest_24 rfl ?_
      rintro _ sz9 τ9 M9 ⟨rfl, rfl, hT9, hK9⟩
      refine T_i2l dX13_digest_27 rfl ?_
      refine T_ladd dX13_digest_28 rfl ?_
      refine T_lstore1 rfl (by decide) dX13_digest_29 rfl ?_
      first | refine T_iinc3 rfl (by decide) dX13_digest_30 rfl (inc1 _) ?_ | refine T_iinc3 rfl (by decide) dX13_digest_30 rfl rfl ?_
      refine T_goto 11 dX13_digest_33 (by decide) ?_
      exact ih (v + 1) _ _ _ (by omega) (by omega) (fun q g => (hT9 q (by omega)).trans (hT q g)) (fun q g => (hK9 q (by omega)).trans (hK q g)) (by omega)
/-- behind the checksum: many arrays have been made -/
def TD (τ : TY) (M : ME) (m sz sz' : Nat) (τ' : TY) (M' : ME) (th : Int32) : Prop := sz ≤ sz' ∧ (∀ q, q < sz → τ' q = τ q) ∧ (∀ q, q < sz → q ≠ m → M' q = M q) ∧ (∀ k, k ≠ 0 → M' m k = M m k) ∧ M' m 0 = .int th
set_option maxHeartbeats 1000000 in
theorem c_X13_digest {l : Launch} {D : va_G} {cA : Nat → ClassId} {n0 : Nat} {sg adK adV : Nat → Nat} {sgA smA wdA bS LS : Nat} {xs : Nat → Int32} (hX : SF n0 (XW0 sg adK adV sgA smA wdA n0 bS LS xs)) {sz : Nat} {τ : TY} {N1 N2 M : ME} {m y z n8 tk dp a b c hc wc sn : Nat} {B : Nat → Nat} {ω ρ π : RH} {σ : Nat → Nat} {μ κ : Nat → Int32} (hM : MV τ N1 M m y z (m + 26) (m + 40) n8 tk dp B ω) (hS : SL τ N2 M (m + 26) a b c ρ m μ κ) (hW : WN τ M m y (m + 26) a b c hc wc sn ρ π σ) (hL : y = m + 7 ∨ m + 54 ≤ y) (hp : m + 54 ≤ sz ∧ y + 19 ≤ sz) : CT l D cA n0 (XW0 sg adK adV sgA smA wdA n0 bS LS xs) mX13_digest 4 113 969 sz τ M [.ref m] (fun v' sz' τ' M' => v' = some (.long (dgW a b c n8 ρ)) ∧ TD τ M m sz sz' τ' M' 0) := by
  refine CT.of (ls := [.ref m, UU, UU, UU, UU]) (by decide) (Nat.le_of_ble_eq_true rfl) rfl ?_
  obtain ⟨l3, l4, l5, l6, l7, l8⟩ := hW.ok
  refine T_aload0 dX13_digest_0 rfl ?_
  refine T_iconst (0) dX13_digest_1 rfl rfl ?_
  refine p13_57 rfl (hM.t_m) dX13_digest_2 rfl ?_
  refine T_nm (fun M1 e1 => ?_)
  have hM := MV.mv hM.p_th e1
  have hS := hS.frU e1 (by omega)
  have hW := hW.frV e1 (by omega)
  refine T_ldc2 kl13_380 dX13_digest_5 rfl ?_
  refine T_lstore1 rfl (by decide) dX13_digest_8 rfl ?_
  refine T_iconst (0) dX13_digest_9 rfl rfl ?_
  refine T_istore3 rfl (by decide) dX13_digest_10 rfl ?_
  refine T_room (bk2 := ((13 - 0) + (5 * a + 10 * b))) (bn2 := ((169 - 13 * 0) + (25 * a + 100 * b))) (by omega) (by omega) ?_
  refine T_cons ?_ (LC_X13_digest hX (m := m) hM hS hW hL hp 14 0 _ _ _ (by omega) (Nat.le_refl _) (fun _ _ => rfl) (fun _ _ => rfl) (by omega))
  rintro v sz9 τ9 M9 ⟨g1, g2, g3, g4⟩
  exact ⟨g1, g2, g3, fun q h1 h2 => by rw [g4 q h1, e1, up_a h2], fun k hk => by rw [g4 m (by omega), e1, up_k hk], by rw [g4 m (by omega), e1, up_s]⟩
