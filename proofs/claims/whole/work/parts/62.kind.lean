/-- the model's kind at p -/
def mkK (B : Nat → Nat) (ln p : Nat) : Nat := if p < ln then (if p < tkE B ln p then kdF (tkK B ln p) else 901) else 900
def prB (B : Nat → Nat) (p : Nat) : Nat → Bool := if ltB (B p) = true then ldB else dgB
section MK
variable {B : Nat → Nat} {p ln k : Nat}
theorem rn_in {P : Nat → Bool} {j : Nat} : ∀ n, ln - p ≤ n → p + j < rn P B ln p → P (B (p + j)) = true := fun n => by
  induction n generalizing p j with
  | zero =>
    intro h q
    rw [rn_n (fun z => by omega)] at q
    omega
  | succ n ih =>
    intro h q
    by_cases c : p < ln ∧ P (B p) = true
    · cases j with
      | zero => exact c.2
      | succ j =>
        rw [rn_y c.1 c.2] at q
        have := ih (p := p + 1) (j := j) (by omega) (by omega)
        rw [show p + (j + 1) = p + 1 + j by omega]; exact this
    · rw [rn_n c] at q; omega
theorem mk_w (hp : p < ln) (h : ltB (B p) = true) (hr : rn ldB B ln p = p + k) (h1 : 0 < k) (h2 : k ≤ 10) : mkK B ln p = kdF (kwF B p k) ∧ p < tkE B ln p ∧ tkE B ln p = p + k := by
  obtain ⟨e1, -, -⟩ := tk_w (lt := 0) (σ := fun _ => 0) (vl := fun _ => 0) h hr h1 h2
  have e2 : tkK B ln p = kwF B p k := by unfold tkK; rw [if_pos h, hr, show p + k - p = k by omega]
  exact ⟨by unfold mkK; rw [if_pos hp, if_pos (by omega), e2], by omega, e1⟩
theorem mk_b (hp : p < ln) (h : ¬ p < tkE B ln p) : mkK B ln p = 901 := by unfold mkK; rw [if_pos hp, if_neg h]
theorem mk_w2 (hp : p < ln) (h : ltB (B p) = true) (hr : rn ldB B ln p = p + k) (h2 : ¬ k ≤ 10) : mkK B ln p = 901 ∧ ¬ p < tkE B ln p := by
  obtain ⟨e1, -, -⟩ := tk_w2 (lt := 0) (σ := fun _ => 0) (vl := fun _ => 0) h hr h2
  exact ⟨mk_b hp (by omega), by omega⟩
theorem mk_n (hp : p < ln) (h0 : ltB (B p) = false) (h : dgB (B p) = true) (hr : rn dgB B ln p = p + k) (h1 : 0 < k) (h2 : k ≤ 6) : mkK B ln p = 41 ∧ p < tkE B ln p ∧ tkE B ln p = p + k := by
  obtain ⟨e1, -, -⟩ := tk_n (lt := 0) (σ := fun _ => 0) (vl := fun _ => 0) h0 h hr h1 h2
  have e2 : tkK B ln p = 44 := by unfold tkK; rw [if_neg (by rw [h0]; decide), if_pos h]
  exact ⟨by unfold mkK; rw [if_pos hp, if_pos (by omega), e2]; rfl, by omega, e1⟩
theorem mk_n2 (hp : p < ln) (h0 : ltB (B p) = false) (h : dgB (B p) = true) (hr : rn dgB B ln p = p + k) (h2 : ¬ k ≤ 6) : mkK B ln p = 901 ∧ ¬ p < tkE B ln p := by
  obtain ⟨e1, -, -⟩ := tk_n2 (lt := 0) (σ := fun _ => 0) (vl := fun _ => 0) h0 h hr h2
  exact ⟨mk_b hp (by omega), by omega⟩
theorem mk_s0 (h0 : ltB (B p) = false) (h : dgB (B p) = false) : tkE B ln p = syE B ln p ∧ tkK B ln p = syK B ln p := by
  obtain ⟨e1, -, -⟩ := tk_s (ln := ln) (lt := 0) (σ := fun _ => 0) (vl := fun _ => 0) h0 h
  exact ⟨e1, by unfold tkK; rw [if_neg (by rw [h0]; decide), if_neg (by rw [h]; decide)]⟩
/-- a sign of two bytes -/
theorem mk_s2 (h8 : ∀ i, B i < 256) (hp : p < ln) (h0 : ltB (B p) = false) (h : dgB (B p) = false) (h2 : (B p = 60 ∨ B p = 62) ∧ p + 1 < ln ∧ B (p + 1) = 61) : mkK B ln p = (if B p = 60 then 300 else 301) ∧ p < tkE B ln p ∧ tkE B ln p = p + 2 := by
  obtain ⟨e1, e2⟩ := mk_s0 (ln := ln) h0 h
  have hs : syn ln p = 2 := if_pos (by omega)
  have hk := kw2_y (B := B) (p := p) h8 h0
  have hne : ¬ kwF B p 2 = 43 := by
    rw [hk]
    rcases h2 with ⟨r | r, -, r3⟩
    · rw [if_pos ⟨r, r3⟩]; decide
    · rw [if_neg (by omega), if_pos ⟨r, r3⟩]; decide
  have eE : syE B ln p = p + 2 := by unfold syE; rw [hs]; exact if_neg hne
  have eK : syK B ln p = kwF B p 2 := by unfold syK; rw [hs]; exact if_neg hne
  refine ⟨?_, by omega, by omega⟩
  unfold mkK
  rw [if_pos hp, if_pos (by omega), e2, eK, hk]
  rcases h2 with ⟨r | r, -, r3⟩
  · rw [if_pos ⟨r, r3⟩, if_pos r]; rfl
  · rw [if_neg (by omega), if_pos ⟨r, r3⟩, if_neg (by omega)]; rfl
theorem mk_s1 (h8 : ∀ i, B i < 256) (hp : p < ln) (h0 : ltB (B p) = false) (h : dgB (B p) = false) (h2 : ¬ ((B p = 60 ∨ B p = 62) ∧ p + 1 < ln ∧ B (p + 1) = 61)) : syE B ln p = (if kwF B p 1 = 43 then p else p + 1) ∧ syK B ln p = (if kwF B p 1 = 43 then 43 else kwF B p 1) := by
  unfold syE syK syn
  by_cases e : p + 2 ≤ ln
  · rw [if_pos e]
    have hk : kwF B p 2 = 43 := by rw [kw2_y h8 h0, if_neg (by omega), if_neg (by omega)]
    exact ⟨if_pos hk, if_pos hk⟩
  · rw [if_neg e]; exact ⟨rfl, rfl⟩
theorem mk_s1y (h8 : ∀ i, B i < 256) (hp : p < ln) (h0 : ltB (B p) = false) (h : dgB (B p) = false) (h2 : ¬ ((B p = 60 ∨ B p = 62) ∧ p + 1 < ln ∧ B (p + 1) = 61)) (h3 : B p < 128) (h4 : syB (B p) = true) : mkK B ln p = 50 + B p ∧ p < tkE B ln p ∧ tkE B ln p = p + 1 := by
  obtain ⟨e1, e2⟩ := mk_s0 (ln := ln) h0 h
  obtain ⟨g1, g2⟩ := mk_s1 h8 hp h0 h h2
  obtain ⟨i, i1, i2, i3, i4, i5, i6⟩ := sg_1s _ (h8 p) h4
  have hk := kw1_y (p := p) h8 i1 i5 i6 h3
  rw [hk, if_neg (by omega)] at g1 g2
  refine ⟨?_, by omega, by omega⟩
  unfold mkK
  rw [if_pos hp, if_pos (by omega), e2, g2, i4]
theorem mk_s1n (h8 : ∀ i, B i < 256) (hp : p < ln) (h0 : ltB (B p) = false) (h : dgB (B p) = false) (h2 : ¬ ((B p = 60 ∨ B p = 62) ∧ p + 1 < ln ∧ B (p + 1) = 61)) (h3 : ¬ (B p < 128 ∧ syB (B p) = true)) : mkK B ln p = 901 ∧ ¬ p < tkE B ln p := by
  obtain ⟨e1, e2⟩ := mk_s0 (ln := ln) h0 h
  obtain ⟨g1, g2⟩ := mk_s1 h8 hp h0 h h2
  have hk := kw1_n (p := p) h8 h3
  rw [if_pos hk] at g1
  exact ⟨mk_b hp (by omega), by omega⟩
theorem bF_61 (h8 : ∀ i, B i < 256) {q : Nat} : bF B ln q = 61 ↔ (q < ln ∧ B q = 61) := by
  by_cases h : q < ln
  · rw [bF_y h]
    exact ⟨fun z => ⟨h, (nI_eq (b := 61) (by have := h8 q; omega) (by omega)).mp z⟩, fun z => by rw [z.2]; rfl⟩
  · rw [bF_n h]; exact ⟨fun z => absurd z (by decide), fun z => absurd z.1 h⟩
theorem nI_is {x : Nat} (hx : x < 256) (c : Nat) (hc : c < 256) : nI x = nI c ↔ x = c := nI_eq (by omega) (by omega)
end MK
set_option maxHeartbeats 1000000 in
theorem L_X13_kindAt {l : Launch} {D : va_G} {cA : Nat → ClassId} {n0 : Nat} {sg adK adV : Nat → Nat} {sgA smA wdA bS LS : Nat} {xs : Nat → Int32} (hX : SF n0 (XW0 sg adK adV sgA smA wdA n0 bS LS xs)) {sz : Nat} {τ : TY} {M0 M : ME} {m y z s1 s2 ln tk dp : Nat} {B : Nat → Nat} {ω : RH} (hM : MV τ M0 M m y z s1 s2 ln tk dp B ω) (hl2 : ln ≤ 2000) (h8 : ∀ i, B i < 256) {p i : Nat} (hi : i < 401) (hp : p < ln) {P : Nat → Bool} (hP : (ltB (B p) = true ∧ P = ldB) ∨ (ltB (B p) = false ∧ dgB (B p) = true ∧ P = dgB)) : ∀ (n : Nat) (k : Nat) (hk : p + k ≤ ln) (hk0 : 0 < k) (hr : rn P B ln (p + k) = rn P B ln p), ln - (p + k) < n → T l D cA n0 (XW0 sg adK adV sgA smA wdA n0 bS LS xs) mX13_kindAt 8 0 0 sz τ M 34 [.ref m, .int (nI p), .int (nI i), .int (nI (B p)), .int (nI (p + k)), UU] [] (fun v' sz' τ' M' => v' = some (.int (nI (mkK B ln p))) ∧ sz' = sz ∧ τ' = τ ∧ ∃ x, MV τ M0 M' m y z s1 s2 ln tk dp B (u2 ω 82 i x) ∧ (p < ln → p < tkE B ln p → x = nI (tkE B ln p - p))) (fun _ _ _ _ => False) := by
  intro n
  induction n with
  | zero => intros; omega
  | succ n ih =>
    intro k hk hk0 hr hn
    have hrp : rn P B ln p = p + k → ∀ j, j < k → P (B (p + j)) = true := fun q j hj => rn_in (ln := ln) ln (by omega) (by rw [q]; omega)
    refine T_aload0 dX13_kindAt_34 rfl ?_
    refine T_iload4 dX13_kindAt_35 rfl ?_
    refine T_cV1 (c_X13_byteOf hX hM hl2 (by omega)) hX k13_89 (Or.inl ⟨_, _, _, _, (hM.t_m), by decide, rfl⟩) (by decide) (Nat.le_of_ble_eq_true rfl) dX13_kindAt_37 rfl ?_
    rintro _ _ _ _ ⟨rfl, rfl, rfl, rfl⟩
    refine T_cS1 (c_X13_isDigit hX _) hX k13_96 (by decide) (Nat.le_of_ble_eq_true rfl) dX13_kindAt_40 rfl ?_
    rintro _ _ _ _ ⟨rfl, rfl, rfl, rfl⟩
    refine T_if_ne 65 46 dX13_kindAt_43 (by decide) rfl (fun c43 => ?_) (fun c43 => ?_)
    ·
      rw [bD_1 h8] at c43
      have c43 := one_1 c43
      first | refine T_iinc4 rfl (by decide) dX13_kindAt_65 rfl (inc1 _) ?_ | refine T_iinc4 rfl (by decide) dX13_kindAt_65 rfl rfl ?_
      refine T_goto 34 dX13_kindAt_68 (by decide) ?_
      have hy : p + k < ln ∧ P (B (p + k)) = true := by
        rcases hP with ⟨g1, rfl⟩ | ⟨g1, g2, rfl⟩
        · first
            | exact ⟨c43.1, ldB_y (B := B) (p := p + k) (Or.inr c43.2)⟩
            | exact ⟨c62.1, ldB_y (B := B) (p := p + k) (Or.inl c62.2)⟩
        · first
            | exact c43
            | (rw [g1] at c50; exact absurd c50 (by decide))
      exact ih (k + 1) (by omega) (by omega) (by rw [← hr]; exact (rn_y hy.1 hy.2).symm) (by omega)
    ·
      rw [bD_1 h8] at c43
      have c43 := one_0 c43
      refine T_iload3 dX13_kindAt_46 rfl ?_
      refine T_cS1 (c_X13_isLetter hX _) hX k13_93 (by decide) (Nat.le_of_ble_eq_true rfl) dX13_kindAt_47 rfl ?_
      rintro _ _ _ _ ⟨rfl, rfl, rfl, rfl⟩
      refine T_if_eq 71 53 dX13_kindAt_50 (by decide) rfl (fun c50 => ?_) (fun c50 => ?_)
      ·
        rw [bF_lt _ (h8 p)] at c50
        have c50 := one_0 c50
        have hr2 : rn P B ln p = p + k := by
          rw [← hr]
          refine rn_n (fun q => ?_)
          rcases hP with ⟨g1, rfl⟩ | ⟨g1, g2, rfl⟩
          · have q2 : ltB (B (p + k)) = true ∨ dgB (B (p + k)) = true := by
              have := q.2
              unfold ldB at this
              simpa using this
            rcases q2 with q2 | q2
            · first | exact c62 ⟨q.1, q2⟩ | exact c50 g1
            · exact c43 ⟨q.1, q2⟩
          · exact c43 ⟨q.1, q.2⟩
        refine T_aload0 dX13_kindAt_71 rfl ?_
        refine g13_23 _ rfl (hM.t_m) (hM.g_mn) dX13_kindAt_72 rfl ?_
        refine T_iload2 dX13_kindAt_75 rfl ?_
        refine T_iload4 dX13_kindAt_76 rfl ?_
        refine T_iload1 dX13_kindAt_78 rfl ?_
        refine T_isub dX13_kindAt_79 rfl ?_
        rw [nI_sub (by omega) (by omega), show p + k - p = k by omega]
        refine T_iast _ (hM.t_mn) rfl (by omega) (by decide) dX13_kindAt_80 rfl ?_
        refine T_nm (fun M1 e1 => ?_)
        have hM := MV.mv (hM.p_vmn (by omega)) e1
        refine T_iload4 dX13_kindAt_81 rfl ?_
        refine T_iload1 dX13_kindAt_83 rfl ?_
        refine T_isub dX13_kindAt_84 rfl ?_
        rw [nI_sub (by omega) (by omega), show p + k - p = k by omega]
        refine T_iload3 dX13_kindAt_85 rfl ?_
        refine T_cS1 (c_X13_isLetter hX _) hX k13_93 (by decide) (Nat.le_of_ble_eq_true rfl) dX13_kindAt_86 rfl ?_
        rintro _ _ _ _ ⟨rfl, rfl, rfl, rfl⟩
        refine T_if_eq 97 92 dX13_kindAt_89 (by decide) rfl (fun c89 => ?_) (fun c89 => ?_)
        ·
          rw [bF_lt _ (h8 p)] at c89
          have c89 := one_0 c89
          refine T_bipush (6) dX13_kindAt_97 rfl rfl ?_
          refine T_icmp_le 106 102 dX13_kindAt_99 (by decide) rfl (fun c99 => ?_) (fun c99 => ?_)
          ·
            refine T_iload3 dX13_kindAt_106 rfl ?_
            refine T_cS1 (c_X13_isLetter hX _) hX k13_93 (by decide) (Nat.le_of_ble_eq_true rfl) dX13_kindAt_107 rfl ?_
            rintro _ _ _ _ ⟨rfl, rfl, rfl, rfl⟩
            refine T_if_eq 125 113 dX13_kindAt_110 (by decide) rfl (fun c110 => ?_) (fun c110 => ?_)
            ·
              rw [bF_lt _ (h8 p)] at c110
              have c110 := one_0 c110
              refine T_bipush (41) dX13_kindAt_125 rfl rfl ?_
              refine T_iret rfl rfl dX13_kindAt_127 ?_
              rcases hP with ⟨g1, rfl⟩ | ⟨g1, g2, rfl⟩
              · first
                  | exact absurd g1 c89
                  | exact absurd g1 c110
                  | (have c9 : k ≤ 10 := (nI_leI (b := 10) (by omega) (by omega)).mp c99
                     obtain ⟨e1, e2, e3⟩ := mk_w hp g1 hr2 hk0 c9
                     rw [e1, ← wm_kd (kwG_or h8 g1 hk0)]
                     exact ⟨rfl, rfl, rfl, _, hM, fun _ _ => by rw [e3, show p + k - p = k by omega]⟩)
                  | (have c9 : ¬ k ≤ 10 := fun q => c99 ((nI_leI (b := 10) (by omega) (by omega)).mpr q)
                     obtain ⟨e1, e2⟩ := mk_w2 hp g1 hr2 c9
                     rw [e1]
                     exact ⟨rfl, rfl, rfl, _, hM, fun _ q => absurd q e2⟩)
              · first
                  | (rw [g1] at c89; exact absurd c89 (by decide))
                  | (rw [g1] at c110; exact absurd c110 (by decide))
                  | (have c9 : k ≤ 6 := (nI_leI (b := 6) (by omega) (by omega)).mp c99
                     obtain ⟨e1, e2, e3⟩ := mk_n hp g1 g2 hr2 hk0 c9
                     rw [e1]
                     exact ⟨rfl, rfl, rfl, _, hM, fun _ _ => by rw [e3, show p + k - p = k by omega]⟩)
                  | (have c9 : ¬ k ≤ 6 := fun q => c99 ((nI_leI (b := 6) (by omega) (by omega)).mpr q)
                     obtain ⟨e1, e2⟩ := mk_n2 hp g1 g2 hr2 c9
                     rw [e1]
                     exact ⟨rfl, rfl, rfl, _, hM, fun _ q => absurd q e2⟩)
            ·
              rw [bF_lt _ (h8 p)] at c110
              have c110 := one_1 c110
              refine T_aload0 dX13_kindAt_113 rfl ?_
              refine T_iload1 dX13_kindAt_114 rfl ?_
              refine T_iload4 dX13_kindAt_115 rfl ?_
              refine T_iload1 dX13_kindAt_117 rfl ?_
              refine T_isub dX13_kindAt_118 rfl ?_
              rw [nI_sub (by omega) (by omega), show p + k - p = k by omega]
              refine T_cV2 (c_X13_word hX hM hl2 h8 hk c110 hk0 (fun j hj => by rcases hP with ⟨g1, rfl⟩ | ⟨g1, g2, rfl⟩ <;> first | exact hrp hr2 j hj | (rw [g1] at c110; exact absurd c110 (by decide)))) hX k13_99 (Or.inl ⟨_, _, _, _, (hM.t_m), by decide, rfl⟩) (by decide) (Nat.le_of_ble_eq_true rfl) dX13_kindAt_119 rfl ?_
              rintro _ _ _ _ ⟨rfl, rfl, rfl, rfl⟩
              refine T_goto 127 dX13_kindAt_122 (by decide) ?_
              refine T_iret rfl rfl dX13_kindAt_127 ?_
              rcases hP with ⟨g1, rfl⟩ | ⟨g1, g2, rfl⟩
              · first
                  | exact absurd g1 c89
                  | exact absurd g1 c110
                  | (have c9 : k ≤ 10 := (nI_leI (b := 10) (by omega) (by omega)).mp c99
                     obtain ⟨e1, e2, e3⟩ := mk_w hp g1 hr2 hk0 c9
                     rw [e1, ← wm_kd (kwG_or h8 g1 hk0)]
                     exact ⟨rfl, rfl, rfl, _, hM, fun _ _ => by rw [e3, show p + k - p = k by omega]⟩)
                  | (have c9 : ¬ k ≤ 10 := fun q => c99 ((nI_leI (b := 10) (by omega) (by omega)).mpr q)
                     obtain ⟨e1, e2⟩ := mk_w2 hp g1 hr2 c9
                     rw [e1]
                     exact ⟨rfl, rfl, rfl, _, hM, fun _ q => absurd q e2⟩)
              · first
                  | (rw [g1] at c89; exact absurd c89 (by decide))
                  | (rw [g1] at c110; exact absurd c110 (by decide))
                  | (have c9 : k ≤ 6 := (nI_leI (b := 6) (by omega) (by omega)).mp c99
                     obtain ⟨e1, e2, e3⟩ := mk_n hp g1 g2 hr2 hk0 c9
                     rw [e1]
                     exact ⟨rfl, rfl, rfl, _, hM, fun _ _ => by rw [e3, show p + k - p = k by omega]⟩)
                  | (have c9 : ¬ k ≤ 6 := fun q => c99 ((nI_leI (b := 6) (by omega) (by omega)).mpr q)
                     obtain ⟨e1, e2⟩ := mk_n2 hp g1 g2 hr2 c9
                     rw [e1]
                     exact ⟨rfl, rfl, rfl, _, hM, fun _ q => absurd q e2⟩)
          ·
            refine T_sipush (901) dX13_kindAt_102 rfl rfl ?_
            refine T_iret rfl rfl dX13_kindAt_105 ?_
            rcases hP with ⟨g1, rfl⟩ | ⟨g1, g2, rfl⟩
            · first
                | exact absurd g1 c89
                | exact absurd g1 c110
                | (have c9 : k ≤ 10 := (nI_leI (b := 10) (by omega) (by omega)).mp c99
                   obtain ⟨e1, e2, e3⟩ := mk_w hp g1 hr2 hk0 c9
                   rw [e1, ← wm_kd (kwG_or h8 g1 hk0)]
                   exact ⟨rfl, rfl, rfl, _, hM, fun _ _ => by rw [e3, show p + k - p = k by omega]⟩)
                | (have c9 : ¬ k ≤ 10 := fun q => c99 ((nI_leI (b := 10) (by omega) (by omega)).mpr q)
                   obtain ⟨e1, e2⟩ := mk_w2 hp g1 hr2 c9
                   rw [e1]
                   exact ⟨rfl, rfl, rfl, _, hM, fun _ q => absurd q e2⟩)
            · first
                | (rw [g1] at c89; exact absurd c89 (by decide))
                | (rw [g1] at c110; exact absurd c110 (by decide))
                | (have c9 : k ≤ 6 := (nI_leI (b := 6) (by omega) (by omega)).mp c99
                   obtain ⟨e1, e2, e3⟩ := mk_n hp g1 g2 hr2 hk0 c9
                   rw [e1]
                   exact ⟨rfl, rfl, rfl, _, hM, fun _ _ => by rw [e3, show p + k - p = k by omega]⟩)
                | (have c9 : ¬ k ≤ 6 := fun q => c99 ((nI_leI (b := 6) (by omega) (by omega)).mpr q)
                   obtain ⟨e1, e2⟩ := mk_n2 hp g1 g2 hr2 c9
                   rw [e1]
                   exact ⟨rfl, rfl, rfl, _, hM, fun _ q => absurd q e2⟩)
        ·
          rw [bF_lt _ (h8 p)] at c89
          have c89 := one_1 c89
          refine T_bipush (10) dX13_kindAt_92 rfl rfl ?_
          refine T_goto 99 dX13_kindAt_94 (by decide) ?_
          refine T_icmp_le 106 102 dX13_kindAt_99 (by decide) rfl (fun c99 => ?_) (fun c99 => ?_)
          ·
            refine T_iload3 dX13_kindAt_106 rfl ?_
            refine T_cS1 (c_X13_isLetter hX _) hX k13_93 (by decide) (Nat.le_of_ble_eq_true rfl) dX13_kindAt_107 rfl ?_
            rintro _ _ _ _ ⟨rfl, rfl, rfl, rfl⟩
            refine T_if_eq 125 113 dX13_kindAt_110 (by decide) rfl (fun c110 => ?_) (fun c110 => ?_)
            ·
              rw [bF_lt _ (h8 p)] at c110
              have c110 := one_0 c110
              refine T_bipush (41) dX13_kindAt_125 rfl rfl ?_
              refine T_iret rfl rfl dX13_kindAt_127 ?_
              rcases hP with ⟨g1, rfl⟩ | ⟨g1, g2, rfl⟩
              · first
                  | exact absurd g1 c89
                  | exact absurd g1 c110
                  | (have c9 : k ≤ 10 := (nI_leI (b := 10) (by omega) (by omega)).mp c99
                     obtain ⟨e1, e2, e3⟩ := mk_w hp g1 hr2 hk0 c9
                     rw [e1, ← wm_kd (kwG_or h8 g1 hk0)]
                     exact ⟨rfl, rfl, rfl, _, hM, fun _ _ => by rw [e3, show p + k - p = k by omega]⟩)
                  | (have c9 : ¬ k ≤ 10 := fun q => c99 ((nI_leI (b := 10) (by omega) (by omega)).mpr q)
                     obtain ⟨e1, e2⟩ := mk_w2 hp g1 hr2 c9
                     rw [e1]
                     exact ⟨rfl, rfl, rfl, _, hM, fun _ q => absurd q e2⟩)
              · first
                  | (rw [g1] at c89; exact absurd c89 (by decide))
                  | (rw [g1] at c110; exact absurd c110 (by decide))
                  | (have c9 : k ≤ 6 := (nI_leI (b := 6) (by omega) (by omega)).mp c99
                     obtain ⟨e1, e2, e3⟩ := mk_n hp g1 g2 hr2 hk0 c9
                     rw [e1]
                     exact ⟨rfl, rfl, rfl, _, hM, fun _ _ => by rw [e3, show p + k - p = k by omega]⟩)
                  | (have c9 : ¬ k ≤ 6 := fun q => c99 ((nI_leI (b := 6) (by omega) (by omega)).mpr q)
                     obtain ⟨e1, e2⟩ := mk_n2 hp g1 g2 hr2 c9
                     rw [e1]
                     exact ⟨rfl, rfl, rfl, _, hM, fun _ q => absurd q e2⟩)
            ·
              rw [bF_lt _ (h8 p)] at c110
              have c110 := one_1 c110
              refine T_aload0 dX13_kindAt_113 rfl ?_
              refine T_iload1 dX13_kindAt_114 rfl ?_
              refine T_iload4 dX13_kindAt_115 rfl ?_
              refine T_iload1 dX13_kindAt_117 rfl ?_
              refine T_isub dX13_kindAt_118 rfl ?_
              rw [nI_sub (by omega) (by omega), show p + k - p = k by omega]
              refine T_cV2 (c_X13_word hX hM hl2 h8 hk c110 hk0 (fun j hj => by rcases hP with ⟨g1, rfl⟩ | ⟨g1, g2, rfl⟩ <;> first | exact hrp hr2 j hj | (rw [g1] at c110; exact absurd c110 (by decide)))) hX k13_99 (Or.inl ⟨_, _, _, _, (hM.t_m), by decide, rfl⟩) (by decide) (Nat.le_of_ble_eq_true rfl) dX13_kindAt_119 rfl ?_
              rintro _ _ _ _ ⟨rfl, rfl, rfl, rfl⟩
              refine T_goto 127 dX13_kindAt_122 (by decide) ?_
              refine T_iret rfl rfl dX13_kindAt_127 ?_
              rcases hP with ⟨g1, rfl⟩ | ⟨g1, g2, rfl⟩
              · first
                  | exact absurd g1 c89
                  | exact absurd g1 c110
                  | (have c9 : k ≤ 10 := (nI_leI (b := 10) (by omega) (by omega)).mp c99
                     obtain ⟨e1, e2, e3⟩ := mk_w hp g1 hr2 hk0 c9
                     rw [e1, ← wm_kd (kwG_or h8 g1 hk0)]
                     exact ⟨rfl, rfl, rfl, _, hM, fun _ _ => by rw [e3, show p + k - p = k by omega]⟩)
                  | (have c9 : ¬ k ≤ 10 := fun q => c99 ((nI_leI (b := 10) (by omega) (by omega)).mpr q)
                     obtain ⟨e1, e2⟩ := mk_w2 hp g1 hr2 c9
                     rw [e1]
                     exact ⟨rfl, rfl, rfl, _, hM, fun _ q => absurd q e2⟩)
              · first
                  | (rw [g1] at c89; exact absurd c89 (by decide))
                  | (rw [g1] at c110; exact absurd c110 (by decide))
                  | (have c9 : k ≤ 6 := (nI_leI (b := 6) (by omega) (by omega)).mp c99
                     obtain ⟨e1, e2, e3⟩ := mk_n hp g1 g2 hr2 hk0 c9
                     rw [e1]
                     exact ⟨rfl, rfl, rfl, _, hM, fun _ _ => by rw [e3, show p + k - p = k by omega]⟩)
                  | (have c9 : ¬ k ≤ 6 := fun q => c99 ((nI_leI (b := 6) (by omega) (by omega)).mpr q)
                     obtain ⟨e1, e2⟩ := mk_n2 hp g1 g2 hr2 c9
                     rw [e1]
                     exact ⟨rfl, rfl, rfl, _, hM, fun _ q => absurd q e2⟩)
          ·
            refine T_sipush (901) dX13_kindAt_102 rfl rfl ?_
            refine T_iret rfl rfl dX13_kindAt_105 ?_
            rcases hP with ⟨g1, rfl⟩ | ⟨g1, g2, rfl⟩
            · first
                | exact absurd g1 c89
                | exact absurd g1 c110
                | (have c9 : k ≤ 10 := (nI_leI (b := 10) (by omega) (by omega)).mp c99
                   obtain ⟨e1, e2, e3⟩ := mk_w hp g1 hr2 hk0 c9
                   rw [e1, ← wm_kd (kwG_or h8 g1 hk0)]
                   exact ⟨rfl, rfl, rfl, _, hM, fun _ _ => by rw [e3, show p + k - p = k by omega]⟩)
                | (have c9 : ¬ k ≤ 10 := fun q => c99 ((nI_leI (b := 10) (by omega) (by omega)).mpr q)
                   obtain ⟨e1, e2⟩ := mk_w2 hp g1 hr2 c9
                   rw [e1]
                   exact ⟨rfl, rfl, rfl, _, hM, fun _ q => absurd q e2⟩)
            · first
                | (rw [g1] at c89; exact absurd c89 (by decide))
                | (rw [g1] at c110; exact absurd c110 (by decide))
                | (have c9 : k ≤ 6 := (nI_leI (b := 6) (by omega) (by omega)).mp c99
                   obtain ⟨e1, e2, e3⟩ := mk_n hp g1 g2 hr2 hk0 c9
                   rw [e1]
                   exact ⟨rfl, rfl, rfl, _, hM, fun _ _ => by rw [e3, show p + k - p = k by omega]⟩)
                | (have c9 : ¬ k ≤ 6 := fun q => c99 ((nI_leI (b := 6) (by omega) (by omega)).mpr q)
                   obtain ⟨e1, e2⟩ := mk_n2 hp g1 g2 hr2 c9
                   rw [e1]
                   exact ⟨rfl, rfl, rfl, _, hM, fun _ q => absurd q e2⟩)
      ·
        rw [bF_lt _ (h8 p)] at c50
        have c50 := one_1 c50
        refine T_aload0 dX13_kindAt_53 rfl ?_
        refine T_iload4 dX13_kindAt_54 rfl ?_
        refine T_cV1 (c_X13_byteOf hX hM hl2 (by omega)) hX k13_89 (Or.inl ⟨_, _, _, _, (hM.t_m), by decide, rfl⟩) (by decide) (Nat.le_of_ble_eq_true rfl) dX13_kindAt_56 rfl ?_
        rintro _ _ _ _ ⟨rfl, rfl, rfl, rfl⟩
        refine T_cS1 (c_X13_isLetter hX _) hX k13_93 (by decide) (Nat.le_of_ble_eq_true rfl) dX13_kindAt_59 rfl ?_
        rintro _ _ _ _ ⟨rfl, rfl, rfl, rfl⟩
        refine T_if_eq 71 65 dX13_kindAt_62 (by decide) rfl (fun c62 => ?_) (fun c62 => ?_)
        ·
          rw [bL_1 h8] at c62
          have c62 := one_0 c62
          have hr2 : rn P B ln p = p + k := by
            rw [← hr]
            refine rn_n (fun q => ?_)
            rcases hP with ⟨g1, rfl⟩ | ⟨g1, g2, rfl⟩
            · have q2 : ltB (B (p + k)) = true ∨ dgB (B (p + k)) = true := by
                have := q.2
                unfold ldB at this
                simpa using this
              rcases q2 with q2 | q2
              · first | exact c62 ⟨q.1, q2⟩ | exact c50 g1
              · exact c43 ⟨q.1, q2⟩
            · exact c43 ⟨q.1, q.2⟩
          refine T_aload0 dX13_kindAt_71 rfl ?_
          refine g13_23 _ rfl (hM.t_m) (hM.g_mn) dX13_kindAt_72 rfl ?_
          refine T_iload2 dX13_kindAt_75 rfl ?_
          refine T_iload4 dX13_kindAt_76 rfl ?_
          refine T_iload1 dX13_kindAt_78 rfl ?_
          refine T_isub dX13_kindAt_79 rfl ?_
          rw [nI_sub (by omega) (by omega), show p + k - p = k by omega]
          refine T_iast _ (hM.t_mn) rfl (by omega) (by decide) dX13_kindAt_80 rfl ?_
          refine T_nm (fun M2 e2 => ?_)
          have hM := MV.mv (hM.p_vmn (by omega)) e2
          refine T_iload4 dX13_kindAt_81 rfl ?_
          refine T_iload1 dX13_kindAt_83 rfl ?_
          refine T_isub dX13_kindAt_84 rfl ?_
          rw [nI_sub (by omega) (by omega), show p + k - p = k by omega]
          refine T_iload3 dX13_kindAt_85 rfl ?_
          refine T_cS1 (c_X13_isLetter hX _) hX k13_93 (by decide) (Nat.le_of_ble_eq_true rfl) dX13_kindAt_86 rfl ?_
          rintro _ _ _ _ ⟨rfl, rfl, rfl, rfl⟩
          refine T_if_eq 97 92 dX13_kindAt_89 (by decide) rfl (fun c89 => ?_) (fun c89 => ?_)
          ·
            rw [bF_lt _ (h8 p)] at c89
            have c89 := one_0 c89
            refine T_bipush (6) dX13_kindAt_97 rfl rfl ?_
            refine T_icmp_le 106 102 dX13_kindAt_99 (by decide) rfl (fun c99 => ?_) (fun c99 => ?_)
            ·
              refine T_iload3 dX13_kindAt_106 rfl ?_
              refine T_cS1 (c_X13_isLetter hX _) hX k13_93 (by decide) (Nat.le_of_ble_eq_true rfl) dX13_kindAt_107 rfl ?_
              rintro _ _ _ _ ⟨rfl, rfl, rfl, rfl⟩
              refine T_if_eq 125 113 dX13_kindAt_110 (by decide) rfl (fun c110 => ?_) (fun c110 => ?_)
              ·
                rw [bF_lt _ (h8 p)] at c110
                have c110 := one_0 c110
                refine T_bipush (41) dX13_kindAt_125 rfl rfl ?_
                refine T_iret rfl rfl dX13_kindAt_127 ?_
                rcases hP with ⟨g1, rfl⟩ | ⟨g1, g2, rfl⟩
                · first
                    | exact absurd g1 c89
                    | exact absurd g1 c110
                    | (have c9 : k ≤ 10 := (nI_leI (b := 10) (by omega) (by omega)).mp c99
                       obtain ⟨e1, e2, e3⟩ := mk_w hp g1 hr2 hk0 c9
                       rw [e1, ← wm_kd (kwG_or h8 g1 hk0)]
                       exact ⟨rfl, rfl, rfl, _, hM, fun _ _ => by rw [e3, show p + k - p = k by omega]⟩)
                    | (have c9 : ¬ k ≤ 10 := fun q => c99 ((nI_leI (b := 10) (by omega) (by omega)).mpr q)
                       obtain ⟨e1, e2⟩ := mk_w2 hp g1 hr2 c9
                       rw [e1]
                       exact ⟨rfl, rfl, rfl, _, hM, fun _ q => absurd q e2⟩)
                · first
                    | (rw [g1] at c89; exact absurd c89 (by decide))
                    | (rw [g1] at c110; exact absurd c110 (by decide))
                    | (have c9 : k ≤ 6 := (nI_leI (b := 6) (by omega) (by omega)).mp c99
                       obtain ⟨e1, e2, e3⟩ := mk_n hp g1 g2 hr2 hk0 c9
                       rw [e1]
                       exact ⟨rfl, rfl, rfl, _, hM, fun _ _ => by rw [e3, show p + k - p = k by omega]⟩)
                    | (have c9 : ¬ k ≤ 6 := fun q => c99 ((nI_leI (b := 6) (by omega) (by omega)).mpr q)
                       obtain ⟨e1, e2⟩ := mk_n2 hp g1 g2 hr2 c9
                       rw [e1]
                       exact ⟨rfl, rfl, rfl, _, hM, fun _ q => absurd q e2⟩)
              ·
                rw [bF_lt _ (h8 p)] at c110
                have c110 := one_1 c110
                refine T_aload0 dX13_kindAt_113 rfl ?_
                refine T_iload1 dX13_kindAt_114 rfl ?_
                refine T_iload4 dX13_kindAt_115 rfl ?_
                refine T_iload1 dX13_kindAt_117 rfl ?_
                refine T_isub dX13_kindAt_118 rfl ?_
                rw [nI_sub (by omega) (by omega), show p + k - p = k by omega]
                refine T_cV2 (c_X13_word hX hM hl2 h8 hk c110 hk0 (fun j hj => by rcases hP with ⟨g1, rfl⟩ | ⟨g1, g2, rfl⟩ <;> first | exact hrp hr2 j hj | (rw [g1] at c110; exact absurd c110 (by decide)))) hX k13_99 (Or.inl ⟨_, _, _, _, (hM.t_m), by decide, rfl⟩) (by decide) (Nat.le_of_ble_eq_true rfl) dX13_kindAt_119 rfl ?_
                rintro _ _ _ _ ⟨rfl, rfl, rfl, rfl⟩
                refine T_goto 127 dX13_kindAt_122 (by decide) ?_
                refine T_iret rfl rfl dX13_kindAt_127 ?_
                rcases hP with ⟨g1, rfl⟩ | ⟨g1, g2, rfl⟩
                · first
                    | exact absurd g1 c89
                    | exact absurd g1 c110
                    | (have c9 : k ≤ 10 := (nI_leI (b := 10) (by omega) (by omega)).mp c99
                       obtain ⟨e1, e2, e3⟩ := mk_w hp g1 hr2 hk0 c9
                       rw [e1, ← wm_kd (kwG_or h8 g1 hk0)]
                       exact ⟨rfl, rfl, rfl, _, hM, fun _ _ => by rw [e3, show p + k - p = k by omega]⟩)
                    | (have c9 : ¬ k ≤ 10 := fun q => c99 ((nI_leI (b := 10) (by omega) (by omega)).mpr q)
                       obtain ⟨e1, e2⟩ := mk_w2 hp g1 hr2 c9
                       rw [e1]
                       exact ⟨rfl, rfl, rfl, _, hM, fun _ q => absurd q e2⟩)
                · first
                    | (rw [g1] at c89; exact absurd c89 (by decide))
                    | (rw [g1] at c110; exact absurd c110 (by decide))
                    | (have c9 : k ≤ 6 := (nI_leI (b := 6) (by omega) (by omega)).mp c99
                       obtain ⟨e1, e2, e3⟩ := mk_n hp g1 g2 hr2 hk0 c9
                       rw [e1]
                       exact ⟨rfl, rfl, rfl, _, hM, fun _ _ => by rw [e3, show p + k - p = k by omega]⟩)
                    | (have c9 : ¬ k ≤ 6 := fun q => c99 ((nI_leI (b := 6) (by omega) (by omega)).mpr q)
                       obtain ⟨e1, e2⟩ := mk_n2 hp g1 g2 hr2 c9
                       rw [e1]
                       exact ⟨rfl, rfl, rfl, _, hM, fun _ q => absurd q e2⟩)
            ·
              refine T_sipush (901) dX13_kindAt_102 rfl rfl ?_
              refine T_iret rfl rfl dX13_kindAt_105 ?_
              rcases hP with ⟨g1, rfl⟩ | ⟨g1, g2, rfl⟩
              · first
                  | exact absurd g1 c89
                  | exact absurd g1 c110
                  | (have c9 : k ≤ 10 := (nI_leI (b := 10) (by omega) (by omega)).mp c99
                     obtain ⟨e1, e2, e3⟩ := mk_w hp g1 hr2 hk0 c9
                     rw [e1, ← wm_kd (kwG_or h8 g1 hk0)]
                     exact ⟨rfl, rfl, rfl, _, hM, fun _ _ => by rw [e3, show p + k - p = k by omega]⟩)
                  | (have c9 : ¬ k ≤ 10 := fun q => c99 ((nI_leI (b := 10) (by omega) (by omega)).mpr q)
                     obtain ⟨e1, e2⟩ := mk_w2 hp g1 hr2 c9
                     rw [e1]
                     exact ⟨rfl, rfl, rfl, _, hM, fun _ q => absurd q e2⟩)
              · first
                  | (rw [g1] at c89; exact absurd c89 (by decide))
                  | (rw [g1] at c110; exact absurd c110 (by decide))
                  | (have c9 : k ≤ 6 := (nI_leI (b := 6) (by omega) (by omega)).mp c99
                     obtain ⟨e1, e2, e3⟩ := mk_n hp g1 g2 hr2 hk0 c9
                     rw [e1]
                     exact ⟨rfl, rfl, rfl, _, hM, fun _ _ => by rw [e3, show p + k - p = k by omega]⟩)
                  | (have c9 : ¬ k ≤ 6 := fun q => c99 ((nI_leI (b := 6) (by omega) (by omega)).mpr q)
                     obtain ⟨e1, e2⟩ := mk_n2 hp g1 g2 hr2 c9
                     rw [e1]
                     exact ⟨rfl, rfl, rfl, _, hM, fun _ q => absurd q e2⟩)
          ·
            rw [bF_lt _ (h8 p)] at c89
            have c89 := one_1 c89
            refine T_bipush (10) dX13_kindAt_92 rfl rfl ?_
            refine T_goto 99 dX13_kindAt_94 (by decide) ?_
            refine T_icmp_le 106 102 dX13_kindAt_99 (by decide) rfl (fun c99 => ?_) (fun c99 => ?_)
            ·
              refine T_iload3 dX13_kindAt_106 rfl ?_
              refine T_cS1 (c_X13_isLetter hX _) hX k13_93 (by decide) (Nat.le_of_ble_eq_true rfl) dX13_kindAt_107 rfl ?_
              rintro _ _ _ _ ⟨rfl, rfl, rfl, rfl⟩
              refine T_if_eq 125 113 dX13_kindAt_110 (by decide) rfl (fun c110 => ?_) (fun c110 => ?_)
              ·
                rw [bF_lt _ (h8 p)] at c110
                have c110 := one_0 c110
                refine T_bipush (41) dX13_kindAt_125 rfl rfl ?_
                refine T_iret rfl rfl dX13_kindAt_127 ?_
                rcases hP with ⟨g1, rfl⟩ | ⟨g1, g2, rfl⟩
                · first
                    | exact absurd g1 c89
                    | exact absurd g1 c110
                    | (have c9 : k ≤ 10 := (nI_leI (b := 10) (by omega) (by omega)).mp c99
                       obtain ⟨e1, e2, e3⟩ := mk_w hp g1 hr2 hk0 c9
                       rw [e1, ← wm_kd (kwG_or h8 g1 hk0)]
                       exact ⟨rfl, rfl, rfl, _, hM, fun _ _ => by rw [e3, show p + k - p = k by omega]⟩)
                    | (have c9 : ¬ k ≤ 10 := fun q => c99 ((nI_leI (b := 10) (by omega) (by omega)).mpr q)
                       obtain ⟨e1, e2⟩ := mk_w2 hp g1 hr2 c9
                       rw [e1]
                       exact ⟨rfl, rfl, rfl, _, hM, fun _ q => absurd q e2⟩)
                · first
                    | (rw [g1] at c89; exact absurd c89 (by decide))
                    | (rw [g1] at c110; exact absurd c110 (by decide))
                    | (have c9 : k ≤ 6 := (nI_leI (b := 6) (by omega) (by omega)).mp c99
                       obtain ⟨e1, e2, e3⟩ := mk_n hp g1 g2 hr2 hk0 c9
                       rw [e1]
                       exact ⟨rfl, rfl, rfl, _, hM, fun _ _ => by rw [e3, show p + k - p = k by omega]⟩)
                    | (have c9 : ¬ k ≤ 6 := fun q => c99 ((nI_leI (b := 6) (by omega) (by omega)).mpr q)
                       obtain ⟨e1, e2⟩ := mk_n2 hp g1 g2 hr2 c9
                       rw [e1]
                       exact ⟨rfl, rfl, rfl, _, hM, fun _ q => absurd q e2⟩)
              ·
                rw [bF_lt _ (h8 p)] at c110
                have c110 := one_1 c110
                refine T_aload0 dX13_kindAt_113 rfl ?_
                refine T_iload1 dX13_kindAt_114 rfl ?_
                refine T_iload4 dX13_kindAt_115 rfl ?_
                refine T_iload1 dX13_kindAt_117 rfl ?_
                refine T_isub dX13_kindAt_118 rfl ?_
                rw [nI_sub (by omega) (by omega), show p + k - p = k by omega]
                refine T_cV2 (c_X13_word hX hM hl2 h8 hk c110 hk0 (fun j hj => by rcases hP with ⟨g1, rfl⟩ | ⟨g1, g2, rfl⟩ <;> first | exact hrp hr2 j hj | (rw [g1] at c110; exact absurd c110 (by decide)))) hX k13_99 (Or.inl ⟨_, _, _, _, (hM.t_m), by decide, rfl⟩) (by decide) (Nat.le_of_ble_eq_true rfl) dX13_kindAt_119 rfl ?_
                rintro _ _ _ _ ⟨rfl, rfl, rfl, rfl⟩
                refine T_goto 127 dX13_kindAt_122 (by decide) ?_
                refine T_iret rfl rfl dX13_kindAt_127 ?_
                rcases hP with ⟨g1, rfl⟩ | ⟨g1, g2, rfl⟩
                · first
                    | exact absurd g1 c89
                    | exact absurd g1 c110
                    | (have c9 : k ≤ 10 := (nI_leI (b := 10) (by omega) (by omega)).mp c99
                       obtain ⟨e1, e2, e3⟩ := mk_w hp g1 hr2 hk0 c9
                       rw [e1, ← wm_kd (kwG_or h8 g1 hk0)]
                       exact ⟨rfl, rfl, rfl, _, hM, fun _ _ => by rw [e3, show p + k - p = k by omega]⟩)
                    | (have c9 : ¬ k ≤ 10 := fun q => c99 ((nI_leI (b := 10) (by omega) (by omega)).mpr q)
                       obtain ⟨e1, e2⟩ := mk_w2 hp g1 hr2 c9
                       rw [e1]
                       exact ⟨rfl, rfl, rfl, _, hM, fun _ q => absurd q e2⟩)
                · first
                    | (rw [g1] at c89; exact absurd c89 (by decide))
                    | (rw [g1] at c110; exact absurd c110 (by decide))
                    | (have c9 : k ≤ 6 := (nI_leI (b := 6) (by omega) (by omega)).mp c99
                       obtain ⟨e1, e2, e3⟩ := mk_n hp g1 g2 hr2 hk0 c9
                       rw [e1]
                       exact ⟨rfl, rfl, rfl, _, hM, fun _ _ => by rw [e3, show p + k - p = k by omega]⟩)
                    | (have c9 : ¬ k ≤ 6 := fun q => c99 ((nI_leI (b := 6) (by omega) (by omega)).mpr q)
                       obtain ⟨e1, e2⟩ := mk_n2 hp g1 g2 hr2 c9
                       rw [e1]
                       exact ⟨rfl, rfl, rfl, _, hM, fun _ q => absurd q e2⟩)
            ·
              refine T_sipush (901) dX13_kindAt_102 rfl rfl ?_
              refine T_iret rfl rfl dX13_kindAt_105 ?_
              rcases hP with ⟨g1, rfl⟩ | ⟨g1, g2, rfl⟩
              · first
                  | exact absurd g1 c89
                  | exact absurd g1 c110
                  | (have c9 : k ≤ 10 := (nI_leI (b := 10) (by omega) (by omega)).mp c99
                     obtain ⟨e1, e2, e3⟩ := mk_w hp g1 hr2 hk0 c9
                     rw [e1, ← wm_kd (kwG_or h8 g1 hk0)]
                     exact ⟨rfl, rfl, rfl, _, hM, fun _ _ => by rw [e3, show p + k - p = k by omega]⟩)
                  | (have c9 : ¬ k ≤ 10 := fun q => c99 ((nI_leI (b := 10) (by omega) (by omega)).mpr q)
                     obtain ⟨e1, e2⟩ := mk_w2 hp g1 hr2 c9
                     rw [e1]
                     exact ⟨rfl, rfl, rfl, _, hM, fun _ q => absurd q e2⟩)
              · first
                  | (rw [g1] at c89; exact absurd c89 (by decide))
                  | (rw [g1] at c110; exact absurd c110 (by decide))
                  | (have c9 : k ≤ 6 := (nI_leI (b := 6) (by omega) (by omega)).mp c99
                     obtain ⟨e1, e2, e3⟩ := mk_n hp g1 g2 hr2 hk0 c9
                     rw [e1]
                     exact ⟨rfl, rfl, rfl, _, hM, fun _ _ => by rw [e3, show p + k - p = k by omega]⟩)
                  | (have c9 : ¬ k ≤ 6 := fun q => c99 ((nI_leI (b := 6) (by omega) (by omega)).mpr q)
                     obtain ⟨e1, e2⟩ := mk_n2 hp g1 g2 hr2 c9
                     rw [e1]
                     exact ⟨rfl, rfl, rfl, _, hM, fun _ q => absurd q e2⟩)
        ·
          rw [bL_1 h8] at c62
          have c62 := one_1 c62
          first | refine T_iinc4 rfl (by decide) dX13_kindAt_65 rfl (inc1 _) ?_ | refine T_iinc4 rfl (by decide) dX13_kindAt_65 rfl rfl ?_
          refine T_goto 34 dX13_kindAt_68 (by decide) ?_
          have hy : p + k < ln ∧ P (B (p + k)) = true := by
            rcases hP with ⟨g1, rfl⟩ | ⟨g1, g2, rfl⟩
            · first
                | exact ⟨c43.1, ldB_y (B := B) (p := p + k) (Or.inr c43.2)⟩
                | exact ⟨c62.1, ldB_y (B := B) (p := p + k) (Or.inl c62.2)⟩
            · first
                | exact c43
                | (rw [g1] at c50; exact absurd c50 (by decide))
          exact ih (k + 1) (by omega) (by omega) (by rw [← hr]; exact (rn_y hy.1 hy.2).symm) (by omega)
set_option maxHeartbeats 1000000 in
theorem c_X13_kindAt {l : Launch} {D : va_G} {cA : Nat → ClassId} {n0 : Nat} {sg adK adV : Nat → Nat} {sgA smA wdA bS LS : Nat} {xs : Nat → Int32} (hX : SF n0 (XW0 sg adK adV sgA smA wdA n0 bS LS xs)) {sz : Nat} {τ : TY} {M0 M : ME} {m y z s1 s2 ln tk dp : Nat} {B : Nat → Nat} {ω : RH} (hM : MV τ M0 M m y z s1 s2 ln tk dp B ω) (hl2 : ln ≤ 2000) (h8 : ∀ i, B i < 256) {p i : Nat} (hi : i < 401) (hp2 : p < 2 ^ 29) : CT l D cA n0 (XW0 sg adK adV sgA smA wdA n0 bS LS xs) mX13_kindAt 8 0 0 sz τ M [.ref m, .int (nI p), .int (nI i)] (fun v' sz' τ' M' => v' = some (.int (nI (mkK B ln p))) ∧ sz' = sz ∧ τ' = τ ∧ ∃ x, MV τ M0 M' m y z s1 s2 ln tk dp B (u2 ω 82 i x) ∧ (p < ln → p < tkE B ln p → x = nI (tkE B ln p - p))) := by
  refine CT.of (ls := [.ref m, .int (nI p), .int (nI i), UU, UU, UU]) (by decide) (Nat.le_of_ble_eq_true rfl) rfl ?_
  refine T_aload0 dX13_kindAt_0 rfl ?_
  refine T_iload1 dX13_kindAt_1 rfl ?_
  refine T_cV1 (c_X13_byteOf hX hM hl2 (by omega)) hX k13_89 (Or.inl ⟨_, _, _, _, (hM.t_m), by decide, rfl⟩) (by decide) (Nat.le_of_ble_eq_true rfl) dX13_kindAt_2 rfl ?_
  rintro _ _ _ _ ⟨rfl, rfl, rfl, rfl⟩
  refine T_istore3 rfl (by decide) dX13_kindAt_5 rfl ?_
  refine T_iload1 dX13_kindAt_6 rfl ?_
  refine T_iconst (1) dX13_kindAt_7 rfl rfl ?_
  refine T_iadd dX13_kindAt_8 rfl ?_
  rw [show nI p + 1 = nI (p + 1) from nI_1 p]
  refine T_istore4 rfl (by decide) dX13_kindAt_9 rfl ?_
  refine T_iload3 dX13_kindAt_11 rfl ?_
  refine T_iconst (-1) dX13_kindAt_12 rfl rfl ?_
  refine T_icmp_ne 20 16 dX13_kindAt_13 (by decide) rfl (fun c13 => ?_) (fun c13 => ?_)
  ·
    have c13 : p < ln := Decidable.byContradiction fun q => c13 (bF_n q)
    rw [bF_y c13]
    refine T_iload3 dX13_kindAt_20 rfl ?_
    refine T_cS1 (c_X13_isLetter hX _) hX k13_93 (by decide) (Nat.le_of_ble_eq_true rfl) dX13_kindAt_21 rfl ?_
    rintro _ _ _ _ ⟨rfl, rfl, rfl, rfl⟩
    refine T_if_ne 34 27 dX13_kindAt_24 (by decide) rfl (fun c24 => ?_) (fun c24 => ?_)
    ·
      rw [bF_lt _ (h8 p)] at c24
      have c24 := one_1 c24
      first
        | exact L_X13_kindAt hX hM hl2 h8 hi c13 (P := ldB) (Or.inl ⟨c24, rfl⟩) (ln + 1) 1 (by omega) (by omega) (rn_y c13 (ldB_y (B := B) (p := p) (Or.inl c24))).symm (by omega)
        | exact L_X13_kindAt hX hM hl2 h8 hi c13 (P := dgB) (Or.inr ⟨c24, c31, rfl⟩) (ln + 1) 1 (by omega) (by omega) (rn_y c13 c31).symm (by omega)
    ·
      rw [bF_lt _ (h8 p)] at c24
      have c24 := ltB_f (one_0 c24)
      refine T_iload3 dX13_kindAt_27 rfl ?_
      refine T_cS1 (c_X13_isDigit hX _) hX k13_96 (by decide) (Nat.le_of_ble_eq_true rfl) dX13_kindAt_28 rfl ?_
      rintro _ _ _ _ ⟨rfl, rfl, rfl, rfl⟩
      refine T_if_eq 128 34 dX13_kindAt_31 (by decide) rfl (fun c31 => ?_) (fun c31 => ?_)
      ·
        rw [bF_dg _ (h8 p)] at c31
        have c31 : dgB (B p) = false := by have := one_0 c31; cases e : dgB (B p) <;> simp_all
        refine T_joinI 156 (fun v => v = if (B p = 60 ∨ B p = 62) ∧ p + 1 < ln ∧ B (p + 1) = 61 then 1 else 0) (fun hJ => ?_) (fun x156 hx156 => ?_)
        ·
          refine T_iload3 dX13_kindAt_128 rfl ?_
          refine T_bipush (60) dX13_kindAt_129 rfl rfl ?_
          refine T_icmp_eq 140 134 dX13_kindAt_131 (by decide) rfl (fun c131 => ?_) (fun c131 => ?_)
          ·
            have c131 := (nI_is (h8 p) 60 (by omega)).mp c131
            refine T_aload0 dX13_kindAt_140 rfl ?_
            refine T_iload4 dX13_kindAt_141 rfl ?_
            refine T_cV1 (c_X13_byteOf hX hM hl2 (by omega)) hX k13_89 (Or.inl ⟨_, _, _, _, (hM.t_m), by decide, rfl⟩) (by decide) (Nat.le_of_ble_eq_true rfl) dX13_kindAt_143 rfl ?_
            rintro _ _ _ _ ⟨rfl, rfl, rfl, rfl⟩
            refine T_bipush (61) dX13_kindAt_146 rfl rfl ?_
            refine T_icmp_ne 155 151 dX13_kindAt_148 (by decide) rfl (fun c148 => ?_) (fun c148 => ?_)
            ·
              have c148 : ¬ (p + 1 < ln ∧ B (p + 1) = 61) := fun q => c148 ((bF_61 h8).mpr q)
              refine T_iconst (0) dX13_kindAt_155 rfl rfl ?_
              refine hJ _ ?_
              first | exact (if_pos (And.intro (by first | exact Or.inl c131 | exact Or.inr c137) c148)).symm | (refine (if_neg ?_).symm; exact fun q => c148 q.2) | (refine (if_neg ?_).symm; exact fun q => q.1.elim c131 c137)
            ·
              have c148 := (bF_61 h8).mp c148
              refine T_iconst (1) dX13_kindAt_151 rfl rfl ?_
              refine T_goto 156 dX13_kindAt_152 (by decide) ?_
              refine hJ _ ?_
              first | exact (if_pos (And.intro (by first | exact Or.inl c131 | exact Or.inr c137) c148)).symm | (refine (if_neg ?_).symm; exact fun q => c148 q.2) | (refine (if_neg ?_).symm; exact fun q => q.1.elim c131 c137)
          ·
            have c131 : ¬ B p = 60 := fun q => c131 ((nI_is (h8 p) 60 (by omega)).mpr q)
            refine T_iload3 dX13_kindAt_134 rfl ?_
            refine T_bipush (62) dX13_kindAt_135 rfl rfl ?_
            refine T_icmp_ne 155 140 dX13_kindAt_137 (by decide) rfl (fun c137 => ?_) (fun c137 => ?_)
            ·
              have c137 : ¬ B p = 62 := fun q => c137 ((nI_is (h8 p) 62 (by omega)).mpr q)
              refine T_iconst (0) dX13_kindAt_155 rfl rfl ?_
              refine hJ _ ?_
              first | exact (if_pos (And.intro (by first | exact Or.inl c131 | exact Or.inr c137) c148)).symm | (refine (if_neg ?_).symm; exact fun q => c148 q.2) | (refine (if_neg ?_).symm; exact fun q => q.1.elim c131 c137)
            ·
              have c137 := (nI_is (h8 p) 62 (by omega)).mp c137
              refine T_aload0 dX13_kindAt_140 rfl ?_
              refine T_iload4 dX13_kindAt_141 rfl ?_
              refine T_cV1 (c_X13_byteOf hX hM hl2 (by omega)) hX k13_89 (Or.inl ⟨_, _, _, _, (hM.t_m), by decide, rfl⟩) (by decide) (Nat.le_of_ble_eq_true rfl) dX13_kindAt_143 rfl ?_
              rintro _ _ _ _ ⟨rfl, rfl, rfl, rfl⟩
              refine T_bipush (61) dX13_kindAt_146 rfl rfl ?_
              refine T_icmp_ne 155 151 dX13_kindAt_148 (by decide) rfl (fun c148 => ?_) (fun c148 => ?_)
              ·
                have c148 : ¬ (p + 1 < ln ∧ B (p + 1) = 61) := fun q => c148 ((bF_61 h8).mpr q)
                refine T_iconst (0) dX13_kindAt_155 rfl rfl ?_
                refine hJ _ ?_
                first | exact (if_pos (And.intro (by first | exact Or.inl c131 | exact Or.inr c137) c148)).symm | (refine (if_neg ?_).symm; exact fun q => c148 q.2) | (refine (if_neg ?_).symm; exact fun q => q.1.elim c131 c137)
              ·
                have c148 := (bF_61 h8).mp c148
                refine T_iconst (1) dX13_kindAt_151 rfl rfl ?_
                refine T_goto 156 dX13_kindAt_152 (by decide) ?_
                refine hJ _ ?_
                first | exact (if_pos (And.intro (by first | exact Or.inl c131 | exact Or.inr c137) c148)).symm | (refine (if_neg ?_).symm; exact fun q => c148 q.2) | (refine (if_neg ?_).symm; exact fun q => q.1.elim c131 c137)
        ·
          refine T_istore5 rfl (by decide) dX13_kindAt_156 rfl ?_
          subst hx156
          refine T_aload0 dX13_kindAt_158 rfl ?_
          refine g13_23 _ rfl (hM.t_m) (hM.g_mn) dX13_kindAt_159 rfl ?_
          refine T_iload2 dX13_kindAt_162 rfl ?_
          refine T_iload5 dX13_kindAt_163 rfl ?_
          refine T_if_eq 172 168 dX13_kindAt_165 (by decide) rfl (fun c165 => ?_) (fun c165 => ?_)
          ·
            have c165 := one_0 c165
            refine T_iconst (1) dX13_kindAt_172 rfl rfl ?_
            refine T_iast _ (hM.t_mn) rfl (by omega) (by decide) dX13_kindAt_173 rfl ?_
            refine T_nm (fun M1 e1 => ?_)
            have hM := MV.mv (hM.p_vmn (by omega)) e1
            refine T_iload5 dX13_kindAt_174 rfl ?_
            refine T_if_eq 195 179 dX13_kindAt_176 (by decide) rfl (fun c176 => ?_) (fun c176 => ?_)
            ·
              have c176 := one_0 c176
              refine T_iload3 dX13_kindAt_195 rfl ?_
              refine T_if_le 223 199 dX13_kindAt_196 (by decide) rfl (fun c196 => ?_) (fun c196 => ?_)
              ·
                have c196 : B p = 0 := Nat.le_zero.mp ((nI_leI (b := 0) (by have := h8 p; omega) (by omega)).mp c196)
                refine T_sipush (901) dX13_kindAt_223 rfl rfl ?_
                refine T_iret rfl rfl dX13_kindAt_226 ?_
                first
                  | exact absurd c165 c176
                  | (obtain ⟨e1, e2, e3⟩ := mk_s1y h8 c13 c24 c31 c176 c203 c213
                     rw [e1, ← nI_add]
                     exact ⟨rfl, rfl, rfl, _, hM, fun _ _ => by rw [e3, show p + 1 - p = 1 by omega]; rfl⟩)
                  | (obtain ⟨e1, e2⟩ := mk_s1n h8 c13 c24 c31 c176 (fun q => by first | exact c203 q.1 | exact c213 q.2 | exact absurd (show syB 0 = true from c196 ▸ q.2) (by decide))
                     rw [e1]
                     exact ⟨rfl, rfl, rfl, _, hM, fun _ q => absurd q e2⟩)
              ·
                have c196 : 0 < B p := Nat.pos_of_ne_zero (fun q => c196 (by rw [q]; decide))
                refine T_iload3 dX13_kindAt_199 rfl ?_
                refine T_sipush (128) dX13_kindAt_200 rfl rfl ?_
                refine T_icmp_ge 223 206 dX13_kindAt_203 (by decide) rfl (fun c203 => ?_) (fun c203 => ?_)
                ·
                  have c203 : ¬ B p < 128 := by have := (nI_leI (a := 128) (by omega) (by have := h8 p; omega)).mp c203; omega
                  refine T_sipush (901) dX13_kindAt_223 rfl rfl ?_
                  refine T_iret rfl rfl dX13_kindAt_226 ?_
                  first
                    | exact absurd c165 c176
                    | (obtain ⟨e1, e2, e3⟩ := mk_s1y h8 c13 c24 c31 c176 c203 c213
                       rw [e1, ← nI_add]
                       exact ⟨rfl, rfl, rfl, _, hM, fun _ _ => by rw [e3, show p + 1 - p = 1 by omega]; rfl⟩)
                    | (obtain ⟨e1, e2⟩ := mk_s1n h8 c13 c24 c31 c176 (fun q => by first | exact c203 q.1 | exact c213 q.2 | exact absurd (show syB 0 = true from c196 ▸ q.2) (by decide))
                       rw [e1]
                       exact ⟨rfl, rfl, rfl, _, hM, fun _ q => absurd q e2⟩)
                ·
                  have c203 : B p < 128 := Nat.lt_of_not_le (fun q => c203 ((nI_leI (a := 128) (by omega) (by have := h8 p; omega)).mpr q))
                  refine T_ldcS (tx := "()[];,+-*/<>=") (fun _ _ h => (h.2.1 3 (by decide)).2.2.2.2) dX13_kindAt_206 rfl ?_
                  refine T_iload3 dX13_kindAt_208 rfl ?_
                  skip
                  refine T_i2c dX13_kindAt_209 rfl ?_
                  rw [i2c_b _ c203]
                  refine T_cV1 (c_J0_indexOf_0f7a4 hX c203) hX k13_104 (Or.inr (fun _ _ h => (h.2.1 3 (by decide)).1)) (by decide) (Nat.le_of_ble_eq_true rfl) dX13_kindAt_210 rfl ?_
                  rintro _ _ _ _ ⟨⟨x, rfl, hx⟩, rfl, rfl, rfl⟩
                  refine T_if_lt 223 216 dX13_kindAt_213 (by decide) rfl (fun c213 => ?_) (fun c213 => ?_)
                  ·
                    have c213 := hx.mp c213
                    refine T_sipush (901) dX13_kindAt_223 rfl rfl ?_
                    refine T_iret rfl rfl dX13_kindAt_226 ?_
                    first
                      | exact absurd c165 c176
                      | (obtain ⟨e1, e2, e3⟩ := mk_s1y h8 c13 c24 c31 c176 c203 c213
                         rw [e1, ← nI_add]
                         exact ⟨rfl, rfl, rfl, _, hM, fun _ _ => by rw [e3, show p + 1 - p = 1 by omega]; rfl⟩)
                      | (obtain ⟨e1, e2⟩ := mk_s1n h8 c13 c24 c31 c176 (fun q => by first | exact c203 q.1 | exact c213 q.2 | exact absurd (show syB 0 = true from c196 ▸ q.2) (by decide))
                         rw [e1]
                         exact ⟨rfl, rfl, rfl, _, hM, fun _ q => absurd q e2⟩)
                  ·
                    have c213 : syB (B p) = true := Decidable.byContradiction fun q => c213 (hx.mpr q)
                    refine T_bipush (50) dX13_kindAt_216 rfl rfl ?_
                    refine T_iload3 dX13_kindAt_218 rfl ?_
                    refine T_iadd dX13_kindAt_219 rfl ?_
                    refine T_goto 226 dX13_kindAt_220 (by decide) ?_
                    refine T_iret rfl rfl dX13_kindAt_226 ?_
                    first
                      | exact absurd c165 c176
                      | (obtain ⟨e1, e2, e3⟩ := mk_s1y h8 c13 c24 c31 c176 c203 c213
                         rw [e1, ← nI_add]
                         exact ⟨rfl, rfl, rfl, _, hM, fun _ _ => by rw [e3, show p + 1 - p = 1 by omega]; rfl⟩)
                      | (obtain ⟨e1, e2⟩ := mk_s1n h8 c13 c24 c31 c176 (fun q => by first | exact c203 q.1 | exact c213 q.2 | exact absurd (show syB 0 = true from c196 ▸ q.2) (by decide))
                         rw [e1]
                         exact ⟨rfl, rfl, rfl, _, hM, fun _ q => absurd q e2⟩)
            ·
              have c176 := one_1 c176
              refine T_iload3 dX13_kindAt_179 rfl ?_
              refine T_bipush (60) dX13_kindAt_180 rfl rfl ?_
              refine T_icmp_ne 191 185 dX13_kindAt_182 (by decide) rfl (fun c182 => ?_) (fun c182 => ?_)
              ·
                have c182 : ¬ B p = 60 := fun q => c182 ((nI_is (h8 p) 60 (by omega)).mpr q)
                refine T_sipush (301) dX13_kindAt_191 rfl rfl ?_
                refine T_iret rfl rfl dX13_kindAt_194 ?_
                first
                  | exact absurd c176 c165
                  | (obtain ⟨e1, e2, e3⟩ := mk_s2 h8 c13 c24 c31 c176
                     rw [e1]
                     first | rw [if_pos c182] | rw [if_neg c182]
                     exact ⟨rfl, rfl, rfl, _, hM, fun _ _ => by rw [e3, show p + 2 - p = 2 by omega]; rfl⟩)
              ·
                have c182 := (nI_is (h8 p) 60 (by omega)).mp c182
                refine T_sipush (300) dX13_kindAt_185 rfl rfl ?_
                refine T_goto 194 dX13_kindAt_188 (by decide) ?_
                refine T_iret rfl rfl dX13_kindAt_194 ?_
                first
                  | exact absurd c176 c165
                  | (obtain ⟨e1, e2, e3⟩ := mk_s2 h8 c13 c24 c31 c176
                     rw [e1]
                     first | rw [if_pos c182] | rw [if_neg c182]
                     exact ⟨rfl, rfl, rfl, _, hM, fun _ _ => by rw [e3, show p + 2 - p = 2 by omega]; rfl⟩)
          ·
            have c165 := one_1 c165
            refine T_iconst (2) dX13_kindAt_168 rfl rfl ?_
            refine T_goto 173 dX13_kindAt_169 (by decide) ?_
            refine T_iast _ (hM.t_mn) rfl (by omega) (by decide) dX13_kindAt_173 rfl ?_
            refine T_nm (fun M2 e2 => ?_)
            have hM := MV.mv (hM.p_vmn (by omega)) e2
            refine T_iload5 dX13_kindAt_174 rfl ?_
            refine T_if_eq 195 179 dX13_kindAt_176 (by decide) rfl (fun c176 => ?_) (fun c176 => ?_)
            ·
              have c176 := one_0 c176
              refine T_iload3 dX13_kindAt_195 rfl ?_
              refine T_if_le 223 199 dX13_kindAt_196 (by decide) rfl (fun c196 => ?_) (fun c196 => ?_)
              ·
                have c196 : B p = 0 := Nat.le_zero.mp ((nI_leI (b := 0) (by have := h8 p; omega) (by omega)).mp c196)
                refine T_sipush (901) dX13_kindAt_223 rfl rfl ?_
                refine T_iret rfl rfl dX13_kindAt_226 ?_
                first
                  | exact absurd c165 c176
                  | (obtain ⟨e1, e2, e3⟩ := mk_s1y h8 c13 c24 c31 c176 c203 c213
                     rw [e1, ← nI_add]
                     exact ⟨rfl, rfl, rfl, _, hM, fun _ _ => by rw [e3, show p + 1 - p = 1 by omega]; rfl⟩)
                  | (obtain ⟨e1, e2⟩ := mk_s1n h8 c13 c24 c31 c176 (fun q => by first | exact c203 q.1 | exact c213 q.2 | exact absurd (show syB 0 = true from c196 ▸ q.2) (by decide))
                     rw [e1]
                     exact ⟨rfl, rfl, rfl, _, hM, fun _ q => absurd q e2⟩)
              ·
                have c196 : 0 < B p := Nat.pos_of_ne_zero (fun q => c196 (by rw [q]; decide))
                refine T_iload3 dX13_kindAt_199 rfl ?_
                refine T_sipush (128) dX13_kindAt_200 rfl rfl ?_
                refine T_icmp_ge 223 206 dX13_kindAt_203 (by decide) rfl (fun c203 => ?_) (fun c203 => ?_)
                ·
                  have c203 : ¬ B p < 128 := by have := (nI_leI (a := 128) (by omega) (by have := h8 p; omega)).mp c203; omega
                  refine T_sipush (901) dX13_kindAt_223 rfl rfl ?_
                  refine T_iret rfl rfl dX13_kindAt_226 ?_
                  first
                    | exact absurd c165 c176
                    | (obtain ⟨e1, e2, e3⟩ := mk_s1y h8 c13 c24 c31 c176 c203 c213
                       rw [e1, ← nI_add]
                       exact ⟨rfl, rfl, rfl, _, hM, fun _ _ => by rw [e3, show p + 1 - p = 1 by omega]; rfl⟩)
                    | (obtain ⟨e1, e2⟩ := mk_s1n h8 c13 c24 c31 c176 (fun q => by first | exact c203 q.1 | exact c213 q.2 | exact absurd (show syB 0 = true from c196 ▸ q.2) (by decide))
                       rw [e1]
                       exact ⟨rfl, rfl, rfl, _, hM, fun _ q => absurd q e2⟩)
                ·
                  have c203 : B p < 128 := Nat.lt_of_not_le (fun q => c203 ((nI_leI (a := 128) (by omega) (by have := h8 p; omega)).mpr q))
                  refine T_ldcS (tx := "()[];,+-*/<>=") (fun _ _ h => (h.2.1 3 (by decide)).2.2.2.2) dX13_kindAt_206 rfl ?_
                  refine T_iload3 dX13_kindAt_208 rfl ?_
                  skip
                  refine T_i2c dX13_kindAt_209 rfl ?_
                  rw [i2c_b _ c203]
                  refine T_cV1 (c_J0_indexOf_0f7a4 hX c203) hX k13_104 (Or.inr (fun _ _ h => (h.2.1 3 (by decide)).1)) (by decide) (Nat.le_of_ble_eq_true rfl) dX13_kindAt_210 rfl ?_
                  rintro _ _ _ _ ⟨⟨x, rfl, hx⟩, rfl, rfl, rfl⟩
                  refine T_if_lt 223 216 dX13_kindAt_213 (by decide) rfl (fun c213 => ?_) (fun c213 => ?_)
                  ·
                    have c213 := hx.mp c213
                    refine T_sipush (901) dX13_kindAt_223 rfl rfl ?_
                    refine T_iret rfl rfl dX13_kindAt_226 ?_
                    first
                      | exact absurd c165 c176
                      | (obtain ⟨e1, e2, e3⟩ := mk_s1y h8 c13 c24 c31 c176 c203 c213
                         rw [e1, ← nI_add]
                         exact ⟨rfl, rfl, rfl, _, hM, fun _ _ => by rw [e3, show p + 1 - p = 1 by omega]; rfl⟩)
                      | (obtain ⟨e1, e2⟩ := mk_s1n h8 c13 c24 c31 c176 (fun q => by first | exact c203 q.1 | exact c213 q.2 | exact absurd (show syB 0 = true from c196 ▸ q.2) (by decide))
                         rw [e1]
                         exact ⟨rfl, rfl, rfl, _, hM, fun _ q => absurd q e2⟩)
                  ·
                    have c213 : syB (B p) = true := Decidable.byContradiction fun q => c213 (hx.mpr q)
                    refine T_bipush (50) dX13_kindAt_216 rfl rfl ?_
                    refine T_iload3 dX13_kindAt_218 rfl ?_
                    refine T_iadd dX13_kindAt_219 rfl ?_
                    refine T_goto 226 dX13_kindAt_220 (by decide) ?_
                    refine T_iret rfl rfl dX13_kindAt_226 ?_
                    first
                      | exact absurd c165 c176
                      | (obtain ⟨e1, e2, e3⟩ := mk_s1y h8 c13 c24 c31 c176 c203 c213
                         rw [e1, ← nI_add]
                         exact ⟨rfl, rfl, rfl, _, hM, fun _ _ => by rw [e3, show p + 1 - p = 1 by omega]; rfl⟩)
                      | (obtain ⟨e1, e2⟩ := mk_s1n h8 c13 c24 c31 c176 (fun q => by first | exact c203 q.1 | exact c213 q.2 | exact absurd (show syB 0 = true from c196 ▸ q.2) (by decide))
                         rw [e1]
                         exact ⟨rfl, rfl, rfl, _, hM, fun _ q => absurd q e2⟩)
            ·
              have c176 := one_1 c176
              refine T_iload3 dX13_kindAt_179 rfl ?_
              refine T_bipush (60) dX13_kindAt_180 rfl rfl ?_
              refine T_icmp_ne 191 185 dX13_kindAt_182 (by decide) rfl (fun c182 => ?_) (fun c182 => ?_)
              ·
                have c182 : ¬ B p = 60 := fun q => c182 ((nI_is (h8 p) 60 (by omega)).mpr q)
                refine T_sipush (301) dX13_kindAt_191 rfl rfl ?_
                refine T_iret rfl rfl dX13_kindAt_194 ?_
                first
                  | exact absurd c176 c165
                  | (obtain ⟨e1, e2, e3⟩ := mk_s2 h8 c13 c24 c31 c176
                     rw [e1]
                     first | rw [if_pos c182] | rw [if_neg c182]
                     exact ⟨rfl, rfl, rfl, _, hM, fun _ _ => by rw [e3, show p + 2 - p = 2 by omega]; rfl⟩)
              ·
                have c182 := (nI_is (h8 p) 60 (by omega)).mp c182
                refine T_sipush (300) dX13_kindAt_185 rfl rfl ?_
                refine T_goto 194 dX13_kindAt_188 (by decide) ?_
                refine T_iret rfl rfl dX13_kindAt_194 ?_
                first
                  | exact absurd c176 c165
                  | (obtain ⟨e1, e2, e3⟩ := mk_s2 h8 c13 c24 c31 c176
                     rw [e1]
                     first | rw [if_pos c182] | rw [if_neg c182]
                     exact ⟨rfl, rfl, rfl, _, hM, fun _ _ => by rw [e3, show p + 2 - p = 2 by omega]; rfl⟩)
      ·
        rw [bF_dg _ (h8 p)] at c31
        have c31 := one_1 c31
        first
          | exact L_X13_kindAt hX hM hl2 h8 hi c13 (P := ldB) (Or.inl ⟨c24, rfl⟩) (ln + 1) 1 (by omega) (by omega) (rn_y c13 (ldB_y (B := B) (p := p) (Or.inl c24))).symm (by omega)
          | exact L_X13_kindAt hX hM hl2 h8 hi c13 (P := dgB) (Or.inr ⟨c24, c31, rfl⟩) (ln + 1) 1 (by omega) (by omega) (rn_y c13 c31).symm (by omega)
  ·
    have c13 : ¬ p < ln := fun q => by rw [bF_y q] at c13; exact nI_m1 (by have := h8 p; omega) c13
    refine T_sipush (900) dX13_kindAt_16 rfl rfl ?_
    refine T_iret rfl rfl dX13_kindAt_19 ?_
    rw [show mkK B ln p = 900 from if_neg c13]
    exact ⟨rfl, rfl, rfl, ω 82 i, by rw [u2_same rfl]; exact hM, fun q => absurd q c13⟩
