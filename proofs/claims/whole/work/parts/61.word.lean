/-- the model's kinds of the signs -/
def kdF (o : Nat) : Nat := if o < 28 then o else if o = 43 then 40 else if o = 44 then 41 else if o = 41 then 300 else if o = 42 then 301 else if o = 28 then 90 else if o = 29 then 91 else if o = 30 then 141 else if o = 31 then 143 else if o = 32 then 109 else if o = 33 then 94 else if o = 34 then 93 else if o = 35 then 95 else if o = 36 then 92 else if o = 37 then 97 else if o = 38 then 110 else if o = 39 then 112 else 111
section KW
variable {B : Nat → Nat} {p n ln : Nat}
theorem kwG_no : ∀ k i, i + k ≤ 48 → (∀ j, i ≤ j → j < 48 → ¬ txQ B (sgT.getD j 0) p n = true) → kwG B p n i k = 43
  | 0, _, _, _ => rfl
  | k + 1, i, h, h2 => by
    rw [kwG, if_neg (h2 i (Nat.le_refl _) (by omega))]
    exact kwG_no k (i + 1) (by omega) (fun j q1 q2 => h2 j (by omega) q2)
theorem kw_no (h : ∀ i, i < 48 → ¬ txQ B (sgT.getD i 0) p n = true) : kwF B p n = 43 := kwG_no 48 0 (Nat.le_refl _) (fun j _ q => h j q)
theorem kwG_at {o : Nat} (ho : o < 48) (h : txQ B (sgT.getD o 0) p n = true) (h2 : ∀ i, i < o → ¬ txQ B (sgT.getD i 0) p n = true) : ∀ k, k ≤ o → kwG B p n (o - k) (48 - (o - k)) = o
  | 0, _ => kwG_y ho h
  | k + 1, hk => by
    rw [kwG_n (by omega) (h2 _ (by omega)), show o - (k + 1) + 1 = o - k by omega]
    exact kwG_at ho h h2 k (by omega)
theorem kw_at {o : Nat} (ho : o < 48) (h : txQ B (sgT.getD o 0) p n = true) (h2 : ∀ i, i < o → ¬ txQ B (sgT.getD i 0) p n = true) : kwF B p n = o := by
  have h3 := kwG_at ho h h2 o (Nat.le_refl _)
  rw [Nat.sub_self] at h3
  exact h3
theorem sg_1 : ∀ i, i < 48 → stL.getD (sgT.getD i 0) 0 = 1 → 28 ≤ i ∧ i ≤ 40 ∧ kdF i = 50 + (chF (sgT.getD i 0) 0).toNatClampNeg ∧ chF (sgT.getD i 0) 0 = nI (kdF i - 50) ∧ kdF i - 50 < 128 ∧ syB (kdF i - 50) = true := by decide +kernel
theorem sg_1s : ∀ b, b < 256 → syB b = true → ∃ i, i < 48 ∧ 28 ≤ i ∧ i ≤ 40 ∧ kdF i = 50 + b ∧ stL.getD (sgT.getD i 0) 0 = 1 ∧ chF (sgT.getD i 0) 0 = nI b := by decide +kernel
theorem sg_1i : ∀ i, i < 48 → ∀ j, j < 48 → stL.getD (sgT.getD i 0) 0 = 1 → stL.getD (sgT.getD j 0) 0 = 1 → chF (sgT.getD i 0) 0 = chF (sgT.getD j 0) 0 → i = j := by decide +kernel
theorem sg_2 : ∀ i, i < 48 → stL.getD (sgT.getD i 0) 0 = 2 → (i = 41 ∧ chF (sgT.getD i 0) 0 = 60 ∧ chF (sgT.getD i 0) 1 = 61) ∨ (i = 42 ∧ chF (sgT.getD i 0) 0 = 62 ∧ chF (sgT.getD i 0) 1 = 61) ∨ iiF (chF (sgT.getD i 0) 0) 97 122 = 1 := by decide +kernel
theorem sg_w : ∀ i, i < 48 → 28 ≤ i → stL.getD (sgT.getD i 0) 0 = 0 ∨ iiF (chF (sgT.getD i 0) 0) 97 122 = 0 := by decide +kernel
theorem sx_nI : ∀ b, b < 256 → ∀ c, c < 128 → (sx b = nI c ↔ b = c) := by decide +kernel
theorem sx_ld : ∀ b, b < 256 → ldB b = true → sx b = nI b ∧ b < 128 := by decide +kernel
theorem kw1_y (h8 : ∀ i, B i < 256) {i : Nat} (hi : i < 48) (h : stL.getD (sgT.getD i 0) 0 = 1) (h2 : chF (sgT.getD i 0) 0 = nI (B p)) (h3 : B p < 128) : kwF B p 1 = i := by
  have e : sx (B p) = nI (B p) := (sx_nI _ (h8 p) _ h3).mpr rfl
  refine kw_at hi (txQ_iff.mpr ⟨h, fun j hj => ?_⟩) (fun j hj q => ?_)
  · obtain rfl : j = 0 := by omega
    rw [h2]; exact e.symm
  · obtain ⟨q1, q2⟩ := txQ_iff.mp q
    have := sg_1i j (by omega) i hi q1 h (by rw [q2 0 (by omega), h2]; exact e)
    omega
theorem kw1_n (h8 : ∀ i, B i < 256) (h : ¬ (B p < 128 ∧ syB (B p) = true)) : kwF B p 1 = 43 := by
  refine kw_no (fun i hi q => ?_)
  obtain ⟨q1, q2⟩ := txQ_iff.mp q
  obtain ⟨g1, g2, g3, g4, g5, g6⟩ := sg_1 i hi q1
  have e : sx (B p) = nI (kdF i - 50) := (q2 0 (by omega)).symm.trans g4
  have e2 := (sx_nI _ (h8 p) _ g5).mp e
  exact h ⟨by omega, by rw [e2]; exact g6⟩
theorem kw2_y (h8 : ∀ i, B i < 256) (h0 : ltB (B p) = false) : kwF B p 2 = if B p = 60 ∧ B (p + 1) = 61 then 41 else if B p = 62 ∧ B (p + 1) = 61 then 42 else 43 := by
  have hm : ∀ i, i < 48 → txQ B (sgT.getD i 0) p 2 = true → (i = 41 ∧ B p = 60 ∧ B (p + 1) = 61) ∨ (i = 42 ∧ B p = 62 ∧ B (p + 1) = 61) := fun i hi q => by
    obtain ⟨q1, q2⟩ := txQ_iff.mp q
    have a0 := q2 0 (by omega)
    have a1 := q2 1 (by omega)
    rcases sg_2 i hi q1 with ⟨r1, r2, r3⟩ | ⟨r1, r2, r3⟩ | r
    · exact Or.inl ⟨r1, (sx_nI _ (h8 p) 60 (by omega)).mp (a0.symm.trans r2), (sx_nI _ (h8 _) 61 (by omega)).mp (a1.symm.trans r3)⟩
    · exact Or.inr ⟨r1, (sx_nI _ (h8 p) 62 (by omega)).mp (a0.symm.trans r2), (sx_nI _ (h8 _) 61 (by omega)).mp (a1.symm.trans r3)⟩
    · rw [a0] at r
      have r2 := ii_lt _ (h8 (p + 0))
      rw [Nat.add_zero] at r r2
      rw [r, h0, if_neg (by decide)] at r2
      exact absurd r2 (by decide)
  by_cases e1 : B p = 60 ∧ B (p + 1) = 61
  · rw [if_pos e1]
    refine kw_at (by omega) (txQ_iff.mpr ⟨by decide, fun j hj => ?_⟩) (fun i hi q => ?_)
    · rcases (show j = 0 ∨ j = 1 by omega) with rfl | rfl
      · rw [Nat.add_zero, e1.1]; decide
      · rw [e1.2]; decide
    · rcases hm i (by omega) q with r | r <;> omega
  · rw [if_neg e1]
    by_cases e2 : B p = 62 ∧ B (p + 1) = 61
    · rw [if_pos e2]
      refine kw_at (by omega) (txQ_iff.mpr ⟨by decide, fun j hj => ?_⟩) (fun i hi q => ?_)
      · rcases (show j = 0 ∨ j = 1 by omega) with rfl | rfl
        · rw [Nat.add_zero, e2.1]; decide
        · rw [e2.2]; decide
      · rcases hm i (by omega) q with r | r <;> omega
    · rw [if_neg e2]
      refine kw_no (fun i hi q => ?_)
      rcases hm i hi q with ⟨-, r⟩ | ⟨-, r⟩
      · exact e1 r
      · exact e2 r
/-- a word's text, as the model compares it -/
def txM (B : Nat → Nat) (k p n : Nat) : Prop := stL.getD (wdI.getD k 0) 0 = n ∧ ∀ j, j < n → chF (wdI.getD k 0) j = nI (B (p + j))
theorem wd_sg : ∀ k, k < 28 → stL.getD (wdI.getD k 0) 0 = stL.getD (sgT.getD k 0) 0 ∧ wdI.getD k 0 < 76 ∧ stB.getD (wdI.getD k 0) [] = stB.getD (sgT.getD k 0) [] := by decide +kernel
theorem txM_iff (h8 : ∀ i, B i < 256) {k : Nat} (hk : k < 28) (hr : ∀ j, j < n → ldB (B (p + j)) = true) : txM B k p n ↔ txQ B (sgT.getD k 0) p n = true := by
  obtain ⟨g1, g2, g3⟩ := wd_sg k hk
  rw [txQ_iff]
  unfold txM chF
  rw [g1, g3]
  refine ⟨fun q => ⟨q.1, fun j hj => ?_⟩, fun q => ⟨q.1, fun j hj => ?_⟩⟩
  · rw [(sx_ld _ (h8 _) (hr j hj)).1]; exact q.2 j hj
  · rw [← (sx_ld _ (h8 _) (hr j hj)).1]; exact q.2 j hj
theorem kw_28 (h8 : ∀ i, B i < 256) (h0 : ltB (B p) = true) (hn : 0 < n) : kwG B p n 28 20 = 43 := by
  refine kwG_no 20 28 (by omega) (fun j q1 q2 q => ?_)
  obtain ⟨r1, r2⟩ := txQ_iff.mp q
  rcases sg_w j q2 q1 with r | r
  · omega
  · rw [r2 0 hn] at r
    have r3 := ii_lt _ (h8 (p + 0))
    rw [Nat.add_zero] at r r3
    rw [r, if_pos h0] at r3
    exact absurd r3 (by decide)
def wmF (o : Nat) : Nat := if o = 43 then 40 else o
theorem kwG_or (h8 : ∀ i, B i < 256) (h0 : ltB (B p) = true) (hn : 0 < n) : kwF B p n = 43 ∨ kwF B p n < 28 := by
  have h : ∀ k, k ≤ 28 → (kwG B p n (28 - k) (48 - (28 - k)) = 43 ∨ kwG B p n (28 - k) (48 - (28 - k)) < 28) := fun k => by
    induction k with
    | zero => exact fun _ => Or.inl (kw_28 h8 h0 hn)
    | succ k ih =>
      intro hk
      by_cases q : txQ B (sgT.getD (28 - (k + 1)) 0) p n = true
      · rw [kwG_y (by omega) q]; exact Or.inr (by omega)
      · rw [kwG_n (by omega) q, show 28 - (k + 1) + 1 = 28 - k by omega]; exact ih (by omega)
  have := h 28 (Nat.le_refl _)
  rw [Nat.sub_self] at this
  exact this
theorem wm_kd (h : kwF B p n = 43 ∨ kwF B p n < 28) : wmF (kwF B p n) = kdF (kwF B p n) := by
  rcases h with h | h
  · rw [h]; rfl
  · unfold wmF kdF; rw [if_neg (by omega), if_pos h]
end KW
set_option maxHeartbeats 1000000 in
theorem L2_X13_word {l : Launch} {D : va_G} {cA : Nat → ClassId} {n0 : Nat} {sg adK adV : Nat → Nat} {sgA smA wdA bS LS : Nat} {xs : Nat → Int32} (hX : SF n0 (XW0 sg adK adV sgA smA wdA n0 bS LS xs)) {sz : Nat} {τ : TY} {M0 M : ME} {m y z s1 s2 ln tk dp : Nat} {B : Nat → Nat} {ω : RH} (hM : MV τ M0 M m y z s1 s2 ln tk dp B ω) (hl2 : ln ≤ 2000) (h8 : ∀ i, B i < 256) {p n2 : Nat} (hp : p + n2 ≤ ln) (h0 : ltB (B p) = true) (hn2 : 0 < n2) (hr : ∀ j, j < n2 → ldB (B (p + j)) = true) {k : Nat} (c7 : k < 28) (nx : ∀ (u1 u2 : Int32), ¬ txM B k p n2 → T l D cA n0 (XW0 sg adK adV sgA smA wdA n0 bS LS xs) mX13_word 6 0 0 sz τ M 2 [.ref m, .int (nI p), .int (nI n2), .int (nI (k + 1)), .int u1, .int u2] [] (ROq (.int (nI (wmF (kwG B p n2 k (48 - k))))) sz τ M) (fun _ _ _ _ => False)) : ∀ (n : Nat) (i : Nat) (v : Int32) (hi : i ≤ n2) (hv : v = 0 ∨ v = 1) (hv2 : ¬ v = 0 ↔ (stL.getD (wdI.getD k 0) 0 = n2 ∧ ∀ j, j < i → chF (wdI.getD k 0) j = nI (B (p + j)))), n2 - i < n → T l D cA n0 (XW0 sg adK adV sgA smA wdA n0 bS LS xs) mX13_word 6 0 0 sz τ M 32 [.ref m, .int (nI p), .int (nI n2), .int (nI k), .int v, .int (nI i)] [] (ROq (.int (nI (wmF (kwG B p n2 k (48 - k))))) sz τ M) (fun _ _ _ _ => False) := by
  intro n
  induction n with
  | zero => intros; omega
  | succ n ih =>
    intro i v hi hv hv2 hn
    refine T_iload4 dX13_word_32 rfl ?_
    refine T_if_eq 78 37 dX13_word_34 (by decide) rfl (fun c34 => ?_) (fun c34 => ?_)
    ·
      refine T_iload4 dX13_word_78 rfl ?_
      refine T_if_eq 85 83 dX13_word_80 (by decide) rfl (fun c80 => ?_) (fun c80 => ?_)
      ·
        first | refine T_iinc3 rfl (by decide) dX13_word_85 rfl (inc1 _) ?_ | refine T_iinc3 rfl (by decide) dX13_word_85 rfl rfl ?_
        refine T_goto 2 dX13_word_88 (by decide) ?_
        have hno : ¬ txM B k p n2 := fun q => by
          first
            | exact hv2.mpr ⟨q.1, fun j hj => q.2 j (by omega)⟩ c34
            | exact hv2.mpr ⟨q.1, fun j hj => q.2 j (by omega)⟩ c80
        exact nx _ _ hno
      ·
        refine T_iload3 dX13_word_83 rfl ?_
        refine T_iret rfl rfl dX13_word_84 ?_
        have hy : txM B k p n2 := by
          have q := hv2.mp c80
          exact ⟨q.1, fun j hj => q.2 j (by first | omega | exact absurd c34 c80)⟩
        rw [kwG_y (by omega) ((txM_iff h8 c7 hr).mp hy)]
        unfold wmF
        rw [if_neg (by omega)]
        exact ⟨rfl, rfl, rfl, rfl⟩
    ·
      refine T_iload5 dX13_word_37 rfl ?_
      refine T_iload2 dX13_word_39 rfl ?_
      refine T_icmp_ge 78 43 dX13_word_40 (by decide) rfl (fun c40 => ?_) (fun c40 => ?_)
      ·
        have c40 := (nI_leI (by omega) (by omega)).mp c40
        refine T_iload4 dX13_word_78 rfl ?_
        refine T_if_eq 85 83 dX13_word_80 (by decide) rfl (fun c80 => ?_) (fun c80 => ?_)
        ·
          first | refine T_iinc3 rfl (by decide) dX13_word_85 rfl (inc1 _) ?_ | refine T_iinc3 rfl (by decide) dX13_word_85 rfl rfl ?_
          refine T_goto 2 dX13_word_88 (by decide) ?_
          have hno : ¬ txM B k p n2 := fun q => by
            first
              | exact hv2.mpr ⟨q.1, fun j hj => q.2 j (by omega)⟩ c34
              | exact hv2.mpr ⟨q.1, fun j hj => q.2 j (by omega)⟩ c80
          exact nx _ _ hno
        ·
          refine T_iload3 dX13_word_83 rfl ?_
          refine T_iret rfl rfl dX13_word_84 ?_
          have hy : txM B k p n2 := by
            have q := hv2.mp c80
            exact ⟨q.1, fun j hj => q.2 j (by first | omega | exact absurd c34 c80)⟩
          rw [kwG_y (by omega) ((txM_iff h8 c7 hr).mp hy)]
          unfold wmF
          rw [if_neg (by omega)]
          exact ⟨rfl, rfl, rfl, rfl⟩
      ·
        have c40 := Nat.lt_of_not_le (fun q => c40 ((nI_leI (by omega) (by omega)).mpr q))
        refine T_gets (v := .ref wdA) (fun _ _ h => h.2.2.1.2.2.2.2.1) ks13_109 dX13_word_43 rfl ?_
        refine T_iload3 dX13_word_46 rfl ?_
        refine T_tq k (fun _ _ h => h.2.2.1.2.2.2.2.2) rfl c7 (by decide) rfl dX13_word_47 rfl ?_
        refine T_iload5 dX13_word_48 rfl ?_
        refine T_cV1 (c_J0_charAt_5068e hX (wd_sg k c7).2.1 (j := i) (by rw [(hv2.mp c34).1]; exact c40)) hX k13_117 (Or.inr (fun _ _ h => (h.2.1 _ (wd_sg k c7).2.1).1)) (by decide) (Nat.le_of_ble_eq_true rfl) dX13_word_50 rfl ?_
        rintro _ _ _ _ ⟨rfl, rfl, rfl, rfl⟩
        refine T_aload0 dX13_word_53 rfl ?_
        refine g13_9 _ rfl (hM.t_m) (hM.g_tp) dX13_word_54 rfl ?_
        refine T_iload1 dX13_word_57 rfl ?_
        refine T_iload5 dX13_word_58 rfl ?_
        refine T_iadd dX13_word_60 rfl ?_
        refine T_iald _ (hM.t_tp) (nI_add _ _) (by omega) (by decide) dX13_word_61 rfl (hM.g_by (by omega)) ?_
        refine T_icmp_ne 69 65 dX13_word_62 (by decide) rfl (fun c62 => ?_) (fun c62 => ?_)
        ·
          refine T_iconst (0) dX13_word_69 rfl rfl ?_
          refine T_istore4 rfl (by decide) dX13_word_70 rfl ?_
          first | refine T_iinc5 rfl (by decide) dX13_word_72 rfl (inc1 _) ?_ | refine T_iinc5 rfl (by decide) dX13_word_72 rfl rfl ?_
          refine T_goto 32 dX13_word_75 (by decide) ?_
          first
            | exact ih (i + 1) 1 (by omega) (Or.inr rfl) ⟨fun _ => ⟨(hv2.mp c34).1, fun j hj => (Nat.lt_succ_iff_lt_or_eq.mp hj).elim ((hv2.mp c34).2 j) (fun e => by subst e; exact c62)⟩, fun _ => by decide⟩ (by omega)
            | exact ih (i + 1) 0 (by omega) (Or.inl rfl) ⟨fun q => absurd rfl q, fun q => absurd (q.2 i (by omega)) c62⟩ (by omega)
        ·
          refine T_iconst (1) dX13_word_65 rfl rfl ?_
          refine T_goto 70 dX13_word_66 (by decide) ?_
          refine T_istore4 rfl (by decide) dX13_word_70 rfl ?_
          first | refine T_iinc5 rfl (by decide) dX13_word_72 rfl (inc1 _) ?_ | refine T_iinc5 rfl (by decide) dX13_word_72 rfl rfl ?_
          refine T_goto 32 dX13_word_75 (by decide) ?_
          first
            | exact ih (i + 1) 1 (by omega) (Or.inr rfl) ⟨fun _ => ⟨(hv2.mp c34).1, fun j hj => (Nat.lt_succ_iff_lt_or_eq.mp hj).elim ((hv2.mp c34).2 j) (fun e => by subst e; exact c62)⟩, fun _ => by decide⟩ (by omega)
            | exact ih (i + 1) 0 (by omega) (Or.inl rfl) ⟨fun q => absurd rfl q, fun q => absurd (q.2 i (by omega)) c62⟩ (by omega)
set_option maxHeartbeats 1000000 in
theorem L1_X13_word {l : Launch} {D : va_G} {cA : Nat → ClassId} {n0 : Nat} {sg adK adV : Nat → Nat} {sgA smA wdA bS LS : Nat} {xs : Nat → Int32} (hX : SF n0 (XW0 sg adK adV sgA smA wdA n0 bS LS xs)) {sz : Nat} {τ : TY} {M0 M : ME} {m y z s1 s2 ln tk dp : Nat} {B : Nat → Nat} {ω : RH} (hM : MV τ M0 M m y z s1 s2 ln tk dp B ω) (hl2 : ln ≤ 2000) (h8 : ∀ i, B i < 256) {p n2 : Nat} (hp : p + n2 ≤ ln) (h0 : ltB (B p) = true) (hn2 : 0 < n2) (hr : ∀ j, j < n2 → ldB (B (p + j)) = true) : ∀ (n : Nat) (k : Nat) (u1 u2 : Value) (hk : k ≤ 28), 28 - k < n → T l D cA n0 (XW0 sg adK adV sgA smA wdA n0 bS LS xs) mX13_word 6 0 0 sz τ M 2 [.ref m, .int (nI p), .int (nI n2), .int (nI k), u1, u2] [] (ROq (.int (nI (wmF (kwG B p n2 k (48 - k))))) sz τ M) (fun _ _ _ _ => False) := by
  intro n
  induction n with
  | zero => intros; omega
  | succ n ih =>
    intro k u1 u2 hk hn
    refine T_iload3 dX13_word_2 rfl ?_
    refine T_gets (v := .ref wdA) (fun _ _ h => h.2.2.1.2.2.2.2.1) ks13_109 dX13_word_3 rfl ?_
    refine T_tlen (fun _ _ h => h.2.2.1.2.2.2.2.2) dX13_word_6 rfl ?_
    refine T_icmp_ge 91 10 dX13_word_7 (by decide) rfl (fun c7 => ?_) (fun c7 => ?_)
    ·
      have c7 := (nI_leI (by omega) (by omega)).mp c7
      refine T_bipush (40) dX13_word_91 rfl rfl ?_
      refine T_iret rfl rfl dX13_word_93 ?_
      rw [show k = 28 by omega, kw_28 h8 h0 hn2]
      exact ⟨rfl, rfl, rfl, rfl⟩
    ·
      have c7 := Nat.lt_of_not_le (fun q => c7 ((nI_leI (by omega) (by omega)).mpr q))
      refine T_gets (v := .ref wdA) (fun _ _ h => h.2.2.1.2.2.2.2.1) ks13_109 dX13_word_10 rfl ?_
      refine T_iload3 dX13_word_13 rfl ?_
      refine T_tq k (fun _ _ h => h.2.2.1.2.2.2.2.2) rfl c7 (by decide) rfl dX13_word_14 rfl ?_
      refine T_cV0 (c_J0_length_8abf5 hX (wd_sg k c7).2.1) hX k13_113 (Or.inr (fun _ _ h => (h.2.1 _ (wd_sg k c7).2.1).1)) (by decide) (Nat.le_of_ble_eq_true rfl) dX13_word_15 rfl ?_
      rintro _ _ _ _ ⟨rfl, rfl, rfl, rfl⟩
      refine T_iload2 dX13_word_18 rfl ?_
      refine T_icmp_ne 26 22 dX13_word_19 (by decide) rfl (fun c19 => ?_) (fun c19 => ?_)
      ·
        have c19 : ¬ stL.getD (wdI.getD k 0) 0 = n2 := fun q => c19 (by rw [q])
        refine T_iconst (0) dX13_word_26 rfl rfl ?_
        refine T_istore4 rfl (by decide) dX13_word_27 rfl ?_
        refine T_iconst (0) dX13_word_29 rfl rfl ?_
        refine T_istore5 rfl (by decide) dX13_word_30 rfl ?_
        refine L2_X13_word hX hM hl2 h8 hp h0 hn2 hr c7 (fun u1 u2 hno => ?_) (n2 + 1) 0 _ (Nat.zero_le _) (by first | exact Or.inl rfl | exact Or.inr rfl) ?_ (by omega)
        · rw [kwG_n (by omega) (fun q => hno ((txM_iff h8 c7 hr).mpr q))]
          exact ih (k + 1) _ _ (by omega) (by omega)
        · first
            | exact ⟨fun _ => ⟨c19, fun _ h => absurd h (Nat.not_lt_zero _)⟩, fun _ => by decide⟩
            | exact ⟨fun q => absurd rfl q, fun q => absurd q.1 c19⟩
      ·
        have c19 := (nI_eq (by have := stL_64 _ (wd_sg k c7).2.1; omega) (by omega)).mp c19
        refine T_iconst (1) dX13_word_22 rfl rfl ?_
        refine T_goto 27 dX13_word_23 (by decide) ?_
        refine T_istore4 rfl (by decide) dX13_word_27 rfl ?_
        refine T_iconst (0) dX13_word_29 rfl rfl ?_
        refine T_istore5 rfl (by decide) dX13_word_30 rfl ?_
        refine L2_X13_word hX hM hl2 h8 hp h0 hn2 hr c7 (fun u1 u2 hno => ?_) (n2 + 1) 0 _ (Nat.zero_le _) (by first | exact Or.inl rfl | exact Or.inr rfl) ?_ (by omega)
        · rw [kwG_n (by omega) (fun q => hno ((txM_iff h8 c7 hr).mpr q))]
          exact ih (k + 1) _ _ (by omega) (by omega)
        · first
            | exact ⟨fun _ => ⟨c19, fun _ h => absurd h (Nat.not_lt_zero _)⟩, fun _ => by decide⟩
            | exact ⟨fun q => absurd rfl q, fun q => absurd q.1 c19⟩
set_option maxHeartbeats 1000000 in
theorem c_X13_word {l : Launch} {D : va_G} {cA : Nat → ClassId} {n0 : Nat} {sg adK adV : Nat → Nat} {sgA smA wdA bS LS : Nat} {xs : Nat → Int32} (hX : SF n0 (XW0 sg adK adV sgA smA wdA n0 bS LS xs)) {sz : Nat} {τ : TY} {M0 M : ME} {m y z s1 s2 ln tk dp : Nat} {B : Nat → Nat} {ω : RH} (hM : MV τ M0 M m y z s1 s2 ln tk dp B ω) (hl2 : ln ≤ 2000) (h8 : ∀ i, B i < 256) {p n2 : Nat} (hp : p + n2 ≤ ln) (h0 : ltB (B p) = true) (hn2 : 0 < n2) (hr : ∀ j, j < n2 → ldB (B (p + j)) = true) : CT l D cA n0 (XW0 sg adK adV sgA smA wdA n0 bS LS xs) mX13_word 6 0 0 sz τ M [.ref m, .int (nI p), .int (nI n2)] (ROq (.int (nI (wmF (kwF B p n2)))) sz τ M) := by
  refine CT.of (ls := [.ref m, .int (nI p), .int (nI n2), UU, UU, UU]) (by decide) (Nat.le_of_ble_eq_true rfl) rfl ?_
  refine T_iconst (0) dX13_word_0 rfl rfl ?_
  refine T_istore3 rfl (by decide) dX13_word_1 rfl ?_
  exact L1_X13_word hX hM hl2 h8 hp h0 hn2 hr 29 0 UU UU (Nat.zero_le _) (by omega)
