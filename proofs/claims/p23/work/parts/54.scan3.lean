theorem mn2 {ln p : Nat} (h : p < ln) (h2 : ln ≤ 2000) : minI (nI (ln - p)) 2 = nI (syn ln p) := by
  unfold syn
  show (if nI (ln - p) < nI 2 then nI (ln - p) else nI 2) = _
  by_cases e : p + 2 ≤ ln
  · rw [if_pos e, if_neg (fun q => Int32.not_le.mpr q ((nI_leI (a := 2) (by omega) (by omega)).mpr (by omega)))]
  · rw [if_neg e, if_pos (nI_lt (b := 2) (by omega) (by omega)), show ln - p = 1 by omega]
theorem sc_len {ln : Nat} (h : ln ≤ 2000) : maxI 0 (minI (nI 2000) (nI ln)) = nI ln := by
  have e : minI (nI 2000) (nI ln) = nI ln := by
    unfold minI
    by_cases q : ln = 2000
    · subst q; rfl
    · rw [if_neg (fun z => Int32.not_le.mpr z ((nI_leI (by omega) (by omega)).mpr h))]
  rw [e]
  show (if nI 0 < nI ln then nI ln else nI 0) = _
  by_cases q : ln = 0
  · subst q; rfl
  · rw [if_pos (nI_lt (a := 0) (by omega) (by omega))]
theorem syn_le {ln p : Nat} (h : p < ln) : p + syn ln p ≤ ln ∧ syn ln p ≤ 2 := by unfold syn; split <;> omega
def plF (B : Nat → Nat) (ln : Nat) : Nat → Nat
  | 0 => 0
  | k + 1 => tkE B ln (rn blB B ln (plF B ln k))
/-- where token k begins -/
def tP (B : Nat → Nat) (ln k : Nat) : Nat := rn blB B ln (plF B ln k)
def gdT (B : Nat → Nat) (ln k : Nat) : Prop := tP B ln k < ln ∧ tP B ln k < tkE B ln (tP B ln k)
def TkI (B : Nat → Nat) (ln : Nat) (σ : Nat → Nat) (st : Nat → Int32) (vl : Nat → Int64) (i : Nat) : Prop := gdT B ln i ∧ σ i = tkK B ln (tP B ln i) ∧ st i = nI (tP B ln i) ∧ ((ltB (B (tP B ln i)) = true ∨ dgB (B (tP B ln i)) = true) → vl i = tkV B ln (tP B ln i))
/-- the tokens of a tape -/
def Toks (B : Nat → Nat) (ln lt : Nat) (σ : Nat → Nat) (st : Nat → Int32) (vl : Nat → Int64) : Prop := lt ≤ 400 ∧ (∀ i, i < lt → TkI B ln σ st vl i) ∧ (lt = 400 ∨ ¬ gdT B ln lt) ∧ st lt = nI (tP B ln lt) ∧ σ lt = if tP B ln lt < ln then 46 else 45
theorem tkE_ge {B : Nat → Nat} {ln p : Nat} : p ≤ tkE B ln p := by
  unfold tkE
  split
  · unfold wdE; split
    · exact Nat.le_refl _
    · exact rn_ge
  · split
    · unfold nbE; split
      · exact Nat.le_refl _
      · exact rn_ge
    · unfold syE
      rcases se_cases (B := B) (p := p) (syn ln p) with h | h
      · rw [h.1]; exact Nat.le_refl _
      · exact Nat.le_of_lt h
theorem seE_le {B : Nat → Nat} {p : Nat} : ∀ k, seE B p k ≤ p + k
  | 0 => Nat.le_refl _
  | k + 1 => by
    have := seE_le (B := B) (p := p) k
    unfold seE; split <;> omega
theorem tkE_le {B : Nat → Nat} {ln p : Nat} (h : p < ln) : tkE B ln p ≤ ln := by
  unfold tkE
  split
  · unfold wdE; split
    · omega
    · exact rn_le (by omega)
  · split
    · unfold nbE; split
      · omega
      · exact rn_le (by omega)
    · have := seE_le (B := B) (p := p) (syn ln p)
      have := syn_le h
      unfold syE; omega
theorem TkI.keep {B : Nat → Nat} {ln k i : Nat} {σ σ' : Nat → Nat} {st st' : Nat → Int32} {vl vl' : Nat → Int64} (h : TkI B ln σ st vl i) (h1 : σ' i = σ i) (h2 : st' i = st i) (h3 : vl' i = vl i) : TkI B ln σ' st' vl' i := by
  obtain ⟨g1, g2, g3, g4⟩ := h
  exact ⟨g1, by rw [h1]; exact g2, by rw [h2]; exact g3, fun q => by rw [h3]; exact g4 q⟩
theorem tkS_i {B : Nat → Nat} {ln p k i : Nat} {σ : Nat → Nat} (h : i ≠ k) : tkS B ln p k σ i = σ i := by
  unfold tkS; split
  · rfl
  · exact u1_i h
theorem tkL_i {B : Nat → Nat} {ln p k i : Nat} {vl : Nat → Int64} (h : i ≠ k) : tkL B ln p k vl i = vl i := by
  unfold tkL; split
  · rfl
  · exact uL_i h
theorem TkI.new {B : Nat → Nat} {ln k : Nat} {σ : Nat → Nat} {st : Nat → Int32} {vl : Nat → Int64} (h : gdT B ln k) : TkI B ln (tkS B ln (tP B ln k) k σ) (uI st k (nI (tP B ln k))) (tkL B ln (tP B ln k) k vl) k := by
  have hne : ¬ tkE B ln (tP B ln k) = tP B ln k := by have := h.2; omega
  refine ⟨h, ?_, uI_s _ _ _, fun q => ?_⟩
  · unfold tkS; rw [if_neg hne, u1_s]
  · unfold tkL; rw [if_neg (fun z => z.elim hne (fun z => z q)), uL_s]
theorem ln_out {ln k : Nat} (h : nI ln ≤ nI k) (h1 : ln ≤ 2000) (h2 : k ≤ 2000) : ln ≤ k := (nI_leI (by omega) (by omega)).mp h
theorem ln_in {ln k : Nat} (h : ¬ nI ln ≤ nI k) (h1 : ln ≤ 2000) (h2 : k ≤ 2000) : k < ln := Nat.lt_of_not_le fun q => h ((nI_leI (by omega) (by omega)).mpr q)
set_option maxHeartbeats 1000000 in
theorem L_X9_scanSymbol {l : Launch} {D : va_G} {cA : Nat → ClassId} {n0 : Nat} {sg adK adV : Nat → Nat} {sgA smA wdA bS LS : Nat} {xs : Nat → Int32} (hX : SF n0 (XW0 sg adK adV sgA smA wdA n0 bS LS xs)) {sz : Nat} {τ : TY} {M0 N0 M : ME} {t tp ln lt : Nat} {B : Nat → Nat} {σ : Nat → Nat} {st : Nat → Int32} {vl : Nat → Int64} (hT : TM τ M0 M t sg tp ln lt σ st vl) (hB : BM τ N0 M tp B) (hB8 : ∀ i, B i < 256) (hl2 : ln ≤ 2000) {p : Nat} (hp : p < ln) (hlt : lt < 401) (hd : tp < t ∨ t + 4 ≤ tp) : ∀ (n : Nat) (k : Nat) (u : Value) (hk : p + k ≤ ln), k < n → T l D cA n0 (XW0 sg adK adV sgA smA wdA n0 bS LS xs) mX9_scanSymbol 8 0 0 sz τ M 11 [.ref t, .int (nI p), .int (nI k), u] [] (fun v' sz' τ' M' => v' = some (.int (nI (seE B p k))) ∧ sz' = sz ∧ τ' = τ ∧ TM τ M0 M' t sg tp ln lt (if seE B p k = p then σ else u1 σ lt (seK B p k)) st vl) (fun _ _ _ _ => False) := by
  intro n
  induction n with
  | zero => intros; omega
  | succ n ih =>
    intro k u hk hn
    refine T_sginj (fun hinj => ?_)
    refine T_iload2 dX9_scanSymbol_11 rfl ?_
    refine T_iconst (1) dX9_scanSymbol_12 rfl rfl ?_
    refine T_icmp_lt 52 16 dX9_scanSymbol_13 (by decide) rfl (fun c13 => ?_) (fun c13 => ?_)
    ·
      obtain rfl : k = 0 := by
        apply Decidable.byContradiction
        intro q
        exact Int32.not_le.mpr c13 ((nI_leI (a := 1) (by omega) (by omega)).mpr (by omega))
      refine T_iload1 dX9_scanSymbol_52 rfl ?_
      refine T_iret rfl rfl dX9_scanSymbol_53 ?_
      rw [show seE B p 0 = p from rfl, if_pos rfl]
      exact ⟨rfl, rfl, rfl, hT⟩
    ·
      obtain ⟨k1, rfl⟩ : ∃ k1, k = k1 + 1 := ⟨k - 1, by
        have : k ≠ 0 := fun q => c13 (by rw [q]; decide)
        omega⟩
      refine T_aload0 dX9_scanSymbol_16 rfl ?_
      refine T_iload1 dX9_scanSymbol_17 rfl ?_
      refine T_iload1 dX9_scanSymbol_18 rfl ?_
      refine T_iload2 dX9_scanSymbol_19 rfl ?_
      refine T_iadd dX9_scanSymbol_20 rfl ?_
      rw [nI_add]
      refine T_cV2 (c_X9_keywordOrName hX hT hB hB8 hl2 hk) hX k9_77 (Or.inl ⟨_, _, _, _, (hT.t_t), by decide, rfl⟩) (by decide) (Nat.le_of_ble_eq_true rfl) dX9_scanSymbol_21 rfl ?_
      rintro _ _ _ _ ⟨rfl, rfl, rfl, rfl⟩
      refine T_astore3 rfl (by decide) dX9_scanSymbol_24 rfl ?_
      refine T_aload3 dX9_scanSymbol_25 rfl ?_
      refine T_sgn (i := 43) (by decide) ks9_92 dX9_scanSymbol_26 rfl ?_
      refine T_acmp_eq 46 32 dX9_scanSymbol_29 (by decide) rfl (fun c29 => ?_) (fun c29 => ?_)
      ·
        have c29 := hinj _ _ kwF_48 (by decide) c29
        refine T_iinc2 rfl (by decide) dX9_scanSymbol_46 rfl (nI_pr1 (h := k1 + 1) (by omega)) ?_
        refine T_goto 11 dX9_scanSymbol_49 (by decide) ?_
        have e1 : seE B p (k1 + 1) = seE B p k1 := if_pos c29
        have e2 : seK B p (k1 + 1) = seK B p k1 := if_pos c29
        rw [e1, e2]
        exact ih k1 _ (by omega) (by omega)
      ·
        have c29 : ¬ kwF B p (k1 + 1) = 43 := fun q => c29 (by rw [q])
        refine T_aload0 dX9_scanSymbol_32 rfl ?_
        refine g9_11 _ rfl (hT.t_t) (hT.g_sa) dX9_scanSymbol_33 rfl ?_
        refine T_aload0 dX9_scanSymbol_36 rfl ?_
        refine g9_29 _ rfl (hT.t_t) (hT.g_lt) dX9_scanSymbol_37 rfl ?_
        refine T_aload3 dX9_scanSymbol_40 rfl ?_
        refine T_asgn lt kwF_48 hT.t_sa rfl (by omega) (by decide) dX9_scanSymbol_41 rfl ?_
        refine T_nm (fun Mq eq => ?_)
        have hT := TM.mv (hT.p_sg (by omega)) eq
        have hB := hB.frU eq (by omega)
        refine T_iload1 dX9_scanSymbol_42 rfl ?_
        refine T_iload2 dX9_scanSymbol_43 rfl ?_
        refine T_iadd dX9_scanSymbol_44 rfl ?_
        refine T_iret rfl rfl dX9_scanSymbol_45 ?_
        have e1 : seE B p (k1 + 1) = p + (k1 + 1) := if_neg c29
        have e2 : seK B p (k1 + 1) = kwF B p (k1 + 1) := if_neg c29
        rw [e1, e2, if_neg (by omega), nI_add]
        exact ⟨rfl, rfl, rfl, hT⟩
set_option maxHeartbeats 1000000 in
theorem c_X9_scanSymbol {l : Launch} {D : va_G} {cA : Nat → ClassId} {n0 : Nat} {sg adK adV : Nat → Nat} {sgA smA wdA bS LS : Nat} {xs : Nat → Int32} (hX : SF n0 (XW0 sg adK adV sgA smA wdA n0 bS LS xs)) {sz : Nat} {τ : TY} {M0 N0 M : ME} {t tp ln lt : Nat} {B : Nat → Nat} {σ : Nat → Nat} {st : Nat → Int32} {vl : Nat → Int64} (hT : TM τ M0 M t sg tp ln lt σ st vl) (hB : BM τ N0 M tp B) (hB8 : ∀ i, B i < 256) (hl2 : ln ≤ 2000) {p : Nat} (hp : p < ln) (hlt : lt < 401) (hd : tp < t ∨ t + 4 ≤ tp) (h0 : ltB (B p) = false) (h1 : dgB (B p) = false) : CT l D cA n0 (XW0 sg adK adV sgA smA wdA n0 bS LS xs) mX9_scanSymbol 8 0 0 sz τ M [.ref t, .int (nI p)] (fun v' sz' τ' M' => v' = some (.int (nI (tkE B ln p))) ∧ sz' = sz ∧ τ' = τ ∧ TM τ M0 M' t sg tp ln lt (tkS B ln p lt σ) st (tkL B ln p lt vl)) := by
  refine CT.of (ls := [.ref t, .int (nI p), UU, UU]) (by decide) (Nat.le_of_ble_eq_true rfl) rfl ?_
  refine T_iconst (2) dX9_scanSymbol_0 rfl rfl ?_
  refine T_aload0 dX9_scanSymbol_1 rfl ?_
  refine g9_37 _ rfl (hT.t_t) (hT.g_ln) dX9_scanSymbol_2 rfl ?_
  refine T_iload1 dX9_scanSymbol_5 rfl ?_
  refine T_isub dX9_scanSymbol_6 rfl ?_
  rw [nI_sub (by omega) (by omega)]
  refine T_min km9_40 (by decide) (Nat.le_of_ble_eq_true rfl) dX9_scanSymbol_7 rfl ?_
  rw [show (if nI (ln - p) < 2 then nI (ln - p) else 2) = nI (syn ln p) from mn2 hp hl2]
  refine T_istore2 rfl (by decide) dX9_scanSymbol_10 rfl ?_
  have y := tk_s (lt := lt) (ln := ln) (σ := σ) (vl := vl) h0 h1
  rw [y.1, y.2.1, y.2.2]
  exact L_X9_scanSymbol hX hT hB hB8 hl2 hp hlt hd (syn ln p + 1) (syn ln p) UU (syn_le hp).1 (by omega)
set_option maxHeartbeats 1000000 in
theorem c_X9_scanToken {l : Launch} {D : va_G} {cA : Nat → ClassId} {n0 : Nat} {sg adK adV : Nat → Nat} {sgA smA wdA bS LS : Nat} {xs : Nat → Int32} (hX : SF n0 (XW0 sg adK adV sgA smA wdA n0 bS LS xs)) {sz : Nat} {τ : TY} {M0 N0 M : ME} {t tp ln lt : Nat} {B : Nat → Nat} {σ : Nat → Nat} {st : Nat → Int32} {vl : Nat → Int64} (hT : TM τ M0 M t sg tp ln lt σ st vl) (hB : BM τ N0 M tp B) (hB8 : ∀ i, B i < 256) (hl2 : ln ≤ 2000) {p : Nat} (hp : p < ln) (hlt : lt < 401) (hd : tp < t ∨ t + 4 ≤ tp) : CT l D cA n0 (XW0 sg adK adV sgA smA wdA n0 bS LS xs) mX9_scanToken 9 0 0 sz τ M [.ref t, .int (nI p)] (fun v' sz' τ' M' => v' = some (.int (nI (tkE B ln p))) ∧ sz' = sz ∧ τ' = τ ∧ TM τ M0 M' t sg tp ln lt (tkS B ln p lt σ) (uI st lt (nI p)) (tkL B ln p lt vl)) := by
  refine CT.of (ls := [.ref t, .int (nI p), UU]) (by decide) (Nat.le_of_ble_eq_true rfl) rfl ?_
  refine T_aload0 dX9_scanToken_0 rfl ?_
  refine g9_21 _ rfl (hT.t_t) (hT.g_ta) dX9_scanToken_1 rfl ?_
  refine T_aload0 dX9_scanToken_4 rfl ?_
  refine g9_29 _ rfl (hT.t_t) (hT.g_lt) dX9_scanToken_5 rfl ?_
  refine T_iload1 dX9_scanToken_8 rfl ?_
  refine T_iast _ (hT.t_ta) rfl (by omega) (by decide) dX9_scanToken_9 rfl ?_
  refine T_nm (fun M1 e1 => ?_)
  have hT := TM.mv (hT.p_st (by omega)) e1
  have hB := hB.frU e1 (by omega)
  refine T_aload0 dX9_scanToken_10 rfl ?_
  refine g9_33 _ rfl (hT.t_t) (hT.g_tp) dX9_scanToken_11 rfl ?_
  refine T_iload1 dX9_scanToken_14 rfl ?_
  refine T_bald _ (hB.t_tp) rfl (by omega) (by decide) dX9_scanToken_15 rfl (hB.g_by (by omega)) ?_
  refine T_istore2 rfl (by decide) dX9_scanToken_16 rfl ?_
  refine T_iload2 dX9_scanToken_17 rfl ?_
  refine T_cS1 (c_X9_isLetter hX _) hX k9_59 (by decide) (Nat.le_of_ble_eq_true rfl) dX9_scanToken_18 rfl ?_
  rintro _ _ _ _ ⟨rfl, rfl, rfl, rfl⟩
  refine T_if_eq 30 24 dX9_scanToken_21 (by decide) rfl (fun c21 => ?_) (fun c21 => ?_)
  ·
    have c21 := ltB_f (ii_lt0 (hB8 _) c21)
    refine T_iload2 dX9_scanToken_30 rfl ?_
    refine T_cS1 (c_X9_isDigit hX _) hX k9_66 (by decide) (Nat.le_of_ble_eq_true rfl) dX9_scanToken_31 rfl ?_
    rintro _ _ _ _ ⟨rfl, rfl, rfl, rfl⟩
    refine T_if_eq 45 37 dX9_scanToken_34 (by decide) rfl (fun c34 => ?_) (fun c34 => ?_)
    ·
      have c34 : dgB (B p) = false := by have := ii_dg0 (hB8 _) c34; cases e : dgB (B p) <;> simp_all
      refine T_aload0 dX9_scanToken_45 rfl ?_
      refine T_iload1 dX9_scanToken_46 rfl ?_
      refine T_cV1 (c_X9_scanSymbol hX hT hB hB8 hl2 hp hlt hd c21 c34) hX k9_72 (Or.inl ⟨_, _, _, _, (hT.t_t), by decide, rfl⟩) (by decide) (Nat.le_of_ble_eq_true rfl) dX9_scanToken_47 rfl ?_
      rintro _ _ _ M1 ⟨rfl, rfl, rfl, hT⟩
      refine T_iret rfl rfl dX9_scanToken_50 ?_
      exact ⟨rfl, rfl, rfl, hT⟩
    ·
      have c34 := ii_dg1 (hB8 _) c34
      refine T_aload0 dX9_scanToken_37 rfl ?_
      refine T_iload1 dX9_scanToken_38 rfl ?_
      refine T_cV1 (c_X9_scanNumber hX hT hB hB8 hl2 hp hlt hd c21 c34) hX k9_69 (Or.inl ⟨_, _, _, _, (hT.t_t), by decide, rfl⟩) (by decide) (Nat.le_of_ble_eq_true rfl) dX9_scanToken_39 rfl ?_
      rintro _ _ _ M1 ⟨rfl, rfl, rfl, hT⟩
      refine T_goto 50 dX9_scanToken_42 (by decide) ?_
      refine T_iret rfl rfl dX9_scanToken_50 ?_
      exact ⟨rfl, rfl, rfl, hT⟩
  ·
    have c21 := ii_lt1 (hB8 _) c21
    refine T_aload0 dX9_scanToken_24 rfl ?_
    refine T_iload1 dX9_scanToken_25 rfl ?_
    refine T_cV1 (c_X9_scanWord hX hT hB hB8 hl2 hp hlt hd c21) hX k9_63 (Or.inl ⟨_, _, _, _, (hT.t_t), by decide, rfl⟩) (by decide) (Nat.le_of_ble_eq_true rfl) dX9_scanToken_26 rfl ?_
    rintro _ _ _ M1 ⟨rfl, rfl, rfl, hT⟩
    refine T_iret rfl rfl dX9_scanToken_29 ?_
    exact ⟨rfl, rfl, rfl, hT⟩
set_option maxHeartbeats 1000000 in
theorem L_X9_behindBlanks {l : Launch} {D : va_G} {cA : Nat → ClassId} {n0 : Nat} {sg adK adV : Nat → Nat} {sgA smA wdA bS LS : Nat} {xs : Nat → Int32} (hX : SF n0 (XW0 sg adK adV sgA smA wdA n0 bS LS xs)) {sz : Nat} {τ : TY} {M0 N0 M : ME} {t tp ln lt : Nat} {B : Nat → Nat} {σ : Nat → Nat} {st : Nat → Int32} {vl : Nat → Int64} (hT : TM τ M0 M t sg tp ln lt σ st vl) (hB : BM τ N0 M tp B) (hB8 : ∀ i, B i < 256) (hl2 : ln ≤ 2000) {p : Nat} : ∀ (n : Nat) (k : Nat) (hk : k ≤ ln) (hr : rn blB B ln k = rn blB B ln p), ln - k < n → T l D cA n0 (XW0 sg adK adV sgA smA wdA n0 bS LS xs) mX9_behindBlanks 1 0 0 sz τ M 2 [.ref t, .int (nI p), .int (nI k)] [] (ROq (.int (nI (rn blB B ln p))) sz τ M) (fun _ _ _ _ => False) := by
  intro n
  induction n with
  | zero => intros; omega
  | succ n ih =>
    intro k hk hr hn
    refine T_iload2 dX9_behindBlanks_2 rfl ?_
    refine T_aload0 dX9_behindBlanks_3 rfl ?_
    refine g9_37 _ rfl (hT.t_t) (hT.g_ln) dX9_behindBlanks_4 rfl ?_
    refine T_icmp_ge 38 10 dX9_behindBlanks_7 (by decide) rfl (fun c7 => ?_) (fun c7 => ?_)
    ·
      have c7 := ln_out c7 hl2 (by omega)
      refine T_iload2 dX9_behindBlanks_38 rfl ?_
      refine T_iret rfl rfl dX9_behindBlanks_39 ?_
      have e : rn blB B ln p = k := by
        rw [← hr]
        refine rn_n (fun q => ?_)
        first | exact absurd q.1 (by omega) | exact ((sx_bl _ (hB8 _)).mp q.2).elim c18 c29
      rw [e]
      exact ⟨rfl, rfl, rfl, rfl⟩
    ·
      have c7 := ln_in c7 hl2 (by omega)
      refine T_aload0 dX9_behindBlanks_10 rfl ?_
      refine g9_33 _ rfl (hT.t_t) (hT.g_tp) dX9_behindBlanks_11 rfl ?_
      refine T_iload2 dX9_behindBlanks_14 rfl ?_
      refine T_bald _ (hB.t_tp) rfl (by omega) (by decide) dX9_behindBlanks_15 rfl (hB.g_by (by omega)) ?_
      refine T_bipush (32) dX9_behindBlanks_16 rfl rfl ?_
      refine T_icmp_eq 32 21 dX9_behindBlanks_18 (by decide) rfl (fun c18 => ?_) (fun c18 => ?_)
      ·
        first | refine T_iinc2 rfl (by decide) dX9_behindBlanks_32 rfl (inc1 _) ?_ | refine T_iinc2 rfl (by decide) dX9_behindBlanks_32 rfl rfl ?_
        refine T_goto 2 dX9_behindBlanks_35 (by decide) ?_
        have c40 : blB (B k) = true := (sx_bl _ (hB8 _)).mpr (by first | exact Or.inl c18 | exact Or.inr c29)
        exact ih (k + 1) (by omega) (by rw [← hr]; exact (rn_y c7 c40).symm) (by omega)
      ·
        refine T_aload0 dX9_behindBlanks_21 rfl ?_
        refine g9_33 _ rfl (hT.t_t) (hT.g_tp) dX9_behindBlanks_22 rfl ?_
        refine T_iload2 dX9_behindBlanks_25 rfl ?_
        refine T_bald _ (hB.t_tp) rfl (by omega) (by decide) dX9_behindBlanks_26 rfl (hB.g_by (by omega)) ?_
        refine T_bipush (10) dX9_behindBlanks_27 rfl rfl ?_
        refine T_icmp_ne 38 32 dX9_behindBlanks_29 (by decide) rfl (fun c29 => ?_) (fun c29 => ?_)
        ·
          refine T_iload2 dX9_behindBlanks_38 rfl ?_
          refine T_iret rfl rfl dX9_behindBlanks_39 ?_
          have e : rn blB B ln p = k := by
            rw [← hr]
            refine rn_n (fun q => ?_)
            first | exact absurd q.1 (by omega) | exact ((sx_bl _ (hB8 _)).mp q.2).elim c18 c29
          rw [e]
          exact ⟨rfl, rfl, rfl, rfl⟩
        ·
          first | refine T_iinc2 rfl (by decide) dX9_behindBlanks_32 rfl (inc1 _) ?_ | refine T_iinc2 rfl (by decide) dX9_behindBlanks_32 rfl rfl ?_
          refine T_goto 2 dX9_behindBlanks_35 (by decide) ?_
          have c40 : blB (B k) = true := (sx_bl _ (hB8 _)).mpr (by first | exact Or.inl c18 | exact Or.inr c29)
          exact ih (k + 1) (by omega) (by rw [← hr]; exact (rn_y c7 c40).symm) (by omega)
set_option maxHeartbeats 1000000 in
theorem c_X9_behindBlanks {l : Launch} {D : va_G} {cA : Nat → ClassId} {n0 : Nat} {sg adK adV : Nat → Nat} {sgA smA wdA bS LS : Nat} {xs : Nat → Int32} (hX : SF n0 (XW0 sg adK adV sgA smA wdA n0 bS LS xs)) {sz : Nat} {τ : TY} {M0 N0 M : ME} {t tp ln lt : Nat} {B : Nat → Nat} {σ : Nat → Nat} {st : Nat → Int32} {vl : Nat → Int64} (hT : TM τ M0 M t sg tp ln lt σ st vl) (hB : BM τ N0 M tp B) (hB8 : ∀ i, B i < 256) (hl2 : ln ≤ 2000) {p : Nat} (hp : p ≤ ln) : CT l D cA n0 (XW0 sg adK adV sgA smA wdA n0 bS LS xs) mX9_behindBlanks 1 0 0 sz τ M [.ref t, .int (nI p)] (ROq (.int (nI (rn blB B ln p))) sz τ M) := by
  refine CT.of (ls := [.ref t, .int (nI p), UU]) (by decide) (Nat.le_of_ble_eq_true rfl) rfl ?_
  refine T_iload1 dX9_behindBlanks_0 rfl ?_
  refine T_istore2 rfl (by decide) dX9_behindBlanks_1 rfl ?_
  exact L_X9_behindBlanks hX hT hB hB8 hl2 (ln + 1) p hp rfl (by omega)
set_option maxHeartbeats 1000000 in
theorem L2_X9_scan {l : Launch} {D : va_G} {cA : Nat → ClassId} {n0 : Nat} {sg adK adV : Nat → Nat} {sgA smA wdA bS LS : Nat} {xs : Nat → Int32} (hX : SF n0 (XW0 sg adK adV sgA smA wdA n0 bS LS xs)) {sz : Nat} {τ : TY} {M0 N0 M : ME} {t tp ln lt : Nat} {B : Nat → Nat} {σ : Nat → Nat} {st : Nat → Int32} {vl : Nat → Int64} (hT : TM τ M0 M t sg tp ln lt σ st vl) (hB : BM τ N0 M tp B) (hB8 : ∀ i, B i < 256) (hl2 : ln ≤ 2000) (hd : tp < t ∨ t + 4 ≤ tp) (hlt : lt ≤ 400) (hQ : ∀ i, i < lt → TkI B ln σ st vl i) (hg : lt = 400 ∨ ¬ gdT B ln lt) {x : Value} {q : Nat} (hq : q ≤ ln) (hr : rn blB B ln q = tP B ln lt) : ∀ (n : Nat)  , 0 < n → T l D cA n0 (XW0 sg adK adV sgA smA wdA n0 bS LS xs) mX9_scan 10 0 0 sz τ M 86 [.ref t, .ref tp, .int (nI ln), .int (nI q), x] [] (fun v' sz' τ' M' => v' = none ∧ sz' = sz ∧ τ' = τ ∧ ∃ lt' σ' st' vl', TM τ M0 M' t sg tp ln lt' σ' st' vl' ∧ Toks B ln lt' σ' st' vl') (fun _ _ _ _ => False) := by
  intro n
  induction n with
  | zero => intros; omega
  | succ n ih =>
    intro   hn
    refine T_aload0 dX9_scan_86 rfl ?_
    refine T_iload3 dX9_scan_87 rfl ?_
    refine T_cV1 (c_X9_behindBlanks hX hT hB hB8 hl2 hq) hX k9_49 (Or.inl ⟨_, _, _, _, (hT.t_t), by decide, rfl⟩) (by decide) (Nat.le_of_ble_eq_true rfl) dX9_scan_88 rfl ?_
    rintro _ _ _ _ ⟨rfl, rfl, rfl, rfl⟩
    rw [hr]
    refine T_istore3 rfl (by decide) dX9_scan_91 rfl ?_
    refine T_aload0 dX9_scan_92 rfl ?_
    refine g9_11 _ rfl (hT.t_t) (hT.g_sa) dX9_scan_93 rfl ?_
    refine T_aload0 dX9_scan_96 rfl ?_
    refine g9_29 _ rfl (hT.t_t) (hT.g_lt) dX9_scan_97 rfl ?_
    refine T_iload3 dX9_scan_100 rfl ?_
    refine T_aload0 dX9_scan_101 rfl ?_
    refine g9_37 _ rfl (hT.t_t) (hT.g_ln) dX9_scan_102 rfl ?_
    refine T_icmp_ge 114 108 dX9_scan_105 (by decide) rfl (fun c105 => ?_) (fun c105 => ?_)
    ·
      have c105 := ln_out c105 hl2 (by have := rn_le (P := blB) (B := B) hq; rw [hr] at this; omega)
      refine T_sgn (i := 45) (by decide) ks9_17 dX9_scan_114 rfl ?_
      refine T_asgn lt (by decide) hT.t_sa rfl (by omega) (by decide) dX9_scan_117 rfl ?_
      refine T_nm (fun Mq eq => ?_)
      have hT := TM.mv (hT.p_sg (by omega)) eq
      have hB := hB.frU eq (by omega)
      refine T_aload0 dX9_scan_118 rfl ?_
      refine g9_21 _ rfl (hT.t_t) (hT.g_ta) dX9_scan_119 rfl ?_
      refine T_aload0 dX9_scan_122 rfl ?_
      refine g9_29 _ rfl (hT.t_t) (hT.g_lt) dX9_scan_123 rfl ?_
      refine T_iload3 dX9_scan_126 rfl ?_
      refine T_iast _ (hT.t_ta) rfl (by omega) (by decide) dX9_scan_127 rfl ?_
      refine T_nm (fun M1 e1 => ?_)
      have hT := TM.mv (hT.p_st (by omega)) e1
      have hB := hB.frU e1 (by omega)
      refine T_vret rfl dX9_scan_128 ?_
      refine ⟨rfl, rfl, rfl, lt, _, _, _, hT, hlt, fun i hi => (hQ i hi).keep (k := 0) (u1_i (by omega)) (uI_i (by omega)) rfl, hg, uI_s _ _ _, ?_⟩
      rw [u1_s]
      first | (rw [if_pos c105]; done) | (rw [if_neg (by omega)]; done)
    ·
      have c105 := ln_in c105 hl2 (by have := rn_le (P := blB) (B := B) hq; rw [hr] at this; omega)
      refine T_sgn (i := 46) (by decide) ks9_56 dX9_scan_108 rfl ?_
      refine T_goto 117 dX9_scan_111 (by decide) ?_
      refine T_asgn lt (by decide) hT.t_sa rfl (by omega) (by decide) dX9_scan_117 rfl ?_
      refine T_nm (fun Mq eq => ?_)
      have hT := TM.mv (hT.p_sg (by omega)) eq
      have hB := hB.frU eq (by omega)
      refine T_aload0 dX9_scan_118 rfl ?_
      refine g9_21 _ rfl (hT.t_t) (hT.g_ta) dX9_scan_119 rfl ?_
      refine T_aload0 dX9_scan_122 rfl ?_
      refine g9_29 _ rfl (hT.t_t) (hT.g_lt) dX9_scan_123 rfl ?_
      refine T_iload3 dX9_scan_126 rfl ?_
      refine T_iast _ (hT.t_ta) rfl (by omega) (by decide) dX9_scan_127 rfl ?_
      refine T_nm (fun M2 e2 => ?_)
      have hT := TM.mv (hT.p_st (by omega)) e2
      have hB := hB.frU e2 (by omega)
      refine T_vret rfl dX9_scan_128 ?_
      refine ⟨rfl, rfl, rfl, lt, _, _, _, hT, hlt, fun i hi => (hQ i hi).keep (k := 0) (u1_i (by omega)) (uI_i (by omega)) rfl, hg, uI_s _ _ _, ?_⟩
      rw [u1_s]
      first | (rw [if_pos c105]; done) | (rw [if_neg (by omega)]; done)
set_option maxHeartbeats 1000000 in
theorem L1_X9_scan {l : Launch} {D : va_G} {cA : Nat → ClassId} {n0 : Nat} {sg adK adV : Nat → Nat} {sgA smA wdA bS LS : Nat} {xs : Nat → Int32} (hX : SF n0 (XW0 sg adK adV sgA smA wdA n0 bS LS xs)) {sz : Nat} {τ : TY} {M0 : ME} {t tp ln : Nat} {B : Nat → Nat} (hB8 : ∀ i, B i < 256) (hl2 : ln ≤ 2000) (hd : tp < t ∨ t + 4 ≤ tp) : ∀ (n : Nat) (k : Nat) (σ : Nat → Nat) (st : Nat → Int32) (vl : Nat → Int64) (u : Value) (N0 Mk : ME) (hk : k ≤ 400) (hT : TM τ M0 Mk t sg tp ln k σ st vl) (hB : BM τ N0 Mk tp B) (hp : plF B ln k ≤ ln) (hQ : ∀ i, i < k → TkI B ln σ st vl i), 400 - k < n → T l D cA n0 (XW0 sg adK adV sgA smA wdA n0 bS LS xs) mX9_scan 10 0 0 sz τ Mk 26 [.ref t, .ref tp, .int (nI ln), .int (nI (plF B ln k)), u] [] (fun v' sz' τ' M' => v' = none ∧ sz' = sz ∧ τ' = τ ∧ ∃ lt' σ' st' vl', TM τ M0 M' t sg tp ln lt' σ' st' vl' ∧ Toks B ln lt' σ' st' vl') (fun _ _ _ _ => False) := by
  intro n
  induction n with
  | zero => intros; omega
  | succ n ih =>
    intro k σ st vl u N0 Mk hk hT hB hp hQ hn
    refine T_aload0 dX9_scan_26 rfl ?_
    refine g9_29 _ rfl (hT.t_t) (hT.g_lt) dX9_scan_27 rfl ?_
    refine T_sipush (400) dX9_scan_30 rfl rfl ?_
    refine T_icmp_ge 86 36 dX9_scan_33 (by decide) rfl (fun c33 => ?_) (fun c33 => ?_)
    ·
      have c33 := le_out (c := 400) rfl c33
      first
        | exact L2_X9_scan hX hT hB hB8 hl2 hd hk hQ (Or.inl (by omega)) hp rfl 1 (by omega)
        | exact L2_X9_scan hX hT hB hB8 hl2 hd hk hQ (Or.inr (fun q => absurd q.1 (by unfold tP; omega))) (rn_le (P := blB) (B := B) hp) rn_idem 1 (by omega)
        | (have c65 : ¬ gdT B ln k := fun q => c64 (nI_lt q.2 (by have c67 : tkE B ln (tP B ln k) ≤ ln := tkE_le (B := B) (p := tP B ln k) q.1; omega))
           exact L2_X9_scan hX hT hB hB8 hl2 hd hk (fun i hi => (hQ i hi).keep (k := 0) (tkS_i (by omega)) (uI_i (by omega)) (tkL_i (by omega))) (Or.inr c65) (rn_le (P := blB) (B := B) hp) rn_idem 1 (by omega))
    ·
      have c33 := lt_in (c := 400) rfl c33
      refine T_aload0 dX9_scan_36 rfl ?_
      refine T_iload3 dX9_scan_37 rfl ?_
      refine T_cV1 (c_X9_behindBlanks hX hT hB hB8 hl2 hp) hX k9_49 (Or.inl ⟨_, _, _, _, (hT.t_t), by decide, rfl⟩) (by decide) (Nat.le_of_ble_eq_true rfl) dX9_scan_38 rfl ?_
      rintro _ _ _ _ ⟨rfl, rfl, rfl, rfl⟩
      refine T_istore3 rfl (by decide) dX9_scan_41 rfl ?_
      refine T_iload3 dX9_scan_42 rfl ?_
      refine T_aload0 dX9_scan_43 rfl ?_
      refine g9_37 _ rfl (hT.t_t) (hT.g_ln) dX9_scan_44 rfl ?_
      refine T_icmp_ge 58 50 dX9_scan_47 (by decide) rfl (fun c47 => ?_) (fun c47 => ?_)
      ·
        have c47 := ln_out c47 hl2 (Nat.le_trans (rn_le (P := blB) (B := B) hp) hl2)
        refine T_iload3 dX9_scan_58 rfl ?_
        refine T_istore4 rfl (by decide) dX9_scan_59 rfl ?_
        refine T_iload4 dX9_scan_61 rfl ?_
        refine T_iload3 dX9_scan_63 rfl ?_
        refine T_icmp_gt 70 67 dX9_scan_64 (by decide) rfl (fun c64 => ?_) (fun c64 => ?_)
        ·
          refine T_iload4 dX9_scan_70 rfl ?_
          refine T_istore3 rfl (by decide) dX9_scan_72 rfl ?_
          refine T_aload0 dX9_scan_73 rfl ?_
          refine T_dup dX9_scan_74 rfl rfl ?_
          refine g9_29 _ rfl (hT.t_t) (hT.g_lt) dX9_scan_75 rfl ?_
          refine T_iconst (1) dX9_scan_78 rfl rfl ?_
          refine T_iadd dX9_scan_79 rfl ?_
          refine p9_29 rfl (hT.t_t) dX9_scan_80 rfl ?_
          refine T_nm (fun M1 e1 => ?_)
          have hT := TM.mv (hT.p_lt (nI_1 k)) e1
          have hB := hB.frU e1 (by omega)
          refine T_goto 26 dX9_scan_83 (by decide) ?_
          first
            | exact absurd c64 (Int32.lt_irrefl)
            | (have c65 : gdT B ln k := ⟨c47, Nat.lt_of_not_le (fun q => Int32.not_le.mpr c64 ((nI_leI (by have c67 : tkE B ln (tP B ln k) ≤ ln := tkE_le (B := B) (p := tP B ln k) c47; omega) (by omega)).mpr q))⟩
               exact ih (k + 1) _ _ _ _ _ _ (by omega) hT hB (tkE_le c47) (fun i hi => (Nat.lt_succ_iff_lt_or_eq.mp hi).elim (fun z => (hQ i z).keep (k := 0) (tkS_i (by omega)) (uI_i (by omega)) (tkL_i (by omega))) (fun z => by subst z; exact TkI.new c65)) (by omega))
        ·
          refine T_goto 86 dX9_scan_67 (by decide) ?_
          first
            | exact L2_X9_scan hX hT hB hB8 hl2 hd hk hQ (Or.inl (by omega)) hp rfl 1 (by omega)
            | exact L2_X9_scan hX hT hB hB8 hl2 hd hk hQ (Or.inr (fun q => absurd q.1 (by unfold tP; omega))) (rn_le (P := blB) (B := B) hp) rn_idem 1 (by omega)
            | (have c65 : ¬ gdT B ln k := fun q => c64 (nI_lt q.2 (by have c67 : tkE B ln (tP B ln k) ≤ ln := tkE_le (B := B) (p := tP B ln k) q.1; omega))
               exact L2_X9_scan hX hT hB hB8 hl2 hd hk (fun i hi => (hQ i hi).keep (k := 0) (tkS_i (by omega)) (uI_i (by omega)) (tkL_i (by omega))) (Or.inr c65) (rn_le (P := blB) (B := B) hp) rn_idem 1 (by omega))
      ·
        have c47 := ln_in c47 hl2 (Nat.le_trans (rn_le (P := blB) (B := B) hp) hl2)
        refine T_aload0 dX9_scan_50 rfl ?_
        refine T_iload3 dX9_scan_51 rfl ?_
        refine T_cV1 (c_X9_scanToken hX hT.rf hB hB8 hl2 (p := tP B ln k) c47 (by omega) hd) hX k9_53 (Or.inl ⟨_, _, _, _, (hT.t_t), by decide, rfl⟩) (by decide) (Nat.le_of_ble_eq_true rfl) dX9_scan_52 rfl ?_
        rintro _ _ _ M1 ⟨rfl, rfl, rfl, hN⟩
        have hB := hB.nx hN.frame (by omega)
        have hT := hN.bs hT.frame
        refine T_goto 59 dX9_scan_55 (by decide) ?_
        refine T_istore4 rfl (by decide) dX9_scan_59 rfl ?_
        refine T_iload4 dX9_scan_61 rfl ?_
        refine T_iload3 dX9_scan_63 rfl ?_
        refine T_icmp_gt 70 67 dX9_scan_64 (by decide) rfl (fun c64 => ?_) (fun c64 => ?_)
        ·
          refine T_iload4 dX9_scan_70 rfl ?_
          refine T_istore3 rfl (by decide) dX9_scan_72 rfl ?_
          refine T_aload0 dX9_scan_73 rfl ?_
          refine T_dup dX9_scan_74 rfl rfl ?_
          refine g9_29 _ rfl (hT.t_t) (hT.g_lt) dX9_scan_75 rfl ?_
          refine T_iconst (1) dX9_scan_78 rfl rfl ?_
          refine T_iadd dX9_scan_79 rfl ?_
          refine p9_29 rfl (hT.t_t) dX9_scan_80 rfl ?_
          refine T_nm (fun M2 e2 => ?_)
          have hT := TM.mv (hT.p_lt (nI_1 k)) e2
          have hB := hB.frU e2 (by omega)
          refine T_goto 26 dX9_scan_83 (by decide) ?_
          first
            | exact absurd c64 (Int32.lt_irrefl)
            | (have c65 : gdT B ln k := ⟨c47, Nat.lt_of_not_le (fun q => Int32.not_le.mpr c64 ((nI_leI (by have c67 : tkE B ln (tP B ln k) ≤ ln := tkE_le (B := B) (p := tP B ln k) c47; omega) (by omega)).mpr q))⟩
               exact ih (k + 1) _ _ _ _ _ _ (by omega) hT hB (tkE_le c47) (fun i hi => (Nat.lt_succ_iff_lt_or_eq.mp hi).elim (fun z => (hQ i z).keep (k := 0) (tkS_i (by omega)) (uI_i (by omega)) (tkL_i (by omega))) (fun z => by subst z; exact TkI.new c65)) (by omega))
        ·
          refine T_goto 86 dX9_scan_67 (by decide) ?_
          first
            | exact L2_X9_scan hX hT hB hB8 hl2 hd hk hQ (Or.inl (by omega)) hp rfl 1 (by omega)
            | exact L2_X9_scan hX hT hB hB8 hl2 hd hk hQ (Or.inr (fun q => absurd q.1 (by unfold tP; omega))) (rn_le (P := blB) (B := B) hp) rn_idem 1 (by omega)
            | (have c65 : ¬ gdT B ln k := fun q => c64 (nI_lt q.2 (by have c67 : tkE B ln (tP B ln k) ≤ ln := tkE_le (B := B) (p := tP B ln k) q.1; omega))
               exact L2_X9_scan hX hT hB hB8 hl2 hd hk (fun i hi => (hQ i hi).keep (k := 0) (tkS_i (by omega)) (uI_i (by omega)) (tkL_i (by omega))) (Or.inr c65) (rn_le (P := blB) (B := B) hp) rn_idem 1 (by omega))
set_option maxHeartbeats 1000000 in
theorem c_X9_scan {l : Launch} {D : va_G} {cA : Nat → ClassId} {n0 : Nat} {sg adK adV : Nat → Nat} {sgA smA wdA bS LS : Nat} {xs : Nat → Int32} (hX : SF n0 (XW0 sg adK adV sgA smA wdA n0 bS LS xs)) {sz : Nat} {τ : TY} {M0 N0 M : ME} {t tp0 tp ln0 ln lt : Nat} {B : Nat → Nat} {σ : Nat → Nat} {st : Nat → Int32} {vl : Nat → Int64} (hT : TM τ M0 M t sg tp0 ln0 lt σ st vl) (hB : BM τ N0 M tp B) (hB8 : ∀ i, B i < 256) (hl2 : ln ≤ 2000) (hd : tp < t ∨ t + 4 ≤ tp) : CT l D cA n0 (XW0 sg adK adV sgA smA wdA n0 bS LS xs) mX9_scan 10 0 0 sz τ M [.ref t, .ref tp, .int (nI ln)] (fun v' sz' τ' M' => v' = none ∧ sz' = sz ∧ τ' = τ ∧ ∃ lt' σ' st' vl', TM τ M0 M' t sg tp ln lt' σ' st' vl' ∧ Toks B ln lt' σ' st' vl') := by
  refine CT.of (ls := [.ref t, .ref tp, .int (nI ln), UU, UU]) (by decide) (Nat.le_of_ble_eq_true rfl) rfl ?_
  refine T_aload0 dX9_scan_0 rfl ?_
  refine T_aload1 dX9_scan_1 rfl ?_
  refine p9_33 rfl (hT.t_t) dX9_scan_2 rfl ?_
  refine T_nm (fun M1 e1 => ?_)
  have hT := TM.mv hT.p_tp e1
  have hB := hB.frU e1 (by omega)
  refine T_aload0 dX9_scan_5 rfl ?_
  refine T_iconst (0) dX9_scan_6 rfl rfl ?_
  refine T_iload2 dX9_scan_7 rfl ?_
  refine T_aload1 dX9_scan_8 rfl ?_
  refine T_alen (j := 1) hB.t_tp (by decide) dX9_scan_9 rfl ?_
  refine T_min km9_40 (by decide) (Nat.le_of_ble_eq_true rfl) dX9_scan_10 rfl ?_
  refine T_max km9_46 (by decide) (Nat.le_of_ble_eq_true rfl) dX9_scan_13 rfl ?_
  refine p9_37 rfl (hT.t_t) dX9_scan_16 rfl ?_
  refine T_nm (fun M2 e2 => ?_)
  have hT := TM.mv (hT.p_ln (sc_len hl2)) e2
  have hB := hB.frU e2 (by omega)
  refine T_iconst (0) dX9_scan_19 rfl rfl ?_
  refine T_istore3 rfl (by decide) dX9_scan_20 rfl ?_
  refine T_aload0 dX9_scan_21 rfl ?_
  refine T_iconst (0) dX9_scan_22 rfl rfl ?_
  refine p9_29 rfl (hT.t_t) dX9_scan_23 rfl ?_
  refine T_nm (fun M3 e3 => ?_)
  have hT := TM.mv (hT.p_lt (n := 0) rfl) e3
  have hB := hB.frU e3 (by omega)
  exact L1_X9_scan hX hB8 hl2 hd 401 0 _ _ _ _ _ _ (by omega) hT hB (Nat.zero_le _) (fun _ h => absurd h (Nat.not_lt_zero _)) (by omega)

