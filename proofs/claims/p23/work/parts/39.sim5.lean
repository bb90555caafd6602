/-- fields that an hour leaves as they are -/
def FX (f : Nat) : Prop := f = 6 ∨ f = 7 ∨ f = 11 ∨ f = 13 ∨ f = 14 ∨ f = 31 ∨ f = 41 ∨ f = 42
theorem st_fx {ρ : RH} {j f i : Nat} {p d u : Int32} (h : FX f) : standC ρ j p d u f i = ρ f i := by
  unfold FX at h; unfold standC; rw [u2_f (by omega), u2_f (by omega), u2_f (by omega)]
theorem ot_fx {a c hc : Nat} {σ : Nat → Nat} {π ρ : RH} {j f i : Nat} (h : FX f) : otC a c hc σ π ρ j f i = ρ f i := by
  have h0 := h
  unfold FX at h0
  unfold otC
  split
  · rfl
  · unfold sgC
    split
    · exact psC_f (by omega)
    · rw [u2_f (by omega), st_fx h]; exact psC_f (by omega)
theorem lv_fx {a b c : Nat} {ρ : RH} {j t f i : Nat} {n : Int32} (h : FX f) : lvC a b c ρ j t n f i = ρ f i := by
  have h0 := h
  unfold FX at h0
  unfold lvC
  split
  · split
    · exact st_fx h
    · split
      · exact u2_f (by omega)
      · rw [st_fx h]; exact soC_f (by omega)
  · rw [st_fx h]; exact ulC_f (by omega) (by omega)
theorem g2_fx {ρ : RH} {j t f i : Nat} {n : Int32} (h : FX f) : g2C ρ j t n f i = ρ f i := by
  unfold FX at h; unfold g2C tireC; rw [u2_f (by omega), u2_f (by omega)]
theorem mt_fx {a b c wc : Nat} {σ : Nat → Nat} {π ρ : RH} {j t f i : Nat} (h : FX f) : mtC a b c wc σ π ρ j t f i = ρ f i := by
  have h0 := h
  unfold FX at h0
  unfold mtC
  split
  · split
    · split
      · unfold goC
        split
        · exact g2_fx h
        · rw [lv_fx h]; exact g2_fx h
      · unfold tireC; exact u2_f (by omega)
    · unfold bkC
      rw [st_fx h, mpL_f (by omega), u2_f (by omega), u2_f (by omega)]
  · unfold tireC; exact u2_f (by omega)
theorem mo_fx {a b c wc : Nat} {σ : Nat → Nat} {π ρ : RH} {j f i : Nat} (h : FX f) : moC a b c wc σ π ρ j f i = ρ f i := by
  unfold moC; split
  · rfl
  · exact mt_fx h
theorem o1_fx {a c hc : Nat} {σ : Nat → Nat} {π ρ : RH} {f i : Nat} (h : FX f) : ∀ k, o1C a c hc σ π ρ k f i = ρ f i
  | 0 => rfl
  | k + 1 => by
    rw [o1C, ot_fx h, u2_f (by unfold FX at h; omega)]; exact o1_fx h k
theorem o2_fx {a b c wc : Nat} {σ : Nat → Nat} {π ρ : RH} {f i : Nat} (h : FX f) : ∀ k, o2C a b c wc σ π ρ k f i = ρ f i
  | 0 => rfl
  | k + 1 => by
    rw [o2C, mo_fx h]; exact o2_fx h k
/-- a log that is put on a sledge comes from the pile -/
theorem ps_cs {ρ : RH} {x m : Int32} {l : Nat} : ∀ k, ((psC ρ x m k).1 32 l = ρ 32 l ∧ (psC ρ x m k).1 33 l = ρ 33 l) ∨ (l < k ∧ ρ 32 l = 0 ∧ (psC ρ x m k).1 32 l = 1 ∧ (psC ρ x m k).1 33 l = x)
  | 0 => Or.inl ⟨rfl, rfl⟩
  | k + 1 => by
    by_cases h : (psC ρ x m k).2.2 < 5 ∧ ρ 32 k = 0 ∧ (psC ρ x m k).2.1 + ρ 31 k ≤ m
    · rw [psC_y h.1 h.2.1 h.2.2]
      show (lieC (psC ρ x m k).1 k 1 x 32 l = _ ∧ lieC (psC ρ x m k).1 k 1 x 33 l = _) ∨ (_ ∧ _ ∧ lieC (psC ρ x m k).1 k 1 x 32 l = 1 ∧ lieC (psC ρ x m k).1 k 1 x 33 l = x)
      by_cases e : l = k
      · subst e
        refine Or.inr ⟨by omega, h.2.1, ?_, ?_⟩
        · unfold lieC; rw [u2_f (by decide), u2_s]
        · unfold lieC; rw [u2_s]
      · have e2 : ∀ f, lieC (psC ρ x m k).1 k 1 x f l = (psC ρ x m k).1 f l := fun f => by unfold lieC; rw [u2_i e, u2_i e]
        rw [e2, e2]
        rcases ps_cs (ρ := ρ) (x := x) (m := m) (l := l) k with q | q
        · exact Or.inl q
        · exact Or.inr ⟨by omega, q.2⟩
    · rw [psC_n h]
      rcases ps_cs (ρ := ρ) (x := x) (m := m) (l := l) k with q | q
      · exact Or.inl q
      · exact Or.inr ⟨by omega, q.2⟩
theorem ps_ne {c k : Nat} {ρ : RH} {x y m : Int32} (hxy : x ≠ y) : ldOf c (psC ρ x m k).1 y = ldOf c ρ y := sm_cong (fun l _ => by
  show (if (psC ρ x m k).1 32 l = 1 ∧ (psC ρ x m k).1 33 l = y then (psC ρ x m k).1 31 l else 0) = if ρ 32 l = 1 ∧ ρ 33 l = y then ρ 31 l else 0
  rw [ps_31]
  rcases ps_cs (ρ := ρ) (x := x) (m := m) (l := l) k with q | q
  · rw [q.1, q.2]
  · rw [if_neg (fun z => hxy (q.2.2.2.symm.trans z.2)), if_neg (fun z => by rw [q.2.1] at z; exact absurd z.1 (by decide))])
theorem ld_c {c : Nat} {ρ ρ' : RH} {y : Int32} (h : ∀ l, l < c → ρ' 31 l = ρ 31 l ∧ ρ' 32 l = ρ 32 l ∧ ρ' 33 l = ρ 33 l) : ldOf c ρ' y = ldOf c ρ y := sm_cong (fun l hl => by
  show (if ρ' 32 l = 1 ∧ ρ' 33 l = y then ρ' 31 l else 0) = _
  rw [(h l hl).1, (h l hl).2.1, (h l hl).2.2])
theorem ot_ne {a c hc : Nat} {σ : Nat → Nat} {π ρ : RH} {j o : Nat} (hjo : nI j ≠ nI o) (ho : o ≠ j) : otC a c hc σ π ρ j 15 o = ρ 15 o ∧ ldOf c (otC a c hc σ π ρ j) (nI o) = ldOf c ρ (nI o) := by
  unfold otC
  split
  · exact ⟨rfl, rfl⟩
  · unfold sgC
    split
    · exact ⟨psC_f (by decide), ps_ne hjo⟩
    · refine ⟨?_, ?_⟩
      · rw [u2_f (by decide)]
        unfold standC
        rw [u2_i ho, u2_i ho, u2_i ho]
        exact psC_f (by decide)
      · rw [← ps_ne (c := c) (k := c) (ρ := ρ) (m := mwG c ρ σ π (nI j) 0 hc) hjo]
        refine ld_c (fun l _ => ⟨?_, ?_, ?_⟩)
        · rw [u2_f (by decide)]; exact st_fx (Or.inr (Or.inr (Or.inr (Or.inr (Or.inr (Or.inl rfl))))))
        · rw [u2_f (by decide)]; unfold standC; rw [u2_f (by decide), u2_f (by decide), u2_f (by decide)]
        · rw [u2_f (by decide)]; unfold standC; rw [u2_f (by decide), u2_f (by decide), u2_f (by decide)]
theorem o1_ne {a c hc : Nat} {σ : Nat → Nat} {π ρ : RH} {o : Nat} (h5 : o < 2 ^ 30) : ∀ k, k ≤ o → o1C a c hc σ π ρ k 15 o = ρ 15 o ∧ ldOf c (o1C a c hc σ π ρ k) (nI o) = ldOf c ρ (nI o)
  | 0, _ => ⟨rfl, rfl⟩
  | k + 1, hk => by
    have ih := o1_ne (a := a) (c := c) (hc := hc) (σ := σ) (π := π) (ρ := ρ) h5 k (by omega)
    have q := ot_ne (a := a) (c := c) (hc := hc) (σ := σ) (π := π) (ρ := u2 (o1C a c hc σ π ρ k) 20 k 0) (j := k) (o := o) (fun z => absurd ((nI_eq (by omega) (by omega)).mp z) (by omega)) (by omega)
    rw [o1C]
    refine ⟨q.1.trans ((u2_f (by decide)).trans ih.1), q.2.trans (Eq.trans (ld_c (fun l _ => ⟨u2_f (by decide), u2_f (by decide), u2_f (by decide)⟩)) ih.2)⟩
theorem clamp9 {x : Int32} : (if x < 0 then 0 else if 9 < x then 9 else x) = maxI 0 (minI x 9) := by
  unfold maxI minI
  by_cases h : x < 0
  · have h2 : x < 9 := Int32.lt_trans h (by decide)
    rw [if_pos h, if_pos h2, if_neg (fun q => absurd (Int32.lt_trans h q) (Int32.lt_irrefl))]
  · rw [if_neg h]
    by_cases h2 : 9 < x
    · rw [if_pos h2, if_neg (fun q => absurd (Int32.lt_trans h2 q) (Int32.lt_irrefl)), if_pos (by decide)]
    · rw [if_neg h2]
      by_cases h3 : x < 9
      · rw [if_pos h3]
        by_cases h4 : 0 < x
        · rw [if_pos h4]
        · rw [if_neg h4]; exact Int32.le_antisymm (Int32.not_lt.mp h4) (Int32.not_lt.mp h)
      · rw [if_neg h3, if_pos (by decide)]
        exact Int32.le_antisymm (Int32.not_lt.mp h2) (Int32.not_lt.mp h3)
def M1 (b k : Nat) (μ : Nat → Int32) (ρ : RH) : Prop := ∀ o, o < b → μ o = if o < k then ρ 20 o else 0
def M2 (b k : Nat) (μ : Nat → Int32) (ρ : RH) : Prop := ∀ o, o < b → k ≤ o → μ o = ρ 20 o
theorem ot_n {a c hc k : Nat} {σ : Nat → Nat} {π ρ : RH} (h : ¬ ρ 15 k = -1 ∨ ρ 12 k ≤ 0 ∨ nI a = 0) : otC a c hc σ π ρ k = ρ := if_pos h
theorem M1.n {a b c hc k : Nat} {σ : Nat → Nat} {π ρ : RH} {μ : Nat → Int32} (hm : M1 b k μ ρ) (h : ¬ ρ 15 k = -1 ∨ ρ 12 k ≤ 0 ∨ nI a = 0) : M1 b (k + 1) μ (otC a c hc σ π (u2 ρ 20 k 0) k) := fun o ho => by
  rw [ot_n (by exact h)]
  rw [hm o ho]
  by_cases e : o = k
  · subst e; rw [if_neg (Nat.lt_irrefl _), if_pos (by omega), u2_s]
  · rw [u2_i e]
    by_cases e2 : o < k
    · rw [if_pos e2, if_pos (by omega)]
    · rw [if_neg e2, if_neg (by omega)]
theorem M1.y {a b c hc k : Nat} {σ : Nat → Nat} {π ρ : RH} {μ : Nat → Int32} (hm : M1 b k μ ρ) (h : ¬ (¬ ρ 15 k = -1 ∨ ρ 12 k ≤ 0 ∨ nI a = 0)) : M1 b (k + 1) (ldM c (u2 ρ 20 k 0) μ k (mwG c (u2 ρ 20 k 0) σ π (nI k) 0 hc)) (otC a c hc σ π (u2 ρ 20 k 0) k) := fun o ho => by
  have e : otC a c hc σ π (u2 ρ 20 k 0) k = sgC c hc σ π (u2 ρ 20 k 0) k := if_neg (by exact h)
  rw [e]
  by_cases e0 : (psC (u2 ρ 20 k 0) (nI k) (mwG c (u2 ρ 20 k 0) σ π (nI k) 0 hc) c).2.2 = 0
  · have eA : sgC c hc σ π (u2 ρ 20 k 0) k = (psC (u2 ρ 20 k 0) (nI k) (mwG c (u2 ρ 20 k 0) σ π (nI k) 0 hc) c).1 := by
      unfold sgC psR; rw [if_pos e0, if_pos rfl]
    rw [eA]
    unfold ldM
    rw [if_pos e0, ps_20, hm o ho]
    by_cases e1 : o = k
    · subst e1; rw [if_neg (Nat.lt_irrefl _), if_pos (by omega), u2_s]
    · rw [u2_i e1]
      by_cases e2 : o < k
      · rw [if_pos e2, if_pos (by omega)]
      · rw [if_neg e2, if_neg (by omega)]
  · have eB : sgC c hc σ π (u2 ρ 20 k 0) k = u2 (standC (psC (u2 ρ 20 k 0) (nI k) (mwG c (u2 ρ 20 k 0) σ π (nI k) 0 hc) c).1 k 0 1 0) 20 k 1 := by
      unfold sgC psR; rw [if_neg e0, if_neg (by decide)]
    rw [eB]
    unfold ldM
    rw [if_neg e0]
    by_cases e1 : o = k
    · subst e1; rw [uI_s, if_pos (by omega), u2_s]
    · rw [uI_i e1, u2_i e1, hm o ho]
      have e3 : standC (psC (u2 ρ 20 k 0) (nI k) (mwG c (u2 ρ 20 k 0) σ π (nI k) 0 hc) c).1 k 0 1 0 20 o = ρ 20 o := by
        unfold standC
        rw [u2_f (by decide), u2_f (by decide), u2_f (by decide), ps_20, u2_i e1]
      by_cases e2 : o < k
      · rw [if_pos e2, if_pos (by omega), e3]
      · rw [if_neg e2, if_neg (by omega)]
theorem mo_n {a b c wc k : Nat} {σ : Nat → Nat} {π ρ : RH} (h : ¬ ρ 20 k = 0 ∨ hasI (ρ 15 k) (nI a) = 0) : moC a b c wc σ π ρ k = ρ := if_pos h
theorem mo_y {a b c wc k t : Nat} {σ : Nat → Nat} {π ρ : RH} (h : ρ 20 k = 0) (ht : t < a) (ha : a ≤ 8) (hp : ρ 15 k = nI t) : moC a b c wc σ π ρ k = mtC a b c wc σ π ρ k t := by
  unfold moC
  rw [if_neg (fun q => q.elim (fun z => z h) (fun z => by rw [hasI_t hp rfl ht] at z; exact absurd z (by decide))), hp, nI_cl (by omega)]
theorem M2.n {b k : Nat} {ρ : RH} {μ : Nat → Int32} (hm : M2 b k μ ρ) : M2 b (k + 1) μ ρ := fun o ho hk => hm o ho (by omega)
theorem M2.y {b k : Nat} {ρ ρ' : RH} {μ μ' : Nat → Int32} (hm : M2 b k μ ρ) (hA : MA b k (uI μ k 1) ρ μ' ρ') : M2 b (k + 1) μ' ρ' := fun o ho hk => hA o ho (by omega) (by rw [uI_i (by omega)]; exact hm o ho (by omega))
theorem M1.all {b : Nat} {ρ : RH} {μ : Nat → Int32} (hm : M1 b b μ ρ) : M2 b 0 μ ρ := fun o ho _ => by rw [hm o ho, if_pos ho]
theorem PcOK.get {a : Nat} {x : Int32} (h : PcOK a x) (h2 : ¬ x = -1) : ∃ t, t < a ∧ x = nI t := h.resolve_left h2
set_option maxHeartbeats 1000000 in
theorem L4_X11_pass {l : Launch} {D : va_G} {cA : Nat → ClassId} {n0 : Nat} {XW : State → Heap → Prop} (hX : SF n0 XW) {sz : Nat} {τ : TY} {M0 : ME} {j e : Nat} {A : Nat → Nat} {Rw : Nat → Nat → Nat} {cn : Nat → Nat} {ρ : RH} {μ : Nat → Int32} {κ ω : Nat → Nat → Int32} {Q : QT} (v4 : Value) (hQ : ∀ M', SM τ M0 M' j e A Rw cn (u2 (fzC ρ (cn 3)) 6 0 (ρ 6 0 + 1)) (μ) κ ω → Q none sz τ M') : ∀ (n : Nat) (k : Nat) (Mk : ME) (u : Value) (hk : k ≤ cn 3) (hS : SM τ M0 Mk j e A Rw cn (fzC ρ k) (μ) κ ω), cn 3 - k < n → T l D cA n0 XW mX11_pass 8 0 0 sz τ Mk 163 [.ref j, .ref (A 3), .int (nI (cn 3)), .int (nI k), u] [] (Q) (fun _ _ _ _ => False) := by
  intro n
  induction n with
  | zero => intros; omega
  | succ n ih =>
    intro k Mk u hk hS hn
    have hok := hS.ok
    unfold CnOK at hok
    refine T_iload3 dX11_pass_163 rfl ?_
    refine T_iload2 dX11_pass_164 rfl ?_
    refine T_icmp_ge 227 168 dX11_pass_165 (by decide) rfl (fun c9 => ?_) (fun c9 => ?_)
    ·
      have c9 := le_out rfl c9
      refine T_aload0 dX11_pass_227 rfl ?_
      refine T_dup dX11_pass_228 rfl rfl ?_
      refine g11_44 _ rfl hS.t0 hS.g0_0 dX11_pass_229 rfl ?_
      refine T_iconst (1) dX11_pass_232 rfl rfl ?_
      refine T_iadd dX11_pass_233 rfl ?_
      refine p11_44 rfl hS.t0 dX11_pass_234 rfl ?_
      refine T_nm (fun M1 e1 => ?_)
      have hS := SM.mv hS.p0_0 e1
      refine T_vret rfl dX11_pass_237 ?_
      refine hQ _ ?_
      rw [show cn 3 = k by omega]
      rw [fzC_f (f := 6) (by decide)] at hS
      exact hS
    ·
      have c9 := lt_in rfl c9
      refine T_aload1 dX11_pass_168 rfl ?_
      refine T_iload3 dX11_pass_169 rfl ?_
      refine T_aaldA _ hS.ta3 rfl (by omega) (by omega) dX11_pass_170 rfl (hS.pr (f := 3) (by decide) (by decide) (by omega)) ?_
      refine T_astore4 rfl (by decide) dX11_pass_171 rfl ?_
      refine T_aload4 dX11_pass_173 rfl ?_
      refine T_iconst (2) dX11_pass_175 rfl rfl ?_
      refine T_joinI 220 (fun v => v = maxI 0 (minI (ρ 43 k + ρ 7 0) 9)) (fun hJ => ?_) (fun x220 hx220 => ?_)
      ·
        refine T_aload4 dX11_pass_176 rfl ?_
        refine T_iconst (2) dX11_pass_178 rfl rfl ?_
        refine T_iald 2 (hS.tr3 (by omega)) rfl (by decide) (by decide) dX11_pass_179 rfl (hS.g3_2 (by omega)) ?_
        refine T_aload0 dX11_pass_180 rfl ?_
        refine g11_40 _ rfl hS.t0 hS.g0_1 dX11_pass_181 rfl ?_
        refine T_iadd dX11_pass_184 rfl ?_
        rw [fzC_at (Nat.le_refl _), fzC_f (f := 7) (by decide)]
        refine T_if_ge 192 188 dX11_pass_185 (by decide) rfl (fun c185 => ?_) (fun c185 => ?_)
        ·
          refine T_aload4 dX11_pass_192 rfl ?_
          refine T_iconst (2) dX11_pass_194 rfl rfl ?_
          refine T_iald 2 (hS.tr3 (by omega)) rfl (by decide) (by decide) dX11_pass_195 rfl (hS.g3_2 (by omega)) ?_
          refine T_aload0 dX11_pass_196 rfl ?_
          refine g11_40 _ rfl hS.t0 hS.g0_1 dX11_pass_197 rfl ?_
          refine T_iadd dX11_pass_200 rfl ?_
          refine T_bipush (9) dX11_pass_201 rfl rfl ?_
          rw [fzC_at (Nat.le_refl _), fzC_f (f := 7) (by decide)]
          refine T_icmp_le 211 206 dX11_pass_203 (by decide) rfl (fun c203 => ?_) (fun c203 => ?_)
          ·
            refine T_aload4 dX11_pass_211 rfl ?_
            refine T_iconst (2) dX11_pass_213 rfl rfl ?_
            refine T_iald 2 (hS.tr3 (by omega)) rfl (by decide) (by decide) dX11_pass_214 rfl (hS.g3_2 (by omega)) ?_
            refine T_aload0 dX11_pass_215 rfl ?_
            refine g11_40 _ rfl hS.t0 hS.g0_1 dX11_pass_216 rfl ?_
            refine T_iadd dX11_pass_219 rfl ?_
            refine hJ _ ?_
            rw [← clamp9]
            first | (rw [if_pos (Int32.not_le.mp c185)]; done) | (rw [if_neg (Int32.not_lt.mpr c185), if_pos (Int32.not_le.mp c203)]; done) | (rw [if_neg (Int32.not_lt.mpr c185), if_neg (Int32.not_lt.mpr c203), fzC_at (Nat.le_refl _), fzC_f (f := 7) (by decide)]; done)
          ·
            refine T_bipush (9) dX11_pass_206 rfl rfl ?_
            refine T_goto 220 dX11_pass_208 (by decide) ?_
            refine hJ _ ?_
            rw [← clamp9]
            first | (rw [if_pos (Int32.not_le.mp c185)]; done) | (rw [if_neg (Int32.not_lt.mpr c185), if_pos (Int32.not_le.mp c203)]; done) | (rw [if_neg (Int32.not_lt.mpr c185), if_neg (Int32.not_lt.mpr c203), fzC_at (Nat.le_refl _), fzC_f (f := 7) (by decide)]; done)
        ·
          refine T_iconst (0) dX11_pass_188 rfl rfl ?_
          refine T_goto 220 dX11_pass_189 (by decide) ?_
          refine hJ _ ?_
          rw [← clamp9]
          first | (rw [if_pos (Int32.not_le.mp c185)]; done) | (rw [if_neg (Int32.not_lt.mpr c185), if_pos (Int32.not_le.mp c203)]; done) | (rw [if_neg (Int32.not_lt.mpr c185), if_neg (Int32.not_lt.mpr c203), fzC_at (Nat.le_refl _), fzC_f (f := 7) (by decide)]; done)
      ·
        subst hx220
        refine T_iast 2 (hS.tr3 (by omega)) rfl (by decide) (by decide) dX11_pass_220 rfl ?_
        refine T_nm (fun M2 e2 => ?_)
        have hS := SM.mv (hS.p3_2 (by omega)) e2
        first | refine T_iinc3 rfl (by decide) dX11_pass_221 rfl (inc1 _) ?_ | refine T_iinc3 rfl (by decide) dX11_pass_221 rfl rfl ?_
        refine T_goto 163 dX11_pass_224 (by decide) ?_
        exact ih (k + 1) _ _ (by omega) (by rw [← fzC_s]; exact hS) (by omega)
set_option maxHeartbeats 1000000 in
theorem L3_X11_pass {l : Launch} {D : va_G} {cA : Nat → ClassId} {n0 : Nat} {XW : State → Heap → Prop} (hX : SF n0 XW) {sz : Nat} {τ : TY} {M0 : ME} {j e : Nat} {A : Nat → Nat} {Rw : Nat → Nat → Nat} {cn : Nat → Nat} {ρ : RH} {κ ω : Nat → Nat → Int32} {sp : Nat → Nat} {π : RH} (hPE : PE cn sp π κ ω) (hi : RI (cn 3) (cn 4) (cn 5) ρ) (hbd : ∀ h, h < cn 4 → (1 ≤ ρ 11 h ∧ ρ 11 h ≤ 99) ∧ ρ 13 h ≤ 99) : ∀ (n : Nat) (k : Nat) (μk : Nat → Int32) (Mk : ME) (v2 v3 v4 : Value) (hk : k ≤ cn 4) (hS : SM τ M0 Mk j e A Rw cn (o2C (cn 3) (cn 4) (cn 5) (cn 7) sp π ρ k) μk κ ω) (hm : M2 (cn 4) k μk (o2C (cn 3) (cn 4) (cn 5) (cn 7) sp π ρ k)), cn 4 - k < n → T l D cA n0 XW mX11_pass 8 0 0 sz τ Mk 86 [.ref j, .int (nI k), v2, v3, v4] [] (fun v' sz' τ' M' => v' = none ∧ sz' = sz ∧ τ' = τ ∧ ∃ μ', SM τ M0 M' j e A Rw cn (u2 (frC (cn 3) (o2C (cn 3) (cn 4) (cn 5) (cn 7) sp π ρ (cn 4))) 6 0 ((frC (cn 3) (o2C (cn 3) (cn 4) (cn 5) (cn 7) sp π ρ (cn 4))) 6 0 + 1)) μ' κ ω) (fun _ _ _ _ => False) := by
  intro n
  induction n with
  | zero => intros; omega
  | succ n ih =>
    intro k μk Mk v2 v3 v4 hk hS hm hn
    have hok := hS.ok
    unfold CnOK at hok
    have hi1 := hi.o2 (wc := cn 7) (σ := sp) (π := π) (by omega) k hk
    refine T_iload1 dX11_pass_86 rfl ?_
    refine T_aload0 dX11_pass_87 rfl ?_
    refine g11_15 _ rfl hS.t0 (hS.pa (f := 4) (by decide) (by decide)) dX11_pass_88 rfl ?_
    refine T_alen (j := 8) hS.ta4 (by decide) dX11_pass_91 rfl ?_
    refine T_icmp_ge 143 95 dX11_pass_92 (by decide) rfl (fun c9 => ?_) (fun c9 => ?_)
    ·
      have c9 := le_out rfl c9
      refine T_aload0 dX11_pass_143 rfl ?_
      refine g11_44 _ rfl hS.t0 hS.g0_0 dX11_pass_144 rfl ?_
      refine T_bipush (6) dX11_pass_147 rfl rfl ?_
      refine T_irem dX11_pass_149 rfl (by decide) ?_
      refine T_if_ne 227 153 dX11_pass_150 (by decide) rfl (fun c150 => ?_) (fun c150 => ?_)
      ·
        refine T_aload0 dX11_pass_227 rfl ?_
        refine T_dup dX11_pass_228 rfl rfl ?_
        refine g11_44 _ rfl hS.t0 hS.g0_0 dX11_pass_229 rfl ?_
        refine T_iconst (1) dX11_pass_232 rfl rfl ?_
        refine T_iadd dX11_pass_233 rfl ?_
        refine p11_44 rfl hS.t0 dX11_pass_234 rfl ?_
        refine T_nm (fun M1 e1 => ?_)
        have hS := SM.mv hS.p0_0 e1
        refine T_vret rfl dX11_pass_237 ?_
        have hkk : k = cn 4 := by omega
        subst hkk
        refine ⟨rfl, rfl, rfl, μk, ?_⟩
        unfold frC
        rw [if_neg c150]
        exact hS
      ·
        refine T_aload0 dX11_pass_153 rfl ?_
        refine g11_9 _ rfl hS.t0 (hS.pa (f := 3) (by decide) (by decide)) dX11_pass_154 rfl ?_
        refine T_astore1 rfl (by decide) dX11_pass_157 rfl ?_
        refine T_aload1 dX11_pass_158 rfl ?_
        refine T_alen (j := 8) hS.ta3 (by decide) dX11_pass_159 rfl ?_
        refine T_istore2 rfl (by decide) dX11_pass_160 rfl ?_
        refine T_iconst (0) dX11_pass_161 rfl rfl ?_
        refine T_istore3 rfl (by decide) dX11_pass_162 rfl ?_
        have hkk : k = cn 4 := by omega
        subst hkk
        refine L4_X11_pass hX (ρ := o2C (cn 3) (cn 4) (cn 5) (cn 7) sp π ρ (cn 4)) UU (fun M9 h9 => ⟨rfl, rfl, rfl, μk, ?_⟩) (cn 3 + 1) 0 _ _ (Nat.zero_le _) (by rw [fzC_0]; exact hS) (by omega)
        unfold frC
        rw [if_pos c150, fzC_f (f := 6) (by decide)]
        exact h9
    ·
      have c9 := lt_in rfl c9
      refine T_aload0 dX11_pass_95 rfl ?_
      refine g11_15 _ rfl hS.t0 (hS.pa (f := 4) (by decide) (by decide)) dX11_pass_96 rfl ?_
      refine T_iload1 dX11_pass_99 rfl ?_
      refine T_aaldA _ hS.ta4 rfl (by omega) (by omega) dX11_pass_100 rfl (hS.pr (f := 4) (by decide) (by decide) (by omega)) ?_
      refine T_iconst (4) dX11_pass_101 rfl rfl ?_
      refine T_iald 4 (hS.tr4 (by omega)) rfl (by decide) (by decide) dX11_pass_102 rfl (hS.g4_4 (by omega)) ?_
      refine T_if_lt 137 106 dX11_pass_103 (by decide) rfl (fun c103 => ?_) (fun c103 => ?_)
      ·
        first | refine T_iinc1 rfl (by decide) dX11_pass_137 rfl (inc1 _) ?_ | refine T_iinc1 rfl (by decide) dX11_pass_137 rfl rfl ?_
        refine T_goto 86 dX11_pass_140 (by decide) ?_
        first
          | (have e : o2C (cn 3) (cn 4) (cn 5) (cn 7) sp π ρ (k + 1) = o2C (cn 3) (cn 4) (cn 5) (cn 7) sp π ρ k := mo_n (by first | exact Or.inl (by rw [c116]; decide) | exact Or.inr (by rw [(hi1.1 k c9).1.resolve_right (fun ⟨t, _, z⟩ => by rw [z] at c103; exact nI_pos (by omega) c103)]; exact hasI_f (by decide)))
             exact ih (k + 1) _ _ _ _ _ (by omega) (by rw [e]; exact hS) (by rw [e]; exact hm.n) (by omega))
          | (have e : o2C (cn 3) (cn 4) (cn 5) (cn 7) sp π ρ (k + 1) = mtC (cn 3) (cn 4) (cn 5) (cn 7) sp π (o2C (cn 3) (cn 4) (cn 5) (cn 7) sp π ρ k) k t := mo_y c116 ht (by omega) hp
             exact ih (k + 1) _ _ _ _ _ (by omega) (by rw [e]; exact hS) (by rw [e]; exact hm.y hA) (by omega))
      ·
        refine T_aload0 dX11_pass_106 rfl ?_
        refine g11_15 _ rfl hS.t0 (hS.pa (f := 4) (by decide) (by decide)) dX11_pass_107 rfl ?_
        refine T_iload1 dX11_pass_110 rfl ?_
        refine T_aaldA _ hS.ta4 rfl (by omega) (by omega) dX11_pass_111 rfl (hS.pr (f := 4) (by decide) (by decide) (by omega)) ?_
        refine T_bipush (9) dX11_pass_112 rfl rfl ?_
        refine T_iald 9 (hS.tr4 (by omega)) rfl (by decide) (by decide) dX11_pass_114 rfl (hS.g4_9 (by omega)) ?_
        refine T_iconst (1) dX11_pass_115 rfl rfl ?_
        refine T_icmp_ne 122 119 dX11_pass_116 (by decide) rfl (fun c116 => ?_) (fun c116 => ?_)
        ·
          rw [hm k c9 (Nat.le_refl _)] at c116
          have c116 := (hi1.1 k c9).2.2.2.1.resolve_right c116
          obtain ⟨t, ht, hp⟩ := (hi1.1 k c9).1.get (fun z => c103 (by rw [z]; decide))
          refine T_aload0 dX11_pass_122 rfl ?_
          refine g11_15 _ rfl hS.t0 (hS.pa (f := 4) (by decide) (by decide)) dX11_pass_123 rfl ?_
          refine T_iload1 dX11_pass_126 rfl ?_
          refine T_aaldA _ hS.ta4 rfl (by omega) (by omega) dX11_pass_127 rfl (hS.pr (f := 4) (by decide) (by decide) (by omega)) ?_
          refine T_bipush (9) dX11_pass_128 rfl rfl ?_
          refine T_iconst (1) dX11_pass_130 rfl rfl ?_
          refine T_iast 9 (hS.tr4 (by omega)) rfl (by decide) (by decide) dX11_pass_131 rfl ?_
          refine T_nm (fun M2 e2 => ?_)
          have hS := SM.mv (hS.p4_9 (by omega)) e2
          refine T_aload0 dX11_pass_132 rfl ?_
          refine T_iload1 dX11_pass_133 rfl ?_
          refine T_cV1 (c_X11_move hX hS hPE c9 ht hp (fun o ho => And.intro (hi1.1 o ho).2.2.1 (hi1.1 o ho).2.1) (And.intro (by rw [o2_fx (Or.inr (Or.inr (Or.inl rfl)))]; exact (hbd k c9).1) (And.intro (by rw [o2_fx (Or.inr (Or.inr (Or.inr (Or.inl rfl))))]; exact (hbd k c9).2) (hi1.1 k c9).2.2.2.2))) hX k11_75 (Or.inl ⟨_, _, _, _, hS.t0, by decide, rfl⟩) (by decide) (Nat.le_of_ble_eq_true rfl) dX11_pass_134 rfl ?_
          rintro _ _ _ Mt ⟨rfl, rfl, rfl, μ1, hS, hA⟩
          first | refine T_iinc1 rfl (by decide) dX11_pass_137 rfl (inc1 _) ?_ | refine T_iinc1 rfl (by decide) dX11_pass_137 rfl rfl ?_
          refine T_goto 86 dX11_pass_140 (by decide) ?_
          first
            | (have e : o2C (cn 3) (cn 4) (cn 5) (cn 7) sp π ρ (k + 1) = o2C (cn 3) (cn 4) (cn 5) (cn 7) sp π ρ k := mo_n (by first | exact Or.inl (by rw [c116]; decide) | exact Or.inr (by rw [(hi1.1 k c9).1.resolve_right (fun ⟨t, _, z⟩ => by rw [z] at c103; exact nI_pos (by omega) c103)]; exact hasI_f (by decide)))
               exact ih (k + 1) _ _ _ _ _ (by omega) (by rw [e]; exact hS) (by rw [e]; exact hm.n) (by omega))
            | (have e : o2C (cn 3) (cn 4) (cn 5) (cn 7) sp π ρ (k + 1) = mtC (cn 3) (cn 4) (cn 5) (cn 7) sp π (o2C (cn 3) (cn 4) (cn 5) (cn 7) sp π ρ k) k t := mo_y c116 ht (by omega) hp
               exact ih (k + 1) _ _ _ _ _ (by omega) (by rw [e]; exact hS) (by rw [e]; exact hm.y hA) (by omega))
        ·
          rw [hm k c9 (Nat.le_refl _)] at c116
          refine T_goto 137 dX11_pass_119 (by decide) ?_
          first | refine T_iinc1 rfl (by decide) dX11_pass_137 rfl (inc1 _) ?_ | refine T_iinc1 rfl (by decide) dX11_pass_137 rfl rfl ?_
          refine T_goto 86 dX11_pass_140 (by decide) ?_
          first
            | (have e : o2C (cn 3) (cn 4) (cn 5) (cn 7) sp π ρ (k + 1) = o2C (cn 3) (cn 4) (cn 5) (cn 7) sp π ρ k := mo_n (by first | exact Or.inl (by rw [c116]; decide) | exact Or.inr (by rw [(hi1.1 k c9).1.resolve_right (fun ⟨t, _, z⟩ => by rw [z] at c103; exact nI_pos (by omega) c103)]; exact hasI_f (by decide)))
               exact ih (k + 1) _ _ _ _ _ (by omega) (by rw [e]; exact hS) (by rw [e]; exact hm.n) (by omega))
            | (have e : o2C (cn 3) (cn 4) (cn 5) (cn 7) sp π ρ (k + 1) = mtC (cn 3) (cn 4) (cn 5) (cn 7) sp π (o2C (cn 3) (cn 4) (cn 5) (cn 7) sp π ρ k) k t := mo_y c116 ht (by omega) hp
               exact ih (k + 1) _ _ _ _ _ (by omega) (by rw [e]; exact hS) (by rw [e]; exact hm.y hA) (by omega))
set_option maxHeartbeats 1000000 in
theorem L2_X11_pass {l : Launch} {D : va_G} {cA : Nat → ClassId} {n0 : Nat} {XW : State → Heap → Prop} (hX : SF n0 XW) {sz : Nat} {τ : TY} {M0 : ME} {j e : Nat} {A : Nat → Nat} {Rw : Nat → Nat → Nat} {cn : Nat → Nat} {ρ : RH} {κ ω : Nat → Nat → Int32} {sp : Nat → Nat} {π : RH} (hPE : PE cn sp π κ ω) (hi : RI (cn 3) (cn 4) (cn 5) ρ) (hbd : ∀ h, h < cn 4 → (1 ≤ ρ 11 h ∧ ρ 11 h ≤ 99) ∧ ρ 13 h ≤ 99) (hz : ∀ h, h < cn 4 → ρ 15 h = -1 → ldOf (cn 5) ρ (nI h) = 0) : ∀ (n : Nat) (k : Nat) (μk : Nat → Int32) (Mk : ME) (v2 v3 v4 : Value) (hk : k ≤ cn 4) (hS : SM τ M0 Mk j e A Rw cn (o1C (cn 3) (cn 5) (cn 6) sp π ρ k) μk κ ω) (hm : M1 (cn 4) k μk (o1C (cn 3) (cn 5) (cn 6) sp π ρ k)), cn 4 - k < n → T l D cA n0 XW mX11_pass 8 0 0 sz τ Mk 34 [.ref j, .int (nI k), v2, v3, v4] [] (fun v' sz' τ' M' => v' = none ∧ sz' = sz ∧ τ' = τ ∧ ∃ μ', SM τ M0 M' j e A Rw cn (hrC (cn 3) (cn 4) (cn 5) (cn 6) (cn 7) sp π ρ) μ' κ ω) (fun _ _ _ _ => False) := by
  intro n
  induction n with
  | zero => intros; omega
  | succ n ih =>
    intro k μk Mk v2 v3 v4 hk hS hm hn
    have hok := hS.ok
    unfold CnOK at hok
    have hi1 := hi.o1 (hc := cn 6) (σ := sp) (π := π) (by omega) k
    refine T_iload1 dX11_pass_34 rfl ?_
    refine T_aload0 dX11_pass_35 rfl ?_
    refine g11_15 _ rfl hS.t0 (hS.pa (f := 4) (by decide) (by decide)) dX11_pass_36 rfl ?_
    refine T_alen (j := 8) hS.ta4 (by decide) dX11_pass_39 rfl ?_
    refine T_icmp_ge 84 43 dX11_pass_40 (by decide) rfl (fun c9 => ?_) (fun c9 => ?_)
    ·
      have c9 := le_out rfl c9
      refine T_iconst (0) dX11_pass_84 rfl rfl ?_
      refine T_istore1 rfl (by decide) dX11_pass_85 rfl ?_
      have hkk : k = cn 4 := by omega
      subst hkk
      exact L3_X11_pass hX (ρ := o1C (cn 3) (cn 5) (cn 6) sp π ρ (cn 4)) hPE (hi.o1 (by omega) _) (fun o ho => by rw [o1_fx (Or.inr (Or.inr (Or.inl rfl))), o1_fx (Or.inr (Or.inr (Or.inr (Or.inl rfl))))]; exact hbd o ho) (cn 4 + 1) 0 _ _ _ _ _ (Nat.zero_le _) hS hm.all (by omega)
    ·
      have c9 := lt_in rfl c9
      refine T_aload0 dX11_pass_43 rfl ?_
      refine g11_15 _ rfl hS.t0 (hS.pa (f := 4) (by decide) (by decide)) dX11_pass_44 rfl ?_
      refine T_iload1 dX11_pass_47 rfl ?_
      refine T_aaldA _ hS.ta4 rfl (by omega) (by omega) dX11_pass_48 rfl (hS.pr (f := 4) (by decide) (by decide) (by omega)) ?_
      refine T_iconst (4) dX11_pass_49 rfl rfl ?_
      refine T_iald 4 (hS.tr4 (by omega)) rfl (by decide) (by decide) dX11_pass_50 rfl (hS.g4_4 (by omega)) ?_
      refine T_if_ge 78 54 dX11_pass_51 (by decide) rfl (fun c51 => ?_) (fun c51 => ?_)
      ·
        first | refine T_iinc1 rfl (by decide) dX11_pass_78 rfl (inc1 _) ?_ | refine T_iinc1 rfl (by decide) dX11_pass_78 rfl rfl ?_
        refine T_goto 34 dX11_pass_81 (by decide) ?_
        first
          | (have hn9 : ¬ (¬ (o1C (cn 3) (cn 5) (cn 6) sp π ρ k) 15 k = -1 ∨ (o1C (cn 3) (cn 5) (cn 6) sp π ρ k) 12 k ≤ 0 ∨ nI (cn 3) = 0) := fun q => q.elim (fun z => z ((hi1.1 k c9).1.resolve_right (fun ⟨t, _, w⟩ => c51 (by rw [w]; exact nI_pos' (by omega))))) (fun z => z.elim c62 (fun z2 => c70 (by rw [z2]; exact Int32.le_refl _)))
             have e : o1C (cn 3) (cn 5) (cn 6) sp π ρ (k + 1) = sgC (cn 5) (cn 6) sp π (u2 (o1C (cn 3) (cn 5) (cn 6) sp π ρ k) 20 k 0) k := if_neg (by exact hn9)
             exact ih (k + 1) _ _ _ _ _ (by omega) (by rw [e]; exact hS.cg (fun f y hf => ld_sg f y (by unfold SM_in at hf; omega))) (hm.y hn9) (by omega))
          | (have hn9 : (¬ (o1C (cn 3) (cn 5) (cn 6) sp π ρ k) 15 k = -1 ∨ (o1C (cn 3) (cn 5) (cn 6) sp π ρ k) 12 k ≤ 0 ∨ nI (cn 3) = 0) := by first | exact Or.inl (fun z => by rw [z] at c51; exact absurd c51 (by decide)) | exact Or.inr (Or.inl c62) | exact Or.inr (Or.inr (congrArg nI (Nat.le_zero.mp ((nI_leI (b := 0) (by omega) (by omega)).mp c70))))
             have e : o1C (cn 3) (cn 5) (cn 6) sp π ρ (k + 1) = u2 (o1C (cn 3) (cn 5) (cn 6) sp π ρ k) 20 k 0 := ot_n (by exact hn9)
             exact ih (k + 1) _ _ _ _ _ (by omega) (by rw [e]; exact hS.cg (fun f y hf => (u2_f (by unfold SM_in at hf; omega)).symm)) (hm.n hn9) (by omega))
      ·
        refine T_aload0 dX11_pass_54 rfl ?_
        refine g11_15 _ rfl hS.t0 (hS.pa (f := 4) (by decide) (by decide)) dX11_pass_55 rfl ?_
        refine T_iload1 dX11_pass_58 rfl ?_
        refine T_aaldA _ hS.ta4 rfl (by omega) (by omega) dX11_pass_59 rfl (hS.pr (f := 4) (by decide) (by decide) (by omega)) ?_
        refine T_iconst (1) dX11_pass_60 rfl rfl ?_
        refine T_iald 1 (hS.tr4 (by omega)) rfl (by decide) (by decide) dX11_pass_61 rfl (hS.g4_1 (by omega)) ?_
        refine T_if_le 78 65 dX11_pass_62 (by decide) rfl (fun c62 => ?_) (fun c62 => ?_)
        ·
          first | refine T_iinc1 rfl (by decide) dX11_pass_78 rfl (inc1 _) ?_ | refine T_iinc1 rfl (by decide) dX11_pass_78 rfl rfl ?_
          refine T_goto 34 dX11_pass_81 (by decide) ?_
          first
            | (have hn9 : ¬ (¬ (o1C (cn 3) (cn 5) (cn 6) sp π ρ k) 15 k = -1 ∨ (o1C (cn 3) (cn 5) (cn 6) sp π ρ k) 12 k ≤ 0 ∨ nI (cn 3) = 0) := fun q => q.elim (fun z => z ((hi1.1 k c9).1.resolve_right (fun ⟨t, _, w⟩ => c51 (by rw [w]; exact nI_pos' (by omega))))) (fun z => z.elim c62 (fun z2 => c70 (by rw [z2]; exact Int32.le_refl _)))
               have e : o1C (cn 3) (cn 5) (cn 6) sp π ρ (k + 1) = sgC (cn 5) (cn 6) sp π (u2 (o1C (cn 3) (cn 5) (cn 6) sp π ρ k) 20 k 0) k := if_neg (by exact hn9)
               exact ih (k + 1) _ _ _ _ _ (by omega) (by rw [e]; exact hS.cg (fun f y hf => ld_sg f y (by unfold SM_in at hf; omega))) (hm.y hn9) (by omega))
            | (have hn9 : (¬ (o1C (cn 3) (cn 5) (cn 6) sp π ρ k) 15 k = -1 ∨ (o1C (cn 3) (cn 5) (cn 6) sp π ρ k) 12 k ≤ 0 ∨ nI (cn 3) = 0) := by first | exact Or.inl (fun z => by rw [z] at c51; exact absurd c51 (by decide)) | exact Or.inr (Or.inl c62) | exact Or.inr (Or.inr (congrArg nI (Nat.le_zero.mp ((nI_leI (b := 0) (by omega) (by omega)).mp c70))))
               have e : o1C (cn 3) (cn 5) (cn 6) sp π ρ (k + 1) = u2 (o1C (cn 3) (cn 5) (cn 6) sp π ρ k) 20 k 0 := ot_n (by exact hn9)
               exact ih (k + 1) _ _ _ _ _ (by omega) (by rw [e]; exact hS.cg (fun f y hf => (u2_f (by unfold SM_in at hf; omega)).symm)) (hm.n hn9) (by omega))
        ·
          refine T_aload0 dX11_pass_65 rfl ?_
          refine g11_9 _ rfl hS.t0 (hS.pa (f := 3) (by decide) (by decide)) dX11_pass_66 rfl ?_
          refine T_alen (j := 8) hS.ta3 (by decide) dX11_pass_69 rfl ?_
          refine T_if_le 78 73 dX11_pass_70 (by decide) rfl (fun c70 => ?_) (fun c70 => ?_)
          ·
            first | refine T_iinc1 rfl (by decide) dX11_pass_78 rfl (inc1 _) ?_ | refine T_iinc1 rfl (by decide) dX11_pass_78 rfl rfl ?_
            refine T_goto 34 dX11_pass_81 (by decide) ?_
            first
              | (have hn9 : ¬ (¬ (o1C (cn 3) (cn 5) (cn 6) sp π ρ k) 15 k = -1 ∨ (o1C (cn 3) (cn 5) (cn 6) sp π ρ k) 12 k ≤ 0 ∨ nI (cn 3) = 0) := fun q => q.elim (fun z => z ((hi1.1 k c9).1.resolve_right (fun ⟨t, _, w⟩ => c51 (by rw [w]; exact nI_pos' (by omega))))) (fun z => z.elim c62 (fun z2 => c70 (by rw [z2]; exact Int32.le_refl _)))
                 have e : o1C (cn 3) (cn 5) (cn 6) sp π ρ (k + 1) = sgC (cn 5) (cn 6) sp π (u2 (o1C (cn 3) (cn 5) (cn 6) sp π ρ k) 20 k 0) k := if_neg (by exact hn9)
                 exact ih (k + 1) _ _ _ _ _ (by omega) (by rw [e]; exact hS.cg (fun f y hf => ld_sg f y (by unfold SM_in at hf; omega))) (hm.y hn9) (by omega))
              | (have hn9 : (¬ (o1C (cn 3) (cn 5) (cn 6) sp π ρ k) 15 k = -1 ∨ (o1C (cn 3) (cn 5) (cn 6) sp π ρ k) 12 k ≤ 0 ∨ nI (cn 3) = 0) := by first | exact Or.inl (fun z => by rw [z] at c51; exact absurd c51 (by decide)) | exact Or.inr (Or.inl c62) | exact Or.inr (Or.inr (congrArg nI (Nat.le_zero.mp ((nI_leI (b := 0) (by omega) (by omega)).mp c70))))
                 have e : o1C (cn 3) (cn 5) (cn 6) sp π ρ (k + 1) = u2 (o1C (cn 3) (cn 5) (cn 6) sp π ρ k) 20 k 0 := ot_n (by exact hn9)
                 exact ih (k + 1) _ _ _ _ _ (by omega) (by rw [e]; exact hS.cg (fun f y hf => (u2_f (by unfold SM_in at hf; omega)).symm)) (hm.n hn9) (by omega))
          ·
            refine T_aload0 dX11_pass_73 rfl ?_
            refine T_iload1 dX11_pass_74 rfl ?_
            refine T_cV1 (c_X11_haul hX (ρ := u2 (o1C (cn 3) (cn 5) (cn 6) sp π ρ k) 20 k 0) (hS.cg (fun f y hf => (u2_f (by unfold SM_in at hf; omega)).symm)) hPE c9 (by rw [ld_c (ρ := o1C (cn 3) (cn 5) (cn 6) sp π ρ k) (fun l _ => ⟨u2_f (by decide), u2_f (by decide), u2_f (by decide)⟩), (o1_ne (by omega) k (Nat.le_refl _)).2]; exact hz k c9 (by rw [← (o1_ne (a := cn 3) (c := cn 5) (hc := cn 6) (σ := sp) (π := π) (ρ := ρ) (by omega) k (Nat.le_refl _)).1]; exact (hi1.1 k c9).1.resolve_right (fun ⟨t, _, z⟩ => c51 (by rw [z]; exact nI_pos' (by omega))))) (fun y hy => by rw [u2_f (by decide)]; exact (hi1.2 y hy).1)) hX k11_71 (Or.inl ⟨_, _, _, _, hS.t0, by decide, rfl⟩) (by decide) (Nat.le_of_ble_eq_true rfl) dX11_pass_75 rfl ?_
            rintro _ _ _ Mt ⟨rfl, rfl, rfl, hS⟩
            first | refine T_iinc1 rfl (by decide) dX11_pass_78 rfl (inc1 _) ?_ | refine T_iinc1 rfl (by decide) dX11_pass_78 rfl rfl ?_
            refine T_goto 34 dX11_pass_81 (by decide) ?_
            first
              | (have hn9 : ¬ (¬ (o1C (cn 3) (cn 5) (cn 6) sp π ρ k) 15 k = -1 ∨ (o1C (cn 3) (cn 5) (cn 6) sp π ρ k) 12 k ≤ 0 ∨ nI (cn 3) = 0) := fun q => q.elim (fun z => z ((hi1.1 k c9).1.resolve_right (fun ⟨t, _, w⟩ => c51 (by rw [w]; exact nI_pos' (by omega))))) (fun z => z.elim c62 (fun z2 => c70 (by rw [z2]; exact Int32.le_refl _)))
                 have e : o1C (cn 3) (cn 5) (cn 6) sp π ρ (k + 1) = sgC (cn 5) (cn 6) sp π (u2 (o1C (cn 3) (cn 5) (cn 6) sp π ρ k) 20 k 0) k := if_neg (by exact hn9)
                 exact ih (k + 1) _ _ _ _ _ (by omega) (by rw [e]; exact hS.cg (fun f y hf => ld_sg f y (by unfold SM_in at hf; omega))) (hm.y hn9) (by omega))
              | (have hn9 : (¬ (o1C (cn 3) (cn 5) (cn 6) sp π ρ k) 15 k = -1 ∨ (o1C (cn 3) (cn 5) (cn 6) sp π ρ k) 12 k ≤ 0 ∨ nI (cn 3) = 0) := by first | exact Or.inl (fun z => by rw [z] at c51; exact absurd c51 (by decide)) | exact Or.inr (Or.inl c62) | exact Or.inr (Or.inr (congrArg nI (Nat.le_zero.mp ((nI_leI (b := 0) (by omega) (by omega)).mp c70))))
                 have e : o1C (cn 3) (cn 5) (cn 6) sp π ρ (k + 1) = u2 (o1C (cn 3) (cn 5) (cn 6) sp π ρ k) 20 k 0 := ot_n (by exact hn9)
                 exact ih (k + 1) _ _ _ _ _ (by omega) (by rw [e]; exact hS.cg (fun f y hf => (u2_f (by unfold SM_in at hf; omega)).symm)) (hm.n hn9) (by omega))
set_option maxHeartbeats 1000000 in
theorem L1_X11_pass {l : Launch} {D : va_G} {cA : Nat → ClassId} {n0 : Nat} {XW : State → Heap → Prop} (hX : SF n0 XW) {sz : Nat} {τ : TY} {M0 : ME} {j e : Nat} {A : Nat → Nat} {Rw : Nat → Nat → Nat} {cn : Nat → Nat} {ρ : RH} {κ ω : Nat → Nat → Int32} {sp : Nat → Nat} {π : RH} (hPE : PE cn sp π κ ω) (hi : RI (cn 3) (cn 4) (cn 5) ρ) (hbd : ∀ h, h < cn 4 → (1 ≤ ρ 11 h ∧ ρ 11 h ≤ 99) ∧ ρ 13 h ≤ 99) (hz : ∀ h, h < cn 4 → ρ 15 h = -1 → ldOf (cn 5) ρ (nI h) = 0) : ∀ (n : Nat) (k : Nat) (μk : Nat → Int32) (Mk : ME) (u : Value) (hk : k ≤ cn 4) (hS : SM τ M0 Mk j e A Rw cn ρ μk κ ω) (hm : ∀ o, o < k → μk o = 0), cn 4 - k < n → T l D cA n0 XW mX11_pass 8 0 0 sz τ Mk 10 [.ref j, .ref (A 4), .int (nI (cn 4)), .int (nI k), u] [] (fun v' sz' τ' M' => v' = none ∧ sz' = sz ∧ τ' = τ ∧ ∃ μ', SM τ M0 M' j e A Rw cn (hrC (cn 3) (cn 4) (cn 5) (cn 6) (cn 7) sp π ρ) μ' κ ω) (fun _ _ _ _ => False) := by
  intro n
  induction n with
  | zero => intros; omega
  | succ n ih =>
    intro k μk Mk u hk hS hm hn
    have hok := hS.ok
    unfold CnOK at hok
    refine T_iload3 dX11_pass_10 rfl ?_
    refine T_iload2 dX11_pass_11 rfl ?_
    refine T_icmp_ge 32 15 dX11_pass_12 (by decide) rfl (fun c9 => ?_) (fun c9 => ?_)
    ·
      have c9 := le_out rfl c9
      refine T_iconst (0) dX11_pass_32 rfl rfl ?_
      refine T_istore1 rfl (by decide) dX11_pass_33 rfl ?_
      have hkk : k = cn 4 := by omega
      subst hkk
      exact L2_X11_pass hX hPE hi hbd hz (cn 4 + 1) 0 _ _ _ _ _ (Nat.zero_le _) hS (fun o ho2 => by rw [hm o ho2, if_neg (Nat.not_lt_zero _)]) (by omega)
    ·
      have c9 := lt_in rfl c9
      refine T_aload1 dX11_pass_15 rfl ?_
      refine T_iload3 dX11_pass_16 rfl ?_
      refine T_aaldA _ hS.ta4 rfl (by omega) (by omega) dX11_pass_17 rfl (hS.pr (f := 4) (by decide) (by decide) (by omega)) ?_
      refine T_astore4 rfl (by decide) dX11_pass_18 rfl ?_
      refine T_aload4 dX11_pass_20 rfl ?_
      refine T_bipush (9) dX11_pass_22 rfl rfl ?_
      refine T_iconst (0) dX11_pass_24 rfl rfl ?_
      refine T_iast 9 (hS.tr4 (by omega)) rfl (by decide) (by decide) dX11_pass_25 rfl ?_
      refine T_nm (fun M1 e1 => ?_)
      have hS := SM.mv (hS.p4_9 (by omega)) e1
      first | refine T_iinc3 rfl (by decide) dX11_pass_26 rfl (inc1 _) ?_ | refine T_iinc3 rfl (by decide) dX11_pass_26 rfl rfl ?_
      refine T_goto 10 dX11_pass_29 (by decide) ?_
      exact ih (k + 1) _ _ _ (by omega) hS (fun o ho2 => if z : o = k then by subst z; exact uI_s _ _ _ else by rw [uI_i z]; exact hm o (by omega)) (by omega)
set_option maxHeartbeats 1000000 in
theorem c_X11_pass {l : Launch} {D : va_G} {cA : Nat → ClassId} {n0 : Nat} {XW : State → Heap → Prop} (hX : SF n0 XW) {sz : Nat} {τ : TY} {M0 M : ME} {j e : Nat} {A : Nat → Nat} {Rw : Nat → Nat → Nat} {cn : Nat → Nat} {ρ : RH} {μ : Nat → Int32} {κ ω : Nat → Nat → Int32} (hS : SM τ M0 M j e A Rw cn ρ μ κ ω) {sp : Nat → Nat} {π : RH} (hPE : PE cn sp π κ ω) (hi : RI (cn 3) (cn 4) (cn 5) ρ) (hbd : ∀ h, h < cn 4 → (1 ≤ ρ 11 h ∧ ρ 11 h ≤ 99) ∧ ρ 13 h ≤ 99) (hz : ∀ h, h < cn 4 → ρ 15 h = -1 → ldOf (cn 5) ρ (nI h) = 0) : CT l D cA n0 XW mX11_pass 8 0 0 sz τ M [.ref j] (fun v' sz' τ' M' => v' = none ∧ sz' = sz ∧ τ' = τ ∧ ∃ μ', SM τ M0 M' j e A Rw cn (hrC (cn 3) (cn 4) (cn 5) (cn 6) (cn 7) sp π ρ) μ' κ ω) := by
  refine CT.of (ls := [.ref j, UU, UU, UU, UU]) (by decide) (Nat.le_of_ble_eq_true rfl) rfl ?_
  refine T_aload0 dX11_pass_0 rfl ?_
  refine g11_15 _ rfl hS.t0 (hS.pa (f := 4) (by decide) (by decide)) dX11_pass_1 rfl ?_
  refine T_astore1 rfl (by decide) dX11_pass_4 rfl ?_
  refine T_aload1 dX11_pass_5 rfl ?_
  refine T_alen (j := 8) hS.ta4 (by decide) dX11_pass_6 rfl ?_
  refine T_istore2 rfl (by decide) dX11_pass_7 rfl ?_
  refine T_iconst (0) dX11_pass_8 rfl rfl ?_
  refine T_istore3 rfl (by decide) dX11_pass_9 rfl ?_
  exact L1_X11_pass hX hPE hi hbd hz (cn 4 + 1) 0 _ M UU (Nat.zero_le _) hS (fun _ h => absurd h (Nat.not_lt_zero _)) (by omega)
