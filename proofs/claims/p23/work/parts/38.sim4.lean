def MA (b j : Nat) (μ : Nat → Int32) (ρ : RH) (μ' : Nat → Int32) (ρ' : RH) : Prop := ∀ o, o < b → o ≠ j → μ o = ρ 20 o → μ' o = ρ' 20 o
theorem down_1 {x : Int32} (h : b01 x) (h2 : ¬ x = 1) : x = 0 := h.resolve_right h2
theorem sub_rc (x y z : Int32) : x - y - z = x - z - y := by
  simp only [Int32.sub_eq_add_neg, Int32.add_assoc, Int32.add_comm (-y) (-z)]
theorem i32_sub {x y : Int32} (h : -2147483648 ≤ x.toInt - y.toInt) (h2 : x.toInt - y.toInt < 2147483648) : (x - y).toInt = x.toInt - y.toInt := by
  rw [Int32.toInt_sub]; exact Int.bmod_eq_of_le (by omega) (by omega)
theorem i32_add {x y : Int32} (h : -2147483648 ≤ x.toInt + y.toInt) (h2 : x.toInt + y.toInt < 2147483648) : (x + y).toInt = x.toInt + y.toInt := by
  rw [Int32.toInt_add]; exact Int.bmod_eq_of_le (by omega) (by omega)
theorem lt65 {x : Int32} : ¬ x < 6 ↔ 5 < x := by
  rw [Int32.lt_iff_toInt_lt, Int32.lt_iff_toInt_lt]
  show ¬ x.toInt < 6 ↔ 5 < x.toInt
  omega
theorem tired_le {n x p : Int32} (h0 : 0 ≤ n) (h1 : n ≤ 99) (h2 : 0 ≤ x) (h3 : x ≤ 60) (h4 : 1 ≤ p) (h5 : p ≤ 99) : n + x ≤ p ↔ n ≤ p - x := by
  rw [Int32.le_iff_toInt_le] at h0 h1 h2 h3 h4 h5
  have e0 : (0 : Int32).toInt = 0 := rfl
  have e1 : (99 : Int32).toInt = 99 := rfl
  have e2 : (60 : Int32).toInt = 60 := rfl
  have e3 : (1 : Int32).toInt = 1 := rfl
  rw [e0] at h0 h2
  rw [e1] at h1 h5
  rw [e2] at h3
  rw [e3] at h4
  rw [Int32.le_iff_toInt_le, Int32.le_iff_toInt_le, i32_add (by omega) (by omega), i32_sub (by omega) (by omega)]
  omega
theorem nd_nn {c : Nat} {ρ : RH} {i t : Nat} : 0 ≤ ndF c ρ i t := by
  unfold ndF
  split
  · decide
  · unfold needF maxI
    split
    · rename_i q; exact Int32.le_of_lt q
    · decide
theorem ulC_z {ρ : RH} {i k : Nat} (h : ρ 32 k = 1) (h2 : ρ 33 k = nI i) : u2 (u2 (u2 (u2 (ulC ρ i k) 19 i (ρ 19 i + ldOf k ρ (nI i) + ρ 31 k)) 32 k 3) 33 k (-1)) 34 k (ρ 6 0) = ulC ρ i (k + 1) := by
  rw [← ulC_y h h2]
  unfold lieC
  funext f l
  simp only [u2]
  by_cases h9 : f = 19
  · subst h9; simp
  · simp [h9]
theorem toF_ltS {a t i : Nat} {ρ : RH} (ht : t < a) (ha : a ≤ 8) (hb : b01 (ρ 16 i)) (h : ¬ (ρ 16 i = 1 ∧ nI t = nI a - 1)) : toF ρ i t < nI a := by
  unfold toF
  rcases hb with e | e
  · rw [if_pos e]
    cases t with
    | zero =>
      have : nI 0 + -1 = (-1 : Int32) := by decide
      rw [this]
      exact Int32.lt_of_lt_of_le (by decide : (-1 : Int32) < 0) (nI_pos' (by omega))
    | succ t =>
      rw [show nI (t + 1) + -1 = nI t from (Int32.sub_eq_add_neg _ _).symm.trans (nI_pred t)]
      exact nI_lt (by omega) (by omega)
  · rw [if_neg (by rw [e]; decide), nI_1 t]
    refine nI_lt ?_ (by omega)
    refine Nat.lt_of_le_of_ne ht (fun q => h ⟨e, ?_⟩)
    rw [← q]
    exact (nI_pred t).symm
theorem toF_eqS {a t i : Nat} {ρ : RH} (ht : t < a) (ha : a ≤ 8) (e : ρ 16 i = 1) (h : nI t = nI a - 1) : toF ρ i t = nI a := by
  unfold toF
  rw [if_neg (by rw [e]; decide), h]
  obtain ⟨n, rfl⟩ : ∃ n, a = n + 1 := ⟨a - 1, by omega⟩
  rw [nI_pred, nI_1]
theorem toF_n1 {t i : Nat} {ρ : RH} (ht : t < 2 ^ 30) (hb : b01 (ρ 16 i)) (h : toF ρ i t < 0) : toF ρ i t = -1 ∧ ρ 16 i = 0 := by
  unfold toF at h ⊢
  rcases hb with e | e
  · rw [if_pos e] at h ⊢
    refine ⟨?_, e⟩
    cases t with
    | zero => decide
    | succ t =>
      rw [show nI (t + 1) + -1 = nI t from (Int32.sub_eq_add_neg _ _).symm.trans (nI_pred t)] at h
      exact absurd h (nI_pos (by omega))
  · rw [if_neg (by rw [e]; decide), nI_1 t] at h
    exact absurd h (nI_pos (by omega))
theorem lv_A {a b c t i : Nat} {ρ : RH} {n : Int32} (h : toF ρ i t = nI a) : lvC a b c ρ i t n = standC (ulC ρ i c) i (nI t) 0 0 := by
  unfold lvC; rw [if_neg (by rw [h]; exact Int32.lt_irrefl)]
theorem cgF_0 {ρ : RH} {i : Nat} {x : Int32} : cgF 0 ρ i x = 1 := if_pos (fun o h => absurd h (Nat.not_lt_zero o))
theorem cgF_y {ρ : RH} {i k : Nat} {x : Int32} (h : ρ 15 k = x ∧ ¬ ρ 16 k = ρ 16 i ∧ (ρ 14 i = 0 ∨ ¬ ρ 14 k = 0)) : cgF (k + 1) ρ i x = 0 := if_neg (fun q => q k (Nat.lt_succ_self k) h)
theorem cgF_n {ρ : RH} {i k : Nat} {x : Int32} (h : ¬ (ρ 15 k = x ∧ ¬ ρ 16 k = ρ 16 i ∧ (ρ 14 i = 0 ∨ ¬ ρ 14 k = 0))) : cgF (k + 1) ρ i x = cgF k ρ i x := by
  unfold cgF
  by_cases q : ∀ o, o < k → ¬ (ρ 15 o = x ∧ ¬ ρ 16 o = ρ 16 i ∧ (ρ 14 i = 0 ∨ ¬ ρ 14 o = 0))
  · rw [if_pos q, if_pos (fun o ho => if z : o = k then by rw [z]; exact h else q o (by omega))]
  · rw [if_neg q, if_neg (fun z => q (fun o ho => z o (by omega)))]
def soM (ρ : RH) (μ : Nat → Int32) (i : Nat) (x : Int32) (k : Nat) : Nat → Int32 := fun o => if o < k ∧ ρ 15 o = x ∧ ¬ ρ 16 o = ρ 16 i then 1 else μ o
theorem soM_0 {ρ : RH} {μ : Nat → Int32} {i : Nat} {x : Int32} : soM ρ μ i x 0 = μ := by funext o; exact if_neg (fun q => absurd q.1 (Nat.not_lt_zero o))
theorem soM_y {ρ : RH} {μ : Nat → Int32} {i k : Nat} {x : Int32} (h : ρ 15 k = x) (h2 : ¬ ρ 16 k = ρ 16 i) : uI (soM ρ μ i x k) k 1 = soM ρ μ i x (k + 1) := by
  funext o
  by_cases z : o = k
  · rw [z, uI_s]; exact (if_pos ⟨Nat.lt_succ_self k, h, h2⟩).symm
  · rw [uI_i z]
    show (if _ then _ else _) = if _ then _ else _
    have : (o < k) = (o < k + 1) := propext ⟨fun q => by omega, fun q => by omega⟩
    simp only [this]
theorem soM_n {ρ : RH} {μ : Nat → Int32} {i k : Nat} {x : Int32} (h : ¬ (ρ 15 k = x ∧ ¬ ρ 16 k = ρ 16 i)) : soM ρ μ i x (k + 1) = soM ρ μ i x k := by
  funext o
  by_cases z : o = k
  · rw [z]
    show (if _ then _ else _) = if _ then _ else _
    rw [if_neg (fun q => h q.2), if_neg (fun q => h q.2)]
  · show (if _ then _ else _) = if _ then _ else _
    have : (o < k + 1) = (o < k) := propext ⟨fun q => by omega, fun q => by omega⟩
    simp only [this]
def SSM (τ : TY) (M0 M : ME) (j e : Nat) (A : Nat → Nat) (Rw : Nat → Nat → Nat) (cn : Nat → Nat) (i : Nat) (ρ : RH) (μ : Nat → Int32) (ρ' : RH) (κ ω : Nat → Nat → Int32) : Prop := ∃ μ', SM τ M0 M j e A Rw cn ρ' μ' κ ω ∧ MA (cn 4) i μ ρ μ' ρ'
def mtQ (a b c : Nat) (ρ : RH) (j t : Nat) (w : Int32) : RH :=
  if w = 0 then (if ndF c ρ j t ≤ ρ 13 j then (if ndF c ρ j t ≤ ρ 11 j - ρ 18 j then goC a b c ρ j t (ndF c ρ j t) else tireC ρ j (-4)) else bkC c ρ j t) else tireC ρ j (-2)
set_option maxHeartbeats 1000000 in
theorem L2_X11_move {l : Launch} {D : va_G} {cA : Nat → ClassId} {n0 : Nat} {XW : State → Heap → Prop} (hX : SF n0 XW) {sz : Nat} {τ : TY} {M0 : ME} {j e : Nat} {A : Nat → Nat} {Rw : Nat → Nat → Nat} {cn : Nat → Nat} {ρ : RH} {μ : Nat → Int32} {κ ω : Nat → Nat → Int32} {Q : QT} {i t : Nat} (hi : i < cn 4) (ht : t < cn 3) (hp : ρ 15 i = nI t) {nd : Int32} (hQ : ∀ M', SM τ M0 M' j e A Rw cn (standC (mpL ρ 1 (nI i) 2 (nI t) (cn 5)) i (nI t) 0 (ρ 41 t - 1 - ρ 17 i)) (μ) κ ω → Q none sz τ M') : ∀ (n : Nat) (k : Nat) (Mk : ME) (u : Value) (hk : k ≤ cn 5) (hS : SM τ M0 Mk j e A Rw cn (mpL ρ 1 (nI i) 2 (nI t) k) (μ) κ ω), cn 5 - k < n → T l D cA n0 XW mX11_move 6 0 0 sz τ Mk 149 [.ref j, .int (nI i), .ref (Rw 4 i), .int (nI t), .int nd, .ref (A 5), .int (nI (cn 5)), .int (nI k), u, UU, UU, UU] [] (Q) (fun _ _ _ _ => False) := by
  intro n
  induction n with
  | zero => intros; omega
  | succ n ih =>
    intro k Mk u hk hS hn
    have hok := hS.ok
    unfold CnOK at hok
    refine T_iload7 dX11_move_149 rfl ?_
    refine T_iload6 dX11_move_151 rfl ?_
    refine T_icmp_ge 198 156 dX11_move_153 (by decide) rfl (fun c9 => ?_) (fun c9 => ?_)
    ·
      have c9 := le_out rfl c9
      refine T_aload2 dX11_move_198 rfl ?_
      refine T_iconst (5) dX11_move_199 rfl rfl ?_
      refine T_iconst (0) dX11_move_200 rfl rfl ?_
      refine T_iast 5 (hS.tr4 (by omega)) rfl (by decide) (by decide) dX11_move_201 rfl ?_
      refine T_nm (fun M1 e1 => ?_)
      have hS := SM.mv (hS.p4_5 (by omega)) e1
      refine T_aload2 dX11_move_202 rfl ?_
      refine T_bipush (6) dX11_move_203 rfl rfl ?_
      refine T_aload0 dX11_move_205 rfl ?_
      refine g11_9 _ rfl hS.t0 (hS.pa (f := 3) (by decide) (by decide)) dX11_move_206 rfl ?_
      refine T_iload3 dX11_move_209 rfl ?_
      refine T_aaldA _ hS.ta3 rfl (by omega) (by omega) dX11_move_210 rfl (hS.pr (f := 3) (by decide) (by decide) (by omega)) ?_
      refine T_iconst (0) dX11_move_211 rfl rfl ?_
      refine T_iald 0 (hS.tr3 (by omega)) rfl (by decide) (by decide) dX11_move_212 rfl (hS.g3_0 (by omega)) ?_
      refine T_aload2 dX11_move_213 rfl ?_
      refine T_bipush (6) dX11_move_214 rfl rfl ?_
      refine T_iald 6 (hS.tr4 (by omega)) rfl (by decide) (by decide) dX11_move_216 rfl (hS.g4_6 (by omega)) ?_
      refine T_isub dX11_move_217 rfl ?_
      refine T_iconst (1) dX11_move_218 rfl rfl ?_
      refine T_isub dX11_move_219 rfl ?_
      refine T_iast 6 (hS.tr4 (by omega)) rfl (by decide) (by decide) dX11_move_220 rfl ?_
      refine T_nm (fun M2 e2 => ?_)
      have hS := SM.mv (hS.p4_6 (by omega)) e2
      refine T_vret rfl dX11_move_221 ?_
      refine hQ _ ?_
      rw [show cn 5 = k by omega]
      unfold standC
      rw [u2_same (f := 15) (by rw [mpL_f (by decide)]; exact hp)]
      have e2 : ρ 41 t - 1 - ρ 17 i = (u2 (mpL ρ 1 (nI i) 2 (nI t) k) 16 i 0) 41 t - (u2 (mpL ρ 1 (nI i) 2 (nI t) k) 16 i 0) 17 i - 1 := by
        rw [u2_f (by decide), u2_f (by decide), mpL_f (by decide), mpL_f (by decide)]; exact sub_rc _ _ _
      rw [e2]
      exact hS
    ·
      have c9 := lt_in rfl c9
      refine T_aload5 dX11_move_156 rfl ?_
      refine T_iload7 dX11_move_158 rfl ?_
      refine T_aaldA _ hS.ta5 rfl (by omega) (by omega) dX11_move_160 rfl (hS.pr (f := 5) (by decide) (by decide) (by omega)) ?_
      refine T_astore8 rfl (by decide) dX11_move_161 rfl ?_
      refine T_aload8 dX11_move_163 rfl ?_
      refine T_iconst (1) dX11_move_165 rfl rfl ?_
      refine T_iald 1 (hS.tr5 (by omega)) rfl (by decide) (by decide) dX11_move_166 rfl (hS.g5_1 (by omega)) ?_
      refine T_iconst (1) dX11_move_167 rfl rfl ?_
      rw [mpL_at (Nat.le_refl _)]
      refine T_icmp_ne 192 171 dX11_move_168 (by decide) rfl (fun c168 => ?_) (fun c168 => ?_)
      ·
        first | refine T_iinc7 rfl (by decide) dX11_move_192 rfl (inc1 _) ?_ | refine T_iinc7 rfl (by decide) dX11_move_192 rfl rfl ?_
        refine T_goto 149 dX11_move_195 (by decide) ?_
        first
          | exact ih (k + 1) _ _ (by omega) (by rw [← mpL_y (ρ := ρ) (s1 := 2) (w1 := nI t) c168 c176]; exact hS) (by omega)
          | exact ih (k + 1) _ _ (by omega) (by rw [mpL_n (ρ := ρ) (s1 := 2) (w1 := nI t) (fun q => by first | exact c168 q.1 | exact c176 q.2)]; exact hS) (by omega)
      ·
        refine T_aload8 dX11_move_171 rfl ?_
        refine T_iconst (2) dX11_move_173 rfl rfl ?_
        refine T_iald 2 (hS.tr5 (by omega)) rfl (by decide) (by decide) dX11_move_174 rfl (hS.g5_2 (by omega)) ?_
        refine T_iload1 dX11_move_175 rfl ?_
        rw [mpL_at (Nat.le_refl _)]
        refine T_icmp_eq 182 179 dX11_move_176 (by decide) rfl (fun c176 => ?_) (fun c176 => ?_)
        ·
          refine T_aload8 dX11_move_182 rfl ?_
          refine T_iconst (1) dX11_move_184 rfl rfl ?_
          refine T_iconst (2) dX11_move_185 rfl rfl ?_
          refine T_iast 1 (hS.tr5 (by omega)) rfl (by decide) (by decide) dX11_move_186 rfl ?_
          refine T_nm (fun M3 e3 => ?_)
          have hS := SM.mv (hS.p5_1 (by omega)) e3
          refine T_aload8 dX11_move_187 rfl ?_
          refine T_iconst (2) dX11_move_189 rfl rfl ?_
          refine T_iload3 dX11_move_190 rfl ?_
          refine T_iast 2 (hS.tr5 (by omega)) rfl (by decide) (by decide) dX11_move_191 rfl ?_
          refine T_nm (fun M4 e4 => ?_)
          have hS := SM.mv (hS.p5_2 (by omega)) e4
          first | refine T_iinc7 rfl (by decide) dX11_move_192 rfl (inc1 _) ?_ | refine T_iinc7 rfl (by decide) dX11_move_192 rfl rfl ?_
          refine T_goto 149 dX11_move_195 (by decide) ?_
          first
            | exact ih (k + 1) _ _ (by omega) (by rw [← mpL_y (ρ := ρ) (s1 := 2) (w1 := nI t) c168 c176]; exact hS) (by omega)
            | exact ih (k + 1) _ _ (by omega) (by rw [mpL_n (ρ := ρ) (s1 := 2) (w1 := nI t) (fun q => by first | exact c168 q.1 | exact c176 q.2)]; exact hS) (by omega)
        ·
          refine T_goto 192 dX11_move_179 (by decide) ?_
          first | refine T_iinc7 rfl (by decide) dX11_move_192 rfl (inc1 _) ?_ | refine T_iinc7 rfl (by decide) dX11_move_192 rfl rfl ?_
          refine T_goto 149 dX11_move_195 (by decide) ?_
          first
            | exact ih (k + 1) _ _ (by omega) (by rw [← mpL_y (ρ := ρ) (s1 := 2) (w1 := nI t) c168 c176]; exact hS) (by omega)
            | exact ih (k + 1) _ _ (by omega) (by rw [mpL_n (ρ := ρ) (s1 := 2) (w1 := nI t) (fun q => by first | exact c168 q.1 | exact c176 q.2)]; exact hS) (by omega)
set_option maxHeartbeats 1000000 in
theorem L3_X11_move {l : Launch} {D : va_G} {cA : Nat → ClassId} {n0 : Nat} {XW : State → Heap → Prop} (hX : SF n0 XW) {sz : Nat} {τ : TY} {M0 : ME} {j e : Nat} {A : Nat → Nat} {Rw : Nat → Nat → Nat} {cn : Nat → Nat} {ρ : RH} {μ : Nat → Int32} {κ ω : Nat → Nat → Int32} {Q : QT} {i t : Nat} (hi : i < cn 4) (ht : t < cn 3) (hp : ρ 15 i = nI t) {nd gl : Int32} (hQ : ∀ M', SM τ M0 M' j e A Rw cn (standC (ulC ρ i (cn 5)) i (nI t) 0 0) (μ) κ ω → Q none sz τ M') : ∀ (n : Nat) (k : Nat) (Mk : ME) (u : Value) (hk : k ≤ cn 5) (hS : SM τ M0 Mk j e A Rw cn (ulC ρ i k) (μ) κ ω), cn 5 - k < n → T l D cA n0 XW mX11_move 6 0 0 sz τ Mk 367 [.ref j, .int (nI i), .ref (Rw 4 i), .int (nI t), .int nd, .int gl, .ref (A 5), .int (nI (cn 5)), .int (nI k), u, UU, UU] [] (Q) (fun _ _ _ _ => False) := by
  intro n
  induction n with
  | zero => intros; omega
  | succ n ih =>
    intro k Mk u hk hS hn
    have hok := hS.ok
    unfold CnOK at hok
    refine T_iload8 dX11_move_367 rfl ?_
    refine T_iload7 dX11_move_369 rfl ?_
    refine T_icmp_ge 435 374 dX11_move_371 (by decide) rfl (fun c9 => ?_) (fun c9 => ?_)
    ·
      have c9 := le_out rfl c9
      refine T_aload2 dX11_move_435 rfl ?_
      refine T_iconst (5) dX11_move_436 rfl rfl ?_
      refine T_iconst (0) dX11_move_437 rfl rfl ?_
      refine T_iast 5 (hS.tr4 (by omega)) rfl (by decide) (by decide) dX11_move_438 rfl ?_
      refine T_nm (fun M1 e1 => ?_)
      have hS := SM.mv (hS.p4_5 (by omega)) e1
      refine T_aload2 dX11_move_439 rfl ?_
      refine T_bipush (6) dX11_move_440 rfl rfl ?_
      refine T_iconst (0) dX11_move_442 rfl rfl ?_
      refine T_iast 6 (hS.tr4 (by omega)) rfl (by decide) (by decide) dX11_move_443 rfl ?_
      refine T_nm (fun M2 e2 => ?_)
      have hS := SM.mv (hS.p4_6 (by omega)) e2
      refine T_vret rfl dX11_move_444 ?_
      refine hQ _ ?_
      rw [show cn 5 = k by omega]
      unfold standC
      rw [u2_same (f := 15) (by rw [ulC_f (by decide) (by decide)]; exact hp)]
      exact hS
    ·
      have c9 := lt_in rfl c9
      refine T_aload6 dX11_move_374 rfl ?_
      refine T_iload8 dX11_move_376 rfl ?_
      refine T_aaldA _ hS.ta5 rfl (by omega) (by omega) dX11_move_378 rfl (hS.pr (f := 5) (by decide) (by decide) (by omega)) ?_
      refine T_astore9 rfl (by decide) dX11_move_379 rfl ?_
      refine T_aload9 dX11_move_381 rfl ?_
      refine T_iconst (1) dX11_move_383 rfl rfl ?_
      refine T_iald 1 (hS.tr5 (by omega)) rfl (by decide) (by decide) dX11_move_384 rfl (hS.g5_1 (by omega)) ?_
      refine T_iconst (1) dX11_move_385 rfl rfl ?_
      rw [ulC_at (by decide) (Nat.le_refl _)]
      refine T_icmp_ne 429 389 dX11_move_386 (by decide) rfl (fun c386 => ?_) (fun c386 => ?_)
      ·
        first | refine T_iinc8 rfl (by decide) dX11_move_429 rfl (inc1 _) ?_ | refine T_iinc8 rfl (by decide) dX11_move_429 rfl rfl ?_
        refine T_goto 367 dX11_move_432 (by decide) ?_
        first
          | exact ih (k + 1) _ _ (by omega) (by rw [← ulC_z c386 c394]; exact hS) (by omega)
          | exact ih (k + 1) _ _ (by omega) (by rw [ulC_n (fun q => by first | exact c386 q.1 | exact c394 q.2)]; exact hS) (by omega)
      ·
        refine T_aload9 dX11_move_389 rfl ?_
        refine T_iconst (2) dX11_move_391 rfl rfl ?_
        refine T_iald 2 (hS.tr5 (by omega)) rfl (by decide) (by decide) dX11_move_392 rfl (hS.g5_2 (by omega)) ?_
        refine T_iload1 dX11_move_393 rfl ?_
        rw [ulC_at (by decide) (Nat.le_refl _)]
        refine T_icmp_eq 400 397 dX11_move_394 (by decide) rfl (fun c394 => ?_) (fun c394 => ?_)
        ·
          refine T_aload2 dX11_move_400 rfl ?_
          refine T_bipush (8) dX11_move_401 rfl rfl ?_
          refine T_dup2 dX11_move_403 rfl rfl rfl ?_
          refine T_iald 8 (hS.tr4 (by omega)) rfl (by decide) (by decide) dX11_move_404 rfl (hS.g4_8 (by omega)) ?_
          refine T_aload9 dX11_move_405 rfl ?_
          refine T_iconst (0) dX11_move_407 rfl rfl ?_
          refine T_iald 0 (hS.tr5 (by omega)) rfl (by decide) (by decide) dX11_move_408 rfl (hS.g5_0 (by omega)) ?_
          rw [ulC_19, ulC_f (f := 31) (by decide) (by decide)]
          refine T_iadd dX11_move_409 rfl ?_
          refine T_iast 8 (hS.tr4 (by omega)) rfl (by decide) (by decide) dX11_move_410 rfl ?_
          refine T_nm (fun M3 e3 => ?_)
          have hS := SM.mv (hS.p4_8 (by omega)) e3
          refine T_aload9 dX11_move_411 rfl ?_
          refine T_iconst (1) dX11_move_413 rfl rfl ?_
          refine T_iconst (3) dX11_move_414 rfl rfl ?_
          refine T_iast 1 (hS.tr5 (by omega)) rfl (by decide) (by decide) dX11_move_415 rfl ?_
          refine T_nm (fun M4 e4 => ?_)
          have hS := SM.mv (hS.p5_1 (by omega)) e4
          refine T_aload9 dX11_move_416 rfl ?_
          refine T_iconst (2) dX11_move_418 rfl rfl ?_
          refine T_iconst (-1) dX11_move_419 rfl rfl ?_
          refine T_iast 2 (hS.tr5 (by omega)) rfl (by decide) (by decide) dX11_move_420 rfl ?_
          refine T_nm (fun M5 e5 => ?_)
          have hS := SM.mv (hS.p5_2 (by omega)) e5
          refine T_aload9 dX11_move_421 rfl ?_
          refine T_iconst (3) dX11_move_423 rfl rfl ?_
          refine T_aload0 dX11_move_424 rfl ?_
          refine g11_44 _ rfl hS.t0 hS.g0_0 dX11_move_425 rfl ?_
          rw [u2_f (by decide), u2_f (by decide), u2_f (by decide), ulC_f (f := 6) (by decide) (by decide)]
          refine T_iast 3 (hS.tr5 (by omega)) rfl (by decide) (by decide) dX11_move_428 rfl ?_
          refine T_nm (fun M6 e6 => ?_)
          have hS := SM.mv (hS.p5_3 (by omega)) e6
          first | refine T_iinc8 rfl (by decide) dX11_move_429 rfl (inc1 _) ?_ | refine T_iinc8 rfl (by decide) dX11_move_429 rfl rfl ?_
          refine T_goto 367 dX11_move_432 (by decide) ?_
          first
            | exact ih (k + 1) _ _ (by omega) (by rw [← ulC_z c386 c394]; exact hS) (by omega)
            | exact ih (k + 1) _ _ (by omega) (by rw [ulC_n (fun q => by first | exact c386 q.1 | exact c394 q.2)]; exact hS) (by omega)
        ·
          refine T_goto 429 dX11_move_397 (by decide) ?_
          first | refine T_iinc8 rfl (by decide) dX11_move_429 rfl (inc1 _) ?_ | refine T_iinc8 rfl (by decide) dX11_move_429 rfl rfl ?_
          refine T_goto 367 dX11_move_432 (by decide) ?_
          first
            | exact ih (k + 1) _ _ (by omega) (by rw [← ulC_z c386 c394]; exact hS) (by omega)
            | exact ih (k + 1) _ _ (by omega) (by rw [ulC_n (fun q => by first | exact c386 q.1 | exact c394 q.2)]; exact hS) (by omega)
set_option maxHeartbeats 1000000 in
theorem L5_X11_move {l : Launch} {D : va_G} {cA : Nat → ClassId} {n0 : Nat} {XW : State → Heap → Prop} (hX : SF n0 XW) {sz : Nat} {τ : TY} {M0 : ME} {j e : Nat} {A : Nat → Nat} {Rw : Nat → Nat → Nat} {cn : Nat → Nat} {ρ : RH} {μ : Nat → Int32} {κ ω : Nat → Nat → Int32} {Q : QT} {i t : Nat} (hi : i < cn 4) (ht : t < cn 3) (hp : ρ 15 i = nI t) (hb : ∀ o, o < cn 4 → b01 (ρ 14 o) ∧ b01 (ρ 16 o)) (hta : toF ρ i t < nI (cn 3)) (hcg : ¬ toF ρ i t < 0 → ¬ cgF (cn 4) ρ i (toF ρ i t) = 0) {nd gl cv : Int32} (hQ : ∀ M', SSM τ M0 M' j e A Rw cn i ρ μ (lvC (cn 3) (cn 4) (cn 5) ρ i t (ρ 41 t)) κ ω → Q none sz τ M') : ∀ (n : Nat) (k : Nat) (Mk : ME) (u : Value) (hk : k ≤ cn 4) (hS : SM τ M0 Mk j e A Rw cn (ρ) (if toF ρ i t < 0 then μ else soM ρ μ i (toF ρ i t) k) κ ω), cn 4 - k < n → T l D cA n0 XW mX11_move 6 0 0 sz τ Mk 575 [.ref j, .int (nI i), .ref (Rw 4 i), .int (nI t), .int nd, .int gl, .int (toF ρ i t), .int cv, .ref (A 4), .int (nI (cn 4)), .int (nI k), u] [] (Q) (fun _ _ _ _ => False) := by
  intro n
  induction n with
  | zero => intros; omega
  | succ n ih =>
    intro k Mk u hk hS hn
    have hok := hS.ok
    unfold CnOK at hok
    refine T_iload10 dX11_move_575 rfl ?_
    refine T_iload9 dX11_move_577 rfl ?_
    refine T_icmp_ge 625 582 dX11_move_579 (by decide) rfl (fun c9 => ?_) (fun c9 => ?_)
    ·
      have c9 := le_out rfl c9
      refine T_aload2 dX11_move_625 rfl ?_
      refine T_iconst (4) dX11_move_626 rfl rfl ?_
      refine T_iload6 dX11_move_627 rfl ?_
      refine T_iast 4 (hS.tr4 (by omega)) rfl (by decide) (by decide) dX11_move_629 rfl ?_
      refine T_nm (fun M1 e1 => ?_)
      have hS := SM.mv (hS.p4_4 (by omega)) e1
      refine T_aload2 dX11_move_630 rfl ?_
      refine T_bipush (6) dX11_move_631 rfl rfl ?_
      refine T_iconst (0) dX11_move_633 rfl rfl ?_
      refine T_iast 6 (hS.tr4 (by omega)) rfl (by decide) (by decide) dX11_move_634 rfl ?_
      refine T_nm (fun M2 e2 => ?_)
      have hS := SM.mv (hS.p4_6 (by omega)) e2
      refine T_vret rfl dX11_move_635 ?_
      refine hQ _ ?_
      have hkk : k = cn 4 := by omega
      subst hkk
      by_cases hx0 : toF ρ i t < 0
      · obtain ⟨z1, z2⟩ := toF_n1 (by omega) (hb i hi).2 hx0
        rw [if_pos hx0] at hS
        have e9 : lvC (cn 3) (cn 4) (cn 5) ρ i t (ρ 41 t) = standC ρ i (-1) 0 0 := by unfold lvC; rw [if_pos hta, if_pos hx0]
        rw [e9]
        refine ⟨μ, ?_, fun o _ _ z => z⟩
        unfold standC
        rw [u2_same (ρ := u2 ρ 15 i (-1)) (f := 16) (by rw [u2_f (by decide)]; exact z2), ← z1]
        exact hS
      · rw [if_neg hx0] at hS
        have e9 : lvC (cn 3) (cn 4) (cn 5) ρ i t (ρ 41 t) = standC (soC ρ i (toF ρ i t) (cn 4)) i (toF ρ i t) (ρ 16 i) 0 := by unfold lvC; rw [if_pos hta, if_neg hx0, if_neg (hcg hx0)]
        rw [e9]
        refine ⟨_, hS.cg (fun f y hf => ?_), fun o ho hj z => ?_⟩
        · have hf2 : f ≠ 20 := by unfold SM_in at hf; omega
          unfold standC
          rw [u2_same (ρ := u2 (soC ρ i (toF ρ i t) (cn 4)) 15 i (toF ρ i t)) (f := 16) (by rw [u2_f (by decide)]; exact soC_f (by decide))]
          simp only [u2]
          rw [soC_f hf2]
        · show soM ρ μ i (toF ρ i t) (cn 4) o = soC ρ i (toF ρ i t) (cn 4) 20 o
          unfold soM soC
          by_cases w : ρ 15 o = toF ρ i t ∧ ¬ ρ 16 o = ρ 16 i
          · rw [if_pos ⟨ho, w⟩, if_pos ⟨rfl, ho, w⟩]
          · rw [if_neg (fun y => w y.2), if_neg (fun y => w y.2.2)]; exact z
    ·
      have c9 := lt_in rfl c9
      refine T_aload8 dX11_move_582 rfl ?_
      refine T_iload10 dX11_move_584 rfl ?_
      refine T_aaldA _ hS.ta4 rfl (by omega) (by omega) dX11_move_586 rfl (hS.pr (f := 4) (by decide) (by decide) (by omega)) ?_
      refine T_astore11 rfl (by decide) dX11_move_587 rfl ?_
      refine T_iload6 dX11_move_589 rfl ?_
      refine T_if_lt 619 594 dX11_move_591 (by decide) rfl (fun c591 => ?_) (fun c591 => ?_)
      ·
        first | refine T_iinc10 rfl (by decide) dX11_move_619 rfl (inc1 _) ?_ | refine T_iinc10 rfl (by decide) dX11_move_619 rfl rfl ?_
        refine T_goto 575 dX11_move_622 (by decide) ?_
        first
          | exact ih (k + 1) _ _ (by omega) (by rw [if_pos c591] at hS ⊢; exact hS) (by omega)
          | exact ih (k + 1) _ _ (by omega) (by rw [if_neg c591] at hS ⊢; rw [← soM_y c600 c610]; exact hS) (by omega)
          | exact ih (k + 1) _ _ (by omega) (by rw [if_neg c591] at hS ⊢; rw [soM_n (fun q => by first | exact c600 q.1 | exact q.2 c610)]; exact hS) (by omega)
      ·
        refine T_aload11 dX11_move_594 rfl ?_
        refine T_iconst (4) dX11_move_596 rfl rfl ?_
        refine T_iald 4 (hS.tr4 (by omega)) rfl (by decide) (by decide) dX11_move_597 rfl (hS.g4_4 (by omega)) ?_
        refine T_iload6 dX11_move_598 rfl ?_
        refine T_icmp_ne 619 603 dX11_move_600 (by decide) rfl (fun c600 => ?_) (fun c600 => ?_)
        ·
          first | refine T_iinc10 rfl (by decide) dX11_move_619 rfl (inc1 _) ?_ | refine T_iinc10 rfl (by decide) dX11_move_619 rfl rfl ?_
          refine T_goto 575 dX11_move_622 (by decide) ?_
          first
            | exact ih (k + 1) _ _ (by omega) (by rw [if_pos c591] at hS ⊢; exact hS) (by omega)
            | exact ih (k + 1) _ _ (by omega) (by rw [if_neg c591] at hS ⊢; rw [← soM_y c600 c610]; exact hS) (by omega)
            | exact ih (k + 1) _ _ (by omega) (by rw [if_neg c591] at hS ⊢; rw [soM_n (fun q => by first | exact c600 q.1 | exact q.2 c610)]; exact hS) (by omega)
        ·
          refine T_aload11 dX11_move_603 rfl ?_
          refine T_iconst (5) dX11_move_605 rfl rfl ?_
          refine T_iald 5 (hS.tr4 (by omega)) rfl (by decide) (by decide) dX11_move_606 rfl (hS.g4_5 (by omega)) ?_
          refine T_aload2 dX11_move_607 rfl ?_
          refine T_iconst (5) dX11_move_608 rfl rfl ?_
          refine T_iald 5 (hS.tr4 (by omega)) rfl (by decide) (by decide) dX11_move_609 rfl (hS.g4_5 (by omega)) ?_
          refine T_icmp_eq 619 613 dX11_move_610 (by decide) rfl (fun c610 => ?_) (fun c610 => ?_)
          ·
            first | refine T_iinc10 rfl (by decide) dX11_move_619 rfl (inc1 _) ?_ | refine T_iinc10 rfl (by decide) dX11_move_619 rfl rfl ?_
            refine T_goto 575 dX11_move_622 (by decide) ?_
            first
              | exact ih (k + 1) _ _ (by omega) (by rw [if_pos c591] at hS ⊢; exact hS) (by omega)
              | exact ih (k + 1) _ _ (by omega) (by rw [if_neg c591] at hS ⊢; rw [← soM_y c600 c610]; exact hS) (by omega)
              | exact ih (k + 1) _ _ (by omega) (by rw [if_neg c591] at hS ⊢; rw [soM_n (fun q => by first | exact c600 q.1 | exact q.2 c610)]; exact hS) (by omega)
          ·
            refine T_aload11 dX11_move_613 rfl ?_
            refine T_bipush (9) dX11_move_615 rfl rfl ?_
            refine T_iconst (1) dX11_move_617 rfl rfl ?_
            refine T_iast 9 (hS.tr4 (by omega)) rfl (by decide) (by decide) dX11_move_618 rfl ?_
            refine T_nm (fun M3 e3 => ?_)
            have hS := SM.mv (hS.p4_9 (by omega)) e3
            first | refine T_iinc10 rfl (by decide) dX11_move_619 rfl (inc1 _) ?_ | refine T_iinc10 rfl (by decide) dX11_move_619 rfl rfl ?_
            refine T_goto 575 dX11_move_622 (by decide) ?_
            first
              | exact ih (k + 1) _ _ (by omega) (by rw [if_pos c591] at hS ⊢; exact hS) (by omega)
              | exact ih (k + 1) _ _ (by omega) (by rw [if_neg c591] at hS ⊢; rw [← soM_y c600 c610]; exact hS) (by omega)
              | exact ih (k + 1) _ _ (by omega) (by rw [if_neg c591] at hS ⊢; rw [soM_n (fun q => by first | exact c600 q.1 | exact q.2 c610)]; exact hS) (by omega)
set_option maxHeartbeats 1000000 in
theorem L4_X11_move {l : Launch} {D : va_G} {cA : Nat → ClassId} {n0 : Nat} {XW : State → Heap → Prop} (hX : SF n0 XW) {sz : Nat} {τ : TY} {M0 : ME} {j e : Nat} {A : Nat → Nat} {Rw : Nat → Nat → Nat} {cn : Nat → Nat} {ρ : RH} {μ : Nat → Int32} {κ ω : Nat → Nat → Int32} {Q : QT} {M : ME} {i t : Nat} (hi : i < cn 4) (ht : t < cn 3) (hp : ρ 15 i = nI t) (hb : ∀ o, o < cn 4 → b01 (ρ 14 o) ∧ b01 (ρ 16 o)) (hta : toF ρ i t < nI (cn 3)) (nd gl : Int32) (hQ : ∀ M', SSM τ M0 M' j e A Rw cn i ρ μ (lvC (cn 3) (cn 4) (cn 5) ρ i t (ρ 41 t)) κ ω → Q none sz τ M') (hS : SM τ M0 M j e A Rw cn ρ μ κ ω) : ∀ (n : Nat) (k : Nat) (cv : Int32) (u : Value) (hk : k ≤ cn 4) (hc : cv = if toF ρ i t < 0 then 1 else cgF k ρ i (toF ρ i t)), cn 4 - k < n → T l D cA n0 XW mX11_move 6 0 0 sz τ M 480 [.ref j, .int (nI i), .ref (Rw 4 i), .int (nI t), .int nd, .int gl, .int (toF ρ i t), .int cv, .ref (A 4), .int (nI (cn 4)), .int (nI k), u] [] (Q) (fun _ _ _ _ => False) := by
  intro n
  induction n with
  | zero => intros; omega
  | succ n ih =>
    intro k cv u hk hc hn
    have hok := hS.ok
    unfold CnOK at hok
    refine T_iload10 dX11_move_480 rfl ?_
    refine T_iload9 dX11_move_482 rfl ?_
    refine T_icmp_ge 541 487 dX11_move_484 (by decide) rfl (fun c9 => ?_) (fun c9 => ?_)
    ·
      have c9 := le_out rfl c9
      refine T_iload7 dX11_move_541 rfl ?_
      refine T_if_ne 561 546 dX11_move_543 (by decide) rfl (fun c543 => ?_) (fun c543 => ?_)
      ·
        refine T_aload0 dX11_move_561 rfl ?_
        refine g11_15 _ rfl hS.t0 (hS.pa (f := 4) (by decide) (by decide)) dX11_move_562 rfl ?_
        refine T_astore8 rfl (by decide) dX11_move_565 rfl ?_
        refine T_aload8 dX11_move_567 rfl ?_
        refine T_alen (j := 8) hS.ta4 (by decide) dX11_move_569 rfl ?_
        refine T_istore9 rfl (by decide) dX11_move_570 rfl ?_
        refine T_iconst (0) dX11_move_572 rfl rfl ?_
        refine T_istore10 rfl (by decide) dX11_move_573 rfl ?_
        have hkk : k = cn 4 := by omega
        subst hkk
        exact L5_X11_move hX hi ht hp hb hta (fun z => by rw [if_neg z] at hc; rw [← hc]; exact c543) hQ (cn 4 + 1) 0 M u (Nat.zero_le _) (by rw [soM_0, ite_self]; exact hS) (by omega)
      ·
        refine T_aload2 dX11_move_546 rfl ?_
        refine T_bipush (6) dX11_move_547 rfl rfl ?_
        refine T_aload0 dX11_move_549 rfl ?_
        refine g11_9 _ rfl hS.t0 (hS.pa (f := 3) (by decide) (by decide)) dX11_move_550 rfl ?_
        refine T_iload3 dX11_move_553 rfl ?_
        refine T_aaldA _ hS.ta3 rfl (by omega) (by omega) dX11_move_554 rfl (hS.pr (f := 3) (by decide) (by decide) (by omega)) ?_
        refine T_iconst (0) dX11_move_555 rfl rfl ?_
        refine T_iald 0 (hS.tr3 (by omega)) rfl (by decide) (by decide) dX11_move_556 rfl (hS.g3_0 (by omega)) ?_
        refine T_iconst (1) dX11_move_557 rfl rfl ?_
        refine T_isub dX11_move_558 rfl ?_
        refine T_iast 6 (hS.tr4 (by omega)) rfl (by decide) (by decide) dX11_move_559 rfl ?_
        refine T_nm (fun M1 e1 => ?_)
        have hS := SM.mv (hS.p4_6 (by omega)) e1
        refine T_vret rfl dX11_move_560 ?_
        refine hQ _ ?_
        have hkk : k = cn 4 := by omega
        subst hkk
        have hx0 : ¬ toF ρ i t < 0 := fun z => by rw [if_pos z, c543] at hc; exact absurd hc (by decide)
        rw [if_neg hx0, c543] at hc
        have e9 : lvC (cn 3) (cn 4) (cn 5) ρ i t (ρ 41 t) = u2 ρ 17 i (ρ 41 t - 1) := by unfold lvC; rw [if_pos hta, if_neg hx0, if_pos hc.symm]
        rw [e9]
        exact ⟨μ, hS, fun o _ _ z => z⟩
    ·
      have c9 := lt_in rfl c9
      refine T_aload8 dX11_move_487 rfl ?_
      refine T_iload10 dX11_move_489 rfl ?_
      refine T_aaldA _ hS.ta4 rfl (by omega) (by omega) dX11_move_491 rfl (hS.pr (f := 4) (by decide) (by decide) (by omega)) ?_
      refine T_astore11 rfl (by decide) dX11_move_492 rfl ?_
      refine T_iload6 dX11_move_494 rfl ?_
      refine T_if_lt 535 499 dX11_move_496 (by decide) rfl (fun c496 => ?_) (fun c496 => ?_)
      ·
        first | refine T_iinc10 rfl (by decide) dX11_move_535 rfl (inc1 _) ?_ | refine T_iinc10 rfl (by decide) dX11_move_535 rfl rfl ?_
        refine T_goto 480 dX11_move_538 (by decide) ?_
        first
          | exact ih (k + 1) _ _ (by omega) (by rw [if_pos c496] at hc ⊢; exact hc) (by omega)
          | exact ih (k + 1) _ _ (by omega) (by rw [if_neg c496, cgF_y (And.intro c505 (And.intro c515 (by first | exact Or.inl c521 | exact Or.inr (fun z => by rw [z] at c529; exact absurd c529 (by decide)))))]) (by omega)
          | exact ih (k + 1) _ _ (by omega) (by rw [if_neg c496] at hc ⊢; rw [cgF_n (fun q => by first | exact c505 q.1 | exact q.2.1 c515 | exact q.2.2.elim c521 (fun z => z (down_1 (hb k (by omega)).1 c529)))]; exact hc) (by omega)
      ·
        refine T_aload11 dX11_move_499 rfl ?_
        refine T_iconst (4) dX11_move_501 rfl rfl ?_
        refine T_iald 4 (hS.tr4 (by omega)) rfl (by decide) (by decide) dX11_move_502 rfl (hS.g4_4 (by omega)) ?_
        refine T_iload6 dX11_move_503 rfl ?_
        refine T_icmp_ne 535 508 dX11_move_505 (by decide) rfl (fun c505 => ?_) (fun c505 => ?_)
        ·
          first | refine T_iinc10 rfl (by decide) dX11_move_535 rfl (inc1 _) ?_ | refine T_iinc10 rfl (by decide) dX11_move_535 rfl rfl ?_
          refine T_goto 480 dX11_move_538 (by decide) ?_
          first
            | exact ih (k + 1) _ _ (by omega) (by rw [if_pos c496] at hc ⊢; exact hc) (by omega)
            | exact ih (k + 1) _ _ (by omega) (by rw [if_neg c496, cgF_y (And.intro c505 (And.intro c515 (by first | exact Or.inl c521 | exact Or.inr (fun z => by rw [z] at c529; exact absurd c529 (by decide)))))]) (by omega)
            | exact ih (k + 1) _ _ (by omega) (by rw [if_neg c496] at hc ⊢; rw [cgF_n (fun q => by first | exact c505 q.1 | exact q.2.1 c515 | exact q.2.2.elim c521 (fun z => z (down_1 (hb k (by omega)).1 c529)))]; exact hc) (by omega)
        ·
          refine T_aload11 dX11_move_508 rfl ?_
          refine T_iconst (5) dX11_move_510 rfl rfl ?_
          refine T_iald 5 (hS.tr4 (by omega)) rfl (by decide) (by decide) dX11_move_511 rfl (hS.g4_5 (by omega)) ?_
          refine T_aload2 dX11_move_512 rfl ?_
          refine T_iconst (5) dX11_move_513 rfl rfl ?_
          refine T_iald 5 (hS.tr4 (by omega)) rfl (by decide) (by decide) dX11_move_514 rfl (hS.g4_5 (by omega)) ?_
          refine T_icmp_eq 535 518 dX11_move_515 (by decide) rfl (fun c515 => ?_) (fun c515 => ?_)
          ·
            first | refine T_iinc10 rfl (by decide) dX11_move_535 rfl (inc1 _) ?_ | refine T_iinc10 rfl (by decide) dX11_move_535 rfl rfl ?_
            refine T_goto 480 dX11_move_538 (by decide) ?_
            first
              | exact ih (k + 1) _ _ (by omega) (by rw [if_pos c496] at hc ⊢; exact hc) (by omega)
              | exact ih (k + 1) _ _ (by omega) (by rw [if_neg c496, cgF_y (And.intro c505 (And.intro c515 (by first | exact Or.inl c521 | exact Or.inr (fun z => by rw [z] at c529; exact absurd c529 (by decide)))))]) (by omega)
              | exact ih (k + 1) _ _ (by omega) (by rw [if_neg c496] at hc ⊢; rw [cgF_n (fun q => by first | exact c505 q.1 | exact q.2.1 c515 | exact q.2.2.elim c521 (fun z => z (down_1 (hb k (by omega)).1 c529)))]; exact hc) (by omega)
          ·
            refine T_aload2 dX11_move_518 rfl ?_
            refine T_iconst (3) dX11_move_519 rfl rfl ?_
            refine T_iald 3 (hS.tr4 (by omega)) rfl (by decide) (by decide) dX11_move_520 rfl (hS.g4_3 (by omega)) ?_
            refine T_if_eq 532 524 dX11_move_521 (by decide) rfl (fun c521 => ?_) (fun c521 => ?_)
            ·
              refine T_iconst (0) dX11_move_532 rfl rfl ?_
              refine T_istore7 rfl (by decide) dX11_move_533 rfl ?_
              first | refine T_iinc10 rfl (by decide) dX11_move_535 rfl (inc1 _) ?_ | refine T_iinc10 rfl (by decide) dX11_move_535 rfl rfl ?_
              refine T_goto 480 dX11_move_538 (by decide) ?_
              first
                | exact ih (k + 1) _ _ (by omega) (by rw [if_pos c496] at hc ⊢; exact hc) (by omega)
                | exact ih (k + 1) _ _ (by omega) (by rw [if_neg c496, cgF_y (And.intro c505 (And.intro c515 (by first | exact Or.inl c521 | exact Or.inr (fun z => by rw [z] at c529; exact absurd c529 (by decide)))))]) (by omega)
                | exact ih (k + 1) _ _ (by omega) (by rw [if_neg c496] at hc ⊢; rw [cgF_n (fun q => by first | exact c505 q.1 | exact q.2.1 c515 | exact q.2.2.elim c521 (fun z => z (down_1 (hb k (by omega)).1 c529)))]; exact hc) (by omega)
            ·
              refine T_aload11 dX11_move_524 rfl ?_
              refine T_iconst (3) dX11_move_526 rfl rfl ?_
              refine T_iald 3 (hS.tr4 (by omega)) rfl (by decide) (by decide) dX11_move_527 rfl (hS.g4_3 (by omega)) ?_
              refine T_iconst (1) dX11_move_528 rfl rfl ?_
              refine T_icmp_ne 535 532 dX11_move_529 (by decide) rfl (fun c529 => ?_) (fun c529 => ?_)
              ·
                first | refine T_iinc10 rfl (by decide) dX11_move_535 rfl (inc1 _) ?_ | refine T_iinc10 rfl (by decide) dX11_move_535 rfl rfl ?_
                refine T_goto 480 dX11_move_538 (by decide) ?_
                first
                  | exact ih (k + 1) _ _ (by omega) (by rw [if_pos c496] at hc ⊢; exact hc) (by omega)
                  | exact ih (k + 1) _ _ (by omega) (by rw [if_neg c496, cgF_y (And.intro c505 (And.intro c515 (by first | exact Or.inl c521 | exact Or.inr (fun z => by rw [z] at c529; exact absurd c529 (by decide)))))]) (by omega)
                  | exact ih (k + 1) _ _ (by omega) (by rw [if_neg c496] at hc ⊢; rw [cgF_n (fun q => by first | exact c505 q.1 | exact q.2.1 c515 | exact q.2.2.elim c521 (fun z => z (down_1 (hb k (by omega)).1 c529)))]; exact hc) (by omega)
              ·
                refine T_iconst (0) dX11_move_532 rfl rfl ?_
                refine T_istore7 rfl (by decide) dX11_move_533 rfl ?_
                first | refine T_iinc10 rfl (by decide) dX11_move_535 rfl (inc1 _) ?_ | refine T_iinc10 rfl (by decide) dX11_move_535 rfl rfl ?_
                refine T_goto 480 dX11_move_538 (by decide) ?_
                first
                  | exact ih (k + 1) _ _ (by omega) (by rw [if_pos c496] at hc ⊢; exact hc) (by omega)
                  | exact ih (k + 1) _ _ (by omega) (by rw [if_neg c496, cgF_y (And.intro c505 (And.intro c515 (by first | exact Or.inl c521 | exact Or.inr (fun z => by rw [z] at c529; exact absurd c529 (by decide)))))]) (by omega)
                  | exact ih (k + 1) _ _ (by omega) (by rw [if_neg c496] at hc ⊢; rw [cgF_n (fun q => by first | exact c505 q.1 | exact q.2.1 c515 | exact q.2.2.elim c521 (fun z => z (down_1 (hb k (by omega)).1 c529)))]; exact hc) (by omega)
set_option maxHeartbeats 1000000 in
theorem L1_X11_move {l : Launch} {D : va_G} {cA : Nat → ClassId} {n0 : Nat} {XW : State → Heap → Prop} (hX : SF n0 XW) {sz : Nat} {τ : TY} {M0 M : ME} {j e : Nat} {A : Nat → Nat} {Rw : Nat → Nat → Nat} {cn : Nat → Nat} {ρ : RH} {μ : Nat → Int32} {κ ω : Nat → Nat → Int32} (hS : SM τ M0 M j e A Rw cn ρ μ κ ω) {sp : Nat → Nat} {π : RH} (hPE : PE cn sp π κ ω) {i t : Nat} (hi : i < cn 4) (ht : t < cn 3) (hp : ρ 15 i = nI t) (hb : ∀ o, o < cn 4 → b01 (ρ 14 o) ∧ b01 (ρ 16 o)) (hbd : (1 ≤ ρ 11 i ∧ ρ 11 i ≤ 99) ∧ ρ 13 i ≤ 99 ∧ (0 ≤ ρ 18 i ∧ ρ 18 i ≤ 60)) : ∀ (n : Nat) (q : Nat) (u : Value) (hq : q ≤ cn 7), cn 7 - q < n → T l D cA n0 XW mX11_move 6 0 0 sz τ M 25 [.ref j, .int (nI i), .ref (Rw 4 i), .int (nI t), .ref (A 7), .int (nI (cn 7)), .int (nI q), u, UU, UU, UU, UU] [] (fun v' sz' τ' M' => v' = none ∧ sz' = sz ∧ τ' = τ ∧ SSM τ M0 M' j e A Rw cn i ρ μ (mtQ (cn 3) (cn 4) (cn 5) ρ i t (wtG (cn 5) ρ sp π (nI i) (nI t) q (cn 7 - q))) κ ω) (fun _ _ _ _ => False) := by
  intro n
  induction n with
  | zero => intros; omega
  | succ n ih =>
    intro q u hq hn
    have hok := hS.ok
    unfold CnOK at hok
    refine T_iload6 dX11_move_25 rfl ?_
    refine T_iload5 dX11_move_27 rfl ?_
    refine T_icmp_ge 91 32 dX11_move_29 (by decide) rfl (fun c29 => ?_) (fun c29 => ?_)
    ·
      have c29 := le_out rfl c29
      rw [wtG_0 c29]
      refine T_joinI 108 (fun v => v = ndF (cn 5) ρ i t) (fun hJ => ?_) (fun x108 hx108 => ?_)
      ·
        refine T_aload2 dX11_move_91 rfl ?_
        refine T_iconst (5) dX11_move_92 rfl rfl ?_
        refine T_iald 5 (hS.tr4 (by omega)) rfl (by decide) (by decide) dX11_move_93 rfl (hS.g4_5 (by omega)) ?_
        refine T_iconst (1) dX11_move_94 rfl rfl ?_
        refine T_icmp_ne 107 98 dX11_move_95 (by decide) rfl (fun c95 => ?_) (fun c95 => ?_)
        ·
          refine T_iconst (0) dX11_move_107 rfl rfl ?_
          refine hJ _ ?_
          unfold ndF
          first | (rw [if_neg (by rw [c95]; decide)]; done) | (rw [if_pos (down_1 (hb i hi).2 c95)]; done)
        ·
          refine T_aload0 dX11_move_98 rfl ?_
          refine T_iload1 dX11_move_99 rfl ?_
          refine T_iload3 dX11_move_100 rfl ?_
          refine T_cV2 (c_X11_needs hX hS (nI_pos (by omega)) ht) hX k11_65 (Or.inl ⟨_, _, _, _, hS.t0, by decide, rfl⟩) (by decide) (Nat.le_of_ble_eq_true rfl) dX11_move_101 rfl ?_
          rintro _ _ _ _ ⟨rfl, rfl, rfl, rfl⟩
          refine T_goto 108 dX11_move_104 (by decide) ?_
          refine hJ _ ?_
          unfold ndF
          first | (rw [if_neg (by rw [c95]; decide)]; done) | (rw [if_pos (down_1 (hb i hi).2 c95)]; done)
      ·
        subst hx108
        refine T_istore4 rfl (by decide) dX11_move_108 rfl ?_
        refine T_iload4 dX11_move_110 rfl ?_
        refine T_aload2 dX11_move_112 rfl ?_
        refine T_iconst (2) dX11_move_113 rfl rfl ?_
        refine T_iald 2 (hS.tr4 (by omega)) rfl (by decide) (by decide) dX11_move_114 rfl (hS.g4_2 (by omega)) ?_
        refine T_icmp_le 222 118 dX11_move_115 (by decide) rfl (fun c115 => ?_) (fun c115 => ?_)
        ·
          refine T_iload4 dX11_move_222 rfl ?_
          refine T_aload2 dX11_move_224 rfl ?_
          refine T_bipush (7) dX11_move_225 rfl rfl ?_
          refine T_iald 7 (hS.tr4 (by omega)) rfl (by decide) (by decide) dX11_move_227 rfl (hS.g4_7 (by omega)) ?_
          refine T_iadd dX11_move_228 rfl ?_
          refine T_aload2 dX11_move_229 rfl ?_
          refine T_iconst (0) dX11_move_230 rfl rfl ?_
          refine T_iald 0 (hS.tr4 (by omega)) rfl (by decide) (by decide) dX11_move_231 rfl (hS.g4_0 (by omega)) ?_
          refine T_icmp_le 243 235 dX11_move_232 (by decide) rfl (fun c232 => ?_) (fun c232 => ?_)
          ·
            rw [tired_le nd_nn (Int32.le_trans c115 hbd.2.1) hbd.2.2.1 hbd.2.2.2 hbd.1.1 hbd.1.2] at c232
            refine T_joinI 279 (fun v => v = gdF ρ i t - 1) (fun hJ => ?_) (fun x279 hx279 => ?_)
            ·
              refine T_aload2 dX11_move_243 rfl ?_
              refine T_iconst (5) dX11_move_244 rfl rfl ?_
              refine T_iald 5 (hS.tr4 (by omega)) rfl (by decide) (by decide) dX11_move_245 rfl (hS.g4_5 (by omega)) ?_
              refine T_iconst (1) dX11_move_246 rfl rfl ?_
              refine T_icmp_ne 278 250 dX11_move_247 (by decide) rfl (fun c247 => ?_) (fun c247 => ?_)
              ·
                refine T_iconst (0) dX11_move_278 rfl rfl ?_
                refine hJ _ ?_
                unfold gdF
                first | (rw [if_pos ⟨by rw [c247]; decide, Int32.not_le.mp c258, lt65.mp c271⟩]; decide) | (rw [if_neg (fun q => by first | exact q.1 (down_1 (hb i hi).2 c247) | exact absurd q.2.1 (Int32.not_lt.mpr c258) | exact lt65.mpr q.2.2 c271)]; decide)
              ·
                refine T_aload0 dX11_move_250 rfl ?_
                refine g11_9 _ rfl hS.t0 (hS.pa (f := 3) (by decide) (by decide)) dX11_move_251 rfl ?_
                refine T_iload3 dX11_move_254 rfl ?_
                refine T_aaldA _ hS.ta3 rfl (by omega) (by omega) dX11_move_255 rfl (hS.pr (f := 3) (by decide) (by decide) (by omega)) ?_
                refine T_iconst (1) dX11_move_256 rfl rfl ?_
                refine T_iald 1 (hS.tr3 (by omega)) rfl (by decide) (by decide) dX11_move_257 rfl (hS.g3_1 (by omega)) ?_
                refine T_if_ge 278 261 dX11_move_258 (by decide) rfl (fun c258 => ?_) (fun c258 => ?_)
                ·
                  refine T_iconst (0) dX11_move_278 rfl rfl ?_
                  refine hJ _ ?_
                  unfold gdF
                  first | (rw [if_pos ⟨by rw [c247]; decide, Int32.not_le.mp c258, lt65.mp c271⟩]; decide) | (rw [if_neg (fun q => by first | exact q.1 (down_1 (hb i hi).2 c247) | exact absurd q.2.1 (Int32.not_lt.mpr c258) | exact lt65.mpr q.2.2 c271)]; decide)
                ·
                  refine T_aload0 dX11_move_261 rfl ?_
                  refine g11_9 _ rfl hS.t0 (hS.pa (f := 3) (by decide) (by decide)) dX11_move_262 rfl ?_
                  refine T_iload3 dX11_move_265 rfl ?_
                  refine T_aaldA _ hS.ta3 rfl (by omega) (by omega) dX11_move_266 rfl (hS.pr (f := 3) (by decide) (by decide) (by omega)) ?_
                  refine T_iconst (2) dX11_move_267 rfl rfl ?_
                  refine T_iald 2 (hS.tr3 (by omega)) rfl (by decide) (by decide) dX11_move_268 rfl (hS.g3_2 (by omega)) ?_
                  refine T_bipush (6) dX11_move_269 rfl rfl ?_
                  refine T_icmp_lt 278 274 dX11_move_271 (by decide) rfl (fun c271 => ?_) (fun c271 => ?_)
                  ·
                    refine T_iconst (0) dX11_move_278 rfl rfl ?_
                    refine hJ _ ?_
                    unfold gdF
                    first | (rw [if_pos ⟨by rw [c247]; decide, Int32.not_le.mp c258, lt65.mp c271⟩]; decide) | (rw [if_neg (fun q => by first | exact q.1 (down_1 (hb i hi).2 c247) | exact absurd q.2.1 (Int32.not_lt.mpr c258) | exact lt65.mpr q.2.2 c271)]; decide)
                  ·
                    refine T_iconst (1) dX11_move_274 rfl rfl ?_
                    refine T_goto 279 dX11_move_275 (by decide) ?_
                    refine hJ _ ?_
                    unfold gdF
                    first | (rw [if_pos ⟨by rw [c247]; decide, Int32.not_le.mp c258, lt65.mp c271⟩]; decide) | (rw [if_neg (fun q => by first | exact q.1 (down_1 (hb i hi).2 c247) | exact absurd q.2.1 (Int32.not_lt.mpr c258) | exact lt65.mpr q.2.2 c271)]; decide)
            ·
              refine T_istore5 rfl (by decide) dX11_move_279 rfl ?_
              refine T_aload2 dX11_move_281 rfl ?_
              refine T_bipush (6) dX11_move_282 rfl rfl ?_
              refine T_dup2 dX11_move_284 rfl rfl rfl ?_
              refine T_iald 6 (hS.tr4 (by omega)) rfl (by decide) (by decide) dX11_move_285 rfl (hS.g4_6 (by omega)) ?_
              refine T_joinI 296 (fun v => v = gdF ρ i t) (fun hJ => ?_) (fun x296 hx296 => ?_)
              ·
                refine T_iload5 dX11_move_286 rfl ?_
                refine T_if_eq 295 291 dX11_move_288 (by decide) rfl (fun c288 => ?_) (fun c288 => ?_)
                ·
                  refine T_iconst (1) dX11_move_295 rfl rfl ?_
                  refine hJ _ ?_
                  rcases gdF_12 ρ i t with g9 | g9 <;> rw [hx279, g9] at c288
                  all_goals first | exact g9.symm | exact absurd (by decide) c288 | exact absurd c288 (by decide)
                ·
                  refine T_iconst (2) dX11_move_291 rfl rfl ?_
                  refine T_goto 296 dX11_move_292 (by decide) ?_
                  refine hJ _ ?_
                  rcases gdF_12 ρ i t with g9 | g9 <;> rw [hx279, g9] at c288
                  all_goals first | exact g9.symm | exact absurd (by decide) c288 | exact absurd c288 (by decide)
              ·
                subst hx296
                refine T_iadd dX11_move_296 rfl ?_
                refine T_iast 6 (hS.tr4 (by omega)) rfl (by decide) (by decide) dX11_move_297 rfl ?_
                refine T_nm (fun M1 e1 => ?_)
                have hS := SM.mv (hS.p4_6 (by omega)) e1
                refine T_aload0 dX11_move_298 rfl ?_
                refine T_iload1 dX11_move_299 rfl ?_
                refine T_joinI 316 (fun v => v = if ρ 16 i = 0 then -1 else ndF (cn 5) ρ i t / 8) (fun hJ => ?_) (fun x316 hx316 => ?_)
                ·
                  refine T_aload2 dX11_move_300 rfl ?_
                  refine T_iconst (5) dX11_move_301 rfl rfl ?_
                  refine T_iald 5 (hS.tr4 (by omega)) rfl (by decide) (by decide) dX11_move_302 rfl (hS.g4_5 (by omega)) ?_
                  refine T_iconst (1) dX11_move_303 rfl rfl ?_
                  refine T_icmp_ne 315 307 dX11_move_304 (by decide) rfl (fun c304 => ?_) (fun c304 => ?_)
                  ·
                    refine T_iconst (-1) dX11_move_315 rfl rfl ?_
                    refine hJ _ ?_
                    first | (refine (if_neg ?_).symm; exact fun q => by rw [show ρ 16 i = 1 from c304] at q; exact absurd q (by decide)) | (refine (if_pos ?_).symm; exact down_1 (hb i hi).2 c304)
                  ·
                    refine T_iload4 dX11_move_307 rfl ?_
                    refine T_bipush (8) dX11_move_309 rfl rfl ?_
                    refine T_idiv dX11_move_311 rfl (by decide) ?_
                    refine T_goto 316 dX11_move_312 (by decide) ?_
                    refine hJ _ ?_
                    first | (refine (if_neg ?_).symm; exact fun q => by rw [show ρ 16 i = 1 from c304] at q; exact absurd q (by decide)) | (refine (if_pos ?_).symm; exact down_1 (hb i hi).2 c304)
                ·
                  subst hx316
                  refine T_cV2 (c_X11_tire hX hS hi _) hX k11_61 (Or.inl ⟨_, _, _, _, hS.t0, by decide, rfl⟩) (by decide) (Nat.le_of_ble_eq_true rfl) dX11_move_316 rfl ?_
                  rintro _ _ _ Mt ⟨rfl, rfl, rfl, hS⟩
                  replace hS := (show SM _ M0 Mt j e A Rw cn (g2C ρ i t (ndF (cn 5) ρ i t)) μ κ ω from hS)
                  refine T_aload2 dX11_move_319 rfl ?_
                  refine T_bipush (6) dX11_move_320 rfl rfl ?_
                  refine T_iald 6 (hS.tr4 (by omega)) rfl (by decide) (by decide) dX11_move_322 rfl (hS.g4_6 (by omega)) ?_
                  refine T_aload0 dX11_move_323 rfl ?_
                  refine g11_9 _ rfl hS.t0 (hS.pa (f := 3) (by decide) (by decide)) dX11_move_324 rfl ?_
                  refine T_iload3 dX11_move_327 rfl ?_
                  refine T_aaldA _ hS.ta3 rfl (by omega) (by omega) dX11_move_328 rfl (hS.pr (f := 3) (by decide) (by decide) (by omega)) ?_
                  refine T_iconst (0) dX11_move_329 rfl rfl ?_
                  refine T_iald 0 (hS.tr3 (by omega)) rfl (by decide) (by decide) dX11_move_330 rfl (hS.g3_0 (by omega)) ?_
                  refine T_icmp_ge 335 334 dX11_move_331 (by decide) rfl (fun c331 => ?_) (fun c331 => ?_)
                  ·
                    refine T_aload2 dX11_move_335 rfl ?_
                    refine T_iconst (5) dX11_move_336 rfl rfl ?_
                    refine T_iald 5 (hS.tr4 (by omega)) rfl (by decide) (by decide) dX11_move_337 rfl (hS.g4_5 (by omega)) ?_
                    refine T_iconst (1) dX11_move_338 rfl rfl ?_
                    refine T_icmp_ne 445 342 dX11_move_339 (by decide) rfl (fun c339 => ?_) (fun c339 => ?_)
                    ·
                      refine T_joinI 461 (fun v => v = toF (g2C ρ i t (ndF (cn 5) ρ i t)) i t) (fun hJ => ?_) (fun x461 hx461 => ?_)
                      ·
                        refine T_aload2 dX11_move_445 rfl ?_
                        refine T_iconst (5) dX11_move_446 rfl rfl ?_
                        refine T_iald 5 (hS.tr4 (by omega)) rfl (by decide) (by decide) dX11_move_447 rfl (hS.g4_5 (by omega)) ?_
                        refine T_iconst (1) dX11_move_448 rfl rfl ?_
                        refine T_icmp_ne 458 452 dX11_move_449 (by decide) rfl (fun c449 => ?_) (fun c449 => ?_)
                        ·
                          refine T_iload3 dX11_move_458 rfl ?_
                          refine T_iconst (1) dX11_move_459 rfl rfl ?_
                          refine T_isub dX11_move_460 rfl ?_
                          refine hJ _ ?_
                          unfold toF
                          first | (rw [if_neg (show ¬ (g2C ρ i t (ndF (cn 5) ρ i t)) 16 i = 0 from by rw [c449]; decide)]; done) | (rw [if_pos (show (g2C ρ i t (ndF (cn 5) ρ i t)) 16 i = 0 from down_1 (hb i hi).2 c449)]; exact Int32.sub_eq_add_neg _ _)
                        ·
                          refine T_iload3 dX11_move_452 rfl ?_
                          refine T_iconst (1) dX11_move_453 rfl rfl ?_
                          refine T_iadd dX11_move_454 rfl ?_
                          refine T_goto 461 dX11_move_455 (by decide) ?_
                          refine hJ _ ?_
                          unfold toF
                          first | (rw [if_neg (show ¬ (g2C ρ i t (ndF (cn 5) ρ i t)) 16 i = 0 from by rw [c449]; decide)]; done) | (rw [if_pos (show (g2C ρ i t (ndF (cn 5) ρ i t)) 16 i = 0 from down_1 (hb i hi).2 c449)]; exact Int32.sub_eq_add_neg _ _)
                      ·
                        subst hx461
                        refine T_istore6 rfl (by decide) dX11_move_461 rfl ?_
                        refine T_iconst (1) dX11_move_463 rfl rfl ?_
                        refine T_istore7 rfl (by decide) dX11_move_464 rfl ?_
                        refine T_aload0 dX11_move_466 rfl ?_
                        refine g11_15 _ rfl hS.t0 (hS.pa (f := 4) (by decide) (by decide)) dX11_move_467 rfl ?_
                        refine T_astore8 rfl (by decide) dX11_move_470 rfl ?_
                        refine T_aload8 dX11_move_472 rfl ?_
                        refine T_alen (j := 8) hS.ta4 (by decide) dX11_move_474 rfl ?_
                        refine T_istore9 rfl (by decide) dX11_move_475 rfl ?_
                        refine T_iconst (0) dX11_move_477 rfl rfl ?_
                        refine T_istore10 rfl (by decide) dX11_move_478 rfl ?_
                        refine L4_X11_move hX (ρ := g2C ρ i t (ndF (cn 5) ρ i t)) hi ht hp hb (toF_ltS ht (by omega) (hb i hi).2 (by first | exact fun q => c339 q.1 | exact fun q => c350 q.2)) _ _ (fun M9 h9 => ?_) hS (cn 4 + 1) 0 _ UU (Nat.zero_le _) (by rw [cgF_0, ite_self]) (by omega)
                        refine ⟨rfl, rfl, rfl, ?_⟩
                        unfold mtQ goC
                        rw [if_pos rfl, if_pos c115, if_pos c232, if_neg (show ¬ (g2C ρ i t (ndF (cn 5) ρ i t)) 17 i < ρ 41 t from fun z => absurd z (Int32.not_lt.mpr c331))]
                        obtain ⟨μ9, h91, h92⟩ := h9
                        exact ⟨μ9, h91, fun o a b z => h92 o a b z⟩
                    ·
                      refine T_iload3 dX11_move_342 rfl ?_
                      refine T_aload0 dX11_move_343 rfl ?_
                      refine g11_9 _ rfl hS.t0 (hS.pa (f := 3) (by decide) (by decide)) dX11_move_344 rfl ?_
                      refine T_alen (j := 8) hS.ta3 (by decide) dX11_move_347 rfl ?_
                      refine T_iconst (1) dX11_move_348 rfl rfl ?_
                      refine T_isub dX11_move_349 rfl ?_
                      refine T_icmp_ne 445 353 dX11_move_350 (by decide) rfl (fun c350 => ?_) (fun c350 => ?_)
                      ·
                        refine T_joinI 461 (fun v => v = toF (g2C ρ i t (ndF (cn 5) ρ i t)) i t) (fun hJ => ?_) (fun x461 hx461 => ?_)
                        ·
                          refine T_aload2 dX11_move_445 rfl ?_
                          refine T_iconst (5) dX11_move_446 rfl rfl ?_
                          refine T_iald 5 (hS.tr4 (by omega)) rfl (by decide) (by decide) dX11_move_447 rfl (hS.g4_5 (by omega)) ?_
                          refine T_iconst (1) dX11_move_448 rfl rfl ?_
                          refine T_icmp_ne 458 452 dX11_move_449 (by decide) rfl (fun c449 => ?_) (fun c449 => ?_)
                          ·
                            refine T_iload3 dX11_move_458 rfl ?_
                            refine T_iconst (1) dX11_move_459 rfl rfl ?_
                            refine T_isub dX11_move_460 rfl ?_
                            refine hJ _ ?_
                            unfold toF
                            first | (rw [if_neg (show ¬ (g2C ρ i t (ndF (cn 5) ρ i t)) 16 i = 0 from by rw [c449]; decide)]; done) | (rw [if_pos (show (g2C ρ i t (ndF (cn 5) ρ i t)) 16 i = 0 from down_1 (hb i hi).2 c449)]; exact Int32.sub_eq_add_neg _ _)
                          ·
                            refine T_iload3 dX11_move_452 rfl ?_
                            refine T_iconst (1) dX11_move_453 rfl rfl ?_
                            refine T_iadd dX11_move_454 rfl ?_
                            refine T_goto 461 dX11_move_455 (by decide) ?_
                            refine hJ _ ?_
                            unfold toF
                            first | (rw [if_neg (show ¬ (g2C ρ i t (ndF (cn 5) ρ i t)) 16 i = 0 from by rw [c449]; decide)]; done) | (rw [if_pos (show (g2C ρ i t (ndF (cn 5) ρ i t)) 16 i = 0 from down_1 (hb i hi).2 c449)]; exact Int32.sub_eq_add_neg _ _)
                        ·
                          subst hx461
                          refine T_istore6 rfl (by decide) dX11_move_461 rfl ?_
                          refine T_iconst (1) dX11_move_463 rfl rfl ?_
                          refine T_istore7 rfl (by decide) dX11_move_464 rfl ?_
                          refine T_aload0 dX11_move_466 rfl ?_
                          refine g11_15 _ rfl hS.t0 (hS.pa (f := 4) (by decide) (by decide)) dX11_move_467 rfl ?_
                          refine T_astore8 rfl (by decide) dX11_move_470 rfl ?_
                          refine T_aload8 dX11_move_472 rfl ?_
                          refine T_alen (j := 8) hS.ta4 (by decide) dX11_move_474 rfl ?_
                          refine T_istore9 rfl (by decide) dX11_move_475 rfl ?_
                          refine T_iconst (0) dX11_move_477 rfl rfl ?_
                          refine T_istore10 rfl (by decide) dX11_move_478 rfl ?_
                          refine L4_X11_move hX (ρ := g2C ρ i t (ndF (cn 5) ρ i t)) hi ht hp hb (toF_ltS ht (by omega) (hb i hi).2 (by first | exact fun q => c339 q.1 | exact fun q => c350 q.2)) _ _ (fun M9 h9 => ?_) hS (cn 4 + 1) 0 _ UU (Nat.zero_le _) (by rw [cgF_0, ite_self]) (by omega)
                          refine ⟨rfl, rfl, rfl, ?_⟩
                          unfold mtQ goC
                          rw [if_pos rfl, if_pos c115, if_pos c232, if_neg (show ¬ (g2C ρ i t (ndF (cn 5) ρ i t)) 17 i < ρ 41 t from fun z => absurd z (Int32.not_lt.mpr c331))]
                          obtain ⟨μ9, h91, h92⟩ := h9
                          exact ⟨μ9, h91, fun o a b z => h92 o a b z⟩
                      ·
                        refine T_aload0 dX11_move_353 rfl ?_
                        refine g11_18 _ rfl hS.t0 (hS.pa (f := 5) (by decide) (by decide)) dX11_move_354 rfl ?_
                        refine T_astore6 rfl (by decide) dX11_move_357 rfl ?_
                        refine T_aload6 dX11_move_359 rfl ?_
                        refine T_alen (j := 8) hS.ta5 (by decide) dX11_move_361 rfl ?_
                        refine T_istore7 rfl (by decide) dX11_move_362 rfl ?_
                        refine T_iconst (0) dX11_move_364 rfl rfl ?_
                        refine T_istore8 rfl (by decide) dX11_move_365 rfl ?_
                        refine L3_X11_move hX (ρ := g2C ρ i t (ndF (cn 5) ρ i t)) hi ht hp (fun M9 h9 => ?_) (cn 5 + 1) 0 _ UU (Nat.zero_le _) (by rw [ulC_0]; exact hS) (by omega)
                        refine ⟨rfl, rfl, rfl, ?_⟩
                        unfold mtQ goC
                        rw [if_pos rfl, if_pos c115, if_pos c232, if_neg (show ¬ (g2C ρ i t (ndF (cn 5) ρ i t)) 17 i < ρ 41 t from fun z => absurd z (Int32.not_lt.mpr c331)), lv_A (toF_eqS ht (by omega) c339 c350)]
                        exact ⟨μ, h9, fun o _ _ z => z.trans (ulC_f (by decide) (by decide)).symm⟩
                  ·
                    refine T_vret rfl dX11_move_334 ?_
                    refine ⟨rfl, rfl, rfl, ?_⟩
                    unfold mtQ goC
                    rw [if_pos rfl, if_pos c115, if_pos c232, if_pos (show (g2C ρ i t (ndF (cn 5) ρ i t)) 17 i < ρ 41 t from Int32.not_le.mp c331)]
                    exact ⟨μ, hS, fun o _ _ z => z⟩
          ·
            rw [tired_le nd_nn (Int32.le_trans c115 hbd.2.1) hbd.2.2.1 hbd.2.2.2 hbd.1.1 hbd.1.2] at c232
            refine T_aload0 dX11_move_235 rfl ?_
            refine T_iload1 dX11_move_236 rfl ?_
            refine T_bipush (-4) dX11_move_237 rfl rfl ?_
            refine T_cV2 (c_X11_tire hX hS hi _) hX k11_61 (Or.inl ⟨_, _, _, _, hS.t0, by decide, rfl⟩) (by decide) (Nat.le_of_ble_eq_true rfl) dX11_move_239 rfl ?_
            rintro _ _ _ Mt ⟨rfl, rfl, rfl, hS⟩
            refine T_vret rfl dX11_move_242 ?_
            refine ⟨rfl, rfl, rfl, ?_⟩
            unfold mtQ
            rw [if_pos rfl, if_pos c115, if_neg c232]
            exact ⟨μ, hS, fun o _ _ z => z⟩
        ·
          refine T_aload2 dX11_move_118 rfl ?_
          refine T_iconst (1) dX11_move_119 rfl rfl ?_
          refine T_dup2 dX11_move_120 rfl rfl rfl ?_
          refine T_iald 1 (hS.tr4 (by omega)) rfl (by decide) (by decide) dX11_move_121 rfl (hS.g4_1 (by omega)) ?_
          refine T_iconst (1) dX11_move_122 rfl rfl ?_
          refine T_isub dX11_move_123 rfl ?_
          refine T_iast 1 (hS.tr4 (by omega)) rfl (by decide) (by decide) dX11_move_124 rfl ?_
          refine T_nm (fun M2 e2 => ?_)
          have hS := SM.mv (hS.p4_1 (by omega)) e2
          refine T_aload0 dX11_move_125 rfl ?_
          refine T_dup dX11_move_126 rfl rfl ?_
          refine g11_68 _ rfl hS.t0 hS.g0_2 dX11_move_127 rfl ?_
          refine T_iconst (1) dX11_move_130 rfl rfl ?_
          refine T_iadd dX11_move_131 rfl ?_
          refine p11_68 rfl hS.t0 dX11_move_132 rfl ?_
          refine T_nm (fun M3 e3 => ?_)
          have hS := SM.mv hS.p0_2 e3
          refine T_aload0 dX11_move_135 rfl ?_
          refine g11_18 _ rfl hS.t0 (hS.pa (f := 5) (by decide) (by decide)) dX11_move_136 rfl ?_
          refine T_astore5 rfl (by decide) dX11_move_139 rfl ?_
          refine T_aload5 dX11_move_141 rfl ?_
          refine T_alen (j := 8) hS.ta5 (by decide) dX11_move_143 rfl ?_
          refine T_istore6 rfl (by decide) dX11_move_144 rfl ?_
          refine T_iconst (0) dX11_move_146 rfl rfl ?_
          refine T_istore7 rfl (by decide) dX11_move_147 rfl ?_
          refine L2_X11_move hX (ρ := u2 (u2 ρ 12 i (ρ 12 i - 1)) 8 0 (ρ 8 0 + 1)) hi ht hp (fun M9 h9 => ?_) (cn 5 + 1) 0 _ UU (Nat.zero_le _) (by rw [mpL_0]; exact hS) (by omega)
          refine ⟨rfl, rfl, rfl, ?_⟩
          unfold mtQ
          rw [if_pos rfl, if_neg c115]
          exact ⟨μ, h9, fun o _ _ z => z.trans (mpL_f (by decide)).symm⟩
    ·
      have c29 := lt_in rfl c29
      obtain ⟨hh, tt, kc, mm, uu, k0, k1, ⟨k2, k2b⟩, ⟨k3, k3b⟩, ⟨k4, k4b⟩, p55, p56, pv⟩ := hPE.2 q c29
      refine T_aload4 dX11_move_32 rfl ?_
      refine T_iload6 dX11_move_34 rfl ?_
      refine T_aaldA _ hS.ta7 rfl (by omega) (by omega) dX11_move_36 rfl (hS.pr (f := 7) (by decide) (by decide) (by omega)) ?_
      refine T_astore7 rfl (by decide) dX11_move_37 rfl ?_
      refine T_aload7 dX11_move_39 rfl ?_
      refine T_iconst (0) dX11_move_41 rfl rfl ?_
      refine T_iald 0 (hS.tr7 (by omega)) rfl (by decide) (by decide) dX11_move_42 rfl (hS.g7_0 (by omega)) ?_
      refine T_iload1 dX11_move_43 rfl ?_
      refine T_icmp_ne 85 47 dX11_move_44 (by decide) rfl (fun c44 => ?_) (fun c44 => ?_)
      ·
        first | refine T_iinc6 rfl (by decide) dX11_move_85 rfl (inc1 _) ?_ | refine T_iinc6 rfl (by decide) dX11_move_85 rfl rfl ?_
        refine T_goto 25 dX11_move_88 (by decide) ?_
        rw [wtG_n c29 (fun z => by first | exact c44 (k0.trans (p55.symm.trans z.1)) | exact c52 (k1.trans (p56.symm.trans z.2.1)) | exact z.2.2 ((pv ρ).mpr c71))]
        exact ih (q + 1) _ (by omega) (by omega)
      ·
        refine T_aload7 dX11_move_47 rfl ?_
        refine T_iconst (1) dX11_move_49 rfl rfl ?_
        refine T_iald 1 (hS.tr7 (by omega)) rfl (by decide) (by decide) dX11_move_50 rfl (hS.g7_1 (by omega)) ?_
        refine T_iload3 dX11_move_51 rfl ?_
        refine T_icmp_ne 85 55 dX11_move_52 (by decide) rfl (fun c52 => ?_) (fun c52 => ?_)
        ·
          first | refine T_iinc6 rfl (by decide) dX11_move_85 rfl (inc1 _) ?_ | refine T_iinc6 rfl (by decide) dX11_move_85 rfl rfl ?_
          refine T_goto 25 dX11_move_88 (by decide) ?_
          rw [wtG_n c29 (fun z => by first | exact c44 (k0.trans (p55.symm.trans z.1)) | exact c52 (k1.trans (p56.symm.trans z.2.1)) | exact z.2.2 ((pv ρ).mpr c71))]
          exact ih (q + 1) _ (by omega) (by omega)
        ·
          refine T_aload0 dX11_move_55 rfl ?_
          refine T_aload7 dX11_move_56 rfl ?_
          refine T_iconst (2) dX11_move_58 rfl rfl ?_
          refine T_iald 2 (hS.tr7 (by omega)) rfl (by decide) (by decide) dX11_move_59 rfl (hS.g7_2 (by omega)) ?_
          refine T_aload7 dX11_move_60 rfl ?_
          refine T_iconst (3) dX11_move_62 rfl rfl ?_
          refine T_iald 3 (hS.tr7 (by omega)) rfl (by decide) (by decide) dX11_move_63 rfl (hS.g7_3 (by omega)) ?_
          refine T_aload7 dX11_move_64 rfl ?_
          refine T_iconst (4) dX11_move_66 rfl rfl ?_
          refine T_iald 4 (hS.tr7 (by omega)) rfl (by decide) (by decide) dX11_move_67 rfl (hS.g7_4 (by omega)) ?_
          rw [k2, k3, k4]
          refine T_cV3 (c_X11_holds hX hS k2b k3b k4b) hX k11_53 (Or.inl ⟨_, _, _, _, hS.t0, by decide, rfl⟩) (by decide) (Nat.le_of_ble_eq_true rfl) dX11_move_68 rfl ?_
          rintro _ _ _ _ ⟨rfl, rfl, rfl, rfl⟩
          refine T_if_ne 77 74 dX11_move_71 (by decide) rfl (fun c71 => ?_) (fun c71 => ?_)
          ·
            refine T_aload0 dX11_move_77 rfl ?_
            refine T_iload1 dX11_move_78 rfl ?_
            refine T_bipush (-2) dX11_move_79 rfl rfl ?_
            refine T_cV2 (c_X11_tire hX hS hi _) hX k11_61 (Or.inl ⟨_, _, _, _, hS.t0, by decide, rfl⟩) (by decide) (Nat.le_of_ble_eq_true rfl) dX11_move_81 rfl ?_
            rintro _ _ _ Mt ⟨rfl, rfl, rfl, hS⟩
            refine T_vret rfl dX11_move_84 ?_
            refine ⟨rfl, rfl, rfl, ?_⟩
            rw [wtG_y c29 ⟨p55.trans (k0.symm.trans c44), p56.trans (k1.symm.trans c52), fun z => c71 ((pv ρ).mp z)⟩]
            unfold mtQ
            rw [if_neg (by decide)]
            exact ⟨μ, hS, fun o _ _ z => z⟩
          ·
            refine T_goto 85 dX11_move_74 (by decide) ?_
            first | refine T_iinc6 rfl (by decide) dX11_move_85 rfl (inc1 _) ?_ | refine T_iinc6 rfl (by decide) dX11_move_85 rfl rfl ?_
            refine T_goto 25 dX11_move_88 (by decide) ?_
            rw [wtG_n c29 (fun z => by first | exact c44 (k0.trans (p55.symm.trans z.1)) | exact c52 (k1.trans (p56.symm.trans z.2.1)) | exact z.2.2 ((pv ρ).mpr c71))]
            exact ih (q + 1) _ (by omega) (by omega)
set_option maxHeartbeats 1000000 in
theorem c_X11_move {l : Launch} {D : va_G} {cA : Nat → ClassId} {n0 : Nat} {XW : State → Heap → Prop} (hX : SF n0 XW) {sz : Nat} {τ : TY} {M0 M : ME} {j e : Nat} {A : Nat → Nat} {Rw : Nat → Nat → Nat} {cn : Nat → Nat} {ρ : RH} {μ : Nat → Int32} {κ ω : Nat → Nat → Int32} (hS : SM τ M0 M j e A Rw cn ρ μ κ ω) {sp : Nat → Nat} {π : RH} (hPE : PE cn sp π κ ω) {i t : Nat} (hi : i < cn 4) (ht : t < cn 3) (hp : ρ 15 i = nI t) (hb : ∀ o, o < cn 4 → b01 (ρ 14 o) ∧ b01 (ρ 16 o)) (hbd : (1 ≤ ρ 11 i ∧ ρ 11 i ≤ 99) ∧ ρ 13 i ≤ 99 ∧ (0 ≤ ρ 18 i ∧ ρ 18 i ≤ 60)) : CT l D cA n0 XW mX11_move 6 0 0 sz τ M [.ref j, .int (nI i)] (fun v' sz' τ' M' => v' = none ∧ sz' = sz ∧ τ' = τ ∧ SSM τ M0 M' j e A Rw cn i ρ μ (mtC (cn 3) (cn 4) (cn 5) (cn 7) sp π ρ i t) κ ω) := by
  refine CT.of (ls := [.ref j, .int (nI i), UU, UU, UU, UU, UU, UU, UU, UU, UU, UU]) (by decide) (Nat.le_of_ble_eq_true rfl) rfl ?_
  have hok := hS.ok
  unfold CnOK at hok
  refine T_aload0 dX11_move_0 rfl ?_
  refine g11_15 _ rfl hS.t0 (hS.pa (f := 4) (by decide) (by decide)) dX11_move_1 rfl ?_
  refine T_iload1 dX11_move_4 rfl ?_
  refine T_aaldA _ hS.ta4 rfl (by omega) (by omega) dX11_move_5 rfl (hS.pr (f := 4) (by decide) (by decide) (by omega)) ?_
  refine T_astore2 rfl (by decide) dX11_move_6 rfl ?_
  refine T_aload2 dX11_move_7 rfl ?_
  refine T_iconst (4) dX11_move_8 rfl rfl ?_
  refine T_iald 4 (hS.tr4 (by omega)) rfl (by decide) (by decide) dX11_move_9 rfl (hS.g4_4 (by omega)) ?_
  rw [hp]
  refine T_istore3 rfl (by decide) dX11_move_10 rfl ?_
  refine T_aload0 dX11_move_11 rfl ?_
  refine g11_24 _ rfl hS.t0 (hS.pa (f := 7) (by decide) (by decide)) dX11_move_12 rfl ?_
  refine T_astore4 rfl (by decide) dX11_move_15 rfl ?_
  refine T_aload4 dX11_move_17 rfl ?_
  refine T_alen (j := 8) hS.ta7 (by decide) dX11_move_19 rfl ?_
  refine T_istore5 rfl (by decide) dX11_move_20 rfl ?_
  refine T_iconst (0) dX11_move_22 rfl rfl ?_
  refine T_istore6 rfl (by decide) dX11_move_23 rfl ?_
  exact L1_X11_move hX hS hPE hi ht hp hb hbd (cn 7 + 1) 0 UU (Nat.zero_le _) (by omega)
