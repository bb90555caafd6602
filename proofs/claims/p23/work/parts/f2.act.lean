theorem cl3 : ∀ k, k < 7 → -3 ≤ nI k - 3 ∧ nI k - 3 ≤ 3 := by decide
set_option maxHeartbeats 1000000 in
theorem L_L_act {l : Launch} {D : va_G} {cA : Nat → ClassId} {n0 : Nat} {sg adK adV : Nat → Nat} {sgA smA wdA bS LS : Nat} {xs : Nat → Int32} (hX : SF n0 (XW0 sg adK adV sgA smA wdA n0 bS LS xs)) {sz : Nat} {τ : TY} (hl : l.stackTraces = false) {x r p r2 p2 n8 hc wc sc j e : Nat} {A : Nat → Nat} {Rw : Nat → Nat → Nat} {cn : Nat → Nat} {ρ π : RH} {ν : NU} {σ : Nat → Nat} {B : Nat → Nat} {fa : Int32} {μ : Nat → Int32} {κ ω : Nat → Nat → Int32} {M0 : ME} (hd : e ≤ x ∨ x + 144 ≤ j) (hI : SI (cn 3) (cn 4) (cn 5) ρ) {t : Nat} (ht : t < cn 3) {v : Int32} : ∀ (n : Nat) (k : Nat) (acc : Int32) (M : ME) (u : Value) (hk : k ≤ cn 5) (hC : CS sg τ M x r p r2 p2 n8 (cn 3) (cn 4) (cn 5) hc wc sc (ρ) ν π σ B fa) (hS : SM τ M M j e A Rw cn (mpL ρ 2 (nI t) 0 (-1) k) (μ) κ ω) (hf : ∀ q, (q < j ∨ e ≤ q) → M q = M0 q) (ha : acc = sm (fun l => if ρ 32 l = 2 ∧ ρ 33 l = nI t then 1 else 0) k), cn 5 - k < n → T l D cA n0 (XW0 sg adK adV sgA smA wdA n0 bS LS xs) mL_act 10 2 12 sz τ M 182 [.ref x, .ref j, .int v, .int (nI t), .int acc, .ref (A 5), .int (nI (cn 5)), .int (nI k), u] [] (fun v' sz' τ' M' => v' = some (.int 1) ∧ sz' = sz ∧ τ' = τ ∧ ∃ ρ', CS sg τ M' x r p r2 p2 n8 (cn 3) (cn 4) (cn 5) hc wc sc ρ' ν π σ B fa ∧ SM τ M' M' j e A Rw cn ρ' μ κ ω ∧ SI (cn 3) (cn 4) (cn 5) ρ' ∧ ρ' 6 0 = ρ 6 0 ∧ (∀ i, ρ' 31 i = ρ 31 i) ∧ ∀ q, (q < x ∨ x + 144 ≤ q) → (q < j ∨ e ≤ q) → M' q = M0 q) (fun _ _ _ _ => False) := by
  intro n
  induction n with
  | zero => intros; omega
  | succ n ih =>
    intro k acc M u hk hC hS hf ha hn
    have hok := hS.ok
    unfold CnOK at hok
    have hin := hS.in0
    refine T_iload7 dL_act_182 rfl ?_
    refine T_iload6 dL_act_184 rfl ?_
    refine T_icmp_ge 234 189 dL_act_186 (by decide) rfl (fun c9 => ?_) (fun c9 => ?_)
    ·
      have c9 := le_out rfl c9
      refine T_aload0 dL_act_234 rfl ?_
      refine T_iload3 dL_act_235 rfl ?_
      refine T_less (bk1 := 0 + 1) (bn1 := 0 + 6) (by omega) (by omega) ?_
      refine q_clear hX hl hC ht kL_199 (by decide) (Nat.le_of_ble_eq_true rfl) dL_act_236 rfl (fun M1 hC1 hf1 => ?_)
      refine T_iload4 dL_act_239 rfl ?_
      refine T_icmp_ne_f 248 244 dL_act_241 (by decide) rfl (show flOf (cn 5) ρ (nI t) = acc by rw [ha, show k = cn 5 by omega]; rfl) ?_
      refine T_iconst (1) dL_act_244 rfl rfl ?_
      refine T_goto 249 dL_act_245 (by decide) ?_
      refine T_iret rfl rfl dL_act_249 ?_
      have hkk : k = cn 5 := by omega
      subst hkk
      exact ⟨rfl, rfl, rfl, _, hC1, hS.fr (fun q g1 g2 => hf1 q (by omega)), hI.mp, mpL_f (by decide), fun i => mpL_f (by decide), fun q g1 g2 => (hf1 q g1).trans (hf q g2)⟩
    ·
      have c9 := lt_in rfl c9
      refine T_aload5 dL_act_189 rfl ?_
      refine T_iload7 dL_act_191 rfl ?_
      refine T_aaldA _ hS.ta5 rfl (by omega) (by omega) dL_act_193 rfl (hS.pr (f := 5) (by decide) (by decide) (by omega)) ?_
      refine T_astore8 rfl (by decide) dL_act_194 rfl ?_
      refine T_aload8 dL_act_196 rfl ?_
      refine T_iconst (1) dL_act_198 rfl rfl ?_
      refine T_iald 1 (hS.tr5 (by omega)) rfl (by decide) (by decide) dL_act_199 rfl (hS.g5_1 (by omega)) ?_
      refine T_iconst (2) dL_act_200 rfl rfl ?_
      rw [mpL_at (Nat.le_refl _)]
      refine T_icmp_ne 228 204 dL_act_201 (by decide) rfl (fun c201 => ?_) (fun c201 => ?_)
      ·
        first | refine T_iinc7 rfl (by decide) dL_act_228 rfl (inc1 _) ?_ | refine T_iinc7 rfl (by decide) dL_act_228 rfl rfl ?_
        refine T_goto 182 dL_act_231 (by decide) ?_
        first
          | exact ih (k + 1) _ _ _ (by omega) hC (by rw [← mpL_y (ρ := ρ) (s1 := 0) (w1 := -1) c201 c209]; exact hS.rf) hf (by rw [sm, if_pos ⟨c201, c209⟩, ← ha]; rfl) (by omega)
          | exact ih (k + 1) _ _ _ (by omega) hC (by rw [mpL_n (ρ := ρ) (s1 := 0) (w1 := -1) (fun q => by first | exact c201 q.1 | exact c209 q.2)]; exact hS) hf (by rw [sm, if_neg (fun q => by first | exact c201 q.1 | exact c209 q.2), ← ha]; exact (Int32.add_zero _).symm) (by omega)
      ·
        refine T_aload8 dL_act_204 rfl ?_
        refine T_iconst (2) dL_act_206 rfl rfl ?_
        refine T_iald 2 (hS.tr5 (by omega)) rfl (by decide) (by decide) dL_act_207 rfl (hS.g5_2 (by omega)) ?_
        refine T_iload3 dL_act_208 rfl ?_
        rw [mpL_at (Nat.le_refl _)]
        refine T_icmp_eq 215 212 dL_act_209 (by decide) rfl (fun c209 => ?_) (fun c209 => ?_)
        ·
          refine T_aload8 dL_act_215 rfl ?_
          refine T_iconst (1) dL_act_217 rfl rfl ?_
          refine T_iconst (0) dL_act_218 rfl rfl ?_
          refine T_iast 1 (hS.tr5 (by omega)) rfl (by decide) (by decide) dL_act_219 rfl ?_
          refine T_nm (fun M1 e1 => ?_)
          have hS := SM.mv (hS.p5_1 (by omega)) e1
          have hr5 := hS.inR (f := 5) (i := k) (by decide) (by decide) (by omega)
          have hC := hC.fr (M1 := M1) (fun q g1 g2 => by rw [e1]; exact up_a (by omega))
          have hf : ∀ q, (q < j ∨ e ≤ q) → M1 q = M0 q := fun q g => by rw [e1, up_a (by omega)]; exact hf q g
          refine T_aload8 dL_act_220 rfl ?_
          refine T_iconst (2) dL_act_222 rfl rfl ?_
          refine T_iconst (-1) dL_act_223 rfl rfl ?_
          refine T_iast 2 (hS.tr5 (by omega)) rfl (by decide) (by decide) dL_act_224 rfl ?_
          refine T_nm (fun M2 e2 => ?_)
          have hS := SM.mv (hS.p5_2 (by omega)) e2
          have hC := hC.fr (M1 := M2) (fun q g1 g2 => by rw [e2]; exact up_a (by omega))
          have hf : ∀ q, (q < j ∨ e ≤ q) → M2 q = M0 q := fun q g => by rw [e2, up_a (by omega)]; exact hf q g
          first | refine T_iinc4 rfl (by decide) dL_act_225 rfl (inc1 _) ?_ | refine T_iinc4 rfl (by decide) dL_act_225 rfl rfl ?_
          first | refine T_iinc7 rfl (by decide) dL_act_228 rfl (inc1 _) ?_ | refine T_iinc7 rfl (by decide) dL_act_228 rfl rfl ?_
          refine T_goto 182 dL_act_231 (by decide) ?_
          first
            | exact ih (k + 1) _ _ _ (by omega) hC (by rw [← mpL_y (ρ := ρ) (s1 := 0) (w1 := -1) c201 c209]; exact hS.rf) hf (by rw [sm, if_pos ⟨c201, c209⟩, ← ha]; rfl) (by omega)
            | exact ih (k + 1) _ _ _ (by omega) hC (by rw [mpL_n (ρ := ρ) (s1 := 0) (w1 := -1) (fun q => by first | exact c201 q.1 | exact c209 q.2)]; exact hS) hf (by rw [sm, if_neg (fun q => by first | exact c201 q.1 | exact c209 q.2), ← ha]; exact (Int32.add_zero _).symm) (by omega)
        ·
          refine T_goto 228 dL_act_212 (by decide) ?_
          first | refine T_iinc7 rfl (by decide) dL_act_228 rfl (inc1 _) ?_ | refine T_iinc7 rfl (by decide) dL_act_228 rfl rfl ?_
          refine T_goto 182 dL_act_231 (by decide) ?_
          first
            | exact ih (k + 1) _ _ _ (by omega) hC (by rw [← mpL_y (ρ := ρ) (s1 := 0) (w1 := -1) c201 c209]; exact hS.rf) hf (by rw [sm, if_pos ⟨c201, c209⟩, ← ha]; rfl) (by omega)
            | exact ih (k + 1) _ _ _ (by omega) hC (by rw [mpL_n (ρ := ρ) (s1 := 0) (w1 := -1) (fun q => by first | exact c201 q.1 | exact c209 q.2)]; exact hS) hf (by rw [sm, if_neg (fun q => by first | exact c201 q.1 | exact c209 q.2), ← ha]; exact (Int32.add_zero _).symm) (by omega)
set_option maxHeartbeats 1000000 in
theorem c_L_act {l : Launch} {D : va_G} {cA : Nat → ClassId} {n0 : Nat} {sg adK adV : Nat → Nat} {sgA smA wdA bS LS : Nat} {xs : Nat → Int32} (hX : SF n0 (XW0 sg adK adV sgA smA wdA n0 bS LS xs)) {sz : Nat} {τ : TY} (hl : l.stackTraces = false) {x r p r2 p2 n8 hc wc sc j e : Nat} {A : Nat → Nat} {Rw : Nat → Nat → Nat} {cn : Nat → Nat} {ρ π : RH} {ν : NU} {σ : Nat → Nat} {B : Nat → Nat} {fa : Int32} {μ : Nat → Int32} {κ ω : Nat → Nat → Int32} {M : ME} (hd : e ≤ x ∨ x + 144 ≤ j) (hC : CS sg τ M x r p r2 p2 n8 (cn 3) (cn 4) (cn 5) hc wc sc (ρ) ν π σ B fa) (hS : SM τ M M j e A Rw cn (ρ) (μ) κ ω) (hI : SI (cn 3) (cn 4) (cn 5) ρ) {v : Int32} : CT l D cA n0 (XW0 sg adK adV sgA smA wdA n0 bS LS xs) mL_act 10 2 12 sz τ M [.ref x, .ref j, .int v] (fun v' sz' τ' M' => v' = some (.int 1) ∧ sz' = sz ∧ τ' = τ ∧ ∃ ρ', CS sg τ M' x r p r2 p2 n8 (cn 3) (cn 4) (cn 5) hc wc sc ρ' ν π σ B fa ∧ SM τ M' M' j e A Rw cn ρ' μ κ ω ∧ SI (cn 3) (cn 4) (cn 5) ρ' ∧ ρ' 6 0 = ρ 6 0 ∧ (∀ i, ρ' 31 i = ρ 31 i) ∧ ∀ q, (q < x ∨ x + 144 ≤ q) → (q < j ∨ e ≤ q) → M' q = M q) := by
  refine CT.of (ls := [.ref x, .ref j, .int v, UU, UU, UU, UU, UU, UU]) (by decide) (Nat.le_of_ble_eq_true rfl) rfl ?_
  have hok := hS.ok
  unfold CnOK at hok
  have hin := hS.in0
  refine T_iload2 dL_act_0 rfl ?_
  refine T_iconst (3) dL_act_1 rfl rfl ?_
  refine T_cS2 (mc' := 0) (ms' := 0) (c_L_below hX v (n := 3) (by decide)) hX kL_120 (by decide) (Nat.le_of_ble_eq_true rfl) dL_act_2 rfl ?_
  rintro _ szq τq Mq ⟨rfl, ea, eb, ec⟩
  obtain rfl := ea.symm
  obtain rfl := eb.symm
  obtain rfl := ec.symm
  have q3 : blF v 3 < 3 := bl_lt (by decide)
  generalize blF v 3 = q9 at q3 ⊢
  rcases (by omega : q9 = 0 ∨ q9 = 1 ∨ q9 = 2) with rfl | rfl | rfl
  ·
    refine T_lkp (off := 27) 32 dL_act_5 (by decide +kernel) (by decide +kernel) (by decide) ?_
    refine T_aload1 dL_act_32 rfl ?_
    refine gL_189 _ rfl hS.t0 hS.g0_1 dL_act_33 rfl ?_
    refine T_istore3 rfl (by decide) dL_act_36 rfl ?_
    refine T_aload1 dL_act_37 rfl ?_
    refine T_iload2 dL_act_38 rfl ?_
    refine T_iconst (3) dL_act_39 rfl rfl ?_
    refine T_ishr dL_act_40 rfl ?_
    refine T_bipush (7) dL_act_41 rfl rfl ?_
    refine T_cS2 (mc' := 0) (ms' := 0) (c_L_below hX _ (n := 7) (by decide)) hX kL_120 (by decide) (Nat.le_of_ble_eq_true rfl) dL_act_43 rfl ?_
    rintro _ szq τq Mq ⟨rfl, ea, eb, ec⟩
    obtain rfl := ea.symm
    obtain rfl := eb.symm
    obtain rfl := ec.symm
    refine T_iconst (3) dL_act_46 rfl rfl ?_
    refine T_isub dL_act_47 rfl ?_
    refine pL_189 rfl hS.t0 dL_act_48 rfl ?_
    refine T_nm (fun M1 e1 => ?_)
    have hS := SM.mv hS.p0_1 e1
    have hC := hC.fr (M1 := M1) (fun q g1 g2 => by rw [e1]; exact up_a (by omega))
    have hf : ∀ q, (q < j ∨ e ≤ q) → M1 q = M q := fun q g => by rw [e1]; exact up_a (by omega)
    refine T_aload0 dL_act_51 rfl ?_
    refine T_aload1 dL_act_52 rfl ?_
    refine gL_189 _ rfl hS.t0 hS.g0_1 dL_act_53 rfl ?_
    rw [u2_s]
    refine T_less (bk1 := 0 + 1) (bn1 := 0 + 6) (by omega) (by omega) ?_
    refine q_setWeather hX hl hC (cl3 _ (bl_lt (by decide))) kL_193 (by decide) (Nat.le_of_ble_eq_true rfl) dL_act_56 rfl (fun M3 hC3 hf3 => ?_)
    refine T_iload3 dL_act_59 rfl ?_
    refine T_icmp_ne_f 67 63 dL_act_60 (by decide) rfl rfl ?_
    refine T_iconst (1) dL_act_63 rfl rfl ?_
    refine T_goto 68 dL_act_64 (by decide) ?_
    refine T_iret rfl rfl dL_act_68 ?_
    first
      | exact ⟨rfl, rfl, rfl, _, hC3, (hS.rf).fr (fun q g1 g2 => hf3 q (by omega)), hI.cg (fun f i _ _ _ _ g => u2_f g) (hI.2.2.2.2.2.u (by decide)), u2_f (by decide), fun i => u2_f (by decide), fun q g1 g2 => (hf3 q g1).trans (hf q g2)⟩
      | exact ⟨rfl, rfl, rfl, _, hC3, hS, hI.u12 hh (by omega), u2_f (by decide), fun i => u2_f (by decide), fun q g1 g2 => (hf3 q g1).trans (hf q g2)⟩
  ·
    refine T_lkp (off := 64) 69 dL_act_5 (by decide +kernel) (by decide +kernel) (by decide) ?_
    refine T_aload1 dL_act_69 rfl ?_
    refine gL_41 _ rfl hS.t0 (hS.pa (f := 4) (by decide) (by decide)) dL_act_70 rfl ?_
    refine T_iload2 dL_act_73 rfl ?_
    refine T_iconst (4) dL_act_74 rfl rfl ?_
    refine T_ishr dL_act_75 rfl ?_
    refine T_aload1 dL_act_76 rfl ?_
    refine gL_41 _ rfl hS.t0 (hS.pa (f := 4) (by decide) (by decide)) dL_act_77 rfl ?_
    refine T_alen (j := 8) hS.ta4 (by decide) dL_act_80 rfl ?_
    refine T_cS2 (mc' := 0) (ms' := 0) (c_L_below hX _ (n := cn 4) (by omega)) hX kL_120 (by decide) (Nat.le_of_ble_eq_true rfl) dL_act_81 rfl ?_
    rintro _ szq τq Mq ⟨rfl, ea, eb, ec⟩
    obtain rfl := ea.symm
    obtain rfl := eb.symm
    obtain rfl := ec.symm
    obtain ⟨h, eh⟩ : ∃ h, h = blF (v >>> (4 &&& 31)) (cn 4) := ⟨_, rfl⟩
    have hh : h < cn 4 := by rw [eh]; exact bl_lt (by omega)
    rw [← eh]
    refine T_aaldA h hS.ta4 rfl hh (by omega) dL_act_84 rfl (hS.pr (f := 4) (by decide) (by decide) hh) ?_
    refine T_astore3 rfl (by decide) dL_act_85 rfl ?_
    refine T_iconst (1) dL_act_86 rfl rfl ?_
    refine T_iload2 dL_act_87 rfl ?_
    refine T_bipush (6) dL_act_88 rfl rfl ?_
    refine T_ishr dL_act_90 rfl ?_
    refine T_bipush (9) dL_act_91 rfl rfl ?_
    refine T_cS2 (mc' := 0) (ms' := 0) (c_L_below hX _ (n := 9) (by decide)) hX kL_120 (by decide) (Nat.le_of_ble_eq_true rfl) dL_act_93 rfl ?_
    rintro _ szq τq Mq ⟨rfl, ea, eb, ec⟩
    obtain rfl := ea.symm
    obtain rfl := eb.symm
    obtain rfl := ec.symm
    refine T_iadd dL_act_96 rfl ?_
    rw [show (1 : Int32) + nI (blF (v >>> (6 &&& 31)) 9) = nI (1 + blF (v >>> (6 &&& 31)) 9) from nI_add 1 _]
    refine T_istore4 rfl (by decide) dL_act_97 rfl ?_
    refine T_aload3 dL_act_99 rfl ?_
    refine T_iconst (1) dL_act_100 rfl rfl ?_
    refine T_joinI 123 (fun y => y = minI (ρ 12 h + nI (1 + blF (v >>> (6 &&& 31)) 9)) 9) (fun hJ => ?_) (fun x123 hx123 => ?_)
    ·
      refine T_aload3 dL_act_101 rfl ?_
      refine T_iconst (1) dL_act_102 rfl rfl ?_
      refine T_iald 1 (hS.tr4 hh) rfl (by decide) (by decide) dL_act_103 rfl (hS.g4_1 hh) ?_
      refine T_iload4 dL_act_104 rfl ?_
      refine T_iadd dL_act_106 rfl ?_
      refine T_bipush (9) dL_act_107 rfl rfl ?_
      refine T_icmp_le 117 112 dL_act_109 (by decide) rfl (fun c109 => ?_) (fun c109 => ?_)
      ·
        refine T_aload3 dL_act_117 rfl ?_
        refine T_iconst (1) dL_act_118 rfl rfl ?_
        refine T_iald 1 (hS.tr4 hh) rfl (by decide) (by decide) dL_act_119 rfl (hS.g4_1 hh) ?_
        refine T_iload4 dL_act_120 rfl ?_
        refine T_iadd dL_act_122 rfl ?_
        refine hJ _ ?_
        first | exact mn9l c109 | exact mn9g c109
      ·
        refine T_bipush (9) dL_act_112 rfl rfl ?_
        refine T_goto 123 dL_act_114 (by decide) ?_
        refine hJ _ ?_
        first | exact mn9l c109 | exact mn9g c109
    ·
      subst hx123
      refine T_iast 1 (hS.tr4 (by omega)) rfl (by decide) (by decide) dL_act_123 rfl ?_
      refine T_nm (fun M1 e1 => ?_)
      have hr4 := hS.inR (f := 4) (i := h) (by decide) (by decide) hh
      have hC := hC.fr (M1 := M1) (fun q g1 g2 => by rw [e1]; exact up_a (by omega))
      have hf : ∀ q, (q < j ∨ e ≤ q) → M1 q = M q := fun q g => by rw [e1]; exact up_a (by omega)
      replace hS := (SM.mv (hS.p4_1 hh) e1).rf
      refine T_aload0 dL_act_124 rfl ?_
      refine T_iload2 dL_act_125 rfl ?_
      refine T_iconst (4) dL_act_126 rfl rfl ?_
      refine T_ishr dL_act_127 rfl ?_
      refine T_aload1 dL_act_128 rfl ?_
      refine gL_41 _ rfl hS.t0 (hS.pa (f := 4) (by decide) (by decide)) dL_act_129 rfl ?_
      refine T_alen (j := 8) hS.ta4 (by decide) dL_act_132 rfl ?_
      refine T_cS2 (mc' := 0) (ms' := 0) (c_L_below hX _ (n := cn 4) (by omega)) hX kL_120 (by decide) (Nat.le_of_ble_eq_true rfl) dL_act_133 rfl ?_
      rintro _ szq τq Mq ⟨rfl, ea, eb, ec⟩
      obtain rfl := ea.symm
      obtain rfl := eb.symm
      obtain rfl := ec.symm
      rw [← eh]
      refine T_iload4 dL_act_136 rfl ?_
      refine T_less (bk1 := 0 + 2) (bn1 := 0 + 12) (by omega) (by omega) ?_
      have hw9 : blF (v >>> (6 &&& 31)) 9 < 9 := bl_lt (by decide)
      refine q_forge hX hl hC hh (w := 1 + blF (v >>> (6 &&& 31)) 9) (by omega) kL_196 (by decide) (Nat.le_of_ble_eq_true rfl) dL_act_138 rfl (fun M3 hC3 hf3 => ?_)
      replace hS := hS.fr (M1 := M3) (fun q g1 g2 => hf3 q (by omega))
      refine T_aload3 dL_act_141 rfl ?_
      refine T_iconst (1) dL_act_142 rfl rfl ?_
      refine T_iald 1 (hS.tr4 hh) rfl (by decide) (by decide) dL_act_143 rfl (hS.g4_1 hh) ?_
      refine T_icmp_ne_f 151 147 dL_act_144 (by decide) rfl (u2_s _ _ _ _).symm ?_
      refine T_iconst (1) dL_act_147 rfl rfl ?_
      refine T_goto 152 dL_act_148 (by decide) ?_
      refine T_iret rfl rfl dL_act_152 ?_
      first
        | exact ⟨rfl, rfl, rfl, _, hC3, (hS.rf).fr (fun q g1 g2 => hf3 q (by omega)), hI.cg (fun f i _ _ _ _ g => u2_f g) (hI.2.2.2.2.2.u (by decide)), u2_f (by decide), fun i => u2_f (by decide), fun q g1 g2 => (hf3 q g1).trans (hf q g2)⟩
        | exact ⟨rfl, rfl, rfl, _, hC3, hS, hI.u12 hh (by omega), u2_f (by decide), fun i => u2_f (by decide), fun q g1 g2 => (hf3 q g1).trans (hf q g2)⟩
  ·
    refine T_lkp (off := 148) 153 dL_act_5 (by decide +kernel) (by decide +kernel) (by decide) ?_
    refine T_iload2 dL_act_153 rfl ?_
    refine T_iconst (4) dL_act_154 rfl rfl ?_
    refine T_ishr dL_act_155 rfl ?_
    refine T_aload1 dL_act_156 rfl ?_
    refine gL_56 _ rfl hS.t0 (hS.pa (f := 3) (by decide) (by decide)) dL_act_157 rfl ?_
    refine T_alen (j := 8) hS.ta3 (by decide) dL_act_160 rfl ?_
    refine T_cS2 (mc' := 0) (ms' := 0) (c_L_below hX _ (n := cn 3) (by omega)) hX kL_120 (by decide) (Nat.le_of_ble_eq_true rfl) dL_act_161 rfl ?_
    rintro _ szq τq Mq ⟨rfl, ea, eb, ec⟩
    obtain rfl := ea.symm
    obtain rfl := eb.symm
    obtain rfl := ec.symm
    obtain ⟨t, et⟩ : ∃ t, t = blF (v >>> (4 &&& 31)) (cn 3) := ⟨_, rfl⟩
    have ht : t < cn 3 := by rw [et]; exact bl_lt (by omega)
    rw [← et]
    refine T_istore3 rfl (by decide) dL_act_164 rfl ?_
    refine T_iconst (0) dL_act_165 rfl rfl ?_
    refine T_istore4 rfl (by decide) dL_act_166 rfl ?_
    refine T_aload1 dL_act_168 rfl ?_
    refine gL_153 _ rfl hS.t0 (hS.pa (f := 5) (by decide) (by decide)) dL_act_169 rfl ?_
    refine T_astore5 rfl (by decide) dL_act_172 rfl ?_
    refine T_aload5 dL_act_174 rfl ?_
    refine T_alen (j := 8) hS.ta5 (by decide) dL_act_176 rfl ?_
    refine T_istore6 rfl (by decide) dL_act_177 rfl ?_
    skip
    refine T_iconst (0) dL_act_179 rfl rfl ?_
    refine T_istore7 rfl (by decide) dL_act_180 rfl ?_
    exact L_L_act hX hl (M0 := M) hd hI ht (cn 5 + 1) 0 0 M UU (Nat.zero_le _) hC (by rw [mpL_0]; exact hS) (fun _ _ => rfl) rfl (by omega)
