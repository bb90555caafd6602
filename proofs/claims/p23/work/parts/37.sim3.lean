theorem u2_same {ρ : RH} {f i : Nat} {x : Int32} (h : ρ f i = x) : u2 ρ f i x = ρ := by
  funext g k
  simp only [u2]; split
  · rename_i q; rw [q.1, q.2, h]
  · rfl
/-- the plan that the class has read is the plan of the law's own road -/
def PE (cn : Nat → Nat) (sp : Nat → Nat) (π : RH) (κ ω : Nat → Nat → Int32) : Prop :=
  (∀ i, i < cn 6 → ∃ hh kd n v, (κ i 0 = nI hh ∧ hh < cn 4) ∧ (κ i 1 = nI kd ∧ kd < 6) ∧ (κ i 2 = nI n ∧ n < 100) ∧ (κ i 3 = nI v ∧ v < 10) ∧ π 50 i = nI hh ∧ (∀ ρ, vxF (cn 5) ρ sp (π 70) (π 52 i) (π 53 i) = smF cn ρ kd n v) ∧
    ((κ i 4 = -1 ∧ π 53 i = π 54 i) ∨ ∃ kc m u, (κ i 4 = nI kc ∧ kc < 7) ∧ (κ i 5 = nI m ∧ m < 60) ∧ (κ i 6 = nI u ∧ u < 10) ∧ ¬ π 53 i = π 54 i ∧ ∀ ρ, (vxF (cn 5) ρ sp (π 70) (π 53 i) (π 54 i) = 0 ↔ hlF cn ρ kc m u = 0))) ∧
  (∀ i, i < cn 7 → ∃ hh t kc m u, ω i 0 = nI hh ∧ ω i 1 = nI t ∧ (ω i 2 = nI kc ∧ kc < 7) ∧ (ω i 3 = nI m ∧ m < 60) ∧ (ω i 4 = nI u ∧ u < 10) ∧ π 55 i = nI hh ∧ π 56 i = nI t ∧ ∀ ρ, (vxF (cn 5) ρ sp (π 70) (π 57 i) (π 59 i) = 0 ↔ hlF cn ρ kc m u = 0))
def ldC (c : Nat) (ρ : RH) (j : Nat) (x : Int32) : RH := if (psC ρ (nI j) x c).2.2 = 0 then (psC ρ (nI j) x c).1 else standC (psC ρ (nI j) x c).1 j 0 1 0
def ldM (c : Nat) (ρ : RH) (μ : Nat → Int32) (j : Nat) (x : Int32) : Nat → Int32 := if (psC ρ (nI j) x c).2.2 = 0 then μ else uI μ j 1
theorem ps_0w {c : Nat} {ρ : RH} {x : Int32} (hw : ∀ l, l < c → 1 ≤ ρ 31 l) : ∀ k, k ≤ c → psC ρ x 0 k = (ρ, 0, 0)
  | 0, _ => rfl
  | k + 1, hk => by
    have e := ps_0w (x := x) hw k (by omega)
    rw [psC_n (fun q => ?_), e]
    have q3 := q.2.2
    rw [e] at q3
    have w := hw k (by omega)
    have q4 : ρ 31 k ≤ 0 := by have : (0 : Int32) + ρ 31 k = ρ 31 k := Int32.zero_add _; rw [← this]; exact q3
    exact absurd (Int32.le_trans w q4) (by decide)
theorem ld_sg {c hc j : Nat} {σ : Nat → Nat} {π ρ : RH} : ∀ f i, f ≠ 20 → ldC c ρ j (mwG c ρ σ π (nI j) 0 hc) f i = sgC c hc σ π ρ j f i := fun f i hf => by
  unfold ldC sgC psR
  by_cases e : (psC ρ (nI j) (mwG c ρ σ π (nI j) 0 hc) c).2.2 = 0
  · rw [if_pos e, if_pos e, if_pos rfl]
  · rw [if_neg e, if_neg e, if_neg (by decide), u2_f hf]
theorem sm_up {f g : Nat → Int32} {k : Nat} {d : Int32} (hk : g k = f k + d) (ho : ∀ i, i ≠ k → g i = f i) : ∀ n, sm g n = sm f n + (if k < n then d else 0)
  | 0 => by rw [sm, sm, if_neg (Nat.not_lt_zero k)]; rfl
  | n + 1 => by
    rw [sm, sm, sm_up hk ho n]
    by_cases e : n = k
    · subst e
      rw [if_neg (Nat.lt_irrefl n), if_pos (Nat.lt_succ_self n), hk, Int32.add_zero, Int32.add_assoc]
    · rw [ho n e]
      by_cases h : k < n
      · rw [if_pos h, if_pos (by omega), Int32.add_assoc, Int32.add_assoc, Int32.add_comm d]
      · rw [if_neg h, if_neg (by omega), Int32.add_zero, Int32.add_zero]
theorem ps_31 {ρ : RH} {x m : Int32} {k l : Nat} : (psC ρ x m k).1 31 l = ρ 31 l := psC_f (by decide)
theorem ps_20 {ρ : RH} {x m : Int32} {k l : Nat} : (psC ρ x m k).1 20 l = ρ 20 l := psC_f (by decide)
theorem ld_ps {c : Nat} {ρ : RH} {x m : Int32} (h0 : ldOf c ρ x = 0) : ∀ k, k ≤ c → ldOf c (psC ρ x m k).1 x = (psC ρ x m k).2.1
  | 0, _ => h0
  | k + 1, hk => by
    have ih := ld_ps (m := m) h0 k (by omega)
    by_cases h : (psC ρ x m k).2.2 < 5 ∧ ρ 32 k = 0 ∧ (psC ρ x m k).2.1 + ρ 31 k ≤ m
    · rw [psC_y h.1 h.2.1 h.2.2]
      show ldOf c (lieC (psC ρ x m k).1 k 1 x) x = (psC ρ x m k).2.1 + ρ 31 k
      rw [← ih]
      unfold ldOf
      rw [sm_up (k := k) (d := ρ 31 k) (f := fun l => if (psC ρ x m k).1 32 l = 1 ∧ (psC ρ x m k).1 33 l = x then (psC ρ x m k).1 31 l else 0), if_pos (by omega)]
      · show (if lieC (psC ρ x m k).1 k 1 x 32 k = 1 ∧ lieC (psC ρ x m k).1 k 1 x 33 k = x then lieC (psC ρ x m k).1 k 1 x 31 k else 0) = (if (psC ρ x m k).1 32 k = 1 ∧ (psC ρ x m k).1 33 k = x then (psC ρ x m k).1 31 k else 0) + ρ 31 k
        have e1 : lieC (psC ρ x m k).1 k 1 x 32 k = 1 := by unfold lieC; rw [u2_f (by decide), u2_s]
        have e2 : lieC (psC ρ x m k).1 k 1 x 33 k = x := by unfold lieC; rw [u2_s]
        have e3 : lieC (psC ρ x m k).1 k 1 x 31 k = ρ 31 k := by unfold lieC; rw [u2_f (by decide), u2_f (by decide), ps_31]
        have e4 : ¬ ((psC ρ x m k).1 32 k = 1 ∧ (psC ρ x m k).1 33 k = x) := fun q => by
          have q1 := q.1
          rw [psC_at (Nat.le_refl _), h.2.1] at q1
          exact absurd q1 (by decide)
        rw [if_pos ⟨e1, e2⟩, if_neg e4, e3, Int32.zero_add]
      · intro i hi
        show (if lieC (psC ρ x m k).1 k 1 x 32 i = 1 ∧ lieC (psC ρ x m k).1 k 1 x 33 i = x then lieC (psC ρ x m k).1 k 1 x 31 i else 0) = (if (psC ρ x m k).1 32 i = 1 ∧ (psC ρ x m k).1 33 i = x then (psC ρ x m k).1 31 i else 0)
        have e : ∀ f, lieC (psC ρ x m k).1 k 1 x f i = (psC ρ x m k).1 f i := fun f => by unfold lieC; rw [u2_i hi, u2_i hi]
        rw [e, e, e]
    · rw [psC_n h]; exact ih
theorem ps5 {ρ : RH} {x m : Int32} {k : Nat} (h : nI (psC ρ x m k).2.2 = 5) : (psC ρ x m k).2.2 = 5 := (nI_eq (a := (psC ρ x m k).2.2) (b := 5) (by have := @psC_5 ρ x m k; omega) (by decide)).mp h
theorem ps5n {ρ : RH} {x m : Int32} {k : Nat} (h : ¬ nI (psC ρ x m k).2.2 = 5) : (psC ρ x m k).2.2 < 5 := Nat.lt_of_le_of_ne psC_5 (fun z => h (by rw [z]; rfl))
set_option maxHeartbeats 1000000 in
theorem L2_X11_haul {l : Launch} {D : va_G} {cA : Nat → ClassId} {n0 : Nat} {XW : State → Heap → Prop} (hX : SF n0 XW) {sz : Nat} {τ : TY} {M0 : ME} {j e : Nat} {A : Nat → Nat} {Rw : Nat → Nat → Nat} {cn : Nat → Nat} {ρ : RH} {μ : Nat → Int32} {κ ω : Nat → Nat → Int32} {i q : Nat} (hi : i < cn 4) (hq : q < cn 6) (h0 : ldOf (cn 5) ρ (nI i) = 0) (x : Int32) : ∀ (n : Nat) (k : Nat) (Mk : ME) (u : Value) (hk : k ≤ cn 5) (hS : SM τ M0 Mk j e A Rw cn ((psC ρ (nI i) x k).1) (μ) κ ω), cn 5 - k < n → T l D cA n0 XW mX11_haul 6 0 0 sz τ Mk 86 [.ref j, .int (nI i), .ref (A 6), .int (nI (cn 6)), .int (nI q), .ref (Rw 6 q), .int x, .int (nI (psC ρ (nI i) x k).2.2), .ref (A 5), .int (nI (cn 5)), .int (nI k), u] [] (fun v' sz' τ' M' => v' = none ∧ sz' = sz ∧ τ' = τ ∧ SM τ M0 M' j e A Rw cn (ldC (cn 5) ρ i x) (ldM (cn 5) ρ μ i x) κ ω) (fun _ _ _ _ => False) := by
  intro n
  induction n with
  | zero => intros; omega
  | succ n ih =>
    intro k Mk u hk hS hn
    have hok := hS.ok
    unfold CnOK at hok
    refine T_iload10 dX11_haul_86 rfl ?_
    refine T_iload9 dX11_haul_88 rfl ?_
    refine T_icmp_ge 150 93 dX11_haul_90 (by decide) rfl (fun c9 => ?_) (fun c9 => ?_)
    ·
      have c9 := le_out rfl c9
      refine T_iload7 dX11_haul_150 rfl ?_
      refine T_if_le 193 155 dX11_haul_152 (by decide) rfl (fun c152 => ?_) (fun c152 => ?_)
      ·
        refine T_vret rfl dX11_haul_193 ?_
        have e9 : psC ρ (nI i) x (cn 5) = psC ρ (nI i) x k := congrArg (psC ρ (nI i) x) (show cn 5 = k by omega)
        have e5 := @psC_5 ρ (nI i) x k
        first
          | (have e0 : (psC ρ (nI i) x k).2.2 = 0 := Nat.le_zero.mp ((nI_leI (b := 0) (by omega) (by decide)).mp c152)
             exact ⟨rfl, rfl, rfl, by unfold ldC ldM; rw [e9, if_pos e0, if_pos e0]; exact hS⟩)
          | (have e0 : ¬ (psC ρ (nI i) x k).2.2 = 0 := fun q => c152 (by rw [q]; decide)
             exact ⟨rfl, rfl, rfl, by unfold ldC ldM; rw [e9, if_neg e0, if_neg e0]; exact hS⟩)
      ·
        refine T_aload0 dX11_haul_155 rfl ?_
        refine g11_15 _ rfl hS.t0 (hS.pa (f := 4) (by decide) (by decide)) dX11_haul_156 rfl ?_
        refine T_iload1 dX11_haul_159 rfl ?_
        refine T_aaldA _ hS.ta4 rfl (by omega) (by omega) dX11_haul_160 rfl (hS.pr (f := 4) (by decide) (by decide) (by omega)) ?_
        refine T_iconst (4) dX11_haul_161 rfl rfl ?_
        refine T_iconst (0) dX11_haul_162 rfl rfl ?_
        refine T_iast 4 (hS.tr4 (by omega)) rfl (by decide) (by decide) dX11_haul_163 rfl ?_
        refine T_nm (fun M1 e1 => ?_)
        have hS := SM.mv (hS.p4_4 (by omega)) e1
        refine T_aload0 dX11_haul_164 rfl ?_
        refine g11_15 _ rfl hS.t0 (hS.pa (f := 4) (by decide) (by decide)) dX11_haul_165 rfl ?_
        refine T_iload1 dX11_haul_168 rfl ?_
        refine T_aaldA _ hS.ta4 rfl (by omega) (by omega) dX11_haul_169 rfl (hS.pr (f := 4) (by decide) (by decide) (by omega)) ?_
        refine T_iconst (5) dX11_haul_170 rfl rfl ?_
        refine T_iconst (1) dX11_haul_171 rfl rfl ?_
        refine T_iast 5 (hS.tr4 (by omega)) rfl (by decide) (by decide) dX11_haul_172 rfl ?_
        refine T_nm (fun M2 e2 => ?_)
        have hS := SM.mv (hS.p4_5 (by omega)) e2
        refine T_aload0 dX11_haul_173 rfl ?_
        refine g11_15 _ rfl hS.t0 (hS.pa (f := 4) (by decide) (by decide)) dX11_haul_174 rfl ?_
        refine T_iload1 dX11_haul_177 rfl ?_
        refine T_aaldA _ hS.ta4 rfl (by omega) (by omega) dX11_haul_178 rfl (hS.pr (f := 4) (by decide) (by decide) (by omega)) ?_
        refine T_bipush (6) dX11_haul_179 rfl rfl ?_
        refine T_iconst (0) dX11_haul_181 rfl rfl ?_
        refine T_iast 6 (hS.tr4 (by omega)) rfl (by decide) (by decide) dX11_haul_182 rfl ?_
        refine T_nm (fun M3 e3 => ?_)
        have hS := SM.mv (hS.p4_6 (by omega)) e3
        refine T_aload0 dX11_haul_183 rfl ?_
        refine g11_15 _ rfl hS.t0 (hS.pa (f := 4) (by decide) (by decide)) dX11_haul_184 rfl ?_
        refine T_iload1 dX11_haul_187 rfl ?_
        refine T_aaldA _ hS.ta4 rfl (by omega) (by omega) dX11_haul_188 rfl (hS.pr (f := 4) (by decide) (by decide) (by omega)) ?_
        refine T_bipush (9) dX11_haul_189 rfl rfl ?_
        refine T_iconst (1) dX11_haul_191 rfl rfl ?_
        refine T_iast 9 (hS.tr4 (by omega)) rfl (by decide) (by decide) dX11_haul_192 rfl ?_
        refine T_nm (fun M4 e4 => ?_)
        have hS := SM.mv (hS.p4_9 (by omega)) e4
        refine T_vret rfl dX11_haul_193 ?_
        have e9 : psC ρ (nI i) x (cn 5) = psC ρ (nI i) x k := congrArg (psC ρ (nI i) x) (show cn 5 = k by omega)
        have e5 := @psC_5 ρ (nI i) x k
        first
          | (have e0 : (psC ρ (nI i) x k).2.2 = 0 := Nat.le_zero.mp ((nI_leI (b := 0) (by omega) (by decide)).mp c152)
             exact ⟨rfl, rfl, rfl, by unfold ldC ldM; rw [e9, if_pos e0, if_pos e0]; exact hS⟩)
          | (have e0 : ¬ (psC ρ (nI i) x k).2.2 = 0 := fun q => c152 (by rw [q]; decide)
             exact ⟨rfl, rfl, rfl, by unfold ldC ldM; rw [e9, if_neg e0, if_neg e0]; exact hS⟩)
    ·
      have c9 := lt_in rfl c9
      refine T_aload8 dX11_haul_93 rfl ?_
      refine T_iload10 dX11_haul_95 rfl ?_
      refine T_aaldA _ hS.ta5 rfl (by omega) (by omega) dX11_haul_97 rfl (hS.pr (f := 5) (by decide) (by decide) (by omega)) ?_
      refine T_astore11 rfl (by decide) dX11_haul_98 rfl ?_
      refine T_aload11 dX11_haul_100 rfl ?_
      refine T_iconst (1) dX11_haul_102 rfl rfl ?_
      refine T_iald 1 (hS.tr5 (by omega)) rfl (by decide) (by decide) dX11_haul_103 rfl (hS.g5_1 (by omega)) ?_
      rw [psC_at (Nat.le_refl _)]
      refine T_if_ne 144 107 dX11_haul_104 (by decide) rfl (fun c104 => ?_) (fun c104 => ?_)
      ·
        first | refine T_iinc10 rfl (by decide) dX11_haul_144 rfl (inc1 _) ?_ | refine T_iinc10 rfl (by decide) dX11_haul_144 rfl rfl ?_
        refine T_goto 86 dX11_haul_147 (by decide) ?_
        first
          | (have ee := psC_y c110 c104 c125
             have h := ih (k + 1) _ (.ref (Rw 5 k)) (by omega) (by rw [ee]; exact hS) (by omega)
             rw [ee] at h
             exact h)
          | (have ee : psC ρ (nI i) x (k + 1) = psC ρ (nI i) x k := psC_n (fun q => by first | exact c104 q.2.1 | exact absurd q.1 (by omega) | exact c125 q.2.2)
             have h := ih (k + 1) _ (.ref (Rw 5 k)) (by omega) (by rw [ee]; exact hS) (by omega)
             rw [ee] at h
             exact h)
      ·
        refine T_iload7 dX11_haul_107 rfl ?_
        refine T_iconst (5) dX11_haul_109 rfl rfl ?_
        refine T_icmp_eq 144 113 dX11_haul_110 (by decide) rfl (fun c110 => ?_) (fun c110 => ?_)
        ·
          have c110 := ps5 c110
          first | refine T_iinc10 rfl (by decide) dX11_haul_144 rfl (inc1 _) ?_ | refine T_iinc10 rfl (by decide) dX11_haul_144 rfl rfl ?_
          refine T_goto 86 dX11_haul_147 (by decide) ?_
          first
            | (have ee := psC_y c110 c104 c125
               have h := ih (k + 1) _ (.ref (Rw 5 k)) (by omega) (by rw [ee]; exact hS) (by omega)
               rw [ee] at h
               exact h)
            | (have ee : psC ρ (nI i) x (k + 1) = psC ρ (nI i) x k := psC_n (fun q => by first | exact c104 q.2.1 | exact absurd q.1 (by omega) | exact c125 q.2.2)
               have h := ih (k + 1) _ (.ref (Rw 5 k)) (by omega) (by rw [ee]; exact hS) (by omega)
               rw [ee] at h
               exact h)
        ·
          have c110 := ps5n c110
          refine T_aload0 dX11_haul_113 rfl ?_
          refine T_iload1 dX11_haul_114 rfl ?_
          refine T_cV1 (c_X11_load hX hS (nI_pos (by omega))) hX k11_31 (Or.inl ⟨_, _, _, _, hS.t0, by decide, rfl⟩) (by decide) (Nat.le_of_ble_eq_true rfl) dX11_haul_115 rfl ?_
          rintro _ _ _ _ ⟨rfl, rfl, rfl, rfl⟩
          rw [ld_ps h0 k hk]
          refine T_aload11 dX11_haul_118 rfl ?_
          refine T_iconst (0) dX11_haul_120 rfl rfl ?_
          refine T_iald 0 (hS.tr5 (by omega)) rfl (by decide) (by decide) dX11_haul_121 rfl (hS.g5_0 (by omega)) ?_
          rw [ps_31]
          refine T_iadd dX11_haul_122 rfl ?_
          refine T_iload6 dX11_haul_123 rfl ?_
          refine T_icmp_le 131 128 dX11_haul_125 (by decide) rfl (fun c125 => ?_) (fun c125 => ?_)
          ·
            refine T_aload11 dX11_haul_131 rfl ?_
            refine T_iconst (1) dX11_haul_133 rfl rfl ?_
            refine T_iconst (1) dX11_haul_134 rfl rfl ?_
            refine T_iast 1 (hS.tr5 (by omega)) rfl (by decide) (by decide) dX11_haul_135 rfl ?_
            refine T_nm (fun M5 e5 => ?_)
            have hS := SM.mv (hS.p5_1 (by omega)) e5
            refine T_aload11 dX11_haul_136 rfl ?_
            refine T_iconst (2) dX11_haul_138 rfl rfl ?_
            refine T_iload1 dX11_haul_139 rfl ?_
            refine T_iast 2 (hS.tr5 (by omega)) rfl (by decide) (by decide) dX11_haul_140 rfl ?_
            refine T_nm (fun M6 e6 => ?_)
            have hS := SM.mv (hS.p5_2 (by omega)) e6
            first | refine T_iinc7 rfl (by decide) dX11_haul_141 rfl (inc1 _) ?_ | refine T_iinc7 rfl (by decide) dX11_haul_141 rfl rfl ?_
            first | refine T_iinc10 rfl (by decide) dX11_haul_144 rfl (inc1 _) ?_ | refine T_iinc10 rfl (by decide) dX11_haul_144 rfl rfl ?_
            refine T_goto 86 dX11_haul_147 (by decide) ?_
            first
              | (have ee := psC_y c110 c104 c125
                 have h := ih (k + 1) _ (.ref (Rw 5 k)) (by omega) (by rw [ee]; exact hS) (by omega)
                 rw [ee] at h
                 exact h)
              | (have ee : psC ρ (nI i) x (k + 1) = psC ρ (nI i) x k := psC_n (fun q => by first | exact c104 q.2.1 | exact absurd q.1 (by omega) | exact c125 q.2.2)
                 have h := ih (k + 1) _ (.ref (Rw 5 k)) (by omega) (by rw [ee]; exact hS) (by omega)
                 rw [ee] at h
                 exact h)
          ·
            refine T_goto 144 dX11_haul_128 (by decide) ?_
            first | refine T_iinc10 rfl (by decide) dX11_haul_144 rfl (inc1 _) ?_ | refine T_iinc10 rfl (by decide) dX11_haul_144 rfl rfl ?_
            refine T_goto 86 dX11_haul_147 (by decide) ?_
            first
              | (have ee := psC_y c110 c104 c125
                 have h := ih (k + 1) _ (.ref (Rw 5 k)) (by omega) (by rw [ee]; exact hS) (by omega)
                 rw [ee] at h
                 exact h)
              | (have ee : psC ρ (nI i) x (k + 1) = psC ρ (nI i) x k := psC_n (fun q => by first | exact c104 q.2.1 | exact absurd q.1 (by omega) | exact c125 q.2.2)
                 have h := ih (k + 1) _ (.ref (Rw 5 k)) (by omega) (by rw [ee]; exact hS) (by omega)
                 rw [ee] at h
                 exact h)
set_option maxHeartbeats 1000000 in
theorem L_X11_haul {l : Launch} {D : va_G} {cA : Nat → ClassId} {n0 : Nat} {XW : State → Heap → Prop} (hX : SF n0 XW) {sz : Nat} {τ : TY} {M0 M : ME} {j e : Nat} {A : Nat → Nat} {Rw : Nat → Nat → Nat} {cn : Nat → Nat} {ρ : RH} {μ : Nat → Int32} {κ ω : Nat → Nat → Int32} (hS : SM τ M0 M j e A Rw cn ρ μ κ ω) {sp : Nat → Nat} {π : RH} (hPE : PE cn sp π κ ω) {i : Nat} (hi : i < cn 4) (h0 : ldOf (cn 5) ρ (nI i) = 0) (hw : ∀ y, y < cn 5 → 1 ≤ ρ 31 y) : ∀ (n : Nat) (q : Nat) (u : Value) (hq : q ≤ cn 6), cn 6 - q < n → T l D cA n0 XW mX11_haul 6 0 0 sz τ M 11 [.ref j, .int (nI i), .ref (A 6), .int (nI (cn 6)), .int (nI q), u, UU, UU, UU, UU, UU, UU] [] (fun v' sz' τ' M' => v' = none ∧ sz' = sz ∧ τ' = τ ∧ SM τ M0 M' j e A Rw cn (ldC (cn 5) ρ i (mwG (cn 5) ρ sp π (nI i) q (cn 6 - q))) (ldM (cn 5) ρ μ i (mwG (cn 5) ρ sp π (nI i) q (cn 6 - q))) κ ω) (fun _ _ _ _ => False) := by
  intro n
  induction n with
  | zero => intros; omega
  | succ n ih =>
    intro q u hq hn
    have hok := hS.ok
    unfold CnOK at hok
    refine T_iload4 dX11_haul_11 rfl ?_
    refine T_iload3 dX11_haul_13 rfl ?_
    refine T_icmp_ge 200 17 dX11_haul_14 (by decide) rfl (fun c14 => ?_) (fun c14 => ?_)
    ·
      have c14 := le_out rfl c14
      refine T_vret rfl dX11_haul_200 ?_
      rw [mwG_0 c14]
      have e := ps_0w (x := nI i) hw (cn 5) (Nat.le_refl _)
      refine ⟨rfl, rfl, rfl, ?_⟩
      unfold ldC ldM
      rw [e, if_pos rfl, if_pos rfl]
      exact hS
    ·
      have c14 := lt_in rfl c14
      obtain ⟨hh, kd, n, v, ⟨k0, kh⟩, ⟨k1, k1b⟩, ⟨k2, k2b⟩, ⟨k3, k3b⟩, p50, pv, pc⟩ := hPE.1 q c14
      refine T_aload2 dX11_haul_17 rfl ?_
      refine T_iload4 dX11_haul_18 rfl ?_
      refine T_aaldA _ hS.ta6 rfl (by omega) (by omega) dX11_haul_20 rfl (hS.pr (f := 6) (by decide) (by decide) (by omega)) ?_
      refine T_astore5 rfl (by decide) dX11_haul_21 rfl ?_
      refine T_aload5 dX11_haul_23 rfl ?_
      refine T_iconst (0) dX11_haul_25 rfl rfl ?_
      refine T_iald 0 (hS.tr6 (by omega)) rfl (by decide) (by decide) dX11_haul_26 rfl (hS.g6_0 (by omega)) ?_
      refine T_iload1 dX11_haul_27 rfl ?_
      refine T_icmp_ne 194 31 dX11_haul_28 (by decide) rfl (fun c28 => ?_) (fun c28 => ?_)
      ·
        first | refine T_iinc4 rfl (by decide) dX11_haul_194 rfl (inc1 _) ?_ | refine T_iinc4 rfl (by decide) dX11_haul_194 rfl rfl ?_
        refine T_goto 11 dX11_haul_197 (by decide) ?_
        rw [mwG_n c14 (fun z => by first | exact c28 (k0.trans (p50.symm.trans z.1)) | exact z.2.elim qne (fun z2 => z2 ((qv ρ).mpr c55)))]
        exact ih (q + 1) _ (by omega) (by omega)
      ·
        refine T_aload5 dX11_haul_31 rfl ?_
        refine T_iconst (4) dX11_haul_33 rfl rfl ?_
        refine T_iald 4 (hS.tr6 (by omega)) rfl (by decide) (by decide) dX11_haul_34 rfl (hS.g6_4 (by omega)) ?_
        refine T_if_lt 61 38 dX11_haul_35 (by decide) rfl (fun c35 => ?_) (fun c35 => ?_)
        ·
          have pc1 := pc.resolve_right (fun ⟨kc, _, _, z, _⟩ => by rw [z.1] at c35; exact nI_pos (by omega) c35)
          refine T_aload0 dX11_haul_61 rfl ?_
          refine T_aload5 dX11_haul_62 rfl ?_
          refine T_cV1 (c_X11_sum hX hS c14 k1 k1b k2 k3 k3b) hX k11_57 (Or.inl ⟨_, _, _, _, hS.t0, by decide, rfl⟩) (by decide) (Nat.le_of_ble_eq_true rfl) dX11_haul_64 rfl ?_
          rintro _ _ _ _ ⟨rfl, rfl, rfl, rfl⟩
          refine T_istore6 rfl (by decide) dX11_haul_67 rfl ?_
          refine T_iconst (0) dX11_haul_69 rfl rfl ?_
          refine T_istore7 rfl (by decide) dX11_haul_70 rfl ?_
          refine T_aload0 dX11_haul_72 rfl ?_
          refine g11_18 _ rfl hS.t0 (hS.pa (f := 5) (by decide) (by decide)) dX11_haul_73 rfl ?_
          refine T_astore8 rfl (by decide) dX11_haul_76 rfl ?_
          refine T_aload8 dX11_haul_78 rfl ?_
          refine T_alen (j := 8) hS.ta5 (by decide) dX11_haul_80 rfl ?_
          refine T_istore9 rfl (by decide) dX11_haul_81 rfl ?_
          refine T_iconst (0) dX11_haul_83 rfl rfl ?_
          refine T_istore10 rfl (by decide) dX11_haul_84 rfl ?_
          have hp : π 50 q = nI i := by rw [p50, ← k0]; exact c28
          have hcd : π 53 q = π 54 q ∨ ¬ vxF (cn 5) ρ sp (π 70) (π 53 q) (π 54 q) = 0 := by first | exact Or.inl pc1.2 | exact Or.inr (fun z => c55 ((qv ρ).mp z))
          rw [mwG_y c14 hp hcd, pv ρ]
          exact L2_X11_haul hX hi c14 h0 _ (cn 5 + 1) 0 _ UU (Nat.zero_le _) hS (by omega)
        ·
          obtain ⟨kc, mm, uu, ⟨q4, q4b⟩, ⟨q5, q5b⟩, ⟨q6, q6b⟩, qne, qv⟩ := pc.resolve_left (fun z => c35 (by rw [z.1]; decide))
          refine T_aload0 dX11_haul_38 rfl ?_
          refine T_aload5 dX11_haul_39 rfl ?_
          refine T_iconst (4) dX11_haul_41 rfl rfl ?_
          refine T_iald 4 (hS.tr6 (by omega)) rfl (by decide) (by decide) dX11_haul_42 rfl (hS.g6_4 (by omega)) ?_
          refine T_aload5 dX11_haul_43 rfl ?_
          refine T_iconst (5) dX11_haul_45 rfl rfl ?_
          refine T_iald 5 (hS.tr6 (by omega)) rfl (by decide) (by decide) dX11_haul_46 rfl (hS.g6_5 (by omega)) ?_
          refine T_aload5 dX11_haul_47 rfl ?_
          refine T_bipush (6) dX11_haul_49 rfl rfl ?_
          refine T_iald 6 (hS.tr6 (by omega)) rfl (by decide) (by decide) dX11_haul_51 rfl (hS.g6_6 (by omega)) ?_
          rw [q4, q5, q6]
          refine T_cV3 (c_X11_holds hX hS q4b q5b q6b) hX k11_53 (Or.inl ⟨_, _, _, _, hS.t0, by decide, rfl⟩) (by decide) (Nat.le_of_ble_eq_true rfl) dX11_haul_52 rfl ?_
          rintro _ _ _ _ ⟨rfl, rfl, rfl, rfl⟩
          refine T_if_ne 61 58 dX11_haul_55 (by decide) rfl (fun c55 => ?_) (fun c55 => ?_)
          ·
            refine T_aload0 dX11_haul_61 rfl ?_
            refine T_aload5 dX11_haul_62 rfl ?_
            refine T_cV1 (c_X11_sum hX hS c14 k1 k1b k2 k3 k3b) hX k11_57 (Or.inl ⟨_, _, _, _, hS.t0, by decide, rfl⟩) (by decide) (Nat.le_of_ble_eq_true rfl) dX11_haul_64 rfl ?_
            rintro _ _ _ _ ⟨rfl, rfl, rfl, rfl⟩
            refine T_istore6 rfl (by decide) dX11_haul_67 rfl ?_
            refine T_iconst (0) dX11_haul_69 rfl rfl ?_
            refine T_istore7 rfl (by decide) dX11_haul_70 rfl ?_
            refine T_aload0 dX11_haul_72 rfl ?_
            refine g11_18 _ rfl hS.t0 (hS.pa (f := 5) (by decide) (by decide)) dX11_haul_73 rfl ?_
            refine T_astore8 rfl (by decide) dX11_haul_76 rfl ?_
            refine T_aload8 dX11_haul_78 rfl ?_
            refine T_alen (j := 8) hS.ta5 (by decide) dX11_haul_80 rfl ?_
            refine T_istore9 rfl (by decide) dX11_haul_81 rfl ?_
            refine T_iconst (0) dX11_haul_83 rfl rfl ?_
            refine T_istore10 rfl (by decide) dX11_haul_84 rfl ?_
            have hp : π 50 q = nI i := by rw [p50, ← k0]; exact c28
            have hcd : π 53 q = π 54 q ∨ ¬ vxF (cn 5) ρ sp (π 70) (π 53 q) (π 54 q) = 0 := by first | exact Or.inl pc1.2 | exact Or.inr (fun z => c55 ((qv ρ).mp z))
            rw [mwG_y c14 hp hcd, pv ρ]
            exact L2_X11_haul hX hi c14 h0 _ (cn 5 + 1) 0 _ UU (Nat.zero_le _) hS (by omega)
          ·
            refine T_goto 194 dX11_haul_58 (by decide) ?_
            first | refine T_iinc4 rfl (by decide) dX11_haul_194 rfl (inc1 _) ?_ | refine T_iinc4 rfl (by decide) dX11_haul_194 rfl rfl ?_
            refine T_goto 11 dX11_haul_197 (by decide) ?_
            rw [mwG_n c14 (fun z => by first | exact c28 (k0.trans (p50.symm.trans z.1)) | exact z.2.elim qne (fun z2 => z2 ((qv ρ).mpr c55)))]
            exact ih (q + 1) _ (by omega) (by omega)
set_option maxHeartbeats 1000000 in
theorem c_X11_haul {l : Launch} {D : va_G} {cA : Nat → ClassId} {n0 : Nat} {XW : State → Heap → Prop} (hX : SF n0 XW) {sz : Nat} {τ : TY} {M0 M : ME} {j e : Nat} {A : Nat → Nat} {Rw : Nat → Nat → Nat} {cn : Nat → Nat} {ρ : RH} {μ : Nat → Int32} {κ ω : Nat → Nat → Int32} (hS : SM τ M0 M j e A Rw cn ρ μ κ ω) {sp : Nat → Nat} {π : RH} (hPE : PE cn sp π κ ω) {i : Nat} (hi : i < cn 4) (h0 : ldOf (cn 5) ρ (nI i) = 0) (hw : ∀ y, y < cn 5 → 1 ≤ ρ 31 y) : CT l D cA n0 XW mX11_haul 6 0 0 sz τ M [.ref j, .int (nI i)] (fun v' sz' τ' M' => v' = none ∧ sz' = sz ∧ τ' = τ ∧ SM τ M0 M' j e A Rw cn (ldC (cn 5) ρ i (mwG (cn 5) ρ sp π (nI i) 0 (cn 6))) (ldM (cn 5) ρ μ i (mwG (cn 5) ρ sp π (nI i) 0 (cn 6))) κ ω) := by
  refine CT.of (ls := [.ref j, .int (nI i), UU, UU, UU, UU, UU, UU, UU, UU, UU, UU]) (by decide) (Nat.le_of_ble_eq_true rfl) rfl ?_
  refine T_aload0 dX11_haul_0 rfl ?_
  refine g11_21 _ rfl hS.t0 (hS.pa (f := 6) (by decide) (by decide)) dX11_haul_1 rfl ?_
  refine T_astore2 rfl (by decide) dX11_haul_4 rfl ?_
  refine T_aload2 dX11_haul_5 rfl ?_
  refine T_alen (j := 8) hS.ta6 (by decide) dX11_haul_6 rfl ?_
  refine T_istore3 rfl (by decide) dX11_haul_7 rfl ?_
  refine T_iconst (0) dX11_haul_8 rfl rfl ?_
  refine T_istore4 rfl (by decide) dX11_haul_9 rfl ?_
  exact L_X11_haul hX hS hPE hi h0 hw (cn 6 + 1) 0 UU (Nat.zero_le _) (by omega)
