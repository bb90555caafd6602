/-! the reference's look-ups -/
section NUM
variable {B : Nat → Nat} {p ln : Nat}
theorem nN_lt : ∀ k, (∀ j, j < k → dgB (B (p + j)) = true) → nN B p k < 10 ^ k
  | 0, _ => Nat.one_pos
  | k + 1, h => by
    have h1 := h k (Nat.lt_succ_self _)
    have h2 : 48 ≤ B (p + k) ∧ B (p + k) ≤ 57 := by unfold dgB at h1; simpa using h1
    have h4 := nN_lt k (fun j hj => h j (by omega))
    rw [nN, Nat.pow_succ]; omega
end NUM
theorem Toks.num {B : Nat → Nat} {ln lt : Nat} {K : Nat → Nat} {S : Nat → Int32} {V : Nat → Int64} (h8 : ∀ i, B i < 256) (hT : Toks B ln lt K S V) : ∀ i, i < lt → K i = 44 → ∃ c, c < 1000000 ∧ V i = Int64.ofNat c := fun i hi e => by
  obtain ⟨t1, t2, t3, t4, t5⟩ := hT
  have hg := (t2 i hi).1
  rw [(t2 i hi).2.1] at e
  rcases tkK_k h8 hg.1 hg.2 with ⟨_, _, _, h⟩ | ⟨h1, h2, h3, h4, h5⟩ | ⟨_, _, _, h⟩
  · omega
  · refine ⟨nN B (tP B ln i) (rn dgB B ln (tP B ln i) - tP B ln i), ?_, ?_⟩
    · exact Nat.lt_of_lt_of_le (nN_lt _ (fun j hj => rn_in (ln := ln) ln (by omega) (by omega))) (Nat.pow_le_pow_right (n := 10) (by decide) h4)
    · rw [(t2 i hi).2.2.2 (Or.inr h2)]; unfold tkV; rw [if_neg (by rw [h1]; decide)]
  · omega
theorem i64_lt {a b : Nat} (ha : a < 2 ^ 63) (hb : b < 2 ^ 63) : Int64.ofNat a < Int64.ofNat b ↔ a < b := by
  rw [Int64.lt_iff_toInt_lt, Int64.toInt_ofNat_of_lt ha, Int64.toInt_ofNat_of_lt hb]; omega
theorem rg_ii {c a b : Nat} (hc : c < 1000000) (ha : a < 128) (hb : b < 128) (e1 : (nI a).toInt64 = Int64.ofNat a) (e2 : (nI b).toInt64 = Int64.ofNat b) : rgE (Int64.ofNat c) (nI a) (nI b) = if iiF (nI c) (nI a) (nI b) = 0 then 5 else 0 := by
  unfold rgE iiF
  have q1 := i64_lt (a := c) (b := a) (by omega) (by omega)
  have q2 := i64_lt (a := b) (b := c) (by omega) (by omega)
  have r1 := nI_leI (a := a) (b := c) (by omega) (by omega)
  have r2 := nI_leI (a := c) (b := b) (by omega) (by omega)
  rw [e1, e2]
  by_cases h : a ≤ c ∧ c ≤ b
  · rw [if_neg (fun z => z.elim (fun z => by have := q1.mp z; omega) (fun z => by have := q2.mp z; omega)), if_pos (show nI a ≤ nI c ∧ nI c ≤ nI b from ⟨r1.mpr h.1, r2.mpr h.2⟩), if_neg (by decide)]
  · have h2 : c < a ∨ b < c := by omega
    rw [if_pos (h2.imp q1.mpr q2.mpr), if_neg (show ¬ (nI a ≤ nI c ∧ nI c ≤ nI b) from fun z => h ⟨r1.mp z.1, r2.mp z.2⟩), if_pos rfl]
theorem tdR_mono {V : Nat → Int64} {rl : Nat → Int32} {x : Int32} {v : Int64} {i : Nat} (h : ¬ tdR V rl x v i = -1) : ∀ k, i ≤ k → tdR V rl x v k = tdR V rl x v i := by
  intro k hk
  induction k with
  | zero => rw [show i = 0 by omega]
  | succ k ih =>
    by_cases e : i = k + 1
    · rw [e]
    · have h2 := ih (by omega)
      rw [tdR, if_neg (by rw [h2]; exact h), h2]
set_option maxHeartbeats 1000000 in
theorem L_X13_isSame {l : Launch} {D : va_G} {cA : Nat → ClassId} {n0 : Nat} {sg adK adV : Nat → Nat} {sgA smA wdA bS LS : Nat} {xs : Nat → Int32} (hX : SF n0 (XW0 sg adK adV sgA smA wdA n0 bS LS xs)) {sz : Nat} {τ : TY} {N1 M : ME} {m y z s1 s2 n8 tk dp : Nat} {B : Nat → Nat} {V : Nat → Int64} {ω : RH} (hM : MV τ N1 M m y z s1 s2 n8 tk dp B ω) (h8 : ∀ i, B i < 256) {i j p n2 p2 m2 : Nat} (hi : i < 401) (hj : j < 401) (h1 : ω 81 i = nI p) (h2 : ω 82 i = nI n2) (h3 : p + n2 ≤ 2000) (h4 : ω 81 j = nI p2) (h5 : ω 82 j = nI m2) (h6 : p2 + m2 ≤ 2000) (hiff : (n2 = m2 ∧ ∀ k, k < n2 → B (p + k) = B (p2 + k)) ↔ V i = V j) (hnm : n2 = m2) : ∀ (n : Nat) (k : Nat) (hk : k ≤ n2) (he : ∀ x, x < k → B (p + x) = B (p2 + x)), n2 - k < n → T l D cA n0 (XW0 sg adK adV sgA smA wdA n0 bS LS xs) mX13_isSame 1 0 0 sz τ M 19 [.ref m, .int (nI i), .int (nI j), .int (nI k)] [] (ROq (.int (if V i = V j then 1 else 0)) sz τ M) (fun _ _ _ _ => False) := by
  intro n
  induction n with
  | zero => intros; omega
  | succ n ih =>
    intro k hk he hn
    refine T_iload3 dX13_isSame_19 rfl ?_
    refine T_aload0 dX13_isSame_20 rfl ?_
    refine g13_23 _ rfl (hM.t_m) (hM.g_mn) dX13_isSame_21 rfl ?_
    refine T_iload1 dX13_isSame_24 rfl ?_
    refine T_iald _ (hM.t_mn) rfl (by omega) (by decide) dX13_isSame_25 rfl (hM.g_vmn (by omega)) ?_
    rw [h2]
    refine T_icmp_ge 66 29 dX13_isSame_26 (by decide) rfl (fun c26 => ?_) (fun c26 => ?_)
    ·
      have c26 := le_out (c := n2) rfl c26
      refine T_iconst (1) dX13_isSame_66 rfl rfl ?_
      refine T_iret rfl rfl dX13_isSame_67 ?_
      obtain rfl : k = n2 := by omega
      rw [if_pos (hiff.mp ⟨hnm, he⟩)]
      exact ⟨rfl, rfl, rfl, rfl⟩
    ·
      have c26 := lt_in (c := n2) rfl c26
      refine T_aload0 dX13_isSame_29 rfl ?_
      refine g13_9 _ rfl (hM.t_m) (hM.g_tp) dX13_isSame_30 rfl ?_
      refine T_aload0 dX13_isSame_33 rfl ?_
      refine g13_20 _ rfl (hM.t_m) (hM.g_fr) dX13_isSame_34 rfl ?_
      refine T_iload1 dX13_isSame_37 rfl ?_
      refine T_iald _ (hM.t_fr) rfl (by omega) (by decide) dX13_isSame_38 rfl (hM.g_vfr (by omega)) ?_
      rw [h1]
      refine T_iload3 dX13_isSame_39 rfl ?_
      refine T_iadd dX13_isSame_40 rfl ?_
      refine T_iald _ (hM.t_tp) (nI_add p k) (by omega) (by decide) dX13_isSame_41 rfl (hM.g_by (by omega)) ?_
      refine T_aload0 dX13_isSame_42 rfl ?_
      refine g13_9 _ rfl (hM.t_m) (hM.g_tp) dX13_isSame_43 rfl ?_
      refine T_aload0 dX13_isSame_46 rfl ?_
      refine g13_20 _ rfl (hM.t_m) (hM.g_fr) dX13_isSame_47 rfl ?_
      refine T_iload2 dX13_isSame_50 rfl ?_
      refine T_iald _ (hM.t_fr) rfl (by omega) (by decide) dX13_isSame_51 rfl (hM.g_vfr (by omega)) ?_
      rw [h4]
      refine T_iload3 dX13_isSame_52 rfl ?_
      refine T_iadd dX13_isSame_53 rfl ?_
      refine T_iald _ (hM.t_tp) (nI_add p2 k) (by omega) (by decide) dX13_isSame_54 rfl (hM.g_by (by omega)) ?_
      refine T_icmp_eq 60 58 dX13_isSame_55 (by decide) rfl (fun c55 => ?_) (fun c55 => ?_)
      ·
        have c55 := (nI_eq (a := B (p + k)) (b := B (p2 + k)) (by have := h8 (p + k); omega) (by have := h8 (p2 + k); omega)).mp c55
        first | refine T_iinc3 rfl (by decide) dX13_isSame_60 rfl (inc1 _) ?_ | refine T_iinc3 rfl (by decide) dX13_isSame_60 rfl rfl ?_
        refine T_goto 19 dX13_isSame_63 (by decide) ?_
        exact ih (k + 1) (by omega) (fun x hx => by
          by_cases e : x = k
          · subst e; exact c55
          · exact he x (by omega)) (by omega)
      ·
        have c55 : ¬ B (p + k) = B (p2 + k) := fun e => c55 (by rw [e])
        refine T_iconst (0) dX13_isSame_58 rfl rfl ?_
        refine T_iret rfl rfl dX13_isSame_59 ?_
        rw [if_neg (fun e => c55 ((hiff.mpr e).2 k (by omega)))]
        exact ⟨rfl, rfl, rfl, rfl⟩
set_option maxHeartbeats 1000000 in
theorem c_X13_isSame {l : Launch} {D : va_G} {cA : Nat → ClassId} {n0 : Nat} {sg adK adV : Nat → Nat} {sgA smA wdA bS LS : Nat} {xs : Nat → Int32} (hX : SF n0 (XW0 sg adK adV sgA smA wdA n0 bS LS xs)) {sz : Nat} {τ : TY} {N1 M : ME} {m y z s1 s2 n8 tk dp : Nat} {B : Nat → Nat} {V : Nat → Int64} {ω : RH} (hM : MV τ N1 M m y z s1 s2 n8 tk dp B ω) (h8 : ∀ i, B i < 256) {i j p n2 p2 m2 : Nat} (hi : i < 401) (hj : j < 401) (h1 : ω 81 i = nI p) (h2 : ω 82 i = nI n2) (h3 : p + n2 ≤ 2000) (h4 : ω 81 j = nI p2) (h5 : ω 82 j = nI m2) (h6 : p2 + m2 ≤ 2000) (hiff : (n2 = m2 ∧ ∀ k, k < n2 → B (p + k) = B (p2 + k)) ↔ V i = V j) : CT l D cA n0 (XW0 sg adK adV sgA smA wdA n0 bS LS xs) mX13_isSame 1 0 0 sz τ M [.ref m, .int (nI i), .int (nI j)] (ROq (.int (if V i = V j then 1 else 0)) sz τ M) := by
  refine CT.of (ls := [.ref m, .int (nI i), .int (nI j), UU]) (by decide) (Nat.le_of_ble_eq_true rfl) rfl ?_
  refine T_aload0 dX13_isSame_0 rfl ?_
  refine g13_23 _ rfl (hM.t_m) (hM.g_mn) dX13_isSame_1 rfl ?_
  refine T_iload1 dX13_isSame_4 rfl ?_
  refine T_iald _ (hM.t_mn) rfl (by omega) (by decide) dX13_isSame_5 rfl (hM.g_vmn (by omega)) ?_
  refine T_aload0 dX13_isSame_6 rfl ?_
  refine g13_23 _ rfl (hM.t_m) (hM.g_mn) dX13_isSame_7 rfl ?_
  refine T_iload2 dX13_isSame_10 rfl ?_
  refine T_iald _ (hM.t_mn) rfl (by omega) (by decide) dX13_isSame_11 rfl (hM.g_vmn (by omega)) ?_
  rw [h2, h5]
  refine T_icmp_eq 17 15 dX13_isSame_12 (by decide) rfl (fun c12 => ?_) (fun c12 => ?_)
  ·
    have c12 := (nI_eq (a := n2) (b := m2) (by omega) (by omega)).mp c12
    refine T_iconst (0) dX13_isSame_17 rfl rfl ?_
    refine T_istore3 rfl (by decide) dX13_isSame_18 rfl ?_
    exact L_X13_isSame hX hM h8 hi hj h1 h2 h3 h4 h5 h6 hiff c12 (n2 + 1) 0 (Nat.zero_le _) (fun x hx => absurd hx (Nat.not_lt_zero _)) (by omega)
  ·
    have c12 : ¬ n2 = m2 := fun e => c12 (by rw [e])
    refine T_iconst (0) dX13_isSame_15 rfl rfl ?_
    refine T_iret rfl rfl dX13_isSame_16 ?_
    rw [if_neg (fun e => c12 (hiff.mpr e).1)]
    exact ⟨rfl, rfl, rfl, rfl⟩
set_option maxHeartbeats 1000000 in
theorem L_X13_told {l : Launch} {D : va_G} {cA : Nat → ClassId} {n0 : Nat} {sg adK adV : Nat → Nat} {sgA smA wdA bS LS : Nat} {xs : Nat → Int32} (hX : SF n0 (XW0 sg adK adV sgA smA wdA n0 bS LS xs)) {sz : Nat} {τ : TY} {N1 M : ME} {m y z s1 s2 n8 tk dp lt : Nat} {B : Nat → Nat} {K : Nat → Nat} {S : Nat → Int32} {V : Nat → Int64} {ω : RH} (hM : MV τ N1 M m y z s1 s2 n8 tk dp B ω) (h8 : ∀ i, B i < 256) (hTK : TKF B lt K S V ω) {t : Nat} {x : Int32} {rl : Nat → Int32} (hrl : ∀ i, i ≤ lt → ω 83 i = rl i) (ht : t < lt) (hkt : K t = 43) (hkr : ∀ i, i < lt → rl i = x → K i = 43) : ∀ (n : Nat) (i : Nat) (hi : i ≤ t) (hno : tdR V rl x (V t) i = -1), t - i < n → T l D cA n0 (XW0 sg adK adV sgA smA wdA n0 bS LS xs) mX13_told 2 0 0 sz τ M 5 [.ref m, .int (nI t), .int x, .int (nI (cntR rl x i)), .int (nI i)] [] (ROq (.int (tdR V rl x (V t) t)) sz τ M) (fun _ _ _ _ => False) := by
  intro n
  induction n with
  | zero => intros; omega
  | succ n ih =>
    intro i hi hno hn
    refine T_iload4 dX13_told_5 rfl ?_
    refine T_iload1 dX13_told_7 rfl ?_
    have hl := hTK.1.1
    refine T_icmp_ge 46 11 dX13_told_8 (by decide) rfl (fun c8 => ?_) (fun c8 => ?_)
    ·
      have c8 := (nI_leI (by omega) (by omega)).mp c8
      refine T_iconst (-1) dX13_told_46 rfl rfl ?_
      refine T_iret rfl rfl dX13_told_47 ?_
      obtain rfl : i = t := by omega
      rw [hno]
      exact ⟨rfl, rfl, rfl, rfl⟩
    ·
      have c8 : i < t := Nat.lt_of_not_le (fun q => c8 ((nI_leI (by omega) (by omega)).mpr q))
      refine T_aload0 dX13_told_11 rfl ?_
      refine g13_26 _ rfl (hM.t_m) (hM.g_ro) dX13_told_12 rfl ?_
      refine T_iload4 dX13_told_15 rfl ?_
      refine T_iald _ (hM.t_ro) rfl (by omega) (by decide) dX13_told_17 rfl (hM.g_vro (by omega)) ?_
      refine T_iload2 dX13_told_18 rfl ?_
      rw [hrl i (by omega)]
      refine T_icmp_eq 25 22 dX13_told_19 (by decide) rfl (fun c19 => ?_) (fun c19 => ?_)
      ·
        refine T_aload0 dX13_told_25 rfl ?_
        refine T_iload4 dX13_told_26 rfl ?_
        refine T_iload1 dX13_told_28 rfl ?_
        obtain ⟨p1, n1, p2, n2, g1, g2, g3, g4, g5, g6, g7⟩ := hTK.2.2.2 i t (by omega) ht (hkr i (by omega) c19) hkt
        refine T_cV2 (c_X13_isSame hX hM h8 (by omega) (by omega) g1 g2 g3 g4 g5 g6 g7) hX k13_225 (Or.inl ⟨_, _, _, _, (hM.t_m), by decide, rfl⟩) (by decide) (Nat.le_of_ble_eq_true rfl) dX13_told_29 rfl ?_
        rintro _ _ _ _ ⟨rfl, rfl, rfl, rfl⟩
        refine T_if_eq 37 35 dX13_told_32 (by decide) rfl (fun c32 => ?_) (fun c32 => ?_)
        ·
          have c32 := ifz0 c32
          first | refine T_iinc3 rfl (by decide) dX13_told_37 rfl (inc1 _) ?_ | refine T_iinc3 rfl (by decide) dX13_told_37 rfl rfl ?_
          first | refine T_iinc4 rfl (by decide) dX13_told_40 rfl (inc1 _) ?_ | refine T_iinc4 rfl (by decide) dX13_told_40 rfl rfl ?_
          refine T_goto 5 dX13_told_43 (by decide) ?_
          first
            | (have e1 := cntR_y (t := i) (rl := rl) (x := x) c19
               rw [← e1]
               exact ih (i + 1) (by omega) (by rw [tdR, if_pos hno, if_neg (fun e => c32 e.2)]) (by omega))
            | (have e1 := cntR_n (rl := rl) (t := i) (x := x) c19
               rw [← e1]
               exact ih (i + 1) (by omega) (by rw [tdR, if_pos hno, if_neg (fun e => c19 e.1)]) (by omega))
        ·
          have c32 := ifz1 c32
          refine T_iload3 dX13_told_35 rfl ?_
          refine T_iret rfl rfl dX13_told_36 ?_
          have e1 : tdR V rl x (V t) (i + 1) = nI (cntR rl x i) := by rw [tdR, if_pos hno, if_pos ⟨c19, c32⟩]
          have hc := cntR_le (rl := rl) (x := x) i
          have e2 := tdR_mono (V := V) (rl := rl) (x := x) (v := V t) (i := i + 1) (by rw [e1]; exact nI_m1 (by omega)) t (by omega)
          rw [← e1, ← e2]
          exact ⟨rfl, rfl, rfl, rfl⟩
      ·
        refine T_goto 40 dX13_told_22 (by decide) ?_
        first | refine T_iinc4 rfl (by decide) dX13_told_40 rfl (inc1 _) ?_ | refine T_iinc4 rfl (by decide) dX13_told_40 rfl rfl ?_
        refine T_goto 5 dX13_told_43 (by decide) ?_
        first
          | (have e1 := cntR_y (t := i) (rl := rl) (x := x) c19
             rw [← e1]
             exact ih (i + 1) (by omega) (by rw [tdR, if_pos hno, if_neg (fun e => c32 e.2)]) (by omega))
          | (have e1 := cntR_n (rl := rl) (t := i) (x := x) c19
             rw [← e1]
             exact ih (i + 1) (by omega) (by rw [tdR, if_pos hno, if_neg (fun e => c19 e.1)]) (by omega))
set_option maxHeartbeats 1000000 in
theorem c_X13_told {l : Launch} {D : va_G} {cA : Nat → ClassId} {n0 : Nat} {sg adK adV : Nat → Nat} {sgA smA wdA bS LS : Nat} {xs : Nat → Int32} (hX : SF n0 (XW0 sg adK adV sgA smA wdA n0 bS LS xs)) {sz : Nat} {τ : TY} {N1 M : ME} {m y z s1 s2 n8 tk dp lt : Nat} {B : Nat → Nat} {K : Nat → Nat} {S : Nat → Int32} {V : Nat → Int64} {ω : RH} (hM : MV τ N1 M m y z s1 s2 n8 tk dp B ω) (h8 : ∀ i, B i < 256) (hTK : TKF B lt K S V ω) {t : Nat} {x : Int32} {rl : Nat → Int32} (hrl : ∀ i, i ≤ lt → ω 83 i = rl i) (ht : t < lt) (hkt : K t = 43) (hkr : ∀ i, i < lt → rl i = x → K i = 43) : CT l D cA n0 (XW0 sg adK adV sgA smA wdA n0 bS LS xs) mX13_told 2 0 0 sz τ M [.ref m, .int (nI t), .int x] (ROq (.int (tdR V rl x (V t) t)) sz τ M) := by
  refine CT.of (ls := [.ref m, .int (nI t), .int x, UU, UU]) (by decide) (Nat.le_of_ble_eq_true rfl) rfl ?_
  refine T_iconst (0) dX13_told_0 rfl rfl ?_
  refine T_istore3 rfl (by decide) dX13_told_1 rfl ?_
  refine T_iconst (0) dX13_told_2 rfl rfl ?_
  refine T_istore4 rfl (by decide) dX13_told_3 rfl ?_
  exact L_X13_told hX hM h8 hTK hrl ht hkt hkr (t + 1) 0 (Nat.zero_le _) rfl (by omega)
set_option maxHeartbeats 1000000 in
theorem c_X13_look {l : Launch} {D : va_G} {cA : Nat → ClassId} {n0 : Nat} {sg adK adV : Nat → Nat} {sgA smA wdA bS LS : Nat} {xs : Nat → Int32} (hX : SF n0 (XW0 sg adK adV sgA smA wdA n0 bS LS xs)) {sz : Nat} {τ : TY} {N1 M : ME} {m y z s1 s2 n8 tk dp lt : Nat} {B : Nat → Nat} {K : Nat → Nat} {S : Nat → Int32} {V : Nat → Int64} {ω : RH} (hM : MV τ N1 M m y z s1 s2 n8 tk dp B ω) (h8 : ∀ i, B i < 256) (hTK : TKF B lt K S V ω) {t : Nat} {x : Int32} {rl : Nat → Int32} (hrl : ∀ i, i ≤ lt → ω 83 i = rl i) (ht : t < lt) (hkt : K t = 43) (hkr : ∀ i, i < lt → rl i = x → K i = 43) : CT l D cA n0 (XW0 sg adK adV sgA smA wdA n0 bS LS xs) mX13_look 3 0 0 sz τ M [.ref m, .int (nI t), .int x] (MUq (some (.int (ngE (tdR V rl x (V t) t)))) sz τ (fun M' => MV τ M M' m y z s1 s2 n8 tk dp B (u2 ω 84 t (tdR V rl x (V t) t)))) := by
  refine CT.of (ls := [.ref m, .int (nI t), .int x]) (by decide) (Nat.le_of_ble_eq_true rfl) rfl ?_
  have hM := hM.rf
  have hl := hTK.1.1
  refine T_aload0 dX13_look_0 rfl ?_
  refine g13_29 _ rfl (hM.t_m) (hM.g_me) dX13_look_1 rfl ?_
  refine T_iload1 dX13_look_4 rfl ?_
  refine T_aload0 dX13_look_5 rfl ?_
  refine T_iload1 dX13_look_6 rfl ?_
  refine T_iload2 dX13_look_7 rfl ?_
  refine T_cV2 (c_X13_told hX hM h8 hTK hrl ht hkt hkr) hX k13_228 (Or.inl ⟨_, _, _, _, (hM.t_m), by decide, rfl⟩) (by decide) (Nat.le_of_ble_eq_true rfl) dX13_look_8 rfl ?_
  rintro _ _ _ _ ⟨rfl, rfl, rfl, rfl⟩
  refine T_iast _ (hM.t_me) rfl (by omega) (by decide) dX13_look_11 rfl ?_
  refine T_nm (fun M1 e1 => ?_)
  have hM := MV.mv (hM.p_vme (by omega)) e1
  refine T_aload0 dX13_look_12 rfl ?_
  refine g13_29 _ rfl (hM.t_m) (hM.g_me) dX13_look_13 rfl ?_
  refine T_iload1 dX13_look_16 rfl ?_
  refine T_iald _ (hM.t_me) rfl (by omega) (by decide) dX13_look_17 rfl (hM.g_vme (by omega)) ?_
  rw [u2_s]
  refine T_iconst (-1) dX13_look_18 rfl rfl ?_
  refine T_icmp_ne 26 22 dX13_look_19 (by decide) rfl (fun c19 => ?_) (fun c19 => ?_)
  ·
    refine T_iconst (0) dX13_look_26 rfl rfl ?_
    refine T_iret rfl rfl dX13_look_27 ?_
    first | (rw [show ngE (tdR V rl x (V t) t) = 3 from if_pos c19]; exact ⟨rfl, rfl, rfl, hM⟩) | (rw [show ngE (tdR V rl x (V t) t) = 3 from if_pos (Decidable.not_not.mp c19)]; exact ⟨rfl, rfl, rfl, hM⟩) | (rw [show ngE (tdR V rl x (V t) t) = 0 from if_neg c19]; exact ⟨rfl, rfl, rfl, hM⟩)
  ·
    refine T_iconst (3) dX13_look_22 rfl rfl ?_
    refine T_goto 27 dX13_look_23 (by decide) ?_
    refine T_iret rfl rfl dX13_look_27 ?_
    first | (rw [show ngE (tdR V rl x (V t) t) = 3 from if_pos c19]; exact ⟨rfl, rfl, rfl, hM⟩) | (rw [show ngE (tdR V rl x (V t) t) = 3 from if_pos (Decidable.not_not.mp c19)]; exact ⟨rfl, rfl, rfl, hM⟩) | (rw [show ngE (tdR V rl x (V t) t) = 0 from if_neg c19]; exact ⟨rfl, rfl, rfl, hM⟩)
set_option maxHeartbeats 1000000 in
theorem c_X13_isNew {l : Launch} {D : va_G} {cA : Nat → ClassId} {n0 : Nat} {sg adK adV : Nat → Nat} {sgA smA wdA bS LS : Nat} {xs : Nat → Int32} (hX : SF n0 (XW0 sg adK adV sgA smA wdA n0 bS LS xs)) {sz : Nat} {τ : TY} {N1 M : ME} {m y z s1 s2 n8 tk dp lt : Nat} {B : Nat → Nat} {K : Nat → Nat} {S : Nat → Int32} {V : Nat → Int64} {ω : RH} (hM : MV τ N1 M m y z s1 s2 n8 tk dp B ω) (h8 : ∀ i, B i < 256) (hTK : TKF B lt K S V ω) {t : Nat} {a c : Nat} {rl : Nat → Int32} (hrl : ∀ i, i ≤ lt → ω 83 i = rl i) (ht : t < lt) (hkt : K t = 43) (hkr : ∀ i, i < lt → rl i = rl t → K i = 43) (ha : a < 2 ^ 30) (hc : c < 2 ^ 30) : CT l D cA n0 (XW0 sg adK adV sgA smA wdA n0 bS LS xs) mX13_isNew 3 0 0 sz τ M [.ref m, .int (nI t), .int (nI a), .int (nI c)] (ROq (.int (if tdR V rl (rl t) (V t) t = -1 then (if a = c then 4 else 0) else 2)) sz τ M) := by
  refine CT.of (ls := [.ref m, .int (nI t), .int (nI a), .int (nI c)]) (by decide) (Nat.le_of_ble_eq_true rfl) rfl ?_
  have hl := hTK.1.1
  refine T_aload0 dX13_isNew_0 rfl ?_
  refine T_iload1 dX13_isNew_1 rfl ?_
  refine T_aload0 dX13_isNew_2 rfl ?_
  refine g13_26 _ rfl (hM.t_m) (hM.g_ro) dX13_isNew_3 rfl ?_
  refine T_iload1 dX13_isNew_6 rfl ?_
  refine T_iald _ (hM.t_ro) rfl (by omega) (by decide) dX13_isNew_7 rfl (hM.g_vro (by omega)) ?_
  rw [hrl t (by omega)]
  refine T_cV2 (c_X13_told hX hM h8 hTK hrl ht hkt hkr) hX k13_228 (Or.inl ⟨_, _, _, _, (hM.t_m), by decide, rfl⟩) (by decide) (Nat.le_of_ble_eq_true rfl) dX13_isNew_8 rfl ?_
  rintro _ _ _ _ ⟨rfl, rfl, rfl, rfl⟩
  refine T_iconst (-1) dX13_isNew_11 rfl rfl ?_
  refine T_icmp_eq 19 15 dX13_isNew_12 (by decide) rfl (fun c12 => ?_) (fun c12 => ?_)
  ·
    refine T_iload2 dX13_isNew_19 rfl ?_
    refine T_iload3 dX13_isNew_20 rfl ?_
    refine T_icmp_ne 28 24 dX13_isNew_21 (by decide) rfl (fun c21 => ?_) (fun c21 => ?_)
    ·
      have c21 : ¬ a = c := fun e => c21 (by rw [e])
      refine T_iconst (0) dX13_isNew_28 rfl rfl ?_
      refine T_iret rfl rfl dX13_isNew_29 ?_
      first | (rw [if_neg c12]; exact ⟨rfl, rfl, rfl, rfl⟩) | (rw [if_pos c12, if_pos c21]; exact ⟨rfl, rfl, rfl, rfl⟩) | (rw [if_pos c12, if_neg c21]; exact ⟨rfl, rfl, rfl, rfl⟩)
    ·
      have c21 := (nI_eq (a := a) (b := c) (by omega) (by omega)).mp (by first | exact c21 | exact Decidable.not_not.mp c21)
      refine T_iconst (4) dX13_isNew_24 rfl rfl ?_
      refine T_goto 29 dX13_isNew_25 (by decide) ?_
      refine T_iret rfl rfl dX13_isNew_29 ?_
      first | (rw [if_neg c12]; exact ⟨rfl, rfl, rfl, rfl⟩) | (rw [if_pos c12, if_pos c21]; exact ⟨rfl, rfl, rfl, rfl⟩) | (rw [if_pos c12, if_neg c21]; exact ⟨rfl, rfl, rfl, rfl⟩)
  ·
    refine T_iconst (2) dX13_isNew_15 rfl rfl ?_
    refine T_goto 29 dX13_isNew_16 (by decide) ?_
    refine T_iret rfl rfl dX13_isNew_29 ?_
    first | (rw [if_neg c12]; exact ⟨rfl, rfl, rfl, rfl⟩) | (rw [if_pos c12, if_pos c21]; exact ⟨rfl, rfl, rfl, rfl⟩) | (rw [if_pos c12, if_neg c21]; exact ⟨rfl, rfl, rfl, rfl⟩)
set_option maxHeartbeats 1000000 in
theorem c_X13_inRange {l : Launch} {D : va_G} {cA : Nat → ClassId} {n0 : Nat} {sg adK adV : Nat → Nat} {sgA smA wdA bS LS : Nat} {xs : Nat → Int32} (hX : SF n0 (XW0 sg adK adV sgA smA wdA n0 bS LS xs)) {sz : Nat} {τ : TY} {N1 M : ME} {m y z s1 s2 n8 tk dp lt : Nat} {B : Nat → Nat} {K : Nat → Nat} {S : Nat → Int32} {V : Nat → Int64} {ω : RH} (hM : MV τ N1 M m y z s1 s2 n8 tk dp B ω) (h8 : ∀ i, B i < 256) (hTK : TKF B lt K S V ω) {t a b c : Nat} (ht : t < lt) (hkt : K t = 44) (hc : c < 1000000) (hv : V t = Int64.ofNat c) (ha : a < 128) (hb : b < 128) (e1 : (nI a).toInt64 = Int64.ofNat a) (e2 : (nI b).toInt64 = Int64.ofNat b) : CT l D cA n0 (XW0 sg adK adV sgA smA wdA n0 bS LS xs) mX13_inRange 2 0 0 sz τ M [.ref m, .int (nI t), .int (nI a), .int (nI b)] (ROq (.int (rgE (V t) (nI a) (nI b))) sz τ M) := by
  refine CT.of (ls := [.ref m, .int (nI t), .int (nI a), .int (nI b)]) (by decide) (Nat.le_of_ble_eq_true rfl) rfl ?_
  have hl := hTK.1.1
  obtain ⟨p1, n1, g1, g2, g3, g4⟩ := (hTK.2.2.1 t ht).2
  have g5 : nmI B p1 n1 = nI c := by rw [g4 hkt, hv, i64_32]
  rw [hv, rg_ii hc ha hb e1 e2]
  refine T_aload0 dX13_inRange_0 rfl ?_
  refine T_iload1 dX13_inRange_1 rfl ?_
  refine T_cV1 (c_X13_numberAt hX hM (by omega) g1 g2 g3) hX k13_219 (Or.inl ⟨_, _, _, _, (hM.t_m), by decide, rfl⟩) (by decide) (Nat.le_of_ble_eq_true rfl) dX13_inRange_2 rfl ?_
  rintro _ _ _ _ ⟨rfl, rfl, rfl, rfl⟩
  rw [g5]
  refine T_iload2 dX13_inRange_5 rfl ?_
  refine T_iload3 dX13_inRange_6 rfl ?_
  refine T_cS3 (c_X13_isIn hX _ _ _) hX k13_63 (by decide) (Nat.le_of_ble_eq_true rfl) dX13_inRange_7 rfl ?_
  rintro _ _ _ _ ⟨rfl, rfl, rfl, rfl⟩
  refine T_if_eq 17 13 dX13_inRange_10 (by decide) rfl (fun c10 => ?_) (fun c10 => ?_)
  ·
    refine T_iconst (5) dX13_inRange_17 rfl rfl ?_
    refine T_iret rfl rfl dX13_inRange_18 ?_
    first | (rw [if_pos c10]; exact ⟨rfl, rfl, rfl, rfl⟩) | (rw [if_neg c10]; exact ⟨rfl, rfl, rfl, rfl⟩)
  ·
    refine T_iconst (0) dX13_inRange_13 rfl rfl ?_
    refine T_goto 18 dX13_inRange_14 (by decide) ?_
    refine T_iret rfl rfl dX13_inRange_18 ?_
    first | (rw [if_pos c10]; exact ⟨rfl, rfl, rfl, rfl⟩) | (rw [if_neg c10]; exact ⟨rfl, rfl, rfl, rfl⟩)
