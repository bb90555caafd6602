/-- a byte shifted in -/
def st8 (x : Int32) (a : Nat) : Int32 := (x <<< (8 &&& 31)) ||| nI a
theorem st8_b (x : Int32) (a : Nat) : (st8 x a).toBitVec = (x.toBitVec <<< 8) ||| BitVec.ofNat 32 a := rfl
theorem st8_lo {x : Int32} {a i : Nat} (hi : i < 8) : (st8 x a).toBitVec.getLsbD i = a.testBit i := by
  rw [st8_b, BitVec.getLsbD_or, BitVec.getLsbD_shiftLeft, BitVec.getLsbD_ofNat]
  simp [hi, show i < 32 by omega]
theorem st8_hi {x : Int32} {a i : Nat} (ha : a < 256) (hi : i < 24) : (st8 x a).toBitVec.getLsbD (i + 8) = x.toBitVec.getLsbD i := by
  have h0 : a.testBit (i + 8) = false := Nat.testBit_lt_two_pow (Nat.lt_of_lt_of_le ha (Nat.pow_le_pow_right (by decide : 2 > 0) (by omega : 8 ≤ i + 8)))
  rw [st8_b, BitVec.getLsbD_or, BitVec.getLsbD_shiftLeft, BitVec.getLsbD_ofNat, h0]
  simp [show i + 8 < 32 by omega]
theorem by_at {X : Int32} {a k : Nat} (ha : a < 256) (hk : k < 4) (h : ∀ i, i < 8 → X.toBitVec.getLsbD (8 * k + i) = a.testBit i) : (X >>> (nI (8 * k) &&& 31)) &&& 255 = nI a := by
  apply Int32.toBitVec.inj
  have e : ((X >>> (nI (8 * k) &&& 31)) &&& 255).toBitVec = (X.toBitVec.sshiftRight (8 * k)) &&& 255#32 := by
    rcases (by omega : k = 0 ∨ k = 1 ∨ k = 2 ∨ k = 3) with rfl | rfl | rfl | rfl <;> rfl
  rw [e]
  show _ = BitVec.ofNat 32 a
  apply BitVec.eq_of_getLsbD_eq
  intro i hi
  have h255 : ∀ i, i < 32 → (255#32).getLsbD i = decide (i < 8) := by decide
  rw [BitVec.getLsbD_and, h255 i hi, BitVec.getLsbD_ofNat, BitVec.getLsbD_sshiftRight]
  by_cases h8 : i < 8
  · have := h i h8
    rw [if_pos (by omega), this, decide_eq_true h8, decide_eq_true hi, decide_eq_false (show ¬ 32 ≤ i by omega)]
    cases a.testBit i <;> rfl
  · have h0 : a.testBit i = false := Nat.testBit_lt_two_pow (Nat.lt_of_lt_of_le ha (Nat.pow_le_pow_right (by decide : 2 > 0) (by omega : 8 ≤ i)))
    simp [h8, h0]
def s48 (x : Int32) (a b c d : Nat) : Int32 := st8 (st8 (st8 (st8 x a) b) c) d
theorem s48_at {x : Int32} {a b c d : Nat} (ha : a < 256) (hb : b < 256) (hc : c < 256) (hd : d < 256) :
    (s48 x a b c d >>> (nI (8 * 3) &&& 31)) &&& 255 = nI a ∧ (s48 x a b c d >>> (nI (8 * 2) &&& 31)) &&& 255 = nI b ∧ (s48 x a b c d >>> (nI (8 * 1) &&& 31)) &&& 255 = nI c ∧ (s48 x a b c d >>> (nI (8 * 0) &&& 31)) &&& 255 = nI d := by
  unfold s48
  refine ⟨by_at ha (by decide) fun i hi => ?_, by_at hb (by decide) fun i hi => ?_, by_at hc (by decide) fun i hi => ?_, by_at hd (by decide) fun i hi => ?_⟩
  · rw [show 8 * 3 + i = i + 8 + 8 + 8 by omega, st8_hi hd (by omega), st8_hi hc (by omega), st8_hi hb (by omega), st8_lo hi]
  · rw [show 8 * 2 + i = i + 8 + 8 by omega, st8_hi hd (by omega), st8_hi hc (by omega), st8_lo hi]
  · rw [show 8 * 1 + i = i + 8 by omega, st8_hi hd (by omega), st8_lo hi]
  · rw [show 8 * 0 + i = i by omega, st8_lo hi]
/-- five words while twenty bytes are shifted in -/
def fvv (v : Nat → Int32) (c : Nat → Nat) : Nat → Nat → Int32
  | 0, j => v j
  | k + 1, j => if j = k / 4 then st8 (fvv v c k j) (c k) else fvv v c k j
theorem fvv_20 (v : Nat → Int32) (c : Nat → Nat) (j : Nat) (hj : j < 5) : fvv v c 20 j = s48 (v j) (c (4 * j)) (c (4 * j + 1)) (c (4 * j + 2)) (c (4 * j + 3)) := by
  rcases (by omega : j = 0 ∨ j = 1 ∨ j = 2 ∨ j = 3 ∨ j = 4) with rfl | rfl | rfl | rfl | rfl <;> rfl
theorem fdN_20 {v : Nat → Int32} {c : Nat → Nat} {w : Nat → Int32} (hc : ∀ i, c i < 256) (hw : ∀ j, j < 5 → w j = fvv v c 20 j) {k : Nat} (hk : k < 20) : fdN w k = c k := by
  have key : ∀ q, q < 5 → ∀ m, m < 4 → fdN w (4 * q + m) = c (4 * q + m) := fun q hq m hm => by
    obtain ⟨h3, h4⟩ := shA_F q hq m hm
    obtain ⟨h1, h2⟩ := fdN_ok w (4 * q + m)
    rw [h4, h3, hw q hq, fvv_20 v c q hq] at h1
    obtain ⟨s1, s2, s3, s4⟩ := s48_at (x := v q) (hc (4 * q)) (hc (4 * q + 1)) (hc (4 * q + 2)) (hc (4 * q + 3))
    have fin : ∀ z, z < 256 → nI (fdN w (4 * q + m)) = nI z → fdN w (4 * q + m) = z := fun z hz e => (nI_eq (by omega) (by omega)).mp e
    rcases (by omega : m = 0 ∨ m = 1 ∨ m = 2 ∨ m = 3) with rfl | rfl | rfl | rfl
    · exact fin _ (hc _) (h1.trans s1)
    · exact fin _ (hc _) (h1.trans s2)
    · exact fin _ (hc _) (h1.trans s3)
    · exact fin _ (hc _) (h1.trans s4)
  have := key (k / 4) (by omega) (k % 4) (by omega)
  rw [show 4 * (k / 4) + k % 4 = k by omega] at this
  exact this
/-- the characters that a feed takes, from base on -/
def chX (s : List Nat) (base i : Nat) : Nat := if base + i < s.length then s.getD (base + i) 0 else 32
theorem chX_lt {s : List Nat} (h : ∀ c ∈ s, c < 128) (base i : Nat) : chX s base i < 256 := by
  unfold chX
  split
  · rename_i q
    rw [List.getD_eq_getElem?_getD, List.getElem?_eq_getElem q]
    have := h _ (List.getElem_mem q)
    simpa using Nat.lt_trans this (by decide)
  · decide
theorem ii_in {j n : Nat} (h : j ≤ n) (hn : n ≤ 2000) : ¬ iiF (nI j) 0 (nI n) = 0 := by
  have h1 : (0 : Int32) ≤ nI j := (nI_leI (a := 0) (b := j) (by omega) (by omega)).mpr (Nat.zero_le _)
  have h2 : nI j ≤ nI n := (nI_leI (by omega) (by omega)).mpr h
  unfold iiF
  rw [if_pos ⟨h1, h2⟩]; decide
theorem fd_ch {s : List Nat} {B : Nat → Nat} {w v : Nat → Int32} {t : Nat} (hs : ∀ c ∈ s, c < 128) (hw : ∀ j, j < 5 → w j = fvv v (chX s (20 * t)) 20 j) (hB : ∀ i, i < 20 * t → B i = chX s 0 i) : ∀ i, i < 20 * (t + 1) → fdT B w (20 * t) 20 i = chX s 0 i := fun i hi => by
  unfold fdT
  by_cases h : 20 * t ≤ i ∧ i < 20 * t + 20
  · rw [if_pos h, fdN_20 (fun i => chX_lt hs (20 * t) i) hw (by omega)]
    unfold chX
    rw [show 20 * t + (i - 20 * t) = i by omega, Nat.zero_add]
  · rw [if_neg h]; exact hB i (by omega)
theorem fd_8 {B : Nat → Nat} {w : Nat → Int32} {n k : Nat} (h : ∀ i, B i < 256) : ∀ i, fdT B w n k i < 256 := fun i => by
  unfold fdT
  split
  · exact (fdN_ok _ _).2
  · exact h i
theorem feW_5 (x1 x2 x3 x4 x5 : Int32) {v : Nat → Int32} (h1 : x1 = v 0) (h2 : x2 = v 1) (h3 : x3 = v 2) (h4 : x4 = v 3) (h5 : x5 = v 4) : ∀ j, j < 5 → feW x1 x2 x3 x4 x5 j = v j := fun j hj => by
  rcases (by omega : j = 0 ∨ j = 1 ∨ j = 2 ∨ j = 3 ∨ j = 4) with rfl | rfl | rfl | rfl | rfl
  · exact h1
  · exact h2
  · exact h3
  · exact h4
  · exact h5
set_option maxHeartbeats 1000000 in
theorem LI_L_taught {l : Launch} {D : va_G} {cA : Nat → ClassId} {n0 : Nat} {sg adK adV : Nat → Nat} {sgA smA wdA bS LS : Nat} {xs : Nat → Int32} (hX : SF n0 (XW0 sg adK adV sgA smA wdA n0 bS LS xs)) {sz : Nat} {τ : TY} {M0 : ME} {x a9 w9 s0 t bk bn : Nat} {s : List Nat} {v0 : Nat → Int32} {Q : QT} {QX : QXT} (hs0 : ST adK adV τ M0 a9 w9 s) (hdd : CSt adK adV a9 w9 s ∨ (a9 < s0 ∧ w9 < s0)) (hta : τ s0 = (100, 5)) (ht : t ≤ 100) (K : ∀ M1 : ME, (∀ j, j < 5 → M1 s0 j = .int (fvv v0 (chX s (20 * t)) 20 j)) → (∀ q, q ≠ s0 → M1 q = M0 q) → T l D cA n0 (XW0 sg adK adV sgA smA wdA n0 bS LS xs) mL_taught 106 bk bn sz τ M1 76 [.ref x, .ref a9, .ref s0, .int (nI (20 * t)), .int (nI 20)] [] Q QX) : ∀ (n : Nat) (k : Nat) (M : ME) (hk : k ≤ 20) (hf : ∀ j, j < 5 → M s0 j = .int (fvv v0 (chX s (20 * t)) k j)) (hF : ∀ q, q ≠ s0 → M q = M0 q), 20 - k < n → T l D cA n0 (XW0 sg adK adV sgA smA wdA n0 bS LS xs) mL_taught 106 bk bn sz τ M 23 [.ref x, .ref a9, .ref s0, .int (nI (20 * t)), .int (nI k)] [] (Q) QX := by
  intro n
  induction n with
  | zero => intros; omega
  | succ n ih =>
    intro k M hk hf hF hn
    have hs := hs0.old (sz := s0) (M' := M) (τ' := τ) ⟨fun _ _ => rfl, fun q hq => hF q (Nat.ne_of_lt hq)⟩ hdd
    have hlt := hs.lt
    refine T_iload4 dL_taught_23 rfl ?_
    refine T_bipush (20) dL_taught_25 rfl rfl ?_
    refine T_icmp_ge 76 30 dL_taught_27 (by decide) rfl (fun c27 => ?_) (fun c27 => ?_)
    ·
      have hk20 : k = 20 := Nat.le_antisymm hk ((nI_leI (a := 20) (by decide) (by omega)).mp c27)
      subst hk20
      exact K _ hf hF
    ·
      have c27 : k < 20 := Nat.lt_of_not_le (fun q => c27 ((nI_leI (a := 20) (by decide) (by omega)).mpr q))
      refine T_aload2 dL_taught_30 rfl ?_
      refine T_iload4 dL_taught_31 rfl ?_
      refine T_iconst (4) dL_taught_33 rfl rfl ?_
      refine T_idiv dL_taught_34 rfl (by decide) ?_
      rw [show nI k / 4 = nI (k / 4) from nI_div (b := 4) (by omega) (by decide)]
      refine T_aload2 dL_taught_35 rfl ?_
      refine T_iload4 dL_taught_36 rfl ?_
      refine T_iconst (4) dL_taught_38 rfl rfl ?_
      refine T_idiv dL_taught_39 rfl (by decide) ?_
      rw [show nI k / 4 = nI (k / 4) from nI_div (b := 4) (by omega) (by decide)]
      refine T_iald (k / 4) hta rfl (by omega) (by decide) dL_taught_40 rfl (hf (k / 4) (by omega)) ?_
      refine T_bipush (8) dL_taught_41 rfl rfl ?_
      refine T_ishl dL_taught_43 rfl ?_
      refine T_joinI 68 (fun y => y = nI (chX s (20 * t) k)) (fun hJ => ?_) (fun x68 hx68 => ?_)
      ·
        refine T_iload3 dL_taught_44 rfl ?_
        refine T_iload4 dL_taught_45 rfl ?_
        refine T_iadd dL_taught_47 rfl ?_
        rw [nI_add (20 * t) k]
        refine T_aload1 dL_taught_48 rfl ?_
        refine T_cV0 (mc' := 0) (ms' := 0) (s_length hX hs) hX kL_15 hs.rcv (by decide) (Nat.le_of_ble_eq_true rfl) dL_taught_49 rfl ?_
        rintro _ szq τq Mq ⟨rfl, ea, eb, ec⟩
        obtain rfl := ea.symm
        obtain rfl := eb.symm
        obtain rfl := ec.symm
        refine T_icmp_ge 66 55 dL_taught_52 (by decide) rfl (fun c52 => ?_) (fun c52 => ?_)
        ·
          have c52 := (nI_leI (by omega) (by omega)).mp c52
          refine T_bipush (32) dL_taught_66 rfl rfl ?_
          refine hJ _ ?_
          unfold chX
          first | (rw [if_pos c52]; done) | (rw [if_neg (Nat.not_lt.mpr c52)]; rfl)
        ·
          have c52 : 20 * t + k < s.length := Nat.lt_of_not_le (fun q => c52 ((nI_leI (by omega) (by omega)).mpr q))
          refine T_aload1 dL_taught_55 rfl ?_
          refine T_iload3 dL_taught_56 rfl ?_
          refine T_iload4 dL_taught_57 rfl ?_
          refine T_iadd dL_taught_59 rfl ?_
          rw [nI_add (20 * t) k]
          refine T_cV1 (mc' := 0) (ms' := 0) (s_charAt hX hs c52) hX kL_21 hs.rcv (by decide) (Nat.le_of_ble_eq_true rfl) dL_taught_60 rfl ?_
          rintro _ szq τq Mq ⟨rfl, ea, eb, ec⟩
          obtain rfl := ea.symm
          obtain rfl := eb.symm
          obtain rfl := ec.symm
          refine T_goto 68 dL_taught_63 (by decide) ?_
          refine hJ _ ?_
          unfold chX
          first | (rw [if_pos c52]; done) | (rw [if_neg (Nat.not_lt.mpr c52)]; rfl)
      ·
        subst hx68
        refine T_ior dL_taught_68 rfl ?_
        refine T_iast (k / 4) hta rfl (by omega) (by decide) dL_taught_69 rfl ?_
        first | refine T_iinc4 rfl (by decide) dL_taught_70 rfl (inc1 _) ?_ | refine T_iinc4 rfl (by decide) dL_taught_70 rfl rfl ?_
        refine T_goto 23 dL_taught_73 (by decide) ?_
        refine ih (k + 1) _ (by omega) (fun j hj => ?_) (fun q hq => (up_a hq).trans (hF q hq)) (by omega)
        by_cases e : j = k / 4
        · subst e
          rw [up_s, fvv, if_pos rfl]; rfl
        · rw [up_k e, fvv, if_neg e]; exact hf j hj
theorem ST.frd {adK adV : Nat → Nat} {τ : TY} {M0 M : ME} {a9 w9 x s0 : Nat} {s : List Nat} (h : ST adK adV τ M0 a9 w9 s) (hd : CSt adK adV a9 w9 s ∨ (x + 144 ≤ a9 ∧ x + 144 ≤ w9 ∧ a9 < s0 ∧ w9 < s0)) (hF : ∀ q, x + 144 ≤ q → q < s0 → M q = M0 q) : ST adK adV τ M a9 w9 s := by
  rcases hd with hd | ⟨d1, d2, d3, d4⟩
  · exact ⟨h.1, Or.inl hd⟩
  · rcases h.2 with h1 | ⟨q1, q2, q3, q4, q5⟩
    · exact ⟨h.1, Or.inl h1⟩
    · exact ⟨h.1, Or.inr ⟨q1, q2, by rw [hF _ d1 d3]; exact q3, by rw [hF _ d1 d3]; exact q4, fun j hj => by rw [hF _ d2 d4]; exact q5 j hj⟩⟩
set_option maxHeartbeats 1000000 in
theorem LO_L_taught {l : Launch} {D : va_G} {cA : Nat → ClassId} {n0 : Nat} {sg adK adV : Nat → Nat} {sgA smA wdA bS LS : Nat} {xs : Nat → Int32} (hX : SF n0 (XW0 sg adK adV sgA smA wdA n0 bS LS xs)) {sz : Nat} {τ : TY} (hl : l.stackTraces = false) {M0 : ME} {x a9 w9 s0 r p r2 p2 a b c hc wc sc : Nat} {ρ π : RH} {ν : NU} {σ : Nat → Nat} {fa : Int32} {s : List Nat} (hs0 : ST adK adV τ M0 a9 w9 s) (hs15 : s.length ≤ 1500) (hdd : CSt adK adV a9 w9 s ∨ (x + 144 ≤ a9 ∧ x + 144 ≤ w9 ∧ a9 < s0 ∧ w9 < s0)) (hta : τ s0 = (100, 5)) (hxs : x + 144 ≤ s0) : ∀ (n : Nat) (t : Nat) (M : ME) (B : Nat → Nat) (y4 : Value) (ht : 20 * t < s.length + 20) (hC : CS sg τ M x r p r2 p2 (20 * t) a b c hc wc sc ρ ν π σ B fa) (hB : ∀ i, i < 20 * t → B i = chX s 0 i) (hB8 : ∀ i, B i < 256) (hF : ∀ q, q ≠ x → q ≠ x + 1 → q ≠ s0 → M q = M0 q) (hv : ∀ j, j < 5 → ∃ v, M s0 j = .int v), 76 - t < n → T l D cA n0 (XW0 sg adK adV sgA smA wdA n0 bS LS xs) mL_taught 106 (1 * (76 - t) + 3) (6 * (76 - t) + 20) sz τ M 12 [.ref x, .ref a9, .ref s0, .int (nI (20 * t)), y4] [] ((fun v' sz' τ' M' => sz' = sz ∧ τ' = τ ∧ (∀ q, q < s0 → (q < x ∨ x + 143 ≤ q) → M' q = M0 q) ∧ ∃ B', (∀ i, i < s.length → B' i = s.getD i 0) ∧ ∃ lt K S V q' β', Toks B' s.length lt K S V ∧ LSr K (fun t => (V t).toInt32) pq0 be0 q' β' ∧ (q'.1 = true → K q'.2.1 = 45) ∧ v' = some (.int (erV V S q')) ∧ (erV V S q' = 0 → ∃ a' b' c' hc' wc' sc' ρ' ν' π' σ', CS sg τ' M' x r2 p2 r p 0 a' b' c' hc' wc' sc' ρ' ν' π' σ' B' (erA V S q') ∧ ρ' 6 0 = ρ 6 0 ∧ ρ' 7 0 = ρ 7 0 ∧ (hc' ≤ 12 ∧ wc' ≤ 12 ∧ sc' ≤ 400) ∧ LC V q'.2 β' a' b' c' ρ' ν' hc' wc' sc' σ' π'))) (fun _ _ _ _ => False) := by
  intro n
  induction n with
  | zero => intros; omega
  | succ n ih =>
    intro t M B y4 ht hC hB hB8 hF hv hn
    have hs : ST adK adV τ M a9 w9 s := ST.frd hs0 hdd (fun q g1 g2 => hF q (by omega) (by omega) (by omega))
    have hlt := hs.lt
    have h76 : t < 76 := by omega
    refine T_iload3 dL_taught_12 rfl ?_
    refine T_aload1 dL_taught_13 rfl ?_
    refine T_cV0 (mc' := 0) (ms' := 0) (s_length hX hs) hX kL_15 hs.rcv (by decide) (Nat.le_of_ble_eq_true rfl) dL_taught_14 rfl ?_
    rintro _ szq τq Mq ⟨rfl, ea, eb, ec⟩
    obtain rfl := ea.symm
    obtain rfl := eb.symm
    obtain rfl := ec.symm
    refine T_icmp_ge 102 20 dL_taught_17 (by decide) rfl (fun c17 => ?_) (fun c17 => ?_)
    ·
      have c17 := (nI_leI (by omega) (by omega)).mp c17
      refine T_aload0 dL_taught_102 rfl ?_
      refine T_aload1 dL_taught_103 rfl ?_
      refine T_cV0 (mc' := 0) (ms' := 0) (s_length hX hs) hX kL_15 hs.rcv (by decide) (Nat.le_of_ble_eq_true rfl) dL_taught_104 rfl ?_
      rintro _ szq τq Mq ⟨rfl, ea, eb, ec⟩
      obtain rfl := ea.symm
      obtain rfl := eb.symm
      obtain rfl := ec.symm
      obtain ⟨hlay, ⟨ω, hV, hfa⟩, hR, hP9, hA9, hP29, hBM, hE9, hT9⟩ := id hC
      refine T_cXV1 (mc' := 1) (ms' := 6) (c_X10_trim hX hl (by omega) hV _) hX kL_9 (Or.inl ⟨_, _, _, _, hV.t_x, by decide, rfl⟩) (by decide) (Nat.le_of_ble_eq_true rfl) dL_taught_107 rfl ?_ (by
        rintro _ _ _ _ _ ⟨⟨-, hbad⟩, -⟩ _
        exact absurd hbad (ii_in (by omega) (by omega)))
      rintro _ szq τq M3 ⟨⟨rfl, -⟩, ea, eb, hV3, hf3⟩
      obtain rfl := ea.symm
      obtain rfl := eb.symm
      rw [nI_cl (by omega)] at hV3
      have hC3 := hC.setF hV3 hfa hf3
      refine T_pop dL_taught_110 rfl rfl ?_
      refine T_aload0 dL_taught_111 rfl ?_
      refine T_cV0 (mc' := 0) (ms' := 0) (c_X10_teach hX hC3 hB8 (by omega)) hX kL_29 (Or.inl ⟨_, _, _, _, hV.t_x, by decide, rfl⟩) (by decide) (Nat.le_of_ble_eq_true rfl) dL_taught_112 rfl ?_
      rintro v9 szq τq M4 ⟨ea, eb, hf4, lt9, K9, S9, V9, q9, β9, t1, t2, t3, rfl, t5⟩
      obtain rfl := ea.symm
      obtain rfl := eb.symm
      refine T_iret rfl rfl dL_taught_115 ?_
      refine ⟨rfl, rfl, fun q g1 g2 => (hf4 q g2).trans ((hf3 q (by omega)).trans (hF q (by omega) (by omega) (by omega))), B, fun i hi => ?_, lt9, K9, S9, V9, q9, β9, t1, t2, t3, rfl, t5.1⟩
      rw [hB i (by omega)]
      unfold chX
      rw [Nat.zero_add, if_pos hi]
    ·
      have c17 : 20 * t < s.length := Nat.lt_of_not_le (fun q => c17 ((nI_leI (by omega) (by omega)).mpr q))
      refine T_less (bk1 := 1 * (76 - (t + 1)) + 4) (bn1 := 6 * (76 - (t + 1)) + 26) (by omega) (by omega) ?_
      refine T_iconst (0) dL_taught_20 rfl rfl ?_
      refine T_istore4 rfl (by decide) dL_taught_21 rfl ?_
      obtain ⟨v0, hv0⟩ : ∃ v0 : Nat → Int32, ∀ j, j < 5 → M s0 j = .int (v0 j) := ⟨fun j => vI (M s0 j), fun j hj => by obtain ⟨v, e⟩ := hv j hj; show M s0 j = .int (vI (M s0 j)); rw [e]; rfl⟩
      refine LI_L_taught hX hs (hdd.imp_right fun z => ⟨z.2.2.1, z.2.2.2⟩) hta (by omega) (fun M1 hf1 hF1 => ?_) 21 0 M (by decide) hv0 (fun _ _ => rfl) (by decide)
      have hC1 := hC.fr (M1 := M1) (fun q g1 g2 => hF1 q (by omega))
      obtain ⟨hlay, ⟨ω, hV, hfa⟩, hR, hP9, hA9, hP29, hBM, hE9, hT9⟩ := id hC1
      refine T_aload0 dL_taught_76 rfl ?_
      refine T_aload2 dL_taught_77 rfl ?_
      refine T_iconst (0) dL_taught_78 rfl rfl ?_
      refine T_iald 0 hta rfl (by decide) (by decide) dL_taught_79 rfl (hf1 0 (by decide)) ?_
      refine T_aload2 dL_taught_80 rfl ?_
      refine T_iconst (1) dL_taught_81 rfl rfl ?_
      refine T_iald 1 hta rfl (by decide) (by decide) dL_taught_82 rfl (hf1 1 (by decide)) ?_
      refine T_aload2 dL_taught_83 rfl ?_
      refine T_iconst (2) dL_taught_84 rfl rfl ?_
      refine T_iald 2 hta rfl (by decide) (by decide) dL_taught_85 rfl (hf1 2 (by decide)) ?_
      refine T_aload2 dL_taught_86 rfl ?_
      refine T_iconst (3) dL_taught_87 rfl rfl ?_
      refine T_iald 3 hta rfl (by decide) (by decide) dL_taught_88 rfl (hf1 3 (by decide)) ?_
      refine T_aload2 dL_taught_89 rfl ?_
      refine T_iconst (4) dL_taught_90 rfl rfl ?_
      refine T_iald 4 hta rfl (by decide) (by decide) dL_taught_91 rfl (hf1 4 (by decide)) ?_
      refine T_cXV5 (mc' := 1) (ms' := 6) (c_X10_feed hX hl (by omega) hV hBM _ _ _ _ _) hX kL_25 (Or.inl ⟨_, _, _, _, hV.t_x, by decide, rfl⟩) (by decide) (Nat.le_of_ble_eq_true rfl) dL_taught_92 rfl ?_ (by
        rintro _ _ _ _ _ ⟨⟨-, hbad⟩, -⟩ _
        exact absurd (show 20 * t ≤ 1980 by omega) hbad)
      rintro _ szq τq M2 ⟨⟨rfl, -⟩, ea, eb, hV2, hB2, hf2⟩
      obtain rfl := ea.symm
      obtain rfl := eb.symm
      have hC2 := hC1.setFB hV2 hfa hB2 hf2
      refine T_pop dL_taught_95 rfl rfl ?_
      refine T_iinc3 rfl (by decide) dL_taught_96 rfl (show nI (20 * t) + Int32.ofInt 20 = nI (20 * (t + 1)) by rw [show 20 * (t + 1) = 20 * t + 20 by omega]; exact nI_add _ 20) ?_
      refine T_goto 12 dL_taught_99 (by decide) ?_
      refine T_less ?_ ?_ (ih (t + 1) M2 _ _ (by omega) hC2 (fd_ch hs0.asc (feW_5 _ _ _ _ _ rfl rfl rfl rfl rfl) hB) (fd_8 hB8) (fun q g1 g2 g3 => (hf2 q g1 g2).trans ((hF1 q g3).trans (hF q g1 g2 g3))) (fun j hj => ⟨_, (congrFun (hf2 s0 (by omega) (by omega)) j).trans (hf1 j hj)⟩) (by omega))
      · omega
      · omega
set_option maxHeartbeats 1000000 in
theorem c_L_taught {l : Launch} {D : va_G} {cA : Nat → ClassId} {n0 : Nat} {sg adK adV : Nat → Nat} {sgA smA wdA bS LS : Nat} {xs : Nat → Int32} (hX : SF n0 (XW0 sg adK adV sgA smA wdA n0 bS LS xs)) {sz : Nat} {τ : TY} (hl : l.stackTraces = false) {M : ME} {x a9 w9 n8 r p r2 p2 a b c hc wc sc : Nat} {ρ π : RH} {ν : NU} {σ : Nat → Nat} {B : Nat → Nat} {fa : Int32} {s : List Nat} (hs0 : ST adK adV τ M a9 w9 s) (hs15 : s.length ≤ 1500) (hdd : CSt adK adV a9 w9 s ∨ (x + 144 ≤ a9 ∧ x + 144 ≤ w9 ∧ a9 < sz ∧ w9 < sz)) (hxs : x + 144 ≤ sz) (hC : CS sg τ M x r p r2 p2 n8 a b c hc wc sc ρ ν π σ B fa) (h8 : n8 ≤ 2000) (hB8 : ∀ i, B i < 256) : CT l D cA n0 (XW0 sg adK adV sgA smA wdA n0 bS LS xs) mL_taught 106 81 490 sz τ M [.ref x, .ref a9] (fun v' sz' τ' M' => sz' = sz + 1 ∧ τ' = tyN τ sz (100, 5) ∧ (∀ q, q < sz → (q < x ∨ x + 143 ≤ q) → M' q = (meN M sz fun _ => .int 0) q) ∧ ∃ B', (∀ i, i < s.length → B' i = s.getD i 0) ∧ ∃ lt K S V q' β', Toks B' s.length lt K S V ∧ LSr K (fun t => (V t).toInt32) pq0 be0 q' β' ∧ (q'.1 = true → K q'.2.1 = 45) ∧ v' = some (.int (erV V S q')) ∧ (erV V S q' = 0 → ∃ a' b' c' hc' wc' sc' ρ' ν' π' σ', CS sg τ' M' x r2 p2 r p 0 a' b' c' hc' wc' sc' ρ' ν' π' σ' B' (erA V S q') ∧ ρ' 6 0 = ρ 6 0 ∧ ρ' 7 0 = ρ 7 0 ∧ (hc' ≤ 12 ∧ wc' ≤ 12 ∧ sc' ≤ 400) ∧ LC V q'.2 β' a' b' c' ρ' ν' hc' wc' sc' σ' π')) := by
  refine CT.of (ls := [.ref x, .ref a9, UU, UU, UU]) (by decide) (Nat.le_of_ble_eq_true rfl) rfl ?_
  refine T_iconst (5) dL_taught_0 rfl rfl ?_
  refine T_newa (atype := .int) (N := 5) 0 (fun _ => .int 0) ka_int (by decide) rfl rfl (by decide) rfl dL_taught_1 rfl ?_
  refine T_astore2 rfl (by decide) dL_taught_3 rfl ?_
  refine T_aload0 dL_taught_4 rfl ?_
  refine T_iconst (0) dL_taught_5 rfl rfl ?_
  have hC0 := (hC.fr (M1 := meN M sz fun _ => .int 0) (fun q g1 g2 => meN_n (by omega))).tau (τ' := tyN τ sz (100, 5)) (fun q g1 g2 => tyN_n (by omega))
  have hs1 : ST adK adV (tyN τ sz (100, 5)) (meN M sz fun _ => .int 0) a9 w9 s := hs0.old (sz := sz) ⟨fun q hq => tyN_n (by omega), fun q hq => meN_n (by omega)⟩ (hdd.imp_right fun z => ⟨z.2.2.1, z.2.2.2⟩)
  obtain ⟨hlay, ⟨ω, hV, hfa⟩, hR, hP9, hA9, hP29, hBM, hE9, hT9⟩ := id hC0
  refine T_cXV1 (mc' := 1) (ms' := 6) (c_X10_trim hX hl h8 hV (nI 0)) hX kL_9 (Or.inl ⟨_, _, _, _, hV.t_x, by decide, rfl⟩) (by decide) (Nat.le_of_ble_eq_true rfl) dL_taught_6 rfl ?_ (by
    rintro _ _ _ _ _ ⟨⟨-, hbad⟩, -⟩ _
    exact absurd hbad (ii_in (j := 0) (by omega) (by omega)))
  rintro _ szq τq M3 ⟨⟨rfl, -⟩, ea, eb, hV3, hf3⟩
  obtain rfl := ea.symm
  obtain rfl := eb.symm
  rw [nI_cl (by omega)] at hV3
  have hC3 := hC0.setF hV3 hfa hf3
  refine T_pop dL_taught_9 rfl rfl ?_
  refine T_iconst (0) dL_taught_10 rfl rfl ?_
  refine T_istore3 rfl (by decide) dL_taught_11 rfl ?_
  refine T_less ?_ ?_ (LO_L_taught hX hl (s0 := sz) (M0 := meN M sz fun _ => .int 0) hs1 hs15 hdd (tyN_s _ _ _) hxs 77 0 M3 B _ (by omega) hC3 (fun i hi => absurd hi (by omega)) hB8 (fun q g1 _ _ => hf3 q g1) (fun j _ => ⟨0, (congrFun (hf3 sz (by omega)) j).trans (congrFun (meN_s _ _ _) j)⟩) (by omega))
  · omega
  · omega
