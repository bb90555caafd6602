/-! what the tokens have told so far, token by token -/
def NMi (V : Nat → Int64) (rl : Nat → Int32) (x : Int32) (ch m T : Nat) : Prop := ∀ n, n < 20 → tdR V rl x (nmV ch n) T = if n < m then nI n else -1
def TI (V : Nat → Int64) (S : Nat → Int32) (rl : Nat → Int32) (T a b c h w : Nat) (D : RH) : Prop :=
  (flF V S rl T).1 = 0 ∧ (NMi V rl 1 115 a T ∧ NMi V rl 2 104 b T ∧ NMi V rl 3 103 c T) ∧ ZP V rl T a b c h w D
section TIS
variable {V : Nat → Int64} {S : Nat → Int32} {rl rl' : Nat → Int32} {T a b c h w n : Nat} {D : RH} {x : Int32}
theorem NMi.cc {ch m : Nat} (hN : NMi V rl x ch m T) (e : ∀ i, i < T → rl' i = rl i) : NMi V rl' x ch m T := fun n hn => by rw [tdR_c e]; exact hN n hn
theorem TI.cc (hT : TI V S rl T a b c h w D) (e : ∀ i, i < T → rl' i = rl i) : TI V S rl' T a b c h w D := by
  obtain ⟨h1, ⟨n1, n2, n3⟩, z1, z2, z3, z4, z5, z6⟩ := hT
  exact ⟨by rw [flF_c e]; exact h1, ⟨n1.cc e, n2.cc e, n3.cc e⟩, by rw [cntR_c e]; exact z1, by rw [cntR_c e]; exact z2, by rw [cntR_c e]; exact z3, by rw [cntR_c e]; exact z4, by rw [cntR_c e]; exact z5, by rw [dtF_c e]; exact z6⟩
theorem fl_st (h1 : (flF V S rl T).1 = 0) (e : erF V rl T = 0) : (flF V S rl (T + 1)).1 = 0 := by
  show nfE (flF V S rl T).1 (erF V rl T) = 0
  rw [e, nfE_0]; exact h1
theorem NMi.nx {ch m : Nat} (hN : NMi V rl x ch m T) (e : ¬ rl T = x) : NMi V rl x ch m (T + 1) := fun n hn => by rw [tdR_n e]; exact hN n hn
theorem NMi.y {ch m : Nat} (hN : NMi V rl x ch m T) (e : rl T = x) (hc : cntR rl x T = m) (hm : m < 20) (hV : V T = nmV ch m) (hi : ∀ n, n < 20 → (nmV ch m = nmV ch n ↔ m = n)) : NMi V rl x ch (m + 1) (T + 1) := fun n hn => by
  rw [tdR_y e, hN n hn, hc, hV]
  by_cases q : n < m
  · rw [if_pos q, if_neg (nI_m1 (by omega)), if_pos (by omega)]
  · rw [if_neg q, if_pos rfl]
    by_cases q2 : n = m
    · subst q2; rw [if_pos rfl, if_pos (by omega)]
    · rw [if_neg (fun z => q2 ((hi n hn).mp z).symm), if_neg (by omega)]
/-- a token that tells nothing by itself -/
theorem TI.pl (hT : TI V S rl T a b c h w D) (e : erF V rl T = 0) (hr : ¬ rl T = 1 ∧ ¬ rl T = 2 ∧ ¬ rl T = 3 ∧ ¬ rl T = 4 ∧ ¬ rl T = 5) {D' : RH} (hD : dtF V rl (T + 1) = D') : TI V S rl (T + 1) a b c h w D' := by
  obtain ⟨h1, ⟨n1, n2, n3⟩, z1, z2, z3, z4, z5, z6⟩ := hT
  obtain ⟨r1, r2, r3, r4, r5⟩ := hr
  exact ⟨fl_st h1 e, ⟨n1.nx r1, n2.nx r2, n3.nx r3⟩, (cntR_n r1).trans z1, (cntR_n r2).trans z2, (cntR_n r3).trans z3, (cntR_n r4).trans z4, (cntR_n r5).trans z5, hD⟩
theorem TI.dt (hT : TI V S rl T a b c h w D) : dtF V rl T = D := hT.2.2.2.2.2.2.2
theorem TI.t0 (hT : TI V S rl T a b c h w D) (r : rl T = 0) : TI V S rl (T + 1) a b c h w D :=
  hT.pl (erF_0 r) (by rw [r]; decide) ((dtF_n (Or.inl r)).trans hT.dt)
theorem TI.t19 (hT : TI V S rl T a b c h w D) (r : rl T = 19) : TI V S rl (T + 1) a b c h w D :=
  hT.pl (by unfold erF; rw [r]; rfl) (by rw [r]; decide) ((dtF_n (by rw [r]; decide)).trans hT.dt)
theorem NMi.fd {ch m : Nat} (hN : NMi V rl x ch m T) (hn : n < m) (hm : m ≤ 20) : tdR V rl x (nmV ch n) T = nI n := by rw [hN n (by omega), if_pos hn]
theorem ng_n (h : n < 20) : ngE (nI n) = 0 := if_neg (nI_m1 (by omega))
theorem TI.t17 (hT : TI V S rl T a b c h w D) (r : rl T = 17) (hV : V T = nmV 104 n) (hn : n < b) (hb : b ≤ 20) : TI V S rl (T + 1) a b c h w D := by
  refine hT.pl ?_ (by rw [r]; decide) ((dtF_n (by rw [r]; decide)).trans hT.dt)
  have e := hT.2.1.2.1.fd hn hb
  unfold erF
  rw [r, hV]
  simp only [e, ng_n (show n < 20 by omega)]
  rfl
theorem TI.t18 (hT : TI V S rl T a b c h w D) (r : rl T = 18) (hV : V T = nmV 115 n) (hn : n < a) (ha : a ≤ 20) : TI V S rl (T + 1) a b c h w D := by
  refine hT.pl ?_ (by rw [r]; decide) ((dtF_n (by rw [r]; decide)).trans hT.dt)
  have e := hT.2.1.1.fd hn ha
  unfold erF
  rw [r, hV]
  simp only [e, ng_n (show n < 20 by omega)]
  rfl
theorem TI.t1 (hT : TI V S rl T a b c h w D) (r : rl T = 1) (hV : V T = nmV 115 a) (ha : a < 8) : TI V S rl (T + 1) (a + 1) b c h w D := by
  obtain ⟨h1, ⟨n1, n2, n3⟩, z1, z2, z3, z4, z5, z6⟩ := hT
  have e : tdR V rl 1 (nmV 115 a) T = -1 := by rw [n1 a (by omega), if_neg (Nat.lt_irrefl _)]
  refine ⟨fl_st h1 ?_, ⟨n1.y r z1 (by omega) hV (fun n hn => (nm_inj a (by omega) n hn).1), n2.nx (by rw [r]; decide), n3.nx (by rw [r]; decide)⟩, by rw [cntR_y r, z1], (cntR_n (by rw [r]; decide)).trans z2, (cntR_n (by rw [r]; decide)).trans z3, (cntR_n (by rw [r]; decide)).trans z4, (cntR_n (by rw [r]; decide)).trans z5, (dtF_n (Or.inr (Or.inl r))).trans z6⟩
  unfold erF
  rw [if_pos r, hV, if_pos e, if_neg (by omega)]
theorem TI.t2 (hT : TI V S rl T a b c h w D) (r : rl T = 2) (hV : V T = nmV 104 b) (hb : b < 6) : TI V S rl (T + 1) a (b + 1) c h w D := by
  obtain ⟨h1, ⟨n1, n2, n3⟩, z1, z2, z3, z4, z5, z6⟩ := hT
  have e : tdR V rl 2 (nmV 104 b) T = -1 := by rw [n2 b (by omega), if_neg (Nat.lt_irrefl _)]
  refine ⟨fl_st h1 ?_, ⟨n1.nx (by rw [r]; decide), n2.y r z2 (by omega) hV (fun n hn => (nm_inj b (by omega) n hn).2.1), n3.nx (by rw [r]; decide)⟩, (cntR_n (by rw [r]; decide)).trans z1, by rw [cntR_y r, z2], (cntR_n (by rw [r]; decide)).trans z3, (cntR_n (by rw [r]; decide)).trans z4, (cntR_n (by rw [r]; decide)).trans z5, (dtF_n (Or.inr (Or.inr (Or.inl r)))).trans z6⟩
  unfold erF
  rw [if_neg (by rw [r]; decide), if_pos r, hV, if_pos e, if_neg (by omega)]
theorem TI.t3 (hT : TI V S rl T a b c h w D) (r : rl T = 3) (hV : V T = nmV 103 c) (hc : c < 20) : TI V S rl (T + 1) a b (c + 1) h w D := by
  obtain ⟨h1, ⟨n1, n2, n3⟩, z1, z2, z3, z4, z5, z6⟩ := hT
  have e : tdR V rl 3 (nmV 103 c) T = -1 := by rw [n3 c (by omega), if_neg (Nat.lt_irrefl _)]
  refine ⟨fl_st h1 ?_, ⟨n1.nx (by rw [r]; decide), n2.nx (by rw [r]; decide), n3.y r z3 (by omega) hV (fun n hn => (nm_inj c (by omega) n hn).2.2)⟩, (cntR_n (by rw [r]; decide)).trans z1, (cntR_n (by rw [r]; decide)).trans z2, by rw [cntR_y r, z3], (cntR_n (by rw [r]; decide)).trans z4, (cntR_n (by rw [r]; decide)).trans z5, (dtF_n (by rw [r]; decide)).trans z6⟩
  unfold erF
  rw [if_neg (by rw [r]; decide), if_neg (by rw [r]; decide), if_pos r, hV, if_pos e, if_neg (by omega)]
theorem TI.t4 (hT : TI V S rl T a b c h w D) (r : rl T = 4) (hh : h < 12) : TI V S rl (T + 1) a b c (h + 1) w D := by
  obtain ⟨h1, ⟨n1, n2, n3⟩, z1, z2, z3, z4, z5, z6⟩ := hT
  refine ⟨fl_st h1 ?_, ⟨n1.nx (by rw [r]; decide), n2.nx (by rw [r]; decide), n3.nx (by rw [r]; decide)⟩, (cntR_n (by rw [r]; decide)).trans z1, (cntR_n (by rw [r]; decide)).trans z2, (cntR_n (by rw [r]; decide)).trans z3, by rw [cntR_y r, z4], (cntR_n (by rw [r]; decide)).trans z5, (dtF_n (by rw [r]; decide)).trans z6⟩
  unfold erF
  rw [if_neg (by rw [r]; decide), if_neg (by rw [r]; decide), if_neg (by rw [r]; decide), if_pos r, if_neg (by omega)]
theorem TI.t5 (hT : TI V S rl T a b c h w D) (r : rl T = 5) (hw : w < 12) : TI V S rl (T + 1) a b c h (w + 1) D := by
  obtain ⟨h1, ⟨n1, n2, n3⟩, z1, z2, z3, z4, z5, z6⟩ := hT
  refine ⟨fl_st h1 ?_, ⟨n1.nx (by rw [r]; decide), n2.nx (by rw [r]; decide), n3.nx (by rw [r]; decide)⟩, (cntR_n (by rw [r]; decide)).trans z1, (cntR_n (by rw [r]; decide)).trans z2, (cntR_n (by rw [r]; decide)).trans z3, (cntR_n (by rw [r]; decide)).trans z4, by rw [cntR_y r, z5], (dtF_n (by rw [r]; decide)).trans z6⟩
  unfold erF
  rw [if_neg (by rw [r]; decide), if_neg (by rw [r]; decide), if_neg (by rw [r]; decide), if_neg (by rw [r]; decide), if_pos r, if_neg (by omega)]
theorem rg_19 : ∀ n, n < 100 → (1 ≤ n → n ≤ 9 → rgE (Int64.ofNat n) 1 9 = 0) ∧ (n ≤ 9 → rgE (Int64.ofNat n) 0 9 = 0) ∧ (1 ≤ n → rgE (Int64.ofNat n) 1 99 = 0) ∧ (1 ≤ n → n ≤ 60 → rgE (Int64.ofNat n) 1 60 = 0) ∧ (Int64.ofNat n).toInt32 = nI n := by decide +kernel
theorem tN (h : n < 100) : (Int64.ofNat n).toInt32 = nI n := (rg_19 n h).2.2.2.2
theorem TI.t6 (hT : TI V S rl T a b c h w D) (r : rl T = 6) (hV : V T = Int64.ofNat n) (h1 : 1 ≤ n ∧ n ≤ 9) : TI V S rl (T + 1) a b c h w (u2 D 41 (a - 1) (nI n)) := by
  refine hT.pl ?_ (by rw [r]; decide) ?_
  · unfold erF; rw [r, hV]; exact (rg_19 n (by omega)).1 h1.1 h1.2
  · rw [dtF, if_pos r, hT.dt, hT.2.2.1, hV, tN (by omega)]
theorem TI.t7 (hT : TI V S rl T a b c h w D) (r : rl T = 7) (hV : V T = Int64.ofNat n) (h1 : n ≤ 9) : TI V S rl (T + 1) a b c h w (u2 D 42 (a - 1) (if rl (T - 1) = 19 then -(nI n) else nI n)) := by
  refine hT.pl ?_ (by rw [r]; decide) ?_
  · unfold erF; rw [r, hV]; exact (rg_19 n (by omega)).2.1 h1
  · rw [dtF, if_neg (by rw [r]; decide), if_pos r, hT.dt, hT.2.2.1, hV, tN (by omega)]
theorem TI.t8 (hT : TI V S rl T a b c h w D) (r : rl T = 8) (hV : V T = Int64.ofNat n) (h1 : n ≤ 9) : TI V S rl (T + 1) a b c h w (u2 D 63 (a - 1) (nI n)) := by
  refine hT.pl ?_ (by rw [r]; decide) ?_
  · unfold erF; rw [r, hV]; exact (rg_19 n (by omega)).2.1 h1
  · rw [dtF, if_neg (by rw [r]; decide), if_neg (by rw [r]; decide), if_pos r, hT.dt, hT.2.2.1, hV, tN (by omega)]
theorem TI.t9 (hT : TI V S rl T a b c h w D) (r : rl T = 9) (hV : V T = Int64.ofNat n) (h1 : 1 ≤ n ∧ n ≤ 99) : TI V S rl (T + 1) a b c h w (u2 D 11 (b - 1) (nI n)) := by
  refine hT.pl ?_ (by rw [r]; decide) ?_
  · unfold erF; rw [r, hV]; exact (rg_19 n (by omega)).2.2.1 h1.1
  · rw [dtF, if_neg (by rw [r]; decide), if_neg (by rw [r]; decide), if_neg (by rw [r]; decide), if_pos r, hT.dt, hT.2.2.2.1, hV, tN (by omega)]
theorem TI.t10 (hT : TI V S rl T a b c h w D) (r : rl T = 10) (hV : V T = Int64.ofNat n) (h1 : 1 ≤ n ∧ n ≤ 9) : TI V S rl (T + 1) a b c h w (u2 D 60 (b - 1) (nI n)) := by
  refine hT.pl ?_ (by rw [r]; decide) ?_
  · unfold erF; rw [r, hV]; exact (rg_19 n (by omega)).1 h1.1 h1.2
  · rw [dtF, if_neg (by rw [r]; decide), if_neg (by rw [r]; decide), if_neg (by rw [r]; decide), if_neg (by rw [r]; decide), if_pos r, hT.dt, hT.2.2.2.1, hV, tN (by omega)]
theorem TI.t11 (hT : TI V S rl T a b c h w D) (r : rl T = 11) (hV : V T = Int64.ofNat n) (h1 : 1 ≤ n ∧ n ≤ 99) : TI V S rl (T + 1) a b c h w (u2 D 61 (b - 1) (nI n)) := by
  refine hT.pl ?_ (by rw [r]; decide) ?_
  · unfold erF; rw [r, hV]; exact (rg_19 n (by omega)).2.2.1 h1.1
  · rw [dtF, if_neg (by rw [r]; decide), if_neg (by rw [r]; decide), if_neg (by rw [r]; decide), if_neg (by rw [r]; decide), if_neg (by rw [r]; decide), if_pos r, hT.dt, hT.2.2.2.1, hV, tN (by omega)]
theorem TI.t12 (hT : TI V S rl T a b c h w D) (r : rl T = 12) : TI V S rl (T + 1) a b c h w (u2 D 14 (b - 1) 1) := by
  refine hT.pl ?_ (by rw [r]; decide) ?_
  · unfold erF; rw [r]; rfl
  · rw [dtF, if_neg (by rw [r]; decide), if_neg (by rw [r]; decide), if_neg (by rw [r]; decide), if_neg (by rw [r]; decide), if_neg (by rw [r]; decide), if_neg (by rw [r]; decide), if_pos r, hT.dt, hT.2.2.2.1]
theorem TI.t13 (hT : TI V S rl T a b c h w D) (r : rl T = 13) (hV : V T = Int64.ofNat n) (h1 : 1 ≤ n ∧ n ≤ 60) : TI V S rl (T + 1) a b c h w (u2 D 31 (c - 1) (nI n)) := by
  refine hT.pl ?_ (by rw [r]; decide) ?_
  · unfold erF; rw [r, hV]; exact (rg_19 n (by omega)).2.2.2.1 h1.1 h1.2
  · rw [dtF, if_neg (by rw [r]; decide), if_neg (by rw [r]; decide), if_neg (by rw [r]; decide), if_neg (by rw [r]; decide), if_neg (by rw [r]; decide), if_neg (by rw [r]; decide), if_neg (by rw [r]; decide), if_pos r, hT.dt, hT.2.2.2.2.1, hV, tN (by omega)]
theorem TI.t14 (hT : TI V S rl T a b c h w D) (r : rl T = 14) (hV : V T = nmV 104 n) (hn : n < b) (hb : b ≤ 20) : TI V S rl (T + 1) a b c h w (u2 D 50 (h - 1) (nI n)) := by
  have e := hT.2.1.2.1.fd hn hb
  refine hT.pl ?_ (by rw [r]; decide) ?_
  · unfold erF
    rw [r, hV]
    simp only [e, ng_n (show n < 20 by omega)]
    rfl
  · rw [dtF, if_neg (by rw [r]; decide), if_neg (by rw [r]; decide), if_neg (by rw [r]; decide), if_neg (by rw [r]; decide), if_neg (by rw [r]; decide), if_neg (by rw [r]; decide), if_neg (by rw [r]; decide), if_neg (by rw [r]; decide), if_pos r, hT.dt, hT.2.2.2.2.2.1, hV, e]
theorem TI.t15 (hT : TI V S rl T a b c h w D) (r : rl T = 15) (hV : V T = nmV 104 n) (hn : n < b) (hb : b ≤ 20) : TI V S rl (T + 1) a b c h w (u2 D 55 (w - 1) (nI n)) := by
  have e := hT.2.1.2.1.fd hn hb
  refine hT.pl ?_ (by rw [r]; decide) ?_
  · unfold erF
    rw [r, hV]
    simp only [e, ng_n (show n < 20 by omega)]
    rfl
  · rw [dtF, if_neg (by rw [r]; decide), if_neg (by rw [r]; decide), if_neg (by rw [r]; decide), if_neg (by rw [r]; decide), if_neg (by rw [r]; decide), if_neg (by rw [r]; decide), if_neg (by rw [r]; decide), if_neg (by rw [r]; decide), if_neg (by rw [r]; decide), if_pos r, hT.dt, hT.2.2.2.2.2.2.1, hV, e]
theorem TI.t16 (hT : TI V S rl T a b c h w D) (r : rl T = 16) (hV : V T = nmV 115 n) (hn : n < a) (ha : a ≤ 20) : TI V S rl (T + 1) a b c h w (u2 D 56 (w - 1) (nI n)) := by
  have e := hT.2.1.1.fd hn ha
  refine hT.pl ?_ (by rw [r]; decide) ?_
  · unfold erF
    rw [r, hV]
    simp only [e, ng_n (show n < 20 by omega)]
    rfl
  · rw [dtF, if_neg (by rw [r]; decide), if_neg (by rw [r]; decide), if_neg (by rw [r]; decide), if_neg (by rw [r]; decide), if_neg (by rw [r]; decide), if_neg (by rw [r]; decide), if_neg (by rw [r]; decide), if_neg (by rw [r]; decide), if_neg (by rw [r]; decide), if_neg (by rw [r]; decide), if_pos r, hT.dt, hT.2.2.2.2.2.2.1, hV, e]
end TIS
