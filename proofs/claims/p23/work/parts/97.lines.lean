/-! the lines of stretches, horses and logs -/
def LQ (sg : Nat → Nat) (τ : TY) (M : ME) (j r p tp ln lt : Nat) (K : Nat → Nat) (S : Nat → Int32) (V : Nat → Int64) (q : PQ) (β : RH) : Prop :=
  TM τ M M (j + 1) sg tp ln lt K S V ∧ RQ τ M j r p lt S V q ∧ ∃ a b c ρ ν hn wn sn σ π κ, LM τ M M r a b c ρ ν ∧ PM τ M M p sg hn wn sn π σ κ ∧ (hn ≤ 12 ∧ wn ≤ 12 ∧ sn ≤ 400) ∧ (q.1 = true → q.2.2.1 ≤ q.2.1 ∧ ((flF V S q.2.2.2.2.2 q.2.1).1 = 0 → LC V q.2 β a b c ρ ν hn wn sn σ π))
section LCS
variable {K : Nat → Nat} {V : Nat → Int64} {S : Nat → Int32} {q : PQ} {s s0 s2 : PS} {a b c hn wn sn lt : Nat} {D β ρ π : RH} {ν : NU} {y : Int32} {σ : Nat → Nat}
theorem PSX.tr {s s' s'' : PS} (h : PSX s s') (g : PSX s' s'') : PSX s s'' := ⟨Nat.le_trans h.1 g.1, g.2.1.trans h.2.1, g.2.2.1.trans h.2.2.1, g.2.2.2.1.trans h.2.2.2.1, fun i hi => (g.2.2.2.2 i (Nat.lt_of_lt_of_le hi h.1)).trans (h.2.2.2.2 i hi)⟩
theorem LF.st (z : ZP V s.2.2.2.2 s.1 a b c hn wn D) (n : NMs V s.2.2.2.2 1 s.1 (ν 4) ∧ NMs V s.2.2.2.2 2 s.1 (ν 1) ∧ NMs V s.2.2.2.2 3 s.1 (ν 3)) (hz : ∀ i, s.1 ≤ i → s.2.2.2.2 i = 0) : LF V (true, adv s 1) (adv s 1) a b c hn wn D ν 0 := fun _ => by
  have e0 := hz s.1 (Nat.le_refl _)
  exact ⟨z.n (Or.inl e0), ⟨n.1.n (by rw [e0]; decide), n.2.1.n (by rw [e0]; decide), n.2.2.n (by rw [e0]; decide)⟩, PSX.rf _, fun i hi => hz i (Nat.le_trans (Nat.le_succ _) hi), Nat.succ_le_succ (Nat.zero_le _), e0⟩
theorem LF.re (g : LF V q s0 a b c hn wn D ν y) (h : q.1 = true → q.2 = s2) : LF V q s2 a b c hn wn D ν y := fun z => by
  obtain ⟨g1, g2, g3, g4⟩ := g z
  exact ⟨g1, g2, by rw [h z]; exact PSX.rf _, g4⟩
theorem erF_m1 {rl : Nat → Int32} {t : Nat} : erF V (uI rl t 1) t = if tdR V rl 1 (V t) t = -1 then (if cntR rl 1 t = 8 then 4 else 0) else 2 := by
  unfold erF; rw [uI_s, if_pos rfl, tdR_c (uI_c (Nat.le_refl _)), cntR_c (uI_c (Nat.le_refl _))]
theorem erF_m2 {rl : Nat → Int32} {t : Nat} : erF V (uI rl t 2) t = if tdR V rl 2 (V t) t = -1 then (if cntR rl 2 t = 6 then 4 else 0) else 2 := by
  unfold erF; rw [uI_s, if_neg (by decide), if_pos rfl, tdR_c (uI_c (Nat.le_refl _)), cntR_c (uI_c (Nat.le_refl _))]
theorem erF_m3 {rl : Nat → Int32} {t : Nat} : erF V (uI rl t 3) t = if tdR V rl 3 (V t) t = -1 then (if cntR rl 3 t = 20 then 4 else 0) else 2 := by
  unfold erF; rw [uI_s, if_neg (by decide), if_neg (by decide), if_pos rfl, tdR_c (uI_c (Nat.le_refl _)), cntR_c (uI_c (Nat.le_refl _))]
theorem nw_0 {x : Int32} {n m : Nat} (h : (if x = -1 then (if n = m then (4 : Int32) else 0) else 2) = 0) : ¬ n = m := by
  intro e
  rw [if_pos e] at h
  split at h <;> exact absurd h (by decide)
theorem b01_i {p : Prop} [Decidable p] : b01 (if p then 0 else 1) := by
  split
  · exact Or.inl rfl
  · exact Or.inr rfl
theorem b01_j {p : Prop} [Decidable p] : b01 (if p then 1 else 0) := by
  split
  · exact Or.inr rfl
  · exact Or.inl rfl
theorem ck_e {x : Int32} {n m : Nat} (hm : n ≤ m) : (if (if x = -1 then (0 : Int32) else 1) = 0 then (if (if m ≤ n then (1 : Int32) else 0) = 0 then (0 : Int32) else 4) else 2) = if x = -1 then (if n = m then 4 else 0) else 2 := by
  by_cases e : x = -1
  · rw [if_pos e, if_pos rfl, if_pos e]
    by_cases e2 : m ≤ n
    · rw [if_pos e2, if_neg (by decide), if_pos (by omega)]
    · rw [if_neg e2, if_pos rfl, if_neg (by omega)]
  · rw [if_neg e, if_neg (by decide), if_neg e]
theorem fdF_lt {f : Nat → Int64} {x : Int64} {n : Nat} (hn : n < 2 ^ 31) (h : fdF f x n < 0) : fdF f x n = -1 := (fdF_c f x n).resolve_right (fun ⟨j, h1, h2, _⟩ => by rw [h2] at h; exact absurd (nI_pos2 (n := j) (by omega)) (Int32.not_le.mpr h))
theorem fdF_nlt {f : Nat → Int64} {x : Int64} {n : Nat} (h : ¬ fdF f x n < 0) : ¬ fdF f x n = -1 := fun z => h (by rw [z]; decide)
theorem erF_r6 (rl : Nat → Int32) (t : Nat) (e : rl t = 6) : erF V rl t = rgE (V t) 1 9 := by unfold erF; rw [e]; rw [if_neg (by decide), if_neg (by decide), if_neg (by decide), if_neg (by decide), if_neg (by decide), if_neg (by decide), if_neg (by decide), if_pos (by decide)]
theorem erF_r10 (rl : Nat → Int32) (t : Nat) (e : rl t = 10) : erF V rl t = rgE (V t) 1 9 := by unfold erF; rw [e]; rw [if_neg (by decide), if_neg (by decide), if_neg (by decide), if_neg (by decide), if_neg (by decide), if_neg (by decide), if_neg (by decide), if_pos (by decide)]
theorem erF_r7 (rl : Nat → Int32) (t : Nat) (e : rl t = 7) : erF V rl t = rgE (V t) 0 9 := by unfold erF; rw [e]; rw [if_neg (by decide), if_neg (by decide), if_neg (by decide), if_neg (by decide), if_neg (by decide), if_neg (by decide), if_neg (by decide), if_neg (by decide), if_pos (by decide)]
theorem erF_r8 (rl : Nat → Int32) (t : Nat) (e : rl t = 8) : erF V rl t = rgE (V t) 0 9 := by unfold erF; rw [e]; rw [if_neg (by decide), if_neg (by decide), if_neg (by decide), if_neg (by decide), if_neg (by decide), if_neg (by decide), if_neg (by decide), if_neg (by decide), if_pos (by decide)]
theorem erF_r9 (rl : Nat → Int32) (t : Nat) (e : rl t = 9) : erF V rl t = rgE (V t) 1 99 := by unfold erF; rw [e]; rw [if_neg (by decide), if_neg (by decide), if_neg (by decide), if_neg (by decide), if_neg (by decide), if_neg (by decide), if_neg (by decide), if_neg (by decide), if_neg (by decide), if_pos (by decide)]
theorem erF_r11 (rl : Nat → Int32) (t : Nat) (e : rl t = 11) : erF V rl t = rgE (V t) 1 99 := by unfold erF; rw [e]; rw [if_neg (by decide), if_neg (by decide), if_neg (by decide), if_neg (by decide), if_neg (by decide), if_neg (by decide), if_neg (by decide), if_neg (by decide), if_neg (by decide), if_pos (by decide)]
theorem erF_r13 (rl : Nat → Int32) (t : Nat) (e : rl t = 13) : erF V rl t = rgE (V t) 1 60 := by unfold erF; rw [e]; rw [if_neg (by decide), if_neg (by decide), if_neg (by decide), if_neg (by decide), if_neg (by decide), if_neg (by decide), if_neg (by decide), if_neg (by decide), if_neg (by decide), if_neg (by decide), if_pos (by decide)]
theorem erF_r19 (rl : Nat → Int32) (t : Nat) (e : rl t = 19) : erF V rl t = 0 := by unfold erF; rw [e]; rw [if_neg (by decide), if_neg (by decide), if_neg (by decide), if_neg (by decide), if_neg (by decide), if_neg (by decide), if_neg (by decide), if_neg (by decide), if_neg (by decide), if_neg (by decide), if_neg (by decide)]
theorem erF_r12 (rl : Nat → Int32) (t : Nat) (e : rl t = 12) : erF V rl t = 0 := by unfold erF; rw [e]; rw [if_neg (by decide), if_neg (by decide), if_neg (by decide), if_neg (by decide), if_neg (by decide), if_neg (by decide), if_neg (by decide), if_neg (by decide), if_neg (by decide), if_neg (by decide), if_neg (by decide)]
def lnst (K : Nat → Nat) (s : PS) : PQ := (tkR K 44 8 ((tkQ K 3 ((tkR K 44 7 ((opR K 35 19 ((tkQ K 2 ((tkR K 44 6 ((tkQ K 1 ((tkR K 43 1 ((true, adv s 1)))))))))))))))))
def lnho (K : Nat → Nat) (s : PS) : PQ := (opR K 8 12 ((tkR K 44 11 ((tkQ K 7 ((tkR K 44 10 ((tkQ K 6 ((tkR K 44 9 ((tkQ K 5 ((tkR K 43 2 ((true, adv s 1)))))))))))))))))
def lnlo (K : Nat → Nat) (s : PS) : PQ := (tkR K 44 13 ((tkQ K 10 ((tkR K 43 3 ((true, adv s 1)))))))
set_option maxHeartbeats 1000000 in
theorem LC.st (h : LC V s β a b c ρ ν hn wn sn σ π) (hz : ∀ i, s.1 ≤ i → s.2.2.2.2 i = 0) (hm : a ≤ 8) (z : (lnst K s).1 = true) (ht : (lnst K s).2.1 ≤ 400) (hf : (flF V S (lnst K s).2.2.2.2.2 (lnst K s).2.1).1 = 0) : a < 8 ∧ LC V (lnst K s).2 β (a + 1) (b) (c) (tellS ρ a (V (cu lt (tkQ K 1 ((tkR K 43 1 ((true, adv s 1))))))).toInt32 (if K (cu lt (tkQ K 2 ((tkR K 44 6 ((tkQ K 1 ((tkR K 43 1 ((true, adv s 1)))))))))) = 35 then -(V (cu lt (opR K 35 19 ((tkQ K 2 ((tkR K 44 6 ((tkQ K 1 ((tkR K 43 1 ((true, adv s 1))))))))))))).toInt32 else (V (cu lt (opR K 35 19 ((tkQ K 2 ((tkR K 44 6 ((tkQ K 1 ((tkR K 43 1 ((true, adv s 1))))))))))))).toInt32) (V (cu lt (tkQ K 3 ((tkR K 44 7 ((opR K 35 19 ((tkQ K 2 ((tkR K 44 6 ((tkQ K 1 ((tkR K 43 1 ((true, adv s 1))))))))))))))))).toInt32) (u2l ν 4 a (V (cu lt (true, adv s 1)))) hn wn sn σ π := by
  obtain ⟨D, z1, n1, d1, t1⟩ := h
  have g1 := LF.st (V := V) z1 n1 hz
  have g2 := (g1.r1 (k := 43) (K := K) (lt := lt)).re (s2 := adv (rol (adv s 1) (s.1 + 1) 1) 1) (fun z => by obtain ⟨-, -, e⟩ := tkR_t z; rw [e]; rfl)
  have g3 := g2.tk (k := 1) (K := K)
  have g4 := g3.r6 (k := 44) (K := K) (lt := lt)
  have g5 := g4.tk (k := 2) (K := K)
  have g6 := g5.o19 (k := 35) (K := K) (lt := lt)
  have g7 := g6.r7 (k := 44) (K := K) (lt := lt)
  have g8 := g7.tk (k := 3) (K := K)
  have g9 := g8.r8 (k := 44) (K := K) (lt := lt)
  obtain ⟨w1, w2, w3, w4, w5, w6⟩ := g9 z
  have hlt := w3.1
  have hlt2 : s.1 + 1 < (lnst K s).2.1 := hlt
  have h9 := flF_er (V := V) (S := S) hlt2 hf
  rw [erF_c (V := V) (k := s.1 + 1) (rl' := (lnst K s).2.2.2.2.2) (rl := uI s.2.2.2.2 (s.1 + 1) 1) (fun i hi => w3.2.2.2.2 i hi), erF_m1] at h9
  have h8 := nw_0 h9
  have h7 := (g1 rfl).1
  have h6 : cntR s.2.2.2.2 1 (s.1 + 1) = a := h7.1
  have hx : PSX s (lnst K s).2 := PSX.tr (s' := adv (rol (adv s 1) (s.1 + 1) 1) 1) ⟨Nat.le_add_right _ 2, rfl, rfl, rfl, fun i hi => uI_i (by omega)⟩ w3
  refine ⟨by omega, _, w1, w2, ?_, t1.x hx (by omega)⟩
  have h5 := d1.stretch (V (cu lt (tkQ K 1 ((tkR K 43 1 ((true, adv s 1))))))).toInt32 (if K (cu lt (tkQ K 2 ((tkR K 44 6 ((tkQ K 1 ((tkR K 43 1 ((true, adv s 1)))))))))) = 35 then -(V (cu lt (opR K 35 19 ((tkQ K 2 ((tkR K 44 6 ((tkQ K 1 ((tkR K 43 1 ((true, adv s 1))))))))))))).toInt32 else (V (cu lt (opR K 35 19 ((tkQ K 2 ((tkR K 44 6 ((tkQ K 1 ((tkR K 43 1 ((true, adv s 1))))))))))))).toInt32) (V (cu lt (tkQ K 3 ((tkR K 44 7 ((opR K 35 19 ((tkQ K 2 ((tkR K 44 6 ((tkQ K 1 ((tkR K 43 1 ((true, adv s 1))))))))))))))))).toInt32
  have h4 : ∀ x : Int32, (if (if K (cu lt (tkQ K 2 ((tkR K 44 6 ((tkQ K 1 ((tkR K 43 1 ((true, adv s 1)))))))))) = 35 then (19 : Int32) else 0) = 19 then -x else x) = if K (cu lt (tkQ K 2 ((tkR K 44 6 ((tkQ K 1 ((tkR K 43 1 ((true, adv s 1)))))))))) = 35 then -x else x := fun x => by
    by_cases e : K (cu lt (tkQ K 2 ((tkR K 44 6 ((tkQ K 1 ((tkR K 43 1 ((true, adv s 1)))))))))) = 35
    · rw [if_pos e, if_pos e, if_pos rfl]
    · rw [if_neg e, if_neg e, if_neg (by decide)]
  rw [h4]
  exact h5
theorem lnst_ok (z : (lnst K s).1 = true) : ((flF V S (lnst K s).2.2.2.2.2 (lnst K s).2.1).1 = 0 → (flF V S s.2.2.2.2 s.1).1 = 0) ∧ (lnst K s).2.2.1 = s.2.1 ∧ s.1 ≤ (lnst K s).2.1 := by
  have hx : PSX s (lnst K s).2 := by
    have st : ∀ {q : PQ} {k : Nat}, (tkQ K k q).1 = true → PSX s q.2 → PSX s (tkQ K k q).2 := fun z g => by rw [(tkQ_t z).2.2]; exact g.ad
    have sr : ∀ {q : PQ} {k : Nat} {x : Int32}, (tkR K k x q).1 = true → PSX s q.2 → PSX s (tkR K k x q).2 := fun z g => by rw [(tkR_t z).2.2]; exact g.ro
    have so : ∀ {q : PQ} {k : Nat} {x : Int32}, PSX s q.2 → PSX s (opR K k x q).2 := fun {q k x} g => by
      unfold opR; split
      · exact g.ro
      · exact g
    have so1 : ∀ {q : PQ} {k : Nat} {x : Int32}, (opR K k x q).1 = true → q.1 = true := fun {q k x} z => by
      unfold opR at z; split at z
      · rename_i e; exact e.1
      · exact z
    have y8 : ((tkR K 44 8 ((tkQ K 3 ((tkR K 44 7 ((opR K 35 19 ((tkQ K 2 ((tkR K 44 6 ((tkQ K 1 ((tkR K 43 1 ((true, adv s 1)))))))))))))))))).1 = true := z
    have y7 : ((tkQ K 3 ((tkR K 44 7 ((opR K 35 19 ((tkQ K 2 ((tkR K 44 6 ((tkQ K 1 ((tkR K 43 1 ((true, adv s 1)))))))))))))))).1 = true := (tkR_t y8).1
    have y6 : ((tkR K 44 7 ((opR K 35 19 ((tkQ K 2 ((tkR K 44 6 ((tkQ K 1 ((tkR K 43 1 ((true, adv s 1)))))))))))))).1 = true := (tkQ_t y7).1
    have y5 : ((opR K 35 19 ((tkQ K 2 ((tkR K 44 6 ((tkQ K 1 ((tkR K 43 1 ((true, adv s 1)))))))))))).1 = true := (tkR_t y6).1
    have y4 : ((tkQ K 2 ((tkR K 44 6 ((tkQ K 1 ((tkR K 43 1 ((true, adv s 1)))))))))).1 = true := so1 y5
    have y3 : ((tkR K 44 6 ((tkQ K 1 ((tkR K 43 1 ((true, adv s 1)))))))).1 = true := (tkQ_t y4).1
    have y2 : ((tkQ K 1 ((tkR K 43 1 ((true, adv s 1)))))).1 = true := (tkR_t y3).1
    have y1 : ((tkR K 43 1 ((true, adv s 1)))).1 = true := (tkQ_t y2).1
    have x0 : PSX s (adv s 1) := (PSX.rf s).ad
    have x1 : PSX s ((tkR K 43 1 ((true, adv s 1)))).2 := sr y1 x0
    have x2 : PSX s ((tkQ K 1 ((tkR K 43 1 ((true, adv s 1)))))).2 := st y2 x1
    have x3 : PSX s ((tkR K 44 6 ((tkQ K 1 ((tkR K 43 1 ((true, adv s 1)))))))).2 := sr y3 x2
    have x4 : PSX s ((tkQ K 2 ((tkR K 44 6 ((tkQ K 1 ((tkR K 43 1 ((true, adv s 1)))))))))).2 := st y4 x3
    have x5 : PSX s ((opR K 35 19 ((tkQ K 2 ((tkR K 44 6 ((tkQ K 1 ((tkR K 43 1 ((true, adv s 1)))))))))))).2 := so x4
    have x6 : PSX s ((tkR K 44 7 ((opR K 35 19 ((tkQ K 2 ((tkR K 44 6 ((tkQ K 1 ((tkR K 43 1 ((true, adv s 1)))))))))))))).2 := sr y6 x5
    have x7 : PSX s ((tkQ K 3 ((tkR K 44 7 ((opR K 35 19 ((tkQ K 2 ((tkR K 44 6 ((tkQ K 1 ((tkR K 43 1 ((true, adv s 1)))))))))))))))).2 := st y7 x6
    have x8 : PSX s ((tkR K 44 8 ((tkQ K 3 ((tkR K 44 7 ((opR K 35 19 ((tkQ K 2 ((tkR K 44 6 ((tkQ K 1 ((tkR K 43 1 ((true, adv s 1)))))))))))))))))).2 := sr y8 x7
    exact x8
  refine ⟨fun hf => ?_, hx.2.1, hx.1⟩
  rw [← flF_c (rl' := (lnst K s).2.2.2.2.2) (rl := s.2.2.2.2) (fun i hi => hx.2.2.2.2 i hi)]
  exact flF_mono hx.1 hf
set_option maxHeartbeats 1000000 in
theorem LC.ho (h : LC V s β a b c ρ ν hn wn sn σ π) (hz : ∀ i, s.1 ≤ i → s.2.2.2.2 i = 0) (hm : b ≤ 6) (z : (lnho K s).1 = true) (ht : (lnho K s).2.1 ≤ 400) (hf : (flF V S (lnho K s).2.2.2.2.2 (lnho K s).2.1).1 = 0) : b < 6 ∧ LC V (lnho K s).2 β (a) (b + 1) (c) (tellH ρ b (V (cu lt (tkQ K 5 ((tkR K 43 2 ((true, adv s 1))))))).toInt32 (V (cu lt (tkQ K 6 ((tkR K 44 9 ((tkQ K 5 ((tkR K 43 2 ((true, adv s 1))))))))))).toInt32 (V (cu lt (tkQ K 7 ((tkR K 44 10 ((tkQ K 6 ((tkR K 44 9 ((tkQ K 5 ((tkR K 43 2 ((true, adv s 1))))))))))))))).toInt32 (if K (cu lt (tkR K 44 11 ((tkQ K 7 ((tkR K 44 10 ((tkQ K 6 ((tkR K 44 9 ((tkQ K 5 ((tkR K 43 2 ((true, adv s 1)))))))))))))))) = 8 then 1 else 0)) (u2l ν 1 b (V (cu lt (true, adv s 1)))) hn wn sn σ π := by
  obtain ⟨D, z1, n1, d1, t1⟩ := h
  have g1 := LF.st (V := V) z1 n1 hz
  have g2 := (g1.r2 (k := 43) (K := K) (lt := lt)).re (s2 := adv (rol (adv s 1) (s.1 + 1) 2) 1) (fun z => by obtain ⟨-, -, e⟩ := tkR_t z; rw [e]; rfl)
  have g3 := g2.tk (k := 5) (K := K)
  have g4 := g3.r9 (k := 44) (K := K) (lt := lt)
  have g5 := g4.tk (k := 6) (K := K)
  have g6 := g5.r10 (k := 44) (K := K) (lt := lt)
  have g7 := g6.tk (k := 7) (K := K)
  have g8 := g7.r11 (k := 44) (K := K) (lt := lt)
  obtain ⟨y9, g9⟩ := g8.o12 (k := 8) (K := K) (lt := lt)
  obtain ⟨w1, w2, w3, w4, w5, w6⟩ := g9 z
  have hlt := w3.1
  have hlt2 : s.1 + 1 < (lnho K s).2.1 := hlt
  have h9 := flF_er (V := V) (S := S) hlt2 hf
  rw [erF_c (V := V) (k := s.1 + 1) (rl' := (lnho K s).2.2.2.2.2) (rl := uI s.2.2.2.2 (s.1 + 1) 2) (fun i hi => w3.2.2.2.2 i hi), erF_m2] at h9
  have h8 := nw_0 h9
  have h7 := (g1 rfl).1
  have h6 : cntR s.2.2.2.2 2 (s.1 + 1) = b := h7.2.1
  have hx : PSX s (lnho K s).2 := PSX.tr (s' := adv (rol (adv s 1) (s.1 + 1) 2) 1) ⟨Nat.le_add_right _ 2, rfl, rfl, rfl, fun i hi => uI_i (by omega)⟩ w3
  exact ⟨by omega, _, w1, w2, d1.horse _ _ _, t1.x hx (by omega)⟩
theorem lnho_ok (z : (lnho K s).1 = true) : ((flF V S (lnho K s).2.2.2.2.2 (lnho K s).2.1).1 = 0 → (flF V S s.2.2.2.2 s.1).1 = 0) ∧ (lnho K s).2.2.1 = s.2.1 ∧ s.1 ≤ (lnho K s).2.1 := by
  have hx : PSX s (lnho K s).2 := by
    have st : ∀ {q : PQ} {k : Nat}, (tkQ K k q).1 = true → PSX s q.2 → PSX s (tkQ K k q).2 := fun z g => by rw [(tkQ_t z).2.2]; exact g.ad
    have sr : ∀ {q : PQ} {k : Nat} {x : Int32}, (tkR K k x q).1 = true → PSX s q.2 → PSX s (tkR K k x q).2 := fun z g => by rw [(tkR_t z).2.2]; exact g.ro
    have so : ∀ {q : PQ} {k : Nat} {x : Int32}, PSX s q.2 → PSX s (opR K k x q).2 := fun {q k x} g => by
      unfold opR; split
      · exact g.ro
      · exact g
    have so1 : ∀ {q : PQ} {k : Nat} {x : Int32}, (opR K k x q).1 = true → q.1 = true := fun {q k x} z => by
      unfold opR at z; split at z
      · rename_i e; exact e.1
      · exact z
    have y8 : ((opR K 8 12 ((tkR K 44 11 ((tkQ K 7 ((tkR K 44 10 ((tkQ K 6 ((tkR K 44 9 ((tkQ K 5 ((tkR K 43 2 ((true, adv s 1)))))))))))))))))).1 = true := z
    have y7 : ((tkR K 44 11 ((tkQ K 7 ((tkR K 44 10 ((tkQ K 6 ((tkR K 44 9 ((tkQ K 5 ((tkR K 43 2 ((true, adv s 1)))))))))))))))).1 = true := so1 y8
    have y6 : ((tkQ K 7 ((tkR K 44 10 ((tkQ K 6 ((tkR K 44 9 ((tkQ K 5 ((tkR K 43 2 ((true, adv s 1)))))))))))))).1 = true := (tkR_t y7).1
    have y5 : ((tkR K 44 10 ((tkQ K 6 ((tkR K 44 9 ((tkQ K 5 ((tkR K 43 2 ((true, adv s 1)))))))))))).1 = true := (tkQ_t y6).1
    have y4 : ((tkQ K 6 ((tkR K 44 9 ((tkQ K 5 ((tkR K 43 2 ((true, adv s 1)))))))))).1 = true := (tkR_t y5).1
    have y3 : ((tkR K 44 9 ((tkQ K 5 ((tkR K 43 2 ((true, adv s 1)))))))).1 = true := (tkQ_t y4).1
    have y2 : ((tkQ K 5 ((tkR K 43 2 ((true, adv s 1)))))).1 = true := (tkR_t y3).1
    have y1 : ((tkR K 43 2 ((true, adv s 1)))).1 = true := (tkQ_t y2).1
    have x0 : PSX s (adv s 1) := (PSX.rf s).ad
    have x1 : PSX s ((tkR K 43 2 ((true, adv s 1)))).2 := sr y1 x0
    have x2 : PSX s ((tkQ K 5 ((tkR K 43 2 ((true, adv s 1)))))).2 := st y2 x1
    have x3 : PSX s ((tkR K 44 9 ((tkQ K 5 ((tkR K 43 2 ((true, adv s 1)))))))).2 := sr y3 x2
    have x4 : PSX s ((tkQ K 6 ((tkR K 44 9 ((tkQ K 5 ((tkR K 43 2 ((true, adv s 1)))))))))).2 := st y4 x3
    have x5 : PSX s ((tkR K 44 10 ((tkQ K 6 ((tkR K 44 9 ((tkQ K 5 ((tkR K 43 2 ((true, adv s 1)))))))))))).2 := sr y5 x4
    have x6 : PSX s ((tkQ K 7 ((tkR K 44 10 ((tkQ K 6 ((tkR K 44 9 ((tkQ K 5 ((tkR K 43 2 ((true, adv s 1)))))))))))))).2 := st y6 x5
    have x7 : PSX s ((tkR K 44 11 ((tkQ K 7 ((tkR K 44 10 ((tkQ K 6 ((tkR K 44 9 ((tkQ K 5 ((tkR K 43 2 ((true, adv s 1)))))))))))))))).2 := sr y7 x6
    have x8 : PSX s ((opR K 8 12 ((tkR K 44 11 ((tkQ K 7 ((tkR K 44 10 ((tkQ K 6 ((tkR K 44 9 ((tkQ K 5 ((tkR K 43 2 ((true, adv s 1)))))))))))))))))).2 := so x7
    exact x8
  refine ⟨fun hf => ?_, hx.2.1, hx.1⟩
  rw [← flF_c (rl' := (lnho K s).2.2.2.2.2) (rl := s.2.2.2.2) (fun i hi => hx.2.2.2.2 i hi)]
  exact flF_mono hx.1 hf
set_option maxHeartbeats 1000000 in
theorem LC.lo (h : LC V s β a b c ρ ν hn wn sn σ π) (hz : ∀ i, s.1 ≤ i → s.2.2.2.2 i = 0) (hm : c ≤ 20) (z : (lnlo K s).1 = true) (ht : (lnlo K s).2.1 ≤ 400) (hf : (flF V S (lnlo K s).2.2.2.2.2 (lnlo K s).2.1).1 = 0) : c < 20 ∧ LC V (lnlo K s).2 β (a) (b) (c + 1) (tellL ρ c (V (cu lt (tkQ K 10 ((tkR K 43 3 ((true, adv s 1))))))).toInt32) (u2l ν 3 c (V (cu lt (true, adv s 1)))) hn wn sn σ π := by
  obtain ⟨D, z1, n1, d1, t1⟩ := h
  have g1 := LF.st (V := V) z1 n1 hz
  have g2 := (g1.r3 (k := 43) (K := K) (lt := lt)).re (s2 := adv (rol (adv s 1) (s.1 + 1) 3) 1) (fun z => by obtain ⟨-, -, e⟩ := tkR_t z; rw [e]; rfl)
  have g3 := g2.tk (k := 10) (K := K)
  have g4 := g3.r13 (k := 44) (K := K) (lt := lt)
  obtain ⟨w1, w2, w3, w4, w5, w6⟩ := g4 z
  have hlt := w3.1
  have hlt2 : s.1 + 1 < (lnlo K s).2.1 := hlt
  have h9 := flF_er (V := V) (S := S) hlt2 hf
  rw [erF_c (V := V) (k := s.1 + 1) (rl' := (lnlo K s).2.2.2.2.2) (rl := uI s.2.2.2.2 (s.1 + 1) 3) (fun i hi => w3.2.2.2.2 i hi), erF_m3] at h9
  have h8 := nw_0 h9
  have h7 := (g1 rfl).1
  have h6 : cntR s.2.2.2.2 3 (s.1 + 1) = c := h7.2.2.1
  have hx : PSX s (lnlo K s).2 := PSX.tr (s' := adv (rol (adv s 1) (s.1 + 1) 3) 1) ⟨Nat.le_add_right _ 2, rfl, rfl, rfl, fun i hi => uI_i (by omega)⟩ w3
  exact ⟨by omega, _, w1, w2, d1.log _, t1.x hx (by omega)⟩
theorem lnlo_ok (z : (lnlo K s).1 = true) : ((flF V S (lnlo K s).2.2.2.2.2 (lnlo K s).2.1).1 = 0 → (flF V S s.2.2.2.2 s.1).1 = 0) ∧ (lnlo K s).2.2.1 = s.2.1 ∧ s.1 ≤ (lnlo K s).2.1 := by
  have hx : PSX s (lnlo K s).2 := by
    have st : ∀ {q : PQ} {k : Nat}, (tkQ K k q).1 = true → PSX s q.2 → PSX s (tkQ K k q).2 := fun z g => by rw [(tkQ_t z).2.2]; exact g.ad
    have sr : ∀ {q : PQ} {k : Nat} {x : Int32}, (tkR K k x q).1 = true → PSX s q.2 → PSX s (tkR K k x q).2 := fun z g => by rw [(tkR_t z).2.2]; exact g.ro
    have so : ∀ {q : PQ} {k : Nat} {x : Int32}, PSX s q.2 → PSX s (opR K k x q).2 := fun {q k x} g => by
      unfold opR; split
      · exact g.ro
      · exact g
    have so1 : ∀ {q : PQ} {k : Nat} {x : Int32}, (opR K k x q).1 = true → q.1 = true := fun {q k x} z => by
      unfold opR at z; split at z
      · rename_i e; exact e.1
      · exact z
    have y3 : ((tkR K 44 13 ((tkQ K 10 ((tkR K 43 3 ((true, adv s 1)))))))).1 = true := z
    have y2 : ((tkQ K 10 ((tkR K 43 3 ((true, adv s 1)))))).1 = true := (tkR_t y3).1
    have y1 : ((tkR K 43 3 ((true, adv s 1)))).1 = true := (tkQ_t y2).1
    have x0 : PSX s (adv s 1) := (PSX.rf s).ad
    have x1 : PSX s ((tkR K 43 3 ((true, adv s 1)))).2 := sr y1 x0
    have x2 : PSX s ((tkQ K 10 ((tkR K 43 3 ((true, adv s 1)))))).2 := st y2 x1
    have x3 : PSX s ((tkR K 44 13 ((tkQ K 10 ((tkR K 43 3 ((true, adv s 1)))))))).2 := sr y3 x2
    exact x3
  refine ⟨fun hf => ?_, hx.2.1, hx.1⟩
  rw [← flF_c (rl' := (lnlo K s).2.2.2.2.2) (rl := s.2.2.2.2) (fun i hi => hx.2.2.2.2 i hi)]
  exact flF_mono hx.1 hf
theorem LC.ck1 (h : LC V s β a b c ρ ν hn wn sn σ π) (hz : ∀ i, s.1 ≤ i → s.2.2.2.2 i = 0) (hm : a ≤ 8) : (if (if fdF (ν 4) (V (s.1 + 1)) a = -1 then (0 : Int32) else 1) = 0 then (if (if 8 ≤ a then (1 : Int32) else 0) = 0 then (0 : Int32) else 4) else 2) = erF V (uI s.2.2.2.2 (s.1 + 1) 1) (s.1 + 1) := by
  obtain ⟨D, z1, n1, -, -⟩ := h
  have e0 := hz s.1 (Nat.le_refl _)
  have e2 : cntR s.2.2.2.2 1 (s.1 + 1) = a := (cntR_n (by rw [e0]; decide)).trans z1.1
  have e1 : fdF (ν 4) (V (s.1 + 1)) a = tdR V s.2.2.2.2 1 (V (s.1 + 1)) (s.1 + 1) := by
    rw [tdR_n (by rw [e0]; decide), ← n1.1.fd (V (s.1 + 1)), z1.1]
  rw [ck_e hm, erF_m1, ← e1, e2]
theorem LC.ck2 (h : LC V s β a b c ρ ν hn wn sn σ π) (hz : ∀ i, s.1 ≤ i → s.2.2.2.2 i = 0) (hm : b ≤ 6) : (if (if fdF (ν 1) (V (s.1 + 1)) b = -1 then (0 : Int32) else 1) = 0 then (if (if 6 ≤ b then (1 : Int32) else 0) = 0 then (0 : Int32) else 4) else 2) = erF V (uI s.2.2.2.2 (s.1 + 1) 2) (s.1 + 1) := by
  obtain ⟨D, z1, n1, -, -⟩ := h
  have e0 := hz s.1 (Nat.le_refl _)
  have e2 : cntR s.2.2.2.2 2 (s.1 + 1) = b := (cntR_n (by rw [e0]; decide)).trans z1.2.1
  have e1 : fdF (ν 1) (V (s.1 + 1)) b = tdR V s.2.2.2.2 2 (V (s.1 + 1)) (s.1 + 1) := by
    rw [tdR_n (by rw [e0]; decide), ← n1.2.1.fd (V (s.1 + 1)), z1.2.1]
  rw [ck_e hm, erF_m2, ← e1, e2]
theorem LC.ck3 (h : LC V s β a b c ρ ν hn wn sn σ π) (hz : ∀ i, s.1 ≤ i → s.2.2.2.2 i = 0) (hm : c ≤ 20) : (if (if fdF (ν 3) (V (s.1 + 1)) c = -1 then (0 : Int32) else 1) = 0 then (if (if 20 ≤ c then (1 : Int32) else 0) = 0 then (0 : Int32) else 4) else 2) = erF V (uI s.2.2.2.2 (s.1 + 1) 3) (s.1 + 1) := by
  obtain ⟨D, z1, n1, -, -⟩ := h
  have e0 := hz s.1 (Nat.le_refl _)
  have e2 : cntR s.2.2.2.2 3 (s.1 + 1) = c := (cntR_n (by rw [e0]; decide)).trans z1.2.2.1
  have e1 : fdF (ν 3) (V (s.1 + 1)) c = tdR V s.2.2.2.2 3 (V (s.1 + 1)) (s.1 + 1) := by
    rw [tdR_n (by rw [e0]; decide), ← n1.2.2.fd (V (s.1 + 1)), z1.2.2.1]
  rw [ck_e hm, erF_m3, ← e1, e2]
end LCS
