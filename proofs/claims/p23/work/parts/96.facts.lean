/-! what a line without sums tells -/
def PSX (s0 s : PS) : Prop := s0.1 ≤ s.1 ∧ s.2.1 = s0.2.1 ∧ s.2.2.1 = s0.2.2.1 ∧ s.2.2.2.1 = s0.2.2.2.1 ∧ ∀ i, i < s0.1 → s.2.2.2.2 i = s0.2.2.2.2 i
def LF (V : Nat → Int64) (q : PQ) (s0 : PS) (a b c h w : Nat) (D : RH) (ν : NU) (y : Int32) : Prop := q.1 = true → ZP V q.2.2.2.2.2 q.2.1 a b c h w D ∧ (NMs V q.2.2.2.2.2 1 q.2.1 (ν 4) ∧ NMs V q.2.2.2.2.2 2 q.2.1 (ν 1) ∧ NMs V q.2.2.2.2.2 3 q.2.1 (ν 3)) ∧ PSX s0 q.2 ∧ (∀ i, q.2.1 ≤ i → q.2.2.2.2.2 i = 0) ∧ 1 ≤ q.2.1 ∧ q.2.2.2.2.2 (q.2.1 - 1) = y
section LFS
variable {K : Nat → Nat} {V : Nat → Int64} {S : Nat → Int32} {q : PQ} {s s0 : PS} {a b c h w k lt : Nat} {D : RH} {ν : NU} {y x : Int32}
theorem PSX.rf (s : PS) : PSX s s := ⟨Nat.le_refl _, rfl, rfl, rfl, fun _ _ => rfl⟩
theorem PSX.ad {k : Nat} (e : PSX s0 s) : PSX s0 (adv s k) := ⟨Nat.le_trans e.1 (Nat.le_add_right _ _), e.2⟩
theorem PSX.ro (e : PSX s0 s) : PSX s0 (adv (rol s s.1 x) 1) := ⟨Nat.le_trans e.1 (Nat.le_succ _), e.2.1, e.2.2.1, e.2.2.2.1, fun i hi => (uI_i (by have := e.1; omega)).trans (e.2.2.2.2 i hi)⟩
theorem tkQ_t (z : (tkQ K k q).1 = true) : q.1 = true ∧ K q.2.1 = k ∧ tkQ K k q = (true, adv q.2 1) := by
  unfold tkQ at z ⊢
  by_cases e : q.1 = true
  · rw [if_pos e] at z ⊢
    by_cases e2 : K q.2.1 = k
    · rw [if_pos e2]; exact ⟨e, e2, rfl⟩
    · rw [if_neg e2] at z; exact absurd z (by simp)
  · rw [if_neg e] at z; exact absurd z e
theorem tkR_t (z : (tkR K k x q).1 = true) : q.1 = true ∧ K q.2.1 = k ∧ tkR K k x q = (true, adv (rol q.2 q.2.1 x) 1) := by
  unfold tkR at z ⊢
  by_cases e : q.1 = true
  · rw [if_pos e] at z ⊢
    by_cases e2 : K q.2.1 = k
    · rw [if_pos e2]; exact ⟨e, e2, rfl⟩
    · rw [if_neg e2] at z; exact absurd z (by simp)
  · rw [if_neg e] at z; exact absurd z e
theorem cu_t (z : q.1 = true) : cu lt q = q.2.1 := if_pos z
theorem LF.sk (g : LF V (true, s) s0 a b c h w D ν y) : LF V (true, adv s 1) s0 a b c h w D ν 0 := fun _ => by
  obtain ⟨g1, ⟨g2, g3, g4⟩, g5, g6, g7, g8⟩ := g rfl
  have e0 := g6 s.1 (Nat.le_refl _)
  exact ⟨g1.n (Or.inl e0), ⟨g2.n (by rw [e0]; decide), g3.n (by rw [e0]; decide), g4.n (by rw [e0]; decide)⟩, g5.ad, fun i hi => g6 i (Nat.le_trans (Nat.le_succ _) hi), Nat.succ_le_succ (Nat.zero_le _), e0⟩
theorem LF.tk (g : LF V q s0 a b c h w D ν y) : LF V (tkQ K k q) s0 a b c h w D ν 0 := fun z => by
  obtain ⟨z1, z2, z3⟩ := tkQ_t z
  obtain ⟨gg, s⟩ := q
  cases gg with
  | false => exact absurd z1 (by simp)
  | true => rw [z3]; exact g.sk rfl
theorem LF.s1 (g : LF V (true, s) s0 a b c h w D ν y) : LF V (true, adv (rol s s.1 1) 1) s0 (a + 1) (b) (c) (h) (w) (D) (u2l ν 4 a (V s.1)) 1 := fun _ => by
  obtain ⟨g1, ⟨g2, g3, g4⟩, g5, g6, g7, g8⟩ := g rfl
  obtain ⟨z1, z2, z3, z4, z5, z6⟩ := id g1
  have z := g1.cc (rl' := uI s.2.2.2.2 s.1 1) (uI_c (Nat.le_refl _))
  have z9 := z.r1 (uI_s _ _ _)
  exact ⟨z9, ⟨by rw [← z.1]; exact (g2.cc (rl' := uI s.2.2.2.2 s.1 1) (uI_c (Nat.le_refl _))).y (uI_s _ _ _), by simp only [u2l]; exact (g3.cc (rl' := uI s.2.2.2.2 s.1 1) (uI_c (Nat.le_refl _))).n (by rw [uI_s]; decide), by simp only [u2l]; exact (g4.cc (rl' := uI s.2.2.2.2 s.1 1) (uI_c (Nat.le_refl _))).n (by rw [uI_s]; decide)⟩, g5.ro, fun i hi => (uI_i (by have : s.1 + 1 ≤ i := hi; omega)).trans (g6 i (Nat.le_trans (Nat.le_succ _) hi)), Nat.succ_le_succ (Nat.zero_le _), uI_s _ _ _⟩
theorem LF.r1 (g : LF V q s0 a b c h w D ν y) : LF V (tkR K k 1 q) s0 (a + 1) (b) (c) (h) (w) (D) (u2l ν 4 a (V (cu lt q))) 1 := fun z => by
  obtain ⟨z1, z2, z3⟩ := tkR_t z
  obtain ⟨gg, s⟩ := q
  cases gg with
  | false => exact absurd z1 (by simp)
  | true => rw [z3]; exact g.s1 rfl
theorem LF.s2 (g : LF V (true, s) s0 a b c h w D ν y) : LF V (true, adv (rol s s.1 2) 1) s0 (a) (b + 1) (c) (h) (w) (D) (u2l ν 1 b (V s.1)) 2 := fun _ => by
  obtain ⟨g1, ⟨g2, g3, g4⟩, g5, g6, g7, g8⟩ := g rfl
  obtain ⟨z1, z2, z3, z4, z5, z6⟩ := id g1
  have z := g1.cc (rl' := uI s.2.2.2.2 s.1 2) (uI_c (Nat.le_refl _))
  have z9 := z.r2 (uI_s _ _ _)
  exact ⟨z9, ⟨by simp only [u2l]; exact (g2.cc (rl' := uI s.2.2.2.2 s.1 2) (uI_c (Nat.le_refl _))).n (by rw [uI_s]; decide), by rw [← z.2.1]; exact (g3.cc (rl' := uI s.2.2.2.2 s.1 2) (uI_c (Nat.le_refl _))).y (uI_s _ _ _), by simp only [u2l]; exact (g4.cc (rl' := uI s.2.2.2.2 s.1 2) (uI_c (Nat.le_refl _))).n (by rw [uI_s]; decide)⟩, g5.ro, fun i hi => (uI_i (by have : s.1 + 1 ≤ i := hi; omega)).trans (g6 i (Nat.le_trans (Nat.le_succ _) hi)), Nat.succ_le_succ (Nat.zero_le _), uI_s _ _ _⟩
theorem LF.r2 (g : LF V q s0 a b c h w D ν y) : LF V (tkR K k 2 q) s0 (a) (b + 1) (c) (h) (w) (D) (u2l ν 1 b (V (cu lt q))) 2 := fun z => by
  obtain ⟨z1, z2, z3⟩ := tkR_t z
  obtain ⟨gg, s⟩ := q
  cases gg with
  | false => exact absurd z1 (by simp)
  | true => rw [z3]; exact g.s2 rfl
theorem LF.s3 (g : LF V (true, s) s0 a b c h w D ν y) : LF V (true, adv (rol s s.1 3) 1) s0 (a) (b) (c + 1) (h) (w) (D) (u2l ν 3 c (V s.1)) 3 := fun _ => by
  obtain ⟨g1, ⟨g2, g3, g4⟩, g5, g6, g7, g8⟩ := g rfl
  obtain ⟨z1, z2, z3, z4, z5, z6⟩ := id g1
  have z := g1.cc (rl' := uI s.2.2.2.2 s.1 3) (uI_c (Nat.le_refl _))
  have z9 := z.r3 (uI_s _ _ _)
  exact ⟨z9, ⟨by simp only [u2l]; exact (g2.cc (rl' := uI s.2.2.2.2 s.1 3) (uI_c (Nat.le_refl _))).n (by rw [uI_s]; decide), by simp only [u2l]; exact (g3.cc (rl' := uI s.2.2.2.2 s.1 3) (uI_c (Nat.le_refl _))).n (by rw [uI_s]; decide), by rw [← z.2.2.1]; exact (g4.cc (rl' := uI s.2.2.2.2 s.1 3) (uI_c (Nat.le_refl _))).y (uI_s _ _ _)⟩, g5.ro, fun i hi => (uI_i (by have : s.1 + 1 ≤ i := hi; omega)).trans (g6 i (Nat.le_trans (Nat.le_succ _) hi)), Nat.succ_le_succ (Nat.zero_le _), uI_s _ _ _⟩
theorem LF.r3 (g : LF V q s0 a b c h w D ν y) : LF V (tkR K k 3 q) s0 (a) (b) (c + 1) (h) (w) (D) (u2l ν 3 c (V (cu lt q))) 3 := fun z => by
  obtain ⟨z1, z2, z3⟩ := tkR_t z
  obtain ⟨gg, s⟩ := q
  cases gg with
  | false => exact absurd z1 (by simp)
  | true => rw [z3]; exact g.s3 rfl
theorem LF.s4 (g : LF V (true, s) s0 a b c h w D ν y) : LF V (true, adv (rol s s.1 4) 1) s0 (a) (b) (c) (h + 1) (w) (D) ν 4 := fun _ => by
  obtain ⟨g1, ⟨g2, g3, g4⟩, g5, g6, g7, g8⟩ := g rfl
  obtain ⟨z1, z2, z3, z4, z5, z6⟩ := id g1
  have z := g1.cc (rl' := uI s.2.2.2.2 s.1 4) (uI_c (Nat.le_refl _))
  have z9 := z.r4 (uI_s _ _ _)
  exact ⟨z9, ⟨(g2.cc (rl' := uI s.2.2.2.2 s.1 4) (uI_c (Nat.le_refl _))).n (by rw [uI_s]; decide), (g3.cc (rl' := uI s.2.2.2.2 s.1 4) (uI_c (Nat.le_refl _))).n (by rw [uI_s]; decide), (g4.cc (rl' := uI s.2.2.2.2 s.1 4) (uI_c (Nat.le_refl _))).n (by rw [uI_s]; decide)⟩, g5.ro, fun i hi => (uI_i (by have : s.1 + 1 ≤ i := hi; omega)).trans (g6 i (Nat.le_trans (Nat.le_succ _) hi)), Nat.succ_le_succ (Nat.zero_le _), uI_s _ _ _⟩
theorem LF.r4 (g : LF V q s0 a b c h w D ν y) : LF V (tkR K k 4 q) s0 (a) (b) (c) (h + 1) (w) (D) ν 4 := fun z => by
  obtain ⟨z1, z2, z3⟩ := tkR_t z
  obtain ⟨gg, s⟩ := q
  cases gg with
  | false => exact absurd z1 (by simp)
  | true => rw [z3]; exact g.s4 rfl
theorem LF.s5 (g : LF V (true, s) s0 a b c h w D ν y) : LF V (true, adv (rol s s.1 5) 1) s0 (a) (b) (c) (h) (w + 1) (D) ν 5 := fun _ => by
  obtain ⟨g1, ⟨g2, g3, g4⟩, g5, g6, g7, g8⟩ := g rfl
  obtain ⟨z1, z2, z3, z4, z5, z6⟩ := id g1
  have z := g1.cc (rl' := uI s.2.2.2.2 s.1 5) (uI_c (Nat.le_refl _))
  have z9 := z.r5 (uI_s _ _ _)
  exact ⟨z9, ⟨(g2.cc (rl' := uI s.2.2.2.2 s.1 5) (uI_c (Nat.le_refl _))).n (by rw [uI_s]; decide), (g3.cc (rl' := uI s.2.2.2.2 s.1 5) (uI_c (Nat.le_refl _))).n (by rw [uI_s]; decide), (g4.cc (rl' := uI s.2.2.2.2 s.1 5) (uI_c (Nat.le_refl _))).n (by rw [uI_s]; decide)⟩, g5.ro, fun i hi => (uI_i (by have : s.1 + 1 ≤ i := hi; omega)).trans (g6 i (Nat.le_trans (Nat.le_succ _) hi)), Nat.succ_le_succ (Nat.zero_le _), uI_s _ _ _⟩
theorem LF.r5 (g : LF V q s0 a b c h w D ν y) : LF V (tkR K k 5 q) s0 (a) (b) (c) (h) (w + 1) (D) ν 5 := fun z => by
  obtain ⟨z1, z2, z3⟩ := tkR_t z
  obtain ⟨gg, s⟩ := q
  cases gg with
  | false => exact absurd z1 (by simp)
  | true => rw [z3]; exact g.s5 rfl
theorem LF.s6 (g : LF V (true, s) s0 a b c h w D ν y) : LF V (true, adv (rol s s.1 6) 1) s0 (a) (b) (c) (h) (w) (u2 D 41 (a - 1) (V s.1).toInt32) ν 6 := fun _ => by
  obtain ⟨g1, ⟨g2, g3, g4⟩, g5, g6, g7, g8⟩ := g rfl
  obtain ⟨z1, z2, z3, z4, z5, z6⟩ := id g1
  have z := g1.cc (rl' := uI s.2.2.2.2 s.1 6) (uI_c (Nat.le_refl _))
  have z9 := z.r6 (uI_s _ _ _)
  exact ⟨z9, ⟨(g2.cc (rl' := uI s.2.2.2.2 s.1 6) (uI_c (Nat.le_refl _))).n (by rw [uI_s]; decide), (g3.cc (rl' := uI s.2.2.2.2 s.1 6) (uI_c (Nat.le_refl _))).n (by rw [uI_s]; decide), (g4.cc (rl' := uI s.2.2.2.2 s.1 6) (uI_c (Nat.le_refl _))).n (by rw [uI_s]; decide)⟩, g5.ro, fun i hi => (uI_i (by have : s.1 + 1 ≤ i := hi; omega)).trans (g6 i (Nat.le_trans (Nat.le_succ _) hi)), Nat.succ_le_succ (Nat.zero_le _), uI_s _ _ _⟩
theorem LF.r6 (g : LF V q s0 a b c h w D ν y) : LF V (tkR K k 6 q) s0 (a) (b) (c) (h) (w) (u2 D 41 (a - 1) (V (cu lt q)).toInt32) ν 6 := fun z => by
  obtain ⟨z1, z2, z3⟩ := tkR_t z
  obtain ⟨gg, s⟩ := q
  cases gg with
  | false => exact absurd z1 (by simp)
  | true => rw [z3]; exact g.s6 rfl
theorem LF.s7 (g : LF V (true, s) s0 a b c h w D ν y) : LF V (true, adv (rol s s.1 7) 1) s0 (a) (b) (c) (h) (w) (u2 D 42 (a - 1) (if y = 19 then -(V s.1).toInt32 else (V s.1).toInt32)) ν 7 := fun _ => by
  obtain ⟨g1, ⟨g2, g3, g4⟩, g5, g6, g7, g8⟩ := g rfl
  obtain ⟨z1, z2, z3, z4, z5, z6⟩ := id g1
  have z := g1.cc (rl' := uI s.2.2.2.2 s.1 7) (uI_c (Nat.le_refl _))
  have z9 := z.r7 (uI_s _ _ _)
  have e7 : (uI s.2.2.2.2 s.1 7) (s.1 - 1) = y := by rw [uI_i (by have : 1 ≤ s.1 := g7; omega)]; exact g8
  rw [e7] at z9
  exact ⟨z9, ⟨(g2.cc (rl' := uI s.2.2.2.2 s.1 7) (uI_c (Nat.le_refl _))).n (by rw [uI_s]; decide), (g3.cc (rl' := uI s.2.2.2.2 s.1 7) (uI_c (Nat.le_refl _))).n (by rw [uI_s]; decide), (g4.cc (rl' := uI s.2.2.2.2 s.1 7) (uI_c (Nat.le_refl _))).n (by rw [uI_s]; decide)⟩, g5.ro, fun i hi => (uI_i (by have : s.1 + 1 ≤ i := hi; omega)).trans (g6 i (Nat.le_trans (Nat.le_succ _) hi)), Nat.succ_le_succ (Nat.zero_le _), uI_s _ _ _⟩
theorem LF.r7 (g : LF V q s0 a b c h w D ν y) : LF V (tkR K k 7 q) s0 (a) (b) (c) (h) (w) (u2 D 42 (a - 1) (if y = 19 then -(V (cu lt q)).toInt32 else (V (cu lt q)).toInt32)) ν 7 := fun z => by
  obtain ⟨z1, z2, z3⟩ := tkR_t z
  obtain ⟨gg, s⟩ := q
  cases gg with
  | false => exact absurd z1 (by simp)
  | true => rw [z3]; exact g.s7 rfl
theorem LF.s8 (g : LF V (true, s) s0 a b c h w D ν y) : LF V (true, adv (rol s s.1 8) 1) s0 (a) (b) (c) (h) (w) (u2 D 63 (a - 1) (V s.1).toInt32) ν 8 := fun _ => by
  obtain ⟨g1, ⟨g2, g3, g4⟩, g5, g6, g7, g8⟩ := g rfl
  obtain ⟨z1, z2, z3, z4, z5, z6⟩ := id g1
  have z := g1.cc (rl' := uI s.2.2.2.2 s.1 8) (uI_c (Nat.le_refl _))
  have z9 := z.r8 (uI_s _ _ _)
  exact ⟨z9, ⟨(g2.cc (rl' := uI s.2.2.2.2 s.1 8) (uI_c (Nat.le_refl _))).n (by rw [uI_s]; decide), (g3.cc (rl' := uI s.2.2.2.2 s.1 8) (uI_c (Nat.le_refl _))).n (by rw [uI_s]; decide), (g4.cc (rl' := uI s.2.2.2.2 s.1 8) (uI_c (Nat.le_refl _))).n (by rw [uI_s]; decide)⟩, g5.ro, fun i hi => (uI_i (by have : s.1 + 1 ≤ i := hi; omega)).trans (g6 i (Nat.le_trans (Nat.le_succ _) hi)), Nat.succ_le_succ (Nat.zero_le _), uI_s _ _ _⟩
theorem LF.r8 (g : LF V q s0 a b c h w D ν y) : LF V (tkR K k 8 q) s0 (a) (b) (c) (h) (w) (u2 D 63 (a - 1) (V (cu lt q)).toInt32) ν 8 := fun z => by
  obtain ⟨z1, z2, z3⟩ := tkR_t z
  obtain ⟨gg, s⟩ := q
  cases gg with
  | false => exact absurd z1 (by simp)
  | true => rw [z3]; exact g.s8 rfl
theorem LF.s9 (g : LF V (true, s) s0 a b c h w D ν y) : LF V (true, adv (rol s s.1 9) 1) s0 (a) (b) (c) (h) (w) (u2 D 11 (b - 1) (V s.1).toInt32) ν 9 := fun _ => by
  obtain ⟨g1, ⟨g2, g3, g4⟩, g5, g6, g7, g8⟩ := g rfl
  obtain ⟨z1, z2, z3, z4, z5, z6⟩ := id g1
  have z := g1.cc (rl' := uI s.2.2.2.2 s.1 9) (uI_c (Nat.le_refl _))
  have z9 := z.r9 (uI_s _ _ _)
  exact ⟨z9, ⟨(g2.cc (rl' := uI s.2.2.2.2 s.1 9) (uI_c (Nat.le_refl _))).n (by rw [uI_s]; decide), (g3.cc (rl' := uI s.2.2.2.2 s.1 9) (uI_c (Nat.le_refl _))).n (by rw [uI_s]; decide), (g4.cc (rl' := uI s.2.2.2.2 s.1 9) (uI_c (Nat.le_refl _))).n (by rw [uI_s]; decide)⟩, g5.ro, fun i hi => (uI_i (by have : s.1 + 1 ≤ i := hi; omega)).trans (g6 i (Nat.le_trans (Nat.le_succ _) hi)), Nat.succ_le_succ (Nat.zero_le _), uI_s _ _ _⟩
theorem LF.r9 (g : LF V q s0 a b c h w D ν y) : LF V (tkR K k 9 q) s0 (a) (b) (c) (h) (w) (u2 D 11 (b - 1) (V (cu lt q)).toInt32) ν 9 := fun z => by
  obtain ⟨z1, z2, z3⟩ := tkR_t z
  obtain ⟨gg, s⟩ := q
  cases gg with
  | false => exact absurd z1 (by simp)
  | true => rw [z3]; exact g.s9 rfl
theorem LF.s10 (g : LF V (true, s) s0 a b c h w D ν y) : LF V (true, adv (rol s s.1 10) 1) s0 (a) (b) (c) (h) (w) (u2 D 60 (b - 1) (V s.1).toInt32) ν 10 := fun _ => by
  obtain ⟨g1, ⟨g2, g3, g4⟩, g5, g6, g7, g8⟩ := g rfl
  obtain ⟨z1, z2, z3, z4, z5, z6⟩ := id g1
  have z := g1.cc (rl' := uI s.2.2.2.2 s.1 10) (uI_c (Nat.le_refl _))
  have z9 := z.r10 (uI_s _ _ _)
  exact ⟨z9, ⟨(g2.cc (rl' := uI s.2.2.2.2 s.1 10) (uI_c (Nat.le_refl _))).n (by rw [uI_s]; decide), (g3.cc (rl' := uI s.2.2.2.2 s.1 10) (uI_c (Nat.le_refl _))).n (by rw [uI_s]; decide), (g4.cc (rl' := uI s.2.2.2.2 s.1 10) (uI_c (Nat.le_refl _))).n (by rw [uI_s]; decide)⟩, g5.ro, fun i hi => (uI_i (by have : s.1 + 1 ≤ i := hi; omega)).trans (g6 i (Nat.le_trans (Nat.le_succ _) hi)), Nat.succ_le_succ (Nat.zero_le _), uI_s _ _ _⟩
theorem LF.r10 (g : LF V q s0 a b c h w D ν y) : LF V (tkR K k 10 q) s0 (a) (b) (c) (h) (w) (u2 D 60 (b - 1) (V (cu lt q)).toInt32) ν 10 := fun z => by
  obtain ⟨z1, z2, z3⟩ := tkR_t z
  obtain ⟨gg, s⟩ := q
  cases gg with
  | false => exact absurd z1 (by simp)
  | true => rw [z3]; exact g.s10 rfl
theorem LF.s11 (g : LF V (true, s) s0 a b c h w D ν y) : LF V (true, adv (rol s s.1 11) 1) s0 (a) (b) (c) (h) (w) (u2 D 61 (b - 1) (V s.1).toInt32) ν 11 := fun _ => by
  obtain ⟨g1, ⟨g2, g3, g4⟩, g5, g6, g7, g8⟩ := g rfl
  obtain ⟨z1, z2, z3, z4, z5, z6⟩ := id g1
  have z := g1.cc (rl' := uI s.2.2.2.2 s.1 11) (uI_c (Nat.le_refl _))
  have z9 := z.r11 (uI_s _ _ _)
  exact ⟨z9, ⟨(g2.cc (rl' := uI s.2.2.2.2 s.1 11) (uI_c (Nat.le_refl _))).n (by rw [uI_s]; decide), (g3.cc (rl' := uI s.2.2.2.2 s.1 11) (uI_c (Nat.le_refl _))).n (by rw [uI_s]; decide), (g4.cc (rl' := uI s.2.2.2.2 s.1 11) (uI_c (Nat.le_refl _))).n (by rw [uI_s]; decide)⟩, g5.ro, fun i hi => (uI_i (by have : s.1 + 1 ≤ i := hi; omega)).trans (g6 i (Nat.le_trans (Nat.le_succ _) hi)), Nat.succ_le_succ (Nat.zero_le _), uI_s _ _ _⟩
theorem LF.r11 (g : LF V q s0 a b c h w D ν y) : LF V (tkR K k 11 q) s0 (a) (b) (c) (h) (w) (u2 D 61 (b - 1) (V (cu lt q)).toInt32) ν 11 := fun z => by
  obtain ⟨z1, z2, z3⟩ := tkR_t z
  obtain ⟨gg, s⟩ := q
  cases gg with
  | false => exact absurd z1 (by simp)
  | true => rw [z3]; exact g.s11 rfl
theorem LF.s12 (g : LF V (true, s) s0 a b c h w D ν y) : LF V (true, adv (rol s s.1 12) 1) s0 (a) (b) (c) (h) (w) (u2 D 14 (b - 1) 1) ν 12 := fun _ => by
  obtain ⟨g1, ⟨g2, g3, g4⟩, g5, g6, g7, g8⟩ := g rfl
  obtain ⟨z1, z2, z3, z4, z5, z6⟩ := id g1
  have z := g1.cc (rl' := uI s.2.2.2.2 s.1 12) (uI_c (Nat.le_refl _))
  have z9 := z.r12 (uI_s _ _ _)
  exact ⟨z9, ⟨(g2.cc (rl' := uI s.2.2.2.2 s.1 12) (uI_c (Nat.le_refl _))).n (by rw [uI_s]; decide), (g3.cc (rl' := uI s.2.2.2.2 s.1 12) (uI_c (Nat.le_refl _))).n (by rw [uI_s]; decide), (g4.cc (rl' := uI s.2.2.2.2 s.1 12) (uI_c (Nat.le_refl _))).n (by rw [uI_s]; decide)⟩, g5.ro, fun i hi => (uI_i (by have : s.1 + 1 ≤ i := hi; omega)).trans (g6 i (Nat.le_trans (Nat.le_succ _) hi)), Nat.succ_le_succ (Nat.zero_le _), uI_s _ _ _⟩
theorem LF.r12 (g : LF V q s0 a b c h w D ν y) : LF V (tkR K k 12 q) s0 (a) (b) (c) (h) (w) (u2 D 14 (b - 1) 1) ν 12 := fun z => by
  obtain ⟨z1, z2, z3⟩ := tkR_t z
  obtain ⟨gg, s⟩ := q
  cases gg with
  | false => exact absurd z1 (by simp)
  | true => rw [z3]; exact g.s12 rfl
theorem LF.s13 (g : LF V (true, s) s0 a b c h w D ν y) : LF V (true, adv (rol s s.1 13) 1) s0 (a) (b) (c) (h) (w) (u2 D 31 (c - 1) (V s.1).toInt32) ν 13 := fun _ => by
  obtain ⟨g1, ⟨g2, g3, g4⟩, g5, g6, g7, g8⟩ := g rfl
  obtain ⟨z1, z2, z3, z4, z5, z6⟩ := id g1
  have z := g1.cc (rl' := uI s.2.2.2.2 s.1 13) (uI_c (Nat.le_refl _))
  have z9 := z.r13 (uI_s _ _ _)
  exact ⟨z9, ⟨(g2.cc (rl' := uI s.2.2.2.2 s.1 13) (uI_c (Nat.le_refl _))).n (by rw [uI_s]; decide), (g3.cc (rl' := uI s.2.2.2.2 s.1 13) (uI_c (Nat.le_refl _))).n (by rw [uI_s]; decide), (g4.cc (rl' := uI s.2.2.2.2 s.1 13) (uI_c (Nat.le_refl _))).n (by rw [uI_s]; decide)⟩, g5.ro, fun i hi => (uI_i (by have : s.1 + 1 ≤ i := hi; omega)).trans (g6 i (Nat.le_trans (Nat.le_succ _) hi)), Nat.succ_le_succ (Nat.zero_le _), uI_s _ _ _⟩
theorem LF.r13 (g : LF V q s0 a b c h w D ν y) : LF V (tkR K k 13 q) s0 (a) (b) (c) (h) (w) (u2 D 31 (c - 1) (V (cu lt q)).toInt32) ν 13 := fun z => by
  obtain ⟨z1, z2, z3⟩ := tkR_t z
  obtain ⟨gg, s⟩ := q
  cases gg with
  | false => exact absurd z1 (by simp)
  | true => rw [z3]; exact g.s13 rfl
theorem LF.s14 (g : LF V (true, s) s0 a b c h w D ν y) : LF V (true, adv (rol s s.1 14) 1) s0 (a) (b) (c) (h) (w) (u2 D 50 (h - 1) (tdR V s.2.2.2.2 2 (V s.1) s.1)) ν 14 := fun _ => by
  obtain ⟨g1, ⟨g2, g3, g4⟩, g5, g6, g7, g8⟩ := g rfl
  obtain ⟨z1, z2, z3, z4, z5, z6⟩ := id g1
  have z := g1.cc (rl' := uI s.2.2.2.2 s.1 14) (uI_c (Nat.le_refl _))
  have z9 := z.r14 (uI_s _ _ _)
  rw [tdR_c (uI_c (Nat.le_refl _))] at z9
  exact ⟨z9, ⟨(g2.cc (rl' := uI s.2.2.2.2 s.1 14) (uI_c (Nat.le_refl _))).n (by rw [uI_s]; decide), (g3.cc (rl' := uI s.2.2.2.2 s.1 14) (uI_c (Nat.le_refl _))).n (by rw [uI_s]; decide), (g4.cc (rl' := uI s.2.2.2.2 s.1 14) (uI_c (Nat.le_refl _))).n (by rw [uI_s]; decide)⟩, g5.ro, fun i hi => (uI_i (by have : s.1 + 1 ≤ i := hi; omega)).trans (g6 i (Nat.le_trans (Nat.le_succ _) hi)), Nat.succ_le_succ (Nat.zero_le _), uI_s _ _ _⟩
theorem LF.r14 (g : LF V q s0 a b c h w D ν y) : LF V (tkR K k 14 q) s0 (a) (b) (c) (h) (w) (u2 D 50 (h - 1) (tdR V q.2.2.2.2.2 2 (V (cu lt q)) (cu lt q))) ν 14 := fun z => by
  obtain ⟨z1, z2, z3⟩ := tkR_t z
  obtain ⟨gg, s⟩ := q
  cases gg with
  | false => exact absurd z1 (by simp)
  | true => rw [z3]; exact g.s14 rfl
theorem LF.s15 (g : LF V (true, s) s0 a b c h w D ν y) : LF V (true, adv (rol s s.1 15) 1) s0 (a) (b) (c) (h) (w) (u2 D 55 (w - 1) (tdR V s.2.2.2.2 2 (V s.1) s.1)) ν 15 := fun _ => by
  obtain ⟨g1, ⟨g2, g3, g4⟩, g5, g6, g7, g8⟩ := g rfl
  obtain ⟨z1, z2, z3, z4, z5, z6⟩ := id g1
  have z := g1.cc (rl' := uI s.2.2.2.2 s.1 15) (uI_c (Nat.le_refl _))
  have z9 := z.r15 (uI_s _ _ _)
  rw [tdR_c (uI_c (Nat.le_refl _))] at z9
  exact ⟨z9, ⟨(g2.cc (rl' := uI s.2.2.2.2 s.1 15) (uI_c (Nat.le_refl _))).n (by rw [uI_s]; decide), (g3.cc (rl' := uI s.2.2.2.2 s.1 15) (uI_c (Nat.le_refl _))).n (by rw [uI_s]; decide), (g4.cc (rl' := uI s.2.2.2.2 s.1 15) (uI_c (Nat.le_refl _))).n (by rw [uI_s]; decide)⟩, g5.ro, fun i hi => (uI_i (by have : s.1 + 1 ≤ i := hi; omega)).trans (g6 i (Nat.le_trans (Nat.le_succ _) hi)), Nat.succ_le_succ (Nat.zero_le _), uI_s _ _ _⟩
theorem LF.r15 (g : LF V q s0 a b c h w D ν y) : LF V (tkR K k 15 q) s0 (a) (b) (c) (h) (w) (u2 D 55 (w - 1) (tdR V q.2.2.2.2.2 2 (V (cu lt q)) (cu lt q))) ν 15 := fun z => by
  obtain ⟨z1, z2, z3⟩ := tkR_t z
  obtain ⟨gg, s⟩ := q
  cases gg with
  | false => exact absurd z1 (by simp)
  | true => rw [z3]; exact g.s15 rfl
theorem LF.s16 (g : LF V (true, s) s0 a b c h w D ν y) : LF V (true, adv (rol s s.1 16) 1) s0 (a) (b) (c) (h) (w) (u2 D 56 (w - 1) (tdR V s.2.2.2.2 1 (V s.1) s.1)) ν 16 := fun _ => by
  obtain ⟨g1, ⟨g2, g3, g4⟩, g5, g6, g7, g8⟩ := g rfl
  obtain ⟨z1, z2, z3, z4, z5, z6⟩ := id g1
  have z := g1.cc (rl' := uI s.2.2.2.2 s.1 16) (uI_c (Nat.le_refl _))
  have z9 := z.r16 (uI_s _ _ _)
  rw [tdR_c (uI_c (Nat.le_refl _))] at z9
  exact ⟨z9, ⟨(g2.cc (rl' := uI s.2.2.2.2 s.1 16) (uI_c (Nat.le_refl _))).n (by rw [uI_s]; decide), (g3.cc (rl' := uI s.2.2.2.2 s.1 16) (uI_c (Nat.le_refl _))).n (by rw [uI_s]; decide), (g4.cc (rl' := uI s.2.2.2.2 s.1 16) (uI_c (Nat.le_refl _))).n (by rw [uI_s]; decide)⟩, g5.ro, fun i hi => (uI_i (by have : s.1 + 1 ≤ i := hi; omega)).trans (g6 i (Nat.le_trans (Nat.le_succ _) hi)), Nat.succ_le_succ (Nat.zero_le _), uI_s _ _ _⟩
theorem LF.r16 (g : LF V q s0 a b c h w D ν y) : LF V (tkR K k 16 q) s0 (a) (b) (c) (h) (w) (u2 D 56 (w - 1) (tdR V q.2.2.2.2.2 1 (V (cu lt q)) (cu lt q))) ν 16 := fun z => by
  obtain ⟨z1, z2, z3⟩ := tkR_t z
  obtain ⟨gg, s⟩ := q
  cases gg with
  | false => exact absurd z1 (by simp)
  | true => rw [z3]; exact g.s16 rfl
theorem LF.s19 (g : LF V (true, s) s0 a b c h w D ν y) : LF V (true, adv (rol s s.1 19) 1) s0 (a) (b) (c) (h) (w) (D) ν 19 := fun _ => by
  obtain ⟨g1, ⟨g2, g3, g4⟩, g5, g6, g7, g8⟩ := g rfl
  obtain ⟨z1, z2, z3, z4, z5, z6⟩ := id g1
  have z := g1.cc (rl' := uI s.2.2.2.2 s.1 19) (uI_c (Nat.le_refl _))
  have z9 := z.n (Or.inr (Or.inr (Or.inr (uI_s _ _ _))))
  exact ⟨z9, ⟨(g2.cc (rl' := uI s.2.2.2.2 s.1 19) (uI_c (Nat.le_refl _))).n (by rw [uI_s]; decide), (g3.cc (rl' := uI s.2.2.2.2 s.1 19) (uI_c (Nat.le_refl _))).n (by rw [uI_s]; decide), (g4.cc (rl' := uI s.2.2.2.2 s.1 19) (uI_c (Nat.le_refl _))).n (by rw [uI_s]; decide)⟩, g5.ro, fun i hi => (uI_i (by have : s.1 + 1 ≤ i := hi; omega)).trans (g6 i (Nat.le_trans (Nat.le_succ _) hi)), Nat.succ_le_succ (Nat.zero_le _), uI_s _ _ _⟩
theorem LF.r19 (g : LF V q s0 a b c h w D ν y) : LF V (tkR K k 19 q) s0 (a) (b) (c) (h) (w) (D) ν 19 := fun z => by
  obtain ⟨z1, z2, z3⟩ := tkR_t z
  obtain ⟨gg, s⟩ := q
  cases gg with
  | false => exact absurd z1 (by simp)
  | true => rw [z3]; exact g.s19 rfl
theorem LF.o19 (g : LF V q s0 a b c h w D ν 0) : LF V (opR K k 19 q) s0 a b c h w D ν (if K (cu lt q) = k then 19 else 0) := fun z => by
  obtain ⟨gg, s⟩ := q
  cases gg with
  | false => exact absurd z (by unfold opR; rw [if_neg (by simp)]; simp)
  | true =>
    have e1 : cu lt (true, s) = s.1 := rfl
    unfold opR
    rw [e1]
    by_cases e : K s.1 = k
    · rw [if_pos ⟨rfl, e⟩, if_pos e]; exact g.s19 rfl
    · rw [if_neg (fun q => e q.2), if_neg e]; exact g rfl
theorem LF.o12 (g : LF V q s0 a b c h w D ν y) : ∃ y', LF V (opR K k 12 q) s0 a b c h w (if K (cu lt q) = k then u2 D 14 (b - 1) 1 else D) ν y' := by
  obtain ⟨gg, s⟩ := q
  cases gg with
  | false => exact ⟨0, fun z => absurd z (by unfold opR; rw [if_neg (by simp)]; simp)⟩
  | true =>
    have e1 : cu lt (true, s) = s.1 := rfl
    unfold opR
    rw [e1]
    by_cases e : K s.1 = k
    · rw [if_pos ⟨rfl, e⟩, if_pos e]; exact ⟨12, g.s12⟩
    · rw [if_neg (fun q => e q.2), if_neg e]; exact ⟨y, g⟩
theorem flF_er {rl : Nat → Int32} {i k : Nat} (hi : i < k) (e : (flF V S rl k).1 = 0) : erF V rl i = 0 := by
  have h1 := flF_mono (V := V) (S := S) (rl := rl) (i := i + 1) (k := k) hi e
  exact (nfE_z h1).2
end LFS
/-- the road and the plan hold what is told -/
def DT (D β : RH) (a b c hn wn : Nat) (ρ π : RH) : Prop :=
  (∀ i, i < a → ρ 41 i = D 41 i ∧ ρ 42 i = D 42 i ∧ ρ 43 i = D 63 i) ∧
  (∀ i, i < b → ρ 11 i = D 11 i ∧ ρ 12 i = D 60 i ∧ ρ 13 i = D 61 i ∧ ρ 14 i = D 14 i ∧ ρ 15 i = -1 ∧ ρ 16 i = 0 ∧ ρ 17 i = 0 ∧ ρ 18 i = 0 ∧ ρ 19 i = 0 ∧ ρ 20 i = 0) ∧
  (∀ i, i < c → ρ 31 i = D 31 i ∧ ρ 32 i = 0 ∧ ρ 33 i = -1 ∧ ρ 34 i = -1) ∧ ρ 8 0 = 0 ∧
  (∀ i, i < hn → π 50 i = D 50 i ∧ π 52 i = β 52 i ∧ π 53 i = β 53 i ∧ π 54 i = β 54 i) ∧
  (∀ i, i < wn → π 55 i = D 55 i ∧ π 56 i = D 56 i ∧ π 57 i = β 57 i ∧ π 59 i = β 59 i) ∧ (∀ i, b ≤ i → D 14 i = 0)
def STP (V : Nat → Int64) (s : PS) (sn : Nat) (σ : Nat → Nat) (π : RH) : Prop := sn = s.2.1 ∧ ∀ i, i < sn → σ i = s.2.2.1 i ∧ nmX (σ i) (s.2.2.2.1 i) s.1 ∧ π 70 i = rsF V s.2.2.2.2 (σ i) (s.2.2.2.1 i)
def LC (V : Nat → Int64) (s : PS) (β : RH) (a b c : Nat) (ρ : RH) (ν : NU) (hn wn sn : Nat) (σ : Nat → Nat) (π : RH) : Prop :=
  ∃ D, ZP V s.2.2.2.2 s.1 a b c hn wn D ∧ (NMs V s.2.2.2.2 1 s.1 (ν 4) ∧ NMs V s.2.2.2.2 2 s.1 (ν 1) ∧ NMs V s.2.2.2.2 3 s.1 (ν 3)) ∧ DT D β a b c hn wn ρ π ∧ STP V s sn σ π
section DTS
variable {V : Nat → Int64} {D β ρ π : RH} {a b c hn wn sn : Nat} {s s' : PS} {σ : Nat → Nat}
theorem STP.x (g : STP V s sn σ π) (e : PSX s s') (h : s'.1 < 2 ^ 30) : STP V s' sn σ π := by
  obtain ⟨e1, e2, e3, e4, e5⟩ := e
  refine ⟨g.1.trans e2.symm, fun i hi => ?_⟩
  obtain ⟨g1, g2, g3⟩ := g.2 i hi
  rw [e3, e4]
  exact ⟨g1, g2.mono e1, g3.trans (rsF_c e5 g2 (by omega)).symm⟩
theorem DT.stretch (g : DT D β a b c hn wn ρ π) (x1 x2 x3 : Int32) : DT (u2 (u2 (u2 D 41 (a + 1 - 1) x1) 42 (a + 1 - 1) x2) 63 (a + 1 - 1) x3) β (a + 1) b c hn wn (tellS ρ a x1 x2 x3) π := by
  obtain ⟨g1, g2, g3, g4, g5, g6, g7⟩ := g
  refine ⟨fun i hi => ?_, fun i hi => ?_, fun i hi => ?_, ?_, fun i hi => ?_, fun i hi => ?_, fun i hi => ?_⟩
  · by_cases e : i = a
    · subst e; simp [tellS, u2]
    · have := g1 i (by omega); simp [tellS, u2, e, this]
  · have := g2 i hi; simp [tellS, u2, this]
  · have := g3 i hi; simp [tellS, u2, this]
  · simpa [tellS, u2] using g4
  · have := g5 i hi; simp [u2, this]
  · have := g6 i hi; simp [u2, this]
  · have := g7 i hi; simp [u2, this]
theorem DT.log (g : DT D β a b c hn wn ρ π) (x1 : Int32) : DT (u2 D 31 (c + 1 - 1) x1) β a b (c + 1) hn wn (tellL ρ c x1) π := by
  obtain ⟨g1, g2, g3, g4, g5, g6, g7⟩ := g
  refine ⟨fun i hi => ?_, fun i hi => ?_, fun i hi => ?_, ?_, fun i hi => ?_, fun i hi => ?_, fun i hi => ?_⟩
  · have := g1 i hi; simp [tellL, lieC, u2, this]
  · have := g2 i hi; simp [tellL, lieC, u2, this]
  · by_cases e : i = c
    · subst e; simp [tellL, lieC, u2]
    · have := g3 i (by omega); simp [tellL, lieC, u2, e, this]
  · simpa [tellL, lieC, u2] using g4
  · have := g5 i hi; simp [u2, this]
  · have := g6 i hi; simp [u2, this]
  · have := g7 i hi; simp [u2, this]
theorem DT.horse (g : DT D β a b c hn wn ρ π) (x1 x2 x3 : Int32) {p : Prop} [Decidable p] : DT (if p then u2 (u2 (u2 (u2 D 11 (b + 1 - 1) x1) 60 (b + 1 - 1) x2) 61 (b + 1 - 1) x3) 14 (b + 1 - 1) 1 else u2 (u2 (u2 D 11 (b + 1 - 1) x1) 60 (b + 1 - 1) x2) 61 (b + 1 - 1) x3) β a (b + 1) c hn wn (tellH ρ b x1 x2 x3 (if p then 1 else 0)) π := by
  obtain ⟨g1, g2, g3, g4, g5, g6, g7⟩ := g
  by_cases hp : p
  · rw [if_pos hp, if_pos hp]
    refine ⟨fun i hi => ?_, fun i hi => ?_, fun i hi => ?_, ?_, fun i hi => ?_, fun i hi => ?_, fun i hi => ?_⟩
    · have := g1 i hi; simp [tellH, u2, this]
    · by_cases e : i = b
      · subst e; simp [tellH, u2]
      · have := g2 i (by omega); simp [tellH, u2, e, this]
    · have := g3 i hi; simp [tellH, u2, this]
    · simpa [tellH, u2] using g4
    · have := g5 i hi; simp [u2, this]
    · have := g6 i hi; simp [u2, this]
    · have := g7 i (by omega); simp [u2, this, show ¬ i = b by omega]
  · rw [if_neg hp, if_neg hp]
    refine ⟨fun i hi => ?_, fun i hi => ?_, fun i hi => ?_, ?_, fun i hi => ?_, fun i hi => ?_, fun i hi => ?_⟩
    · have := g1 i hi; simp [tellH, u2, this]
    · by_cases e : i = b
      · subst e; simp [tellH, u2, g7 i (Nat.le_refl _)]
      · have := g2 i (by omega); simp [tellH, u2, e, this]
    · have := g3 i hi; simp [tellH, u2, this]
    · simpa [tellH, u2] using g4
    · have := g5 i hi; simp [u2, this]
    · have := g6 i hi; simp [u2, this]
    · have := g7 i (by omega); simp [u2, this]
end DTS
