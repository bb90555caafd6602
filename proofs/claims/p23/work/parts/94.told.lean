/-! what a reading keeps; what the tokens ahead have told -/
def PSM (K : Nat → Nat) (s s' : PS) : Prop := s.1 ≤ s'.1 ∧ s.2.1 ≤ s'.2.1 ∧ (∀ i, i < s.2.1 → s'.2.2.1 i = s.2.2.1 i ∧ s'.2.2.2.1 i = s.2.2.2.1 i) ∧ ∀ i, s'.2.2.2.2 i = s.2.2.2.2 i ∨ (s.1 ≤ i ∧ i < s'.1 ∧ (s'.2.2.2.2 i = 17 ∨ s'.2.2.2.2 i = 18) ∧ K i = 43)
section PSS
variable {K : Nat → Nat} {vv : Nat → Int32} {s s' s'' : PS} {q : PQ} {k o t m d : Nat} {x : Int32}
theorem PSM.rf (s : PS) : PSM K s s := ⟨Nat.le_refl _, Nat.le_refl _, fun _ _ => ⟨rfl, rfl⟩, fun _ => Or.inl rfl⟩
theorem PSM.tr (h : PSM K s s') (g : PSM K s' s'') : PSM K s s'' := by
  obtain ⟨h1, h2, h3, h4⟩ := h
  obtain ⟨g1, g2, g3, g4⟩ := g
  refine ⟨by omega, by omega, fun i hi => ?_, fun i => ?_⟩
  · obtain ⟨a1, a2⟩ := h3 i hi
    obtain ⟨b1, b2⟩ := g3 i (by omega)
    exact ⟨b1.trans a1, b2.trans a2⟩
  · rcases g4 i with e | ⟨e1, e2, e3, e4⟩
    · rcases h4 i with f | ⟨f1, f2, f3, f4⟩
      · exact Or.inl (e.trans f)
      · exact Or.inr ⟨f1, by omega, by rw [e]; exact f3, f4⟩
    · exact Or.inr ⟨by omega, e2, e3, e4⟩
theorem PSM.ad1 (s : PS) (k : Nat) : PSM K s (adv s k) := ⟨Nat.le_add_right _ _, Nat.le_refl _, fun _ _ => ⟨rfl, rfl⟩, fun _ => Or.inl rfl⟩
theorem PSM.st1 (s : PS) (o : Nat) (x : Int32) : PSM K s (stp s o x) := ⟨Nat.le_refl _, Nat.le_succ _, fun i hi => ⟨u1_i (by omega), uI_i (by omega)⟩, fun _ => Or.inl rfl⟩
theorem PSM.ro1 (h1 : s.1 ≤ t) (h2 : t < s.1 + k) (hx : x = 17 ∨ x = 18) (hK : K t = 43) : PSM K s (adv (rol s t x) k) := by
  refine ⟨Nat.le_add_right _ _, Nat.le_refl _, fun _ _ => ⟨rfl, rfl⟩, fun i => ?_⟩
  by_cases e : i = t
  · subst e
    have e2 : (adv (rol s i x) k).2.2.2.2 i = x := uI_s _ _ _
    exact Or.inr ⟨h1, h2, by rw [e2]; exact hx, hK⟩
  · exact Or.inl (uI_i e)
theorem tkQ_m (z : (tkQ K k q).1 = true) : q.1 = true ∧ PSM K q.2 (tkQ K k q).2 := by
  unfold tkQ at z ⊢
  by_cases h : q.1 = true
  · rw [if_pos h] at z ⊢
    by_cases e : K q.2.1 = k
    · rw [if_pos e]; exact ⟨h, PSM.ad1 _ _⟩
    · rw [if_neg e] at z; exact absurd z (by simp)
  · rw [if_neg h] at z; exact absurd z h
theorem tcQ_m (z : (tcQ K q).1 = true) : q.1 = true ∧ PSM K q.2 (tcQ K q).2 := by
  unfold tcQ at z ⊢
  by_cases h : q.1 = true
  · rw [if_pos h] at z ⊢
    by_cases e : 38 ≤ K q.2.1 ∧ K q.2.1 ≤ 42
    · rw [if_pos e]; exact ⟨h, PSM.ad1 _ _⟩
    · rw [if_neg e] at z; exact absurd z (by simp)
  · rw [if_neg h] at z; exact absurd z h
theorem PR.psm {q' : PQ} (h : PR K vv m d q q') : q'.1 = true → q.1 = true ∧ PSM K q.2 q'.2 := by
  refine h (fun m d q q' => q'.1 = true → q.1 = true ∧ PSM K q.2 q'.2) ⟨?_,
   ?_,
   ?_,
   ?_,
   ?_,
   ?_,
   ?_,
   ?_,
   ?_,
   ?_,
   ?_,
   ?_,
   ?_,
   ?_,
   ?_,
   ?_,
   ?_,
   ?_,
   ?_,
   ?_,
   ?_,
   ?_,
   ?_,
   ?_,
   ?_,
   ?_,
   ?_,
   ?_,
   ?_,
   ?_,
   ?_,
   ?_⟩
  · exact fun m d s z => absurd z (by simp)
  · exact fun d s h z => ⟨rfl, (PSM.st1 s _ _).tr (PSM.ad1 _ 1)⟩
  · exact fun d s h z => ⟨rfl, (PSM.st1 s _ _).tr (PSM.ad1 _ 1)⟩
  · exact fun d s h e z => ⟨rfl, (PSM.st1 s _ _).tr (PSM.ro1 (Nat.le_succ _) (Nat.lt_succ_self _) (Or.inl rfl) e)⟩
  · exact fun d s h e z => absurd z (by simp)
  · exact fun d s h e z => ⟨rfl, (PSM.st1 s _ _).tr (PSM.ro1 (Nat.le_succ _) (Nat.lt_succ_self _) (Or.inr rfl) e)⟩
  · exact fun d s h e z => absurd z (by simp)
  · exact fun d s q h1 h2 g z => ⟨rfl, (PSM.ad1 s 1).tr ((g z).2.tr (PSM.st1 _ _ _))⟩
  · exact fun d s h e z => absurd z (by simp)
  · exact fun d s q h1 h2 g z => ⟨rfl, (PSM.ad1 s 1).tr ((g (tkQ_m z).1).2.tr (tkQ_m z).2)⟩
  · exact fun d s h e z => absurd z (by simp)
  · exact fun d s q q2 h1 h2 h3 g1 g2 z => by
      have z1 := tkQ_m (K := K) (k := 29) (q := q2) z
      have z2 := g2 z1.1
      have z3 := tkQ_m (K := K) (k := 33) (q := q) z2.1
      have z4 := g1 z3.1
      exact ⟨rfl, (PSM.ad1 s 2).tr (z4.2.tr (z3.2.tr (z2.2.tr (z1.2.tr (PSM.st1 _ _ _)))))⟩
  · exact fun d s h e z => absurd z (by simp)
  · exact fun d s h e h2 z => absurd z (by simp)
  · exact fun d s h z => absurd z (by simp)
  · exact fun d s q q2 g1 g2 z => ⟨(g1 (g2 z).1).1, (g1 (g2 z).1).2.tr (g2 z).2⟩
  · exact fun d s q q2 h g1 g2 z => ⟨rfl, (PSM.ad1 s 1).tr ((g1 (g2 z).1).2.tr ((PSM.st1 _ _ _).tr (g2 z).2))⟩
  · exact fun d s h z => ⟨rfl, PSM.rf _⟩
  · exact fun d s q q2 g1 g2 z => ⟨(g1 (g2 z).1).1, (g1 (g2 z).1).2.tr (g2 z).2⟩
  · exact fun d s q q2 h g1 g2 z => ⟨rfl, (PSM.ad1 s 1).tr ((g1 (g2 z).1).2.tr ((PSM.st1 _ _ _).tr (g2 z).2))⟩
  · exact fun d s h z => ⟨rfl, PSM.rf _⟩
  · exact fun d s q h1 h2 g z => ⟨rfl, (PSM.ad1 s 1).tr ((g z).2.tr (PSM.st1 _ _ _))⟩
  · exact fun d s h e z => absurd z (by simp)
  · exact fun d s q h1 h2 g z => ⟨rfl, (PSM.ad1 s 1).tr ((g (tkQ_m z).1).2.tr (tkQ_m z).2)⟩
  · exact fun d s h e z => absurd z (by simp)
  · exact fun d s q q2 h1 h2 g1 g2 z => by
      have z2 := g2 z
      have z3 := tcQ_m (K := K) (q := q) z2.1
      have z4 := g1 z3.1
      exact ⟨rfl, z4.2.tr (z3.2.tr (z2.2.tr (PSM.st1 _ _ _)))⟩
  · exact fun d s q q2 g1 g2 z => ⟨(g1 (g2 z).1).1, (g1 (g2 z).1).2.tr (g2 z).2⟩
  · exact fun d s q q2 h g1 g2 z => ⟨rfl, (PSM.ad1 s 1).tr ((g1 (g2 z).1).2.tr ((PSM.st1 _ _ _).tr (g2 z).2))⟩
  · exact fun d s h z => ⟨rfl, PSM.rf _⟩
  · exact fun d s q q2 g1 g2 z => ⟨(g1 (g2 z).1).1, (g1 (g2 z).1).2.tr (g2 z).2⟩
  · exact fun d s q q2 h g1 g2 z => ⟨rfl, (PSM.ad1 s 1).tr ((g1 (g2 z).1).2.tr ((PSM.st1 _ _ _).tr (g2 z).2))⟩
  · exact fun d s h z => ⟨rfl, PSM.rf _⟩
end PSS
/-- what is told by the roles ahead of t -/
def dtF (V : Nat → Int64) (rl : Nat → Int32) : Nat → RH
  | 0 => fun _ _ => 0
  | t + 1 =>
    if rl t = 6 then u2 (dtF V rl t) 41 (cntR rl 1 t - 1) (V t).toInt32
    else if rl t = 7 then u2 (dtF V rl t) 42 (cntR rl 1 t - 1) (if rl (t - 1) = 19 then -(V t).toInt32 else (V t).toInt32)
    else if rl t = 8 then u2 (dtF V rl t) 63 (cntR rl 1 t - 1) (V t).toInt32
    else if rl t = 9 then u2 (dtF V rl t) 11 (cntR rl 2 t - 1) (V t).toInt32
    else if rl t = 10 then u2 (dtF V rl t) 60 (cntR rl 2 t - 1) (V t).toInt32
    else if rl t = 11 then u2 (dtF V rl t) 61 (cntR rl 2 t - 1) (V t).toInt32
    else if rl t = 12 then u2 (dtF V rl t) 14 (cntR rl 2 t - 1) 1
    else if rl t = 13 then u2 (dtF V rl t) 31 (cntR rl 3 t - 1) (V t).toInt32
    else if rl t = 14 then u2 (dtF V rl t) 50 (cntR rl 4 t - 1) (tdR V rl 2 (V t) t)
    else if rl t = 15 then u2 (dtF V rl t) 55 (cntR rl 5 t - 1) (tdR V rl 2 (V t) t)
    else if rl t = 16 then u2 (dtF V rl t) 56 (cntR rl 5 t - 1) (tdR V rl 1 (V t) t)
    else dtF V rl t
def ZP (V : Nat → Int64) (rl : Nat → Int32) (t a b c h w : Nat) (D : RH) : Prop := cntR rl 1 t = a ∧ cntR rl 2 t = b ∧ cntR rl 3 t = c ∧ cntR rl 4 t = h ∧ cntR rl 5 t = w ∧ dtF V rl t = D
section ZPS
variable {K : Nat → Nat} {V : Nat → Int64} {rl rl' : Nat → Int32} {t a b c h w k : Nat} {x : Int32} {D : RH}
theorem dtF_c (e : ∀ i, i < k → rl' i = rl i) : dtF V rl' k = dtF V rl k := by
  induction k with
  | zero => rfl
  | succ k ih =>
    have e1 : rl' (k - 1) = rl (k - 1) := e (k - 1) (by omega)
    unfold dtF
    rw [ih (fun i hi => e i (by omega)), e k (by omega), e1]
    simp only [tdR_c (V := V) (rl := rl) (rl' := rl') (k := k) (fun i hi => e i (by omega)), cntR_c (rl := rl) (rl' := rl') (k := k) (fun i hi => e i (by omega))]
theorem ZP.cc (z : ZP V rl t a b c h w D) (e : ∀ i, i < t → rl' i = rl i) : ZP V rl' t a b c h w D := by
  obtain ⟨z1, z2, z3, z4, z5, z6⟩ := z
  exact ⟨(cntR_c e).trans z1, (cntR_c e).trans z2, (cntR_c e).trans z3, (cntR_c e).trans z4, (cntR_c e).trans z5, (dtF_c e).trans z6⟩
theorem dtF_n (n : rl t = 0 ∨ rl t = 1 ∨ rl t = 2 ∨ rl t = 3 ∨ rl t = 4 ∨ rl t = 5 ∨ rl t = 17 ∨ rl t = 18 ∨ rl t = 19) : dtF V rl (t + 1) = dtF V rl t := by
  show (if _ then _ else _) = _
  rcases n with e | e | e | e | e | e | e | e | e <;> rw [e] <;> rw [if_neg (by decide), if_neg (by decide), if_neg (by decide), if_neg (by decide), if_neg (by decide), if_neg (by decide), if_neg (by decide), if_neg (by decide), if_neg (by decide), if_neg (by decide), if_neg (by decide)]
theorem ZP.n (z : ZP V rl t a b c h w D) (n : rl t = 0 ∨ rl t = 17 ∨ rl t = 18 ∨ rl t = 19) : ZP V rl (t + 1) a b c h w D := by
  obtain ⟨z1, z2, z3, z4, z5, z6⟩ := z
  have m : ∀ y : Int32, (y = 1 ∨ y = 2 ∨ y = 3 ∨ y = 4 ∨ y = 5) → ¬ rl t = y := by
    intro y hy q
    rw [q] at n
    rcases hy with rfl | rfl | rfl | rfl | rfl <;> exact absurd n (by decide)
  exact ⟨(cntR_n (m _ (by decide))).trans z1, (cntR_n (m _ (by decide))).trans z2, (cntR_n (m _ (by decide))).trans z3, (cntR_n (m _ (by decide))).trans z4, (cntR_n (m _ (by decide))).trans z5, (dtF_n (by rcases n with e | e | e | e <;> rw [e] <;> decide)).trans z6⟩
theorem ZP.r1 (z : ZP V rl t a b c h w D) (e : rl t = 1) : ZP V rl (t + 1) (a + 1) (b) (c) (h) (w) (D) := by
  obtain ⟨z1, z2, z3, z4, z5, z6⟩ := z
  exact ⟨(cntR_y e).trans (by rw [z1]), (cntR_n (by rw [e]; decide)).trans z2, (cntR_n (by rw [e]; decide)).trans z3, (cntR_n (by rw [e]; decide)).trans z4, (cntR_n (by rw [e]; decide)).trans z5, (dtF_n (by rw [e]; decide)).trans z6⟩
theorem ZP.r2 (z : ZP V rl t a b c h w D) (e : rl t = 2) : ZP V rl (t + 1) (a) (b + 1) (c) (h) (w) (D) := by
  obtain ⟨z1, z2, z3, z4, z5, z6⟩ := z
  exact ⟨(cntR_n (by rw [e]; decide)).trans z1, (cntR_y e).trans (by rw [z2]), (cntR_n (by rw [e]; decide)).trans z3, (cntR_n (by rw [e]; decide)).trans z4, (cntR_n (by rw [e]; decide)).trans z5, (dtF_n (by rw [e]; decide)).trans z6⟩
theorem ZP.r3 (z : ZP V rl t a b c h w D) (e : rl t = 3) : ZP V rl (t + 1) (a) (b) (c + 1) (h) (w) (D) := by
  obtain ⟨z1, z2, z3, z4, z5, z6⟩ := z
  exact ⟨(cntR_n (by rw [e]; decide)).trans z1, (cntR_n (by rw [e]; decide)).trans z2, (cntR_y e).trans (by rw [z3]), (cntR_n (by rw [e]; decide)).trans z4, (cntR_n (by rw [e]; decide)).trans z5, (dtF_n (by rw [e]; decide)).trans z6⟩
theorem ZP.r4 (z : ZP V rl t a b c h w D) (e : rl t = 4) : ZP V rl (t + 1) (a) (b) (c) (h + 1) (w) (D) := by
  obtain ⟨z1, z2, z3, z4, z5, z6⟩ := z
  exact ⟨(cntR_n (by rw [e]; decide)).trans z1, (cntR_n (by rw [e]; decide)).trans z2, (cntR_n (by rw [e]; decide)).trans z3, (cntR_y e).trans (by rw [z4]), (cntR_n (by rw [e]; decide)).trans z5, (dtF_n (by rw [e]; decide)).trans z6⟩
theorem ZP.r5 (z : ZP V rl t a b c h w D) (e : rl t = 5) : ZP V rl (t + 1) (a) (b) (c) (h) (w + 1) (D) := by
  obtain ⟨z1, z2, z3, z4, z5, z6⟩ := z
  exact ⟨(cntR_n (by rw [e]; decide)).trans z1, (cntR_n (by rw [e]; decide)).trans z2, (cntR_n (by rw [e]; decide)).trans z3, (cntR_n (by rw [e]; decide)).trans z4, (cntR_y e).trans (by rw [z5]), (dtF_n (by rw [e]; decide)).trans z6⟩
theorem ZP.r6 (z : ZP V rl t a b c h w D) (e : rl t = 6) : ZP V rl (t + 1) (a) (b) (c) (h) (w) (u2 D 41 (a - 1) (V t).toInt32) := by
  obtain ⟨z1, z2, z3, z4, z5, z6⟩ := z
  exact ⟨(cntR_n (by rw [e]; decide)).trans z1, (cntR_n (by rw [e]; decide)).trans z2, (cntR_n (by rw [e]; decide)).trans z3, (cntR_n (by rw [e]; decide)).trans z4, (cntR_n (by rw [e]; decide)).trans z5, by
    show (if _ then _ else _) = _
    rw [e]
    rw [if_pos rfl, z6, z1]⟩
theorem ZP.r7 (z : ZP V rl t a b c h w D) (e : rl t = 7) : ZP V rl (t + 1) (a) (b) (c) (h) (w) (u2 D 42 (a - 1) (if rl (t - 1) = 19 then -(V t).toInt32 else (V t).toInt32)) := by
  obtain ⟨z1, z2, z3, z4, z5, z6⟩ := z
  exact ⟨(cntR_n (by rw [e]; decide)).trans z1, (cntR_n (by rw [e]; decide)).trans z2, (cntR_n (by rw [e]; decide)).trans z3, (cntR_n (by rw [e]; decide)).trans z4, (cntR_n (by rw [e]; decide)).trans z5, by
    show (if _ then _ else _) = _
    rw [e]
    rw [if_neg (by decide), if_pos rfl, z6, z1]⟩
theorem ZP.r8 (z : ZP V rl t a b c h w D) (e : rl t = 8) : ZP V rl (t + 1) (a) (b) (c) (h) (w) (u2 D 63 (a - 1) (V t).toInt32) := by
  obtain ⟨z1, z2, z3, z4, z5, z6⟩ := z
  exact ⟨(cntR_n (by rw [e]; decide)).trans z1, (cntR_n (by rw [e]; decide)).trans z2, (cntR_n (by rw [e]; decide)).trans z3, (cntR_n (by rw [e]; decide)).trans z4, (cntR_n (by rw [e]; decide)).trans z5, by
    show (if _ then _ else _) = _
    rw [e]
    rw [if_neg (by decide), if_neg (by decide), if_pos rfl, z6, z1]⟩
theorem ZP.r9 (z : ZP V rl t a b c h w D) (e : rl t = 9) : ZP V rl (t + 1) (a) (b) (c) (h) (w) (u2 D 11 (b - 1) (V t).toInt32) := by
  obtain ⟨z1, z2, z3, z4, z5, z6⟩ := z
  exact ⟨(cntR_n (by rw [e]; decide)).trans z1, (cntR_n (by rw [e]; decide)).trans z2, (cntR_n (by rw [e]; decide)).trans z3, (cntR_n (by rw [e]; decide)).trans z4, (cntR_n (by rw [e]; decide)).trans z5, by
    show (if _ then _ else _) = _
    rw [e]
    rw [if_neg (by decide), if_neg (by decide), if_neg (by decide), if_pos rfl, z6, z2]⟩
theorem ZP.r10 (z : ZP V rl t a b c h w D) (e : rl t = 10) : ZP V rl (t + 1) (a) (b) (c) (h) (w) (u2 D 60 (b - 1) (V t).toInt32) := by
  obtain ⟨z1, z2, z3, z4, z5, z6⟩ := z
  exact ⟨(cntR_n (by rw [e]; decide)).trans z1, (cntR_n (by rw [e]; decide)).trans z2, (cntR_n (by rw [e]; decide)).trans z3, (cntR_n (by rw [e]; decide)).trans z4, (cntR_n (by rw [e]; decide)).trans z5, by
    show (if _ then _ else _) = _
    rw [e]
    rw [if_neg (by decide), if_neg (by decide), if_neg (by decide), if_neg (by decide), if_pos rfl, z6, z2]⟩
theorem ZP.r11 (z : ZP V rl t a b c h w D) (e : rl t = 11) : ZP V rl (t + 1) (a) (b) (c) (h) (w) (u2 D 61 (b - 1) (V t).toInt32) := by
  obtain ⟨z1, z2, z3, z4, z5, z6⟩ := z
  exact ⟨(cntR_n (by rw [e]; decide)).trans z1, (cntR_n (by rw [e]; decide)).trans z2, (cntR_n (by rw [e]; decide)).trans z3, (cntR_n (by rw [e]; decide)).trans z4, (cntR_n (by rw [e]; decide)).trans z5, by
    show (if _ then _ else _) = _
    rw [e]
    rw [if_neg (by decide), if_neg (by decide), if_neg (by decide), if_neg (by decide), if_neg (by decide), if_pos rfl, z6, z2]⟩
theorem ZP.r12 (z : ZP V rl t a b c h w D) (e : rl t = 12) : ZP V rl (t + 1) (a) (b) (c) (h) (w) (u2 D 14 (b - 1) 1) := by
  obtain ⟨z1, z2, z3, z4, z5, z6⟩ := z
  exact ⟨(cntR_n (by rw [e]; decide)).trans z1, (cntR_n (by rw [e]; decide)).trans z2, (cntR_n (by rw [e]; decide)).trans z3, (cntR_n (by rw [e]; decide)).trans z4, (cntR_n (by rw [e]; decide)).trans z5, by
    show (if _ then _ else _) = _
    rw [e]
    rw [if_neg (by decide), if_neg (by decide), if_neg (by decide), if_neg (by decide), if_neg (by decide), if_neg (by decide), if_pos rfl, z6, z2]⟩
theorem ZP.r13 (z : ZP V rl t a b c h w D) (e : rl t = 13) : ZP V rl (t + 1) (a) (b) (c) (h) (w) (u2 D 31 (c - 1) (V t).toInt32) := by
  obtain ⟨z1, z2, z3, z4, z5, z6⟩ := z
  exact ⟨(cntR_n (by rw [e]; decide)).trans z1, (cntR_n (by rw [e]; decide)).trans z2, (cntR_n (by rw [e]; decide)).trans z3, (cntR_n (by rw [e]; decide)).trans z4, (cntR_n (by rw [e]; decide)).trans z5, by
    show (if _ then _ else _) = _
    rw [e]
    rw [if_neg (by decide), if_neg (by decide), if_neg (by decide), if_neg (by decide), if_neg (by decide), if_neg (by decide), if_neg (by decide), if_pos rfl, z6, z3]⟩
theorem ZP.r14 (z : ZP V rl t a b c h w D) (e : rl t = 14) : ZP V rl (t + 1) (a) (b) (c) (h) (w) (u2 D 50 (h - 1) (tdR V rl 2 (V t) t)) := by
  obtain ⟨z1, z2, z3, z4, z5, z6⟩ := z
  exact ⟨(cntR_n (by rw [e]; decide)).trans z1, (cntR_n (by rw [e]; decide)).trans z2, (cntR_n (by rw [e]; decide)).trans z3, (cntR_n (by rw [e]; decide)).trans z4, (cntR_n (by rw [e]; decide)).trans z5, by
    show (if _ then _ else _) = _
    rw [e]
    rw [if_neg (by decide), if_neg (by decide), if_neg (by decide), if_neg (by decide), if_neg (by decide), if_neg (by decide), if_neg (by decide), if_neg (by decide), if_pos rfl, z6, z4]⟩
theorem ZP.r15 (z : ZP V rl t a b c h w D) (e : rl t = 15) : ZP V rl (t + 1) (a) (b) (c) (h) (w) (u2 D 55 (w - 1) (tdR V rl 2 (V t) t)) := by
  obtain ⟨z1, z2, z3, z4, z5, z6⟩ := z
  exact ⟨(cntR_n (by rw [e]; decide)).trans z1, (cntR_n (by rw [e]; decide)).trans z2, (cntR_n (by rw [e]; decide)).trans z3, (cntR_n (by rw [e]; decide)).trans z4, (cntR_n (by rw [e]; decide)).trans z5, by
    show (if _ then _ else _) = _
    rw [e]
    rw [if_neg (by decide), if_neg (by decide), if_neg (by decide), if_neg (by decide), if_neg (by decide), if_neg (by decide), if_neg (by decide), if_neg (by decide), if_neg (by decide), if_pos rfl, z6, z5]⟩
theorem ZP.r16 (z : ZP V rl t a b c h w D) (e : rl t = 16) : ZP V rl (t + 1) (a) (b) (c) (h) (w) (u2 D 56 (w - 1) (tdR V rl 1 (V t) t)) := by
  obtain ⟨z1, z2, z3, z4, z5, z6⟩ := z
  exact ⟨(cntR_n (by rw [e]; decide)).trans z1, (cntR_n (by rw [e]; decide)).trans z2, (cntR_n (by rw [e]; decide)).trans z3, (cntR_n (by rw [e]; decide)).trans z4, (cntR_n (by rw [e]; decide)).trans z5, by
    show (if _ then _ else _) = _
    rw [e]
    rw [if_neg (by decide), if_neg (by decide), if_neg (by decide), if_neg (by decide), if_neg (by decide), if_neg (by decide), if_neg (by decide), if_neg (by decide), if_neg (by decide), if_neg (by decide), if_pos rfl, z6, z5]⟩
/-- over a sum -/
theorem ZP.psm {s s' : PS} (z : ZP V s.2.2.2.2 s.1 a b c h w D) (g : PSM K s s') (hz : ∀ i, s.1 ≤ i → s.2.2.2.2 i = 0) : ZP V s'.2.2.2.2 s'.1 a b c h w D := by
  have h1 : ZP V s'.2.2.2.2 s.1 a b c h w D := z.cc (fun i hi => (g.2.2.2 i).elim id (fun q => absurd q.1 (by omega)))
  have h2 : ∀ n, s.1 + n ≤ s'.1 → ZP V s'.2.2.2.2 (s.1 + n) a b c h w D := by
    intro n
    induction n with
    | zero => exact fun _ => h1
    | succ n ih =>
      intro hn
      refine (ih (by omega)).n ?_
      rcases g.2.2.2 (s.1 + n) with e | ⟨_, _, e, _⟩
      · exact Or.inl (e.trans (hz _ (by omega)))
      · rcases e with e | e
        · exact Or.inr (Or.inl e)
        · exact Or.inr (Or.inr (Or.inl e))
  have h3 := g.1
  have h4 := h2 (s'.1 - s.1) (by omega)
  rwa [show s.1 + (s'.1 - s.1) = s'.1 by omega] at h4
/-- names and their places -/
def NMs (V : Nat → Int64) (rl : Nat → Int32) (x : Int32) (t : Nat) (f : Nat → Int64) : Prop := ∀ k, k < t → rl k = x → f (cntR rl x k) = V k
theorem NMs.fd {f : Nat → Int64} (v : Int64) : ∀ t, NMs V rl x t f → fdF f v (cntR rl x t) = tdR V rl x v t
  | 0, _ => rfl
  | t + 1, h => by
    have ih := NMs.fd v t (fun k hk => h k (by omega))
    by_cases e : rl t = x
    · rw [cntR_y e, tdR_y e, fdF, ih, h t (by omega) e]
    · rw [cntR_n e, tdR_n e, ih]
theorem NMs.cc {f : Nat → Int64} (hN : NMs V rl x t f) (e : ∀ i, i < t → rl' i = rl i) : NMs V rl' x t f := fun k hk h => by
  rw [cntR_c (fun i hi => e i (by omega))]; exact hN k hk (by rw [← e k hk]; exact h)
theorem NMs.n {f : Nat → Int64} (hN : NMs V rl x t f) (e : ¬ rl t = x) : NMs V rl x (t + 1) f := fun k hk h => by
  by_cases q : k = t
  · subst q; exact absurd h e
  · exact hN k (by omega) h
theorem cntR_mono {i : Nat} (hi : i ≤ k) : cntR rl x i ≤ cntR rl x k := by
  induction k with
  | zero => rw [Nat.le_zero.mp hi]; exact Nat.le_refl _
  | succ k ih =>
    by_cases e : i = k + 1
    · rw [e]; exact Nat.le_refl _
    · exact Nat.le_trans (ih (by omega)) (by rw [cntR]; exact Nat.le_add_right _ _)
theorem cntR_lt {i : Nat} (hi : i < k) (e : rl i = x) : cntR rl x i < cntR rl x k := by
  have h1 := cntR_y (rl := rl) (x := x) e
  have h2 := cntR_mono (rl := rl) (x := x) (i := i + 1) (k := k) hi
  omega
theorem NMs.y {ν : NU} {f : Nat} (hN : NMs V rl x t (ν f)) (e : rl t = x) : NMs V rl x (t + 1) (u2l ν f (cntR rl x t) (V t) f) := fun k hk h => by
  by_cases q : k = t
  · subst q; simp [u2l]
  · have h1 := cntR_lt (rl := rl) (x := x) (show k < t by omega) h
    simp only [u2l]
    rw [if_neg (by omega)]
    exact hN k (by omega) h
theorem NMs.psm {s s' : PS} {f : Nat → Int64} (z : NMs V s.2.2.2.2 x s.1 f) (g : PSM K s s') (hz : ∀ i, s.1 ≤ i → s.2.2.2.2 i = 0) (hx : ¬ (x = 0 ∨ x = 17 ∨ x = 18)) : NMs V s'.2.2.2.2 x s'.1 f := by
  intro k hk he
  by_cases q : k < s.1
  · exact z.cc (fun i hi => (g.2.2.2 i).elim id (fun q => absurd q.1 (by omega))) k q he
  · rcases g.2.2.2 k with e | ⟨_, _, e, _⟩
    · rw [hz k (by omega)] at e; rw [e] at he; exact absurd (Or.inl he.symm) hx
    · rw [he] at e; exact absurd (Or.inr e) hx
theorem flF_mono {S : Nat → Int32} {i : Nat} (hi : i ≤ k) (e : (flF V S rl k).1 = 0) : (flF V S rl i).1 = 0 := by
  induction k with
  | zero => rw [Nat.le_zero.mp hi]; rfl
  | succ k ih =>
    by_cases q : i = k + 1
    · rw [q]; exact e
    · exact ih (by omega) (nfE_z e).1
end ZPS
