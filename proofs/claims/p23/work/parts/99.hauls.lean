/-! the lines of hauls and waits -/
def CLh (V : Nat → Int64) (s : PS) (β : RH) : CCT := fun a b c ρ ν hn wn π => ∃ D, ZP V s.2.2.2.2 s.1 a b c hn wn D ∧ (NMs V s.2.2.2.2 1 s.1 (ν 4) ∧ NMs V s.2.2.2.2 2 s.1 (ν 1) ∧ NMs V s.2.2.2.2 3 s.1 (ν 3)) ∧ DT D β a b c hn wn ρ π
def LG (V : Nat → Int64) (s : PS) (s0 : PS) (a b c h w : Nat) (D : RH) (ν : NU) : Prop := ZP V s.2.2.2.2 s.1 a b c h w D ∧ (NMs V s.2.2.2.2 1 s.1 (ν 4) ∧ NMs V s.2.2.2.2 2 s.1 (ν 1) ∧ NMs V s.2.2.2.2 3 s.1 (ν 3)) ∧ (∀ i, s.1 ≤ i → s.2.2.2.2 i = 0) ∧ s0.1 ≤ s.1 ∧ ∀ i, i < s0.1 → s.2.2.2.2 i = s0.2.2.2.2 i
def PXQ (s : PS) (q : PQ) : Prop := q.1 = true → PSX s q.2
section HLS
variable {K : Nat → Nat} {V : Nat → Int64} {S : Nat → Int32} {q : PQ} {s s' s0 s2 : PS} {a b c h w hn wn sn lt ez nx k : Nat} {D β ρ π : RH} {ν : NU} {x y bk ba fl fa : Int32} {σ : Nat → Nat} {C : CCT}
theorem PXQ.tk (g : PXQ s q) : PXQ s (tkQ K k q) := fun z => by rw [(tkQ_t z).2.2]; exact (g (tkQ_t z).1).ad
theorem PXQ.tr (g : PXQ s q) : PXQ s (tkR K k x q) := fun z => by rw [(tkR_t z).2.2]; exact (g (tkR_t z).1).ro
theorem PXQ.st (s : PS) (x : Int32) : PXQ s (true, adv (rol s s.1 x) 1) := fun _ => (PSX.rf s).ro
theorem PSX.ff (g : PSX s s') (hf : (flF V S s'.2.2.2.2 s'.1).1 = 0) : (flF V S s.2.2.2.2 s.1).1 = 0 := by
  rw [← flF_c (rl' := s'.2.2.2.2) (rl := s.2.2.2.2) (fun i hi => g.2.2.2.2 i hi)]
  exact flF_mono g.1 hf
theorem LF.lg (g : LF V q s0 a b c h w D ν y) (z : q.1 = true) : LG V q.2 s0 a b c h w D ν := let ⟨g1, g2, g3, g4, _⟩ := g z; ⟨g1, g2, g4, g3.1, g3.2.2.2.2⟩
theorem LG.psm (g : LG V s s0 a b c h w D ν) (m : PSM K s s') : LG V s' s0 a b c h w D ν := by
  obtain ⟨g1, ⟨g2, g3, g4⟩, g5, g6, g7⟩ := g
  refine ⟨g1.psm m g5, ⟨g2.psm m g5 (by decide), g3.psm m g5 (by decide), g4.psm m g5 (by decide)⟩, fun i hi => ?_, Nat.le_trans g6 m.1, fun i hi => ?_⟩
  · rcases m.2.2.2 i with e | ⟨_, e, _⟩
    · rw [e]; exact g5 i (Nat.le_trans m.1 hi)
    · omega
  · rcases m.2.2.2 i with e | ⟨e, _⟩
    · rw [e]; exact g7 i hi
    · omega
theorem LG.he2 (g : LG V s s0 a b c h w D ν) (hx : x = 14 ∨ x = 15) : ngE (fdF (ν 1) (V s.1) b) = erF V (uI s.2.2.2.2 s.1 x) s.1 := by
  have e1 : fdF (ν 1) (V s.1) b = tdR V s.2.2.2.2 2 (V s.1) s.1 := by rw [← g.2.1.2.1.fd (V s.1), g.1.2.1]
  unfold erF; rw [uI_s, tdR_c (uI_c (Nat.le_refl _)), tdR_c (uI_c (Nat.le_refl _)), ← e1]
  rcases hx with rfl | rfl <;> rw [if_neg (by decide), if_neg (by decide), if_neg (by decide), if_neg (by decide), if_neg (by decide), if_pos (by decide)]
theorem LG.he1 (g : LG V s s0 a b c h w D ν) : ngE (fdF (ν 4) (V s.1) a) = erF V (uI s.2.2.2.2 s.1 16) s.1 := by
  have e1 : fdF (ν 4) (V s.1) a = tdR V s.2.2.2.2 1 (V s.1) s.1 := by rw [← g.2.1.1.fd (V s.1), g.1.1]
  unfold erF; rw [uI_s, tdR_c (uI_c (Nat.le_refl _)), tdR_c (uI_c (Nat.le_refl _)), tdR_c (uI_c (Nat.le_refl _)), ← e1]
  rw [if_neg (by decide), if_neg (by decide), if_neg (by decide), if_neg (by decide), if_neg (by decide), if_neg (by decide), if_pos (by decide)]
theorem LG.cn (g : LG V s s0 a b c h w D ν) : CNm V s.2.2.2.2 s.1 a b ν := ⟨fun x => by rw [← g.2.1.2.1.fd x, g.1.2.1], fun x => by rw [← g.2.1.1.fd x, g.1.1]⟩
theorem RO.co (g : RO V S lt q nx bk ba fl fa) (hn' : q.1 = true → q.2.2.1 + ez ≤ q.2.1) (hc : q.1 = true → (flF V S q.2.2.2.2.2 q.2.1).1 = 0 → (C a b c ρ ν hn wn π ∧ CNm V q.2.2.2.2.2 q.2.1 a b ν) ∧ STP V q.2 sn σ π) : CO V S lt C ez q nx bk ba fl fa a b c ρ ν hn wn sn σ π := by
  refine ⟨fun z => ?_, g.2.2⟩
  obtain ⟨g1, g2, g3, g4⟩ := g.2.1 z
  subst g1
  refine ⟨rfl, g2, hn' z, g3, g4, fun e => ?_⟩
  obtain ⟨h1, h2, h3⟩ := hc z (by rw [g4]; exact e)
  exact ⟨h1, h2, h3⟩
theorem CO.cr (g : CO V S lt C ez q nx bk ba fl fa a b c ρ ν hn wn sn σ π) (hnx : nx ≤ lt) (hb : b01 bk) : RO V S lt q nx bk ba fl fa ∧ (q.1 = true → q.2.2.1 + ez ≤ q.2.1 ∧ ((flF V S q.2.2.2.2.2 q.2.1).1 = 0 → (C a b c ρ ν hn wn π ∧ CNm V q.2.2.2.2.2 q.2.1 a b ν) ∧ STP V q.2 sn σ π)) := by
  refine ⟨⟨⟨hnx, hb⟩, fun z => ?_, g.2⟩, fun z => ?_⟩
  · obtain ⟨g1, g2, g3, g4, g5, g6⟩ := g.1 z
    exact ⟨g1, g2, g4, g5⟩
  · obtain ⟨g1, g2, g3, g4, g5, g6⟩ := g.1 z
    subst g1
    refine ⟨g3, fun e => ?_⟩
    rw [g5] at e
    obtain ⟨h1, h2, h3⟩ := g6 e
    exact ⟨h1, h2, h3⟩
theorem CLh.u {i : Nat} {x : Int32} : CLh V s β a b c ρ ν hn wn π → CLh V s β a b c ρ ν hn wn (u2 π 70 i x) := fun ⟨D, h1, h2, h3⟩ => ⟨D, h1, h2, h3⟩
theorem erF_4 {rl : Nat → Int32} {t : Nat} : erF V (uI rl t 4) t = if cntR rl 4 t = 12 then 4 else 0 := by
  unfold erF; rw [uI_s, if_neg (by decide), if_neg (by decide), if_neg (by decide), if_pos rfl, cntR_c (uI_c (Nat.le_refl _))]
theorem erF_5 {rl : Nat → Int32} {t : Nat} : erF V (uI rl t 5) t = if cntR rl 5 t = 12 then 4 else 0 := by
  unfold erF; rw [uI_s, if_neg (by decide), if_neg (by decide), if_neg (by decide), if_neg (by decide), if_pos rfl, cntR_c (uI_c (Nat.le_refl _))]
theorem ck_4 {n : Nat} (hm : n ≤ 12) : (if (0 : Int32) = 0 then (if (if 12 ≤ n then (1 : Int32) else 0) = 0 then (0 : Int32) else 4) else 2) = if n = 12 then 4 else 0 := by
  rw [if_pos rfl]
  by_cases e2 : 12 ≤ n
  · rw [if_pos e2, if_neg (by decide), if_pos (by omega)]
  · rw [if_neg e2, if_pos rfl, if_neg (by omega)]
theorem LF.st4 (g1 : ZP V s.2.2.2.2 s.1 a b c h w D) (n : NMs V s.2.2.2.2 1 s.1 (ν 4) ∧ NMs V s.2.2.2.2 2 s.1 (ν 1) ∧ NMs V s.2.2.2.2 3 s.1 (ν 3)) (hz : ∀ i, s.1 ≤ i → s.2.2.2.2 i = 0) : LF V (true, adv (rol s s.1 4) 1) (adv (rol s s.1 4) 1) (a) (b) (c) (h + 1) (w) D ν 4 := fun _ => by
  obtain ⟨g2, g3, g4⟩ := n
  have z := g1.cc (rl' := uI s.2.2.2.2 s.1 4) (uI_c (Nat.le_refl _))
  exact ⟨z.r4 (uI_s _ _ _), ⟨(g2.cc (rl' := uI s.2.2.2.2 s.1 4) (uI_c (Nat.le_refl _))).n (by rw [uI_s]; decide), (g3.cc (rl' := uI s.2.2.2.2 s.1 4) (uI_c (Nat.le_refl _))).n (by rw [uI_s]; decide), (g4.cc (rl' := uI s.2.2.2.2 s.1 4) (uI_c (Nat.le_refl _))).n (by rw [uI_s]; decide)⟩, PSX.rf _, fun i hi => (uI_i (by have : s.1 + 1 ≤ i := hi; omega)).trans (hz i (Nat.le_trans (Nat.le_succ _) hi)), Nat.succ_le_succ (Nat.zero_le _), uI_s _ _ _⟩
theorem LF.st5 (g1 : ZP V s.2.2.2.2 s.1 a b c h w D) (n : NMs V s.2.2.2.2 1 s.1 (ν 4) ∧ NMs V s.2.2.2.2 2 s.1 (ν 1) ∧ NMs V s.2.2.2.2 3 s.1 (ν 3)) (hz : ∀ i, s.1 ≤ i → s.2.2.2.2 i = 0) : LF V (true, adv (rol s s.1 5) 1) (adv (rol s s.1 5) 1) (a) (b) (c) (h) (w + 1) D ν 5 := fun _ => by
  obtain ⟨g2, g3, g4⟩ := n
  have z := g1.cc (rl' := uI s.2.2.2.2 s.1 5) (uI_c (Nat.le_refl _))
  exact ⟨z.r5 (uI_s _ _ _), ⟨(g2.cc (rl' := uI s.2.2.2.2 s.1 5) (uI_c (Nat.le_refl _))).n (by rw [uI_s]; decide), (g3.cc (rl' := uI s.2.2.2.2 s.1 5) (uI_c (Nat.le_refl _))).n (by rw [uI_s]; decide), (g4.cc (rl' := uI s.2.2.2.2 s.1 5) (uI_c (Nat.le_refl _))).n (by rw [uI_s]; decide)⟩, PSX.rf _, fun i hi => (uI_i (by have : s.1 + 1 ≤ i := hi; omega)).trans (hz i (Nat.le_trans (Nat.le_succ _) hi)), Nat.succ_le_succ (Nat.zero_le _), uI_s _ _ _⟩
def beH (β : RH) (h f m t : Nat) : RH := u2 (u2 (u2 β 52 h (nI f)) 53 h (nI m)) 54 h (nI t)
def beW (β : RH) (w f t : Nat) : RH := u2 (u2 β 57 w (nI f)) 59 w (nI t)
theorem LC.haul (hc : CLh V s β a b c ρ ν hn wn π) (hz : ∀ i, s.1 ≤ i → s.2.2.2.2 i = 0) (z3 : (tkQ K 12 (tkR K 43 14 (true, adv (rol s s.1 4) 1))).1 = true) (m : PSM K (tkQ K 12 (tkR K 43 14 (true, adv (rol s s.1 4) 1))).2 s') (hf : (flF V S s'.2.2.2.2 s'.1).1 = 0) (hh : hn ≤ 12) (hst : STP V s' sn σ π) {f1 m1 n4 : Nat} (hf1 : f1 = s.2.1) (hm1 : m1 = n4) (hx : x = tdR V (uI s.2.2.2.2 s.1 4) 2 (V (s.1 + 1)) (s.1 + 1)) : hn < 12 ∧ LC V s' (beH β (cntR s.2.2.2.2 4 s.1) s.2.1 n4 s'.2.1) a b c ρ ν (hn + 1) wn sn σ (tlO π 50 hn x (-1) (nI f1) (nI m1) (nI sn)) := by
  subst hf1 hm1 hx
  obtain ⟨D, z1, n1, d1⟩ := hc
  have g1 := LF.st4 (V := V) z1 n1 hz
  have g2 := g1.r14 (k := 43) (K := K) (lt := 0)
  have g3 := (g2.tk (k := 12) (K := K)).lg z3
  have e1 := (g1.lg rfl).cn.1 (V (s.1 + 1))
  have g4 := g3.psm m
  have h9 := flF_er (V := V) (S := S) (rl := s'.2.2.2.2) (i := s.1) (k := s'.1) (by have := g4.2.2.2.1; have : s.1 + 1 ≤ s'.1 := this; omega) hf
  rw [erF_c (V := V) (k := s.1) (rl' := s'.2.2.2.2) (rl := uI s.2.2.2.2 s.1 4) (fun i hi => g4.2.2.2.2 i hi), erF_4, z1.2.2.2.1] at h9
  have h8 : ¬ hn = 12 := fun e => by rw [if_pos e] at h9; exact absurd h9 (by decide)
  refine ⟨by omega, _, g4.1, g4.2.1, ?_, ⟨hst.1, fun i hi => ?_⟩⟩
  · obtain ⟨a1, a2, a3, a4, a5, a6, a7⟩ := d1
    refine ⟨fun i hi => ?_, fun i hi => ?_, fun i hi => ?_, a4, fun i hi => ?_, fun i hi => ?_, fun i hi => ?_⟩
    · have := a1 i hi; simp [u2, this]
    · have := a2 i hi; simp [u2, this]
    · have := a3 i hi; simp [u2, this]
    · rw [z1.2.2.2.1]
      by_cases e : i = hn
      · subst e
        have h1 : hst.1 = hst.1 := rfl
        refine ⟨?_, ?_, ?_, ?_⟩
        · simp only [tlO, u2]; simp; rfl
        · simp [tlO, u2, beH]
        · simp [tlO, u2, beH]
        · simp [tlO, u2, beH, hst.1]
      · have := a5 i (by omega)
        simp [tlO, u2, beH, e, this]
    · have := a6 i hi; simp [tlO, u2, beH, this]
    · have := a7 i hi; simp [u2, this]
  · have := hst.2 i hi
    simpa [tlO, u2] using this
theorem LC.wait (hc : CLh V s β a b c ρ ν hn wn π) (hz : ∀ i, s.1 ≤ i → s.2.2.2.2 i = 0) (z3 : (tkQ K 13 (tkR K 43 16 (tkQ K 15 (tkR K 43 15 (true, adv (rol s s.1 5) 1))))).1 = true) (m : PSM K (tkQ K 13 (tkR K 43 16 (tkQ K 15 (tkR K 43 15 (true, adv (rol s s.1 5) 1))))).2 s') (hf : (flF V S s'.2.2.2.2 s'.1).1 = 0) (hh : wn ≤ 12) (hst : STP V s' sn σ π) {f1 : Nat} (hf1 : f1 = s.2.1) (hx : x = tdR V (uI s.2.2.2.2 s.1 5) 2 (V (s.1 + 1)) (s.1 + 1)) (hy : y = tdR V (tkQ K 15 (tkR K 43 15 (true, adv (rol s s.1 5) 1))).2.2.2.2.2 1 (V (tkQ K 15 (tkR K 43 15 (true, adv (rol s s.1 5) 1))).2.1) (tkQ K 15 (tkR K 43 15 (true, adv (rol s s.1 5) 1))).2.1) : wn < 12 ∧ LC V s' (beW β (cntR s.2.2.2.2 5 s.1) s.2.1 s'.2.1) a b c ρ ν hn (wn + 1) sn σ (tlO π 55 wn x y (nI f1) (nI f1) (nI sn)) := by
  subst hf1 hx hy
  obtain ⟨D, z1, n1, d1⟩ := hc
  have y4 : (tkR K 43 16 (tkQ K 15 (tkR K 43 15 (true, adv (rol s s.1 5) 1)))).1 = true := (tkQ_t z3).1
  have y3 : (tkQ K 15 (tkR K 43 15 (true, adv (rol s s.1 5) 1))).1 = true := (tkR_t y4).1
  have g1 := LF.st5 (V := V) z1 n1 hz
  have g2 := g1.r15 (k := 43) (K := K) (lt := 0)
  have g3' := g2.tk (k := 15) (K := K)
  have g4' := g3'.r16 (k := 43) (K := K) (lt := 0)
  have g3 := (g4'.tk (k := 13) (K := K)).lg z3
  have e1 := (g1.lg rfl).cn.1 (V (s.1 + 1))
  have e2 := (g3'.lg y3).cn.2 (V (cu 0 (tkQ K 15 (tkR K 43 15 (true, adv (rol s s.1 5) 1)))))
  have g4 := g3.psm m
  have h9 := flF_er (V := V) (S := S) (rl := s'.2.2.2.2) (i := s.1) (k := s'.1) (by have := g4.2.2.2.1; have : s.1 + 1 ≤ s'.1 := this; omega) hf
  rw [erF_c (V := V) (k := s.1) (rl' := s'.2.2.2.2) (rl := uI s.2.2.2.2 s.1 5) (fun i hi => g4.2.2.2.2 i hi), erF_5, z1.2.2.2.2.1] at h9
  have h8 : ¬ wn = 12 := fun e => by rw [if_pos e] at h9; exact absurd h9 (by decide)
  refine ⟨by omega, _, g4.1, g4.2.1, ?_, ⟨hst.1, fun i hi => ?_⟩⟩
  · obtain ⟨a1, a2, a3, a4, a5, a6, a7⟩ := d1
    refine ⟨fun i hi => ?_, fun i hi => ?_, fun i hi => ?_, a4, fun i hi => ?_, fun i hi => ?_, fun i hi => ?_⟩
    · have := a1 i hi; simp [u2, this]
    · have := a2 i hi; simp [u2, this]
    · have := a3 i hi; simp [u2, this]
    · have := a5 i hi; simp [tlO, u2, beW, this]
    · rw [z1.2.2.2.2.1]
      by_cases e : i = wn
      · subst e
        refine ⟨?_, ?_, ?_, ?_⟩
        · simp only [tlO, u2]; simp; rfl
        · simp only [tlO, u2]; simp; rw [cu_t y3]
        · simp [tlO, u2, beW]
        · simp [tlO, u2, beW, hst.1]
      · have := a6 i (by omega)
        simp [tlO, u2, beW, e, this]
    · have := a7 i hi; simp [u2, this]
  · have := hst.2 i hi
    simpa [tlO, u2] using this
theorem RQ.cq {sg : Nat → Nat} {τ : TY} {N1 N2 N3 M : ME} {j r p tp ln : Nat} {κ : Nat → Int32} (hT : TM τ N1 M (j + 1) sg tp ln lt K S V) (hQ : RQ τ M j r p lt S V q) (hR : LM τ N2 M r a b c ρ ν) (hP : PM τ N3 M p sg hn wn sn π σ κ) (hs : hn ≤ 12 ∧ wn ≤ 12 ∧ sn ≤ 400) (h1 : q.1 = true → q.2.2.1 + ez ≤ q.2.1) (h2 : q.1 = true → (flF V S q.2.2.2.2.2 q.2.1).1 = 0 → (C a b c ρ ν hn wn π ∧ CNm V q.2.2.2.2.2 q.2.1 a b ν) ∧ STP V q.2 sn σ π) : CQ sg τ M j r p tp ln lt K S V C ez q := by
  obtain ⟨nx, bk, ba, fl, fa, hE, hO⟩ := hQ
  exact ⟨hT.rf, nx, bk, ba, fl, fa, a, b, c, ρ, ν, hn, wn, sn, σ, π, κ, hE.rf, hR.rf, hP.rf, ⟨hs.1, hs.2.1, hs.2.2, hO.1.1⟩, hO.1.2, hO.co h1 h2⟩
theorem PSM.ff (g : PSM K s s') (hf : (flF V S s'.2.2.2.2 s'.1).1 = 0) : (flF V S s.2.2.2.2 s.1).1 = 0 := by
  rw [← flF_c (rl' := s'.2.2.2.2) (rl := s.2.2.2.2) (fun i hi => (g.2.2.2 i).elim id (fun q => absurd q.1 (by omega)))]
  exact flF_mono g.1 hf
def lnhq (K : Nat → Nat) (s : PS) : PQ := (tkQ K 12 (tkR K 43 14 (true, adv (rol s s.1 4) 1)))
def lnwq (K : Nat → Nat) (s : PS) : PQ := (tkQ K 13 (tkR K 43 16 (tkQ K 15 (tkR K 43 15 (true, adv (rol s s.1 5) 1)))))
/-- a line of a haul, of a wait *without* its semicolon -/
def HLr (K : Nat → Nat) (vv : Nat → Int32) (s : PS) (β : RH) (q' : PQ) (β' : RH) : Prop := ∃ q4 : PQ, PR K vv 3 0 (lnhq K s) q4 ∧ ((q4.1 = true ∧ K q4.2.1 = 13 ∧ PR K vv 8 0 (true, adv q4.2 1) q') ∨ (¬ (q4.1 = true ∧ K q4.2.1 = 13) ∧ q' = q4)) ∧ β' = beH β (cntR s.2.2.2.2 4 s.1) s.2.1 q4.2.2.1 q'.2.2.1
def WLr (K : Nat → Nat) (vv : Nat → Int32) (s : PS) (β : RH) (q' : PQ) (β' : RH) : Prop := PR K vv 8 0 (lnwq K s) q' ∧ β' = beW β (cntR s.2.2.2.2 5 s.1) s.2.1 q'.2.2.1
end HLS
