/-! the grammar: what a token's reading does, as rules; both readers follow them -/
abbrev PS : Type := Nat × Nat × (Nat → Nat) × (Nat → Int32) × (Nat → Int32)
abbrev PQ : Type := Bool × PS
def adv (s : PS) (k : Nat) : PS := (s.1 + k, s.2)
def stp (s : PS) (o : Nat) (x : Int32) : PS := (s.1, s.2.1 + 1, u1 s.2.2.1 s.2.1 o, uI s.2.2.2.1 s.2.1 x, s.2.2.2.2)
def rol (s : PS) (t : Nat) (x : Int32) : PS := (s.1, s.2.1, s.2.2.1, s.2.2.2.1, uI s.2.2.2.2 t x)
def tkQ (K : Nat → Nat) (k : Nat) (q : PQ) : PQ := if q.1 = true then (if K q.2.1 = k then (true, adv q.2 1) else (false, q.2)) else q
def tcQ (K : Nat → Nat) (q : PQ) : PQ := if q.1 = true then (if 38 ≤ K q.2.1 ∧ K q.2.1 ≤ 42 then (true, adv q.2 1) else (false, q.2)) else q
def adQ (q : PQ) (o : Nat) : PQ := (q.1, stp q.2 o 0)
def vlK (o : Nat) : Prop := o = 44 ∨ (16 ≤ o ∧ o ≤ 19) ∨ (o = 20 ∨ o = 21 ∨ o = 6) ∨ (o = 3 ∨ o = 22) ∨ o = 35 ∨ o = 28 ∨ (o = 26 ∨ o = 27)
/-- closed under the rules -/
def GR (K : Nat → Nat) (vv : Nat → Int32) (R : Nat → Nat → PQ → PQ → Prop) : Prop :=
  (∀ (m : Nat) (d : Nat) (s : PS), R m d (false, s) (false, s)) ∧
  (∀ (d : Nat) (s : PS), K s.1 = 44 → R 0 d (true, s) (true, adv (stp s 44 (vv s.1)) 1)) ∧
  (∀ (d : Nat) (s : PS), (16 ≤ K s.1 ∧ K s.1 ≤ 19) → R 0 d (true, s) (true, adv (stp s (K s.1) 0) 1)) ∧
  (∀ (d : Nat) (s : PS), (K s.1 = 20 ∨ K s.1 = 21 ∨ K s.1 = 6) → K (s.1 + 1) = 43 → R 0 d (true, s) (true, adv (rol (stp s (K s.1) (nI (s.1 + 1))) (s.1 + 1) 17) 2)) ∧
  (∀ (d : Nat) (s : PS), (K s.1 = 20 ∨ K s.1 = 21 ∨ K s.1 = 6) → ¬ K (s.1 + 1) = 43 → R 0 d (true, s) (false, adv s 1)) ∧
  (∀ (d : Nat) (s : PS), (K s.1 = 3 ∨ K s.1 = 22) → K (s.1 + 1) = 43 → R 0 d (true, s) (true, adv (rol (stp s (K s.1) (nI (s.1 + 1))) (s.1 + 1) 18) 2)) ∧
  (∀ (d : Nat) (s : PS), (K s.1 = 3 ∨ K s.1 = 22) → ¬ K (s.1 + 1) = 43 → R 0 d (true, s) (false, adv s 1)) ∧
  (∀ (d : Nat) (s : PS) (q : PQ), K s.1 = 35 → d < 8 → R 0 (d + 1) (true, adv s 1) q → R 0 d (true, s) (adQ q 47)) ∧
  (∀ (d : Nat) (s : PS), K s.1 = 35 → ¬ d < 8 → R 0 d (true, s) (false, s)) ∧
  (∀ (d : Nat) (s : PS) (q : PQ), K s.1 = 28 → d < 8 → R 3 (d + 1) (true, adv s 1) q → R 0 d (true, s) (tkQ K 29 q)) ∧
  (∀ (d : Nat) (s : PS), K s.1 = 28 → ¬ d < 8 → R 0 d (true, s) (false, s)) ∧
  (∀ (d : Nat) (s : PS) (q : PQ) (q2 : PQ), (K s.1 = 26 ∨ K s.1 = 27) → K (s.1 + 1) = 28 → d < 8 → R 3 (d + 1) (true, adv s 2) q → R 3 (d + 1) (tkQ K 33 q) q2 → R 0 d (true, s) (adQ (tkQ K 29 q2) (K s.1))) ∧
  (∀ (d : Nat) (s : PS), (K s.1 = 26 ∨ K s.1 = 27) → ¬ K (s.1 + 1) = 28 → R 0 d (true, s) (false, adv s 1)) ∧
  (∀ (d : Nat) (s : PS), (K s.1 = 26 ∨ K s.1 = 27) → K (s.1 + 1) = 28 → ¬ d < 8 → R 0 d (true, s) (false, adv s 1)) ∧
  (∀ (d : Nat) (s : PS), ¬ vlK (K s.1) → R 0 d (true, s) (false, s)) ∧
  (∀ (d : Nat) (s : PQ) (q : PQ) (q2 : PQ), R 0 d s q → R 2 d q q2 → R 1 d s q2) ∧
  (∀ (d : Nat) (s : PS) (q : PQ) (q2 : PQ), (K s.1 = 36 ∨ K s.1 = 37) → R 0 d (true, adv s 1) q → R 2 d (adQ q (K s.1)) q2 → R 2 d (true, s) q2) ∧
  (∀ (d : Nat) (s : PS), ¬ (K s.1 = 36 ∨ K s.1 = 37) → R 2 d (true, s) (true, s)) ∧
  (∀ (d : Nat) (s : PQ) (q : PQ) (q2 : PQ), R 1 d s q → R 4 d q q2 → R 3 d s q2) ∧
  (∀ (d : Nat) (s : PS) (q : PQ) (q2 : PQ), (K s.1 = 34 ∨ K s.1 = 35) → R 1 d (true, adv s 1) q → R 4 d (adQ q (K s.1)) q2 → R 4 d (true, s) q2) ∧
  (∀ (d : Nat) (s : PS), ¬ (K s.1 = 34 ∨ K s.1 = 35) → R 4 d (true, s) (true, s)) ∧
  (∀ (d : Nat) (s : PS) (q : PQ), K s.1 = 23 → d < 8 → R 5 (d + 1) (true, adv s 1) q → R 5 d (true, s) (adQ q 23)) ∧
  (∀ (d : Nat) (s : PS), K s.1 = 23 → ¬ d < 8 → R 5 d (true, s) (false, s)) ∧
  (∀ (d : Nat) (s : PS) (q : PQ), K s.1 = 30 → d < 8 → R 8 (d + 1) (true, adv s 1) q → R 5 d (true, s) (tkQ K 31 q)) ∧
  (∀ (d : Nat) (s : PS), K s.1 = 30 → ¬ d < 8 → R 5 d (true, s) (false, s)) ∧
  (∀ (d : Nat) (s : PS) (q : PQ) (q2 : PQ), ¬ K s.1 = 23 → ¬ K s.1 = 30 → R 3 d (true, s) q → R 3 d (tcQ K q) q2 → R 5 d (true, s) (adQ q2 (K q.2.1))) ∧
  (∀ (d : Nat) (s : PQ) (q : PQ) (q2 : PQ), R 5 d s q → R 7 d q q2 → R 6 d s q2) ∧
  (∀ (d : Nat) (s : PS) (q : PQ) (q2 : PQ), K s.1 = 24 → R 5 d (true, adv s 1) q → R 7 d (adQ q 24) q2 → R 7 d (true, s) q2) ∧
  (∀ (d : Nat) (s : PS), ¬ K s.1 = 24 → R 7 d (true, s) (true, s)) ∧
  (∀ (d : Nat) (s : PQ) (q : PQ) (q2 : PQ), R 6 d s q → R 9 d q q2 → R 8 d s q2) ∧
  (∀ (d : Nat) (s : PS) (q : PQ) (q2 : PQ), K s.1 = 25 → R 6 d (true, adv s 1) q → R 9 d (adQ q 25) q2 → R 9 d (true, s) q2) ∧
  (∀ (d : Nat) (s : PS), ¬ K s.1 = 25 → R 9 d (true, s) (true, s))
def PR (K : Nat → Nat) (vv : Nat → Int32) (m d : Nat) (q q' : PQ) : Prop := ∀ R, GR K vv R → R m d q q'
theorem PR.br {K : Nat → Nat} {vv : Nat → Int32} {m : Nat} {d : Nat} {s : PS}  : PR K vv m d (false, s) (false, s) := fun R hR => hR.1 m d s 
theorem PR.num {K : Nat → Nat} {vv : Nat → Int32} {d : Nat} {s : PS} (g0 : K s.1 = 44) : PR K vv 0 d (true, s) (true, adv (stp s 44 (vv s.1)) 1) := fun R hR => hR.2.1 d s g0
theorem PR.wrd {K : Nat → Nat} {vv : Nat → Int32} {d : Nat} {s : PS} (g0 : (16 ≤ K s.1 ∧ K s.1 ≤ 19)) : PR K vv 0 d (true, s) (true, adv (stp s (K s.1) 0) 1) := fun R hR => hR.2.2.1 d s g0
theorem PR.hrs {K : Nat → Nat} {vv : Nat → Int32} {d : Nat} {s : PS} (g0 : (K s.1 = 20 ∨ K s.1 = 21 ∨ K s.1 = 6)) (g1 : K (s.1 + 1) = 43) : PR K vv 0 d (true, s) (true, adv (rol (stp s (K s.1) (nI (s.1 + 1))) (s.1 + 1) 17) 2) := fun R hR => hR.2.2.2.1 d s g0 g1
theorem PR.hrf {K : Nat → Nat} {vv : Nat → Int32} {d : Nat} {s : PS} (g0 : (K s.1 = 20 ∨ K s.1 = 21 ∨ K s.1 = 6)) (g1 : ¬ K (s.1 + 1) = 43) : PR K vv 0 d (true, s) (false, adv s 1) := fun R hR => hR.2.2.2.2.1 d s g0 g1
theorem PR.str {K : Nat → Nat} {vv : Nat → Int32} {d : Nat} {s : PS} (g0 : (K s.1 = 3 ∨ K s.1 = 22)) (g1 : K (s.1 + 1) = 43) : PR K vv 0 d (true, s) (true, adv (rol (stp s (K s.1) (nI (s.1 + 1))) (s.1 + 1) 18) 2) := fun R hR => hR.2.2.2.2.2.1 d s g0 g1
theorem PR.stf {K : Nat → Nat} {vv : Nat → Int32} {d : Nat} {s : PS} (g0 : (K s.1 = 3 ∨ K s.1 = 22)) (g1 : ¬ K (s.1 + 1) = 43) : PR K vv 0 d (true, s) (false, adv s 1) := fun R hR => hR.2.2.2.2.2.2.1 d s g0 g1
theorem PR.neg {K : Nat → Nat} {vv : Nat → Int32} {d : Nat} {s : PS} {q : PQ} (g0 : K s.1 = 35) (g1 : d < 8) (g2 : PR K vv 0 (d + 1) (true, adv s 1) q) : PR K vv 0 d (true, s) (adQ q 47) := fun R hR => hR.2.2.2.2.2.2.2.1 d s q g0 g1 (g2 R hR)
theorem PR.ngf {K : Nat → Nat} {vv : Nat → Int32} {d : Nat} {s : PS} (g0 : K s.1 = 35) (g1 : ¬ d < 8) : PR K vv 0 d (true, s) (false, s) := fun R hR => hR.2.2.2.2.2.2.2.2.1 d s g0 g1
theorem PR.opn {K : Nat → Nat} {vv : Nat → Int32} {d : Nat} {s : PS} {q : PQ} (g0 : K s.1 = 28) (g1 : d < 8) (g2 : PR K vv 3 (d + 1) (true, adv s 1) q) : PR K vv 0 d (true, s) (tkQ K 29 q) := fun R hR => hR.2.2.2.2.2.2.2.2.2.1 d s q g0 g1 (g2 R hR)
theorem PR.opf {K : Nat → Nat} {vv : Nat → Int32} {d : Nat} {s : PS} (g0 : K s.1 = 28) (g1 : ¬ d < 8) : PR K vv 0 d (true, s) (false, s) := fun R hR => hR.2.2.2.2.2.2.2.2.2.2.1 d s g0 g1
theorem PR.two {K : Nat → Nat} {vv : Nat → Int32} {d : Nat} {s : PS} {q : PQ} {q2 : PQ} (g0 : (K s.1 = 26 ∨ K s.1 = 27)) (g1 : K (s.1 + 1) = 28) (g2 : d < 8) (g3 : PR K vv 3 (d + 1) (true, adv s 2) q) (g4 : PR K vv 3 (d + 1) (tkQ K 33 q) q2) : PR K vv 0 d (true, s) (adQ (tkQ K 29 q2) (K s.1)) := fun R hR => hR.2.2.2.2.2.2.2.2.2.2.2.1 d s q q2 g0 g1 g2 (g3 R hR) (g4 R hR)
theorem PR.twf {K : Nat → Nat} {vv : Nat → Int32} {d : Nat} {s : PS} (g0 : (K s.1 = 26 ∨ K s.1 = 27)) (g1 : ¬ K (s.1 + 1) = 28) : PR K vv 0 d (true, s) (false, adv s 1) := fun R hR => hR.2.2.2.2.2.2.2.2.2.2.2.2.1 d s g0 g1
theorem PR.twg {K : Nat → Nat} {vv : Nat → Int32} {d : Nat} {s : PS} (g0 : (K s.1 = 26 ∨ K s.1 = 27)) (g1 : K (s.1 + 1) = 28) (g2 : ¬ d < 8) : PR K vv 0 d (true, s) (false, adv s 1) := fun R hR => hR.2.2.2.2.2.2.2.2.2.2.2.2.2.1 d s g0 g1 g2
theorem PR.non {K : Nat → Nat} {vv : Nat → Int32} {d : Nat} {s : PS} (g0 : ¬ vlK (K s.1)) : PR K vv 0 d (true, s) (false, s) := fun R hR => hR.2.2.2.2.2.2.2.2.2.2.2.2.2.2.1 d s g0
theorem PR.prd {K : Nat → Nat} {vv : Nat → Int32} {d : Nat} {s : PQ} {q : PQ} {q2 : PQ} (g0 : PR K vv 0 d s q) (g1 : PR K vv 2 d q q2) : PR K vv 1 d s q2 := fun R hR => hR.2.2.2.2.2.2.2.2.2.2.2.2.2.2.2.1 d s q q2 (g0 R hR) (g1 R hR)
theorem PR.prl {K : Nat → Nat} {vv : Nat → Int32} {d : Nat} {s : PS} {q : PQ} {q2 : PQ} (g0 : (K s.1 = 36 ∨ K s.1 = 37)) (g1 : PR K vv 0 d (true, adv s 1) q) (g2 : PR K vv 2 d (adQ q (K s.1)) q2) : PR K vv 2 d (true, s) q2 := fun R hR => hR.2.2.2.2.2.2.2.2.2.2.2.2.2.2.2.2.1 d s q q2 g0 (g1 R hR) (g2 R hR)
theorem PR.pre {K : Nat → Nat} {vv : Nat → Int32} {d : Nat} {s : PS} (g0 : ¬ (K s.1 = 36 ∨ K s.1 = 37)) : PR K vv 2 d (true, s) (true, s) := fun R hR => hR.2.2.2.2.2.2.2.2.2.2.2.2.2.2.2.2.2.1 d s g0
theorem PR.sum {K : Nat → Nat} {vv : Nat → Int32} {d : Nat} {s : PQ} {q : PQ} {q2 : PQ} (g0 : PR K vv 1 d s q) (g1 : PR K vv 4 d q q2) : PR K vv 3 d s q2 := fun R hR => hR.2.2.2.2.2.2.2.2.2.2.2.2.2.2.2.2.2.2.1 d s q q2 (g0 R hR) (g1 R hR)
theorem PR.sul {K : Nat → Nat} {vv : Nat → Int32} {d : Nat} {s : PS} {q : PQ} {q2 : PQ} (g0 : (K s.1 = 34 ∨ K s.1 = 35)) (g1 : PR K vv 1 d (true, adv s 1) q) (g2 : PR K vv 4 d (adQ q (K s.1)) q2) : PR K vv 4 d (true, s) q2 := fun R hR => hR.2.2.2.2.2.2.2.2.2.2.2.2.2.2.2.2.2.2.2.1 d s q q2 g0 (g1 R hR) (g2 R hR)
theorem PR.sue {K : Nat → Nat} {vv : Nat → Int32} {d : Nat} {s : PS} (g0 : ¬ (K s.1 = 34 ∨ K s.1 = 35)) : PR K vv 4 d (true, s) (true, s) := fun R hR => hR.2.2.2.2.2.2.2.2.2.2.2.2.2.2.2.2.2.2.2.2.1 d s g0
theorem PR.nt {K : Nat → Nat} {vv : Nat → Int32} {d : Nat} {s : PS} {q : PQ} (g0 : K s.1 = 23) (g1 : d < 8) (g2 : PR K vv 5 (d + 1) (true, adv s 1) q) : PR K vv 5 d (true, s) (adQ q 23) := fun R hR => hR.2.2.2.2.2.2.2.2.2.2.2.2.2.2.2.2.2.2.2.2.2.1 d s q g0 g1 (g2 R hR)
theorem PR.ntf {K : Nat → Nat} {vv : Nat → Int32} {d : Nat} {s : PS} (g0 : K s.1 = 23) (g1 : ¬ d < 8) : PR K vv 5 d (true, s) (false, s) := fun R hR => hR.2.2.2.2.2.2.2.2.2.2.2.2.2.2.2.2.2.2.2.2.2.2.1 d s g0 g1
theorem PR.brk {K : Nat → Nat} {vv : Nat → Int32} {d : Nat} {s : PS} {q : PQ} (g0 : K s.1 = 30) (g1 : d < 8) (g2 : PR K vv 8 (d + 1) (true, adv s 1) q) : PR K vv 5 d (true, s) (tkQ K 31 q) := fun R hR => hR.2.2.2.2.2.2.2.2.2.2.2.2.2.2.2.2.2.2.2.2.2.2.2.1 d s q g0 g1 (g2 R hR)
theorem PR.bkf {K : Nat → Nat} {vv : Nat → Int32} {d : Nat} {s : PS} (g0 : K s.1 = 30) (g1 : ¬ d < 8) : PR K vv 5 d (true, s) (false, s) := fun R hR => hR.2.2.2.2.2.2.2.2.2.2.2.2.2.2.2.2.2.2.2.2.2.2.2.2.1 d s g0 g1
theorem PR.cmp {K : Nat → Nat} {vv : Nat → Int32} {d : Nat} {s : PS} {q : PQ} {q2 : PQ} (g0 : ¬ K s.1 = 23) (g1 : ¬ K s.1 = 30) (g2 : PR K vv 3 d (true, s) q) (g3 : PR K vv 3 d (tcQ K q) q2) : PR K vv 5 d (true, s) (adQ q2 (K q.2.1)) := fun R hR => hR.2.2.2.2.2.2.2.2.2.2.2.2.2.2.2.2.2.2.2.2.2.2.2.2.2.1 d s q q2 g0 g1 (g2 R hR) (g3 R hR)
theorem PR.bth {K : Nat → Nat} {vv : Nat → Int32} {d : Nat} {s : PQ} {q : PQ} {q2 : PQ} (g0 : PR K vv 5 d s q) (g1 : PR K vv 7 d q q2) : PR K vv 6 d s q2 := fun R hR => hR.2.2.2.2.2.2.2.2.2.2.2.2.2.2.2.2.2.2.2.2.2.2.2.2.2.2.1 d s q q2 (g0 R hR) (g1 R hR)
theorem PR.btl {K : Nat → Nat} {vv : Nat → Int32} {d : Nat} {s : PS} {q : PQ} {q2 : PQ} (g0 : K s.1 = 24) (g1 : PR K vv 5 d (true, adv s 1) q) (g2 : PR K vv 7 d (adQ q 24) q2) : PR K vv 7 d (true, s) q2 := fun R hR => hR.2.2.2.2.2.2.2.2.2.2.2.2.2.2.2.2.2.2.2.2.2.2.2.2.2.2.2.1 d s q q2 g0 (g1 R hR) (g2 R hR)
theorem PR.bte {K : Nat → Nat} {vv : Nat → Int32} {d : Nat} {s : PS} (g0 : ¬ K s.1 = 24) : PR K vv 7 d (true, s) (true, s) := fun R hR => hR.2.2.2.2.2.2.2.2.2.2.2.2.2.2.2.2.2.2.2.2.2.2.2.2.2.2.2.2.1 d s g0
theorem PR.tst {K : Nat → Nat} {vv : Nat → Int32} {d : Nat} {s : PQ} {q : PQ} {q2 : PQ} (g0 : PR K vv 6 d s q) (g1 : PR K vv 9 d q q2) : PR K vv 8 d s q2 := fun R hR => hR.2.2.2.2.2.2.2.2.2.2.2.2.2.2.2.2.2.2.2.2.2.2.2.2.2.2.2.2.2.1 d s q q2 (g0 R hR) (g1 R hR)
theorem PR.tsl {K : Nat → Nat} {vv : Nat → Int32} {d : Nat} {s : PS} {q : PQ} {q2 : PQ} (g0 : K s.1 = 25) (g1 : PR K vv 6 d (true, adv s 1) q) (g2 : PR K vv 9 d (adQ q 25) q2) : PR K vv 9 d (true, s) q2 := fun R hR => hR.2.2.2.2.2.2.2.2.2.2.2.2.2.2.2.2.2.2.2.2.2.2.2.2.2.2.2.2.2.2.1 d s q q2 g0 (g1 R hR) (g2 R hR)
theorem PR.tse {K : Nat → Nat} {vv : Nat → Int32} {d : Nat} {s : PS} (g0 : ¬ K s.1 = 25) : PR K vv 9 d (true, s) (true, s) := fun R hR => hR.2.2.2.2.2.2.2.2.2.2.2.2.2.2.2.2.2.2.2.2.2.2.2.2.2.2.2.2.2.2.2 d s g0
/-- how many tokens of a role there are ahead; the first of them with this name -/
def cntR (rl : Nat → Int32) (x : Int32) : Nat → Nat
  | 0 => 0
  | t + 1 => cntR rl x t + (if rl t = x then 1 else 0)
def tdR (V : Nat → Int64) (rl : Nat → Int32) (x : Int32) (v : Int64) : Nat → Int32
  | 0 => -1
  | t + 1 => if tdR V rl x v t = -1 then (if rl t = x ∧ V t = v then nI (cntR rl x t) else -1) else tdR V rl x v t
/-- the error at a token -/
def erF (V : Nat → Int64) (rl : Nat → Int32) (t : Nat) : Int32 :=
  if rl t = 1 then (if tdR V rl 1 (V t) t = -1 then (if cntR rl 1 t = 8 then 4 else 0) else 2)
  else if rl t = 2 then (if tdR V rl 2 (V t) t = -1 then (if cntR rl 2 t = 6 then 4 else 0) else 2)
  else if rl t = 3 then (if tdR V rl 3 (V t) t = -1 then (if cntR rl 3 t = 20 then 4 else 0) else 2)
  else if rl t = 4 then (if cntR rl 4 t = 12 then 4 else 0)
  else if rl t = 5 then (if cntR rl 5 t = 12 then 4 else 0)
  else if rl t = 14 ∨ rl t = 15 ∨ rl t = 17 then ngE (tdR V rl 2 (V t) t)
  else if rl t = 16 ∨ rl t = 18 then ngE (tdR V rl 1 (V t) t)
  else if rl t = 6 ∨ rl t = 10 then rgE (V t) 1 9
  else if rl t = 7 ∨ rl t = 8 then rgE (V t) 0 9
  else if rl t = 9 ∨ rl t = 11 then rgE (V t) 1 99
  else if rl t = 13 then rgE (V t) 1 60
  else 0
/-- the first of them -/
def flF (V : Nat → Int64) (S : Nat → Int32) (rl : Nat → Int32) : Nat → Int32 × Int32
  | 0 => (0, -1)
  | t + 1 => (nfE (flF V S rl t).1 (erF V rl t), nfA (flF V S rl t).1 (flF V S rl t).2 (erF V rl t) (S t))
/-- what a step takes, behind the look-ups -/
def rsF (V : Nat → Int64) (rl : Nat → Int32) (o : Nat) (x : Int32) : Int32 :=
  if o = 20 ∨ o = 21 ∨ o = 6 then tdR V rl 2 (V x.toNatClampNeg) x.toNatClampNeg
  else if o = 3 ∨ o = 22 then tdR V rl 1 (V x.toNatClampNeg) x.toNatClampNeg else x
section GRM
variable {K : Nat → Nat} {V : Nat → Int64} {S : Nat → Int32} {rl rl' : Nat → Int32} {x y : Int32} {t k n o : Nat} {v : Int64}
theorem cntR_c (h : ∀ i, i < k → rl' i = rl i) : cntR rl' x k = cntR rl x k := by
  induction k with
  | zero => rfl
  | succ k ih => rw [cntR, cntR, ih (fun i hi => h i (by omega)), h k (by omega)]
theorem tdR_c (h : ∀ i, i < k → rl' i = rl i) : tdR V rl' x v k = tdR V rl x v k := by
  induction k with
  | zero => rfl
  | succ k ih => rw [tdR, tdR, ih (fun i hi => h i (by omega)), h k (by omega), cntR_c (fun i hi => h i (by omega))]
theorem erF_c (h : ∀ i, i < k + 1 → rl' i = rl i) : erF V rl' k = erF V rl k := by
  unfold erF
  rw [h k (by omega)]
  simp only [tdR_c (rl := rl) (rl' := rl') (k := k) (fun i hi => h i (by omega)), cntR_c (rl := rl) (rl' := rl') (k := k) (fun i hi => h i (by omega))]
theorem flF_c (h : ∀ i, i < k → rl' i = rl i) : flF V S rl' k = flF V S rl k := by
  induction k with
  | zero => rfl
  | succ k ih => rw [flF, flF, ih (fun i hi => h i (by omega)), erF_c h]
theorem uI_c (h : k ≤ t) : ∀ i, i < k → uI rl t x i = rl i := fun i hi => uI_i (by omega)
theorem cntR_n (h : ¬ rl t = x) : cntR rl x (t + 1) = cntR rl x t := by rw [cntR, if_neg h]; rfl
theorem cntR_y (h : rl t = x) : cntR rl x (t + 1) = cntR rl x t + 1 := by rw [cntR, if_pos h]
theorem tdR_n (h : ¬ rl t = x) : tdR V rl x v (t + 1) = tdR V rl x v t := by
  rw [tdR]
  by_cases e : tdR V rl x v t = -1
  · rw [if_pos e, if_neg (fun q => h q.1), e]
  · rw [if_neg e]
theorem tdR_y (h : rl t = x) : tdR V rl x v (t + 1) = if tdR V rl x v t = -1 then (if V t = v then nI (cntR rl x t) else -1) else tdR V rl x v t := by
  rw [tdR]; simp only [h, true_and]
theorem erF_0 (h : rl t = 0) : erF V rl t = 0 := by unfold erF; rw [h]; rw [if_neg (by decide), if_neg (by decide), if_neg (by decide), if_neg (by decide), if_neg (by decide), if_neg (by decide), if_neg (by decide), if_neg (by decide), if_neg (by decide), if_neg (by decide), if_neg (by decide)]
theorem flF_0 (h : rl t = 0) : flF V S rl (t + 1) = flF V S rl t := by rw [flF, erF_0 h, nfE_0, nfA_0]
theorem flF_s {fl fa e : Int32} (h : flF V S rl t = (fl, fa)) (he : fl = 0 → e = erF V rl t) : flF V S rl (t + 1) = (nfE fl e, nfA fl fa e (S t)) := by
  rw [flF, h]
  by_cases q : fl = 0
  · rw [he q]
  · simp only [nfE, nfA, if_neg q, if_neg (fun z : fl = 0 ∧ _ => q z.1)]
theorem nfE_z {fl e : Int32} (h : nfE fl e = 0) : fl = 0 ∧ e = 0 := by
  unfold nfE at h
  by_cases q : fl = 0
  · rw [if_pos q] at h; exact ⟨q, h⟩
  · rw [if_neg q] at h; exact absurd h q
theorem cntR_le : ∀ k, cntR rl x k ≤ k
  | 0 => Nat.le_refl _
  | k + 1 => by have := cntR_le k; rw [cntR]; split <;> omega
end GRM
