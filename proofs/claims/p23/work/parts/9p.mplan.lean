/-! the reference reads the whole list -/
theorem lnst_x {K : Nat → Nat} {s : PS} (z : (lnst K s).1 = true) : PSX s (lnst K s).2 := by
    have st : ∀ {q : PQ} {k : Nat}, (tkQ K k q).1 = true → PSX s q.2 → PSX s (tkQ K k q).2 := fun z g => by rw [(tkQ_t z).2.2]; exact g.ad
    have sr : ∀ {q : PQ} {k : Nat} {x : Int32}, (tkR K k x q).1 = true → PSX s q.2 → PSX s (tkR K k x q).2 := fun z g => by rw [(tkR_t z).2.2]; exact g.ro
    have so : ∀ {q : PQ} {k : Nat} {x : Int32}, PSX s q.2 → PSX s (opR K k x q).2 := fun {q k x} g => by
      unfold opR; split
      · exact g.ro
      · exact g
    have y8 : ((tkR K 44 8 ((tkQ K 3 ((tkR K 44 7 ((opR K 35 19 ((tkQ K 2 ((tkR K 44 6 ((tkQ K 1 ((tkR K 43 1 ((true, adv s 1)))))))))))))))))).1 = true := z
    have y7 : ((tkQ K 3 ((tkR K 44 7 ((opR K 35 19 ((tkQ K 2 ((tkR K 44 6 ((tkQ K 1 ((tkR K 43 1 ((true, adv s 1)))))))))))))))).1 = true := (tkR_t y8).1
    have y6 : ((tkR K 44 7 ((opR K 35 19 ((tkQ K 2 ((tkR K 44 6 ((tkQ K 1 ((tkR K 43 1 ((true, adv s 1)))))))))))))).1 = true := (tkQ_t y7).1
    have y5 : ((opR K 35 19 ((tkQ K 2 ((tkR K 44 6 ((tkQ K 1 ((tkR K 43 1 ((true, adv s 1)))))))))))).1 = true := (tkR_t y6).1
    have y4 : ((tkQ K 2 ((tkR K 44 6 ((tkQ K 1 ((tkR K 43 1 ((true, adv s 1)))))))))).1 = true := opR_1 y5
    have y3 : ((tkR K 44 6 ((tkQ K 1 ((tkR K 43 1 ((true, adv s 1)))))))).1 = true := (tkQ_t y4).1
    have y2 : ((tkQ K 1 ((tkR K 43 1 ((true, adv s 1)))))).1 = true := (tkR_t y3).1
    have y1 : ((tkR K 43 1 ((true, adv s 1)))).1 = true := (tkQ_t y2).1
    have x0 : PSX s (adv s 1) := (PSX.rf s).ad
    have x1 : PSX s ((tkR K 43 1 ((true, adv s 1)))).2 := sr y1 x0
    have x2 : PSX s ((tkQ K 1 ((tkR K 43 1 ((true, adv s 1)))))).2 := st y2 x1
    have x3 : PSX s ((tkR K 44 6 ((tkQ K 1 ((tkR K 43 1 ((true, adv s 1)))))))).2 := sr y3 x2
    have x4 : PSX s ((tkQ K 2 ((tkR K 44 6 ((tkQ K 1 ((tkR K 43 1 ((true, adv s 1)))))))))).2 := st y4 x3
    have x5 : PSX s ((opR K 35 19 ((tkQ K 2 ((tkR K 44 6 ((tkQ K 1 ((tkR K 43 1 ((true, adv s 1)))))))))))).2 := so x4
    have x6 : PSX s ((tkR K 44 7 ((opR K 35 19 ((tkQ K 2 ((tkR K 44 6 ((tkQ K 1 ((tkR K 43 1 ((true, adv s 1)))))))))))))).2 := sr y6 x5
    have x7 : PSX s ((tkQ K 3 ((tkR K 44 7 ((opR K 35 19 ((tkQ K 2 ((tkR K 44 6 ((tkQ K 1 ((tkR K 43 1 ((true, adv s 1)))))))))))))))).2 := st y7 x6
    have x8 : PSX s ((tkR K 44 8 ((tkQ K 3 ((tkR K 44 7 ((opR K 35 19 ((tkQ K 2 ((tkR K 44 6 ((tkQ K 1 ((tkR K 43 1 ((true, adv s 1)))))))))))))))))).2 := sr y8 x7
    exact x8
theorem lnho_x {K : Nat → Nat} {s : PS} (z : (lnho K s).1 = true) : PSX s (lnho K s).2 := by
    have st : ∀ {q : PQ} {k : Nat}, (tkQ K k q).1 = true → PSX s q.2 → PSX s (tkQ K k q).2 := fun z g => by rw [(tkQ_t z).2.2]; exact g.ad
    have sr : ∀ {q : PQ} {k : Nat} {x : Int32}, (tkR K k x q).1 = true → PSX s q.2 → PSX s (tkR K k x q).2 := fun z g => by rw [(tkR_t z).2.2]; exact g.ro
    have so : ∀ {q : PQ} {k : Nat} {x : Int32}, PSX s q.2 → PSX s (opR K k x q).2 := fun {q k x} g => by
      unfold opR; split
      · exact g.ro
      · exact g
    have y8 : ((opR K 8 12 ((tkR K 44 11 ((tkQ K 7 ((tkR K 44 10 ((tkQ K 6 ((tkR K 44 9 ((tkQ K 5 ((tkR K 43 2 ((true, adv s 1)))))))))))))))))).1 = true := z
    have y7 : ((tkR K 44 11 ((tkQ K 7 ((tkR K 44 10 ((tkQ K 6 ((tkR K 44 9 ((tkQ K 5 ((tkR K 43 2 ((true, adv s 1)))))))))))))))).1 = true := opR_1 y8
    have y6 : ((tkQ K 7 ((tkR K 44 10 ((tkQ K 6 ((tkR K 44 9 ((tkQ K 5 ((tkR K 43 2 ((true, adv s 1)))))))))))))).1 = true := (tkR_t y7).1
    have y5 : ((tkR K 44 10 ((tkQ K 6 ((tkR K 44 9 ((tkQ K 5 ((tkR K 43 2 ((true, adv s 1)))))))))))).1 = true := (tkQ_t y6).1
    have y4 : ((tkQ K 6 ((tkR K 44 9 ((tkQ K 5 ((tkR K 43 2 ((true, adv s 1)))))))))).1 = true := (tkR_t y5).1
    have y3 : ((tkR K 44 9 ((tkQ K 5 ((tkR K 43 2 ((true, adv s 1)))))))).1 = true := (tkQ_t y4).1
    have y2 : ((tkQ K 5 ((tkR K 43 2 ((true, adv s 1)))))).1 = true := (tkR_t y3).1
    have y1 : ((tkR K 43 2 ((true, adv s 1)))).1 = true := (tkQ_t y2).1
    have x0 : PSX s (adv s 1) := (PSX.rf s).ad
    have x1 : PSX s ((tkR K 43 2 ((true, adv s 1)))).2 := sr y1 x0
    have x2 : PSX s ((tkQ K 5 ((tkR K 43 2 ((true, adv s 1)))))).2 := st y2 x1
    have x3 : PSX s ((tkR K 44 9 ((tkQ K 5 ((tkR K 43 2 ((true, adv s 1)))))))).2 := sr y3 x2
    have x4 : PSX s ((tkQ K 6 ((tkR K 44 9 ((tkQ K 5 ((tkR K 43 2 ((true, adv s 1)))))))))).2 := st y4 x3
    have x5 : PSX s ((tkR K 44 10 ((tkQ K 6 ((tkR K 44 9 ((tkQ K 5 ((tkR K 43 2 ((true, adv s 1)))))))))))).2 := sr y5 x4
    have x6 : PSX s ((tkQ K 7 ((tkR K 44 10 ((tkQ K 6 ((tkR K 44 9 ((tkQ K 5 ((tkR K 43 2 ((true, adv s 1)))))))))))))).2 := st y6 x5
    have x7 : PSX s ((tkR K 44 11 ((tkQ K 7 ((tkR K 44 10 ((tkQ K 6 ((tkR K 44 9 ((tkQ K 5 ((tkR K 43 2 ((true, adv s 1)))))))))))))))).2 := sr y7 x6
    have x8 : PSX s ((opR K 8 12 ((tkR K 44 11 ((tkQ K 7 ((tkR K 44 10 ((tkQ K 6 ((tkR K 44 9 ((tkQ K 5 ((tkR K 43 2 ((true, adv s 1)))))))))))))))))).2 := so x7
    exact x8
theorem lnlo_x {K : Nat → Nat} {s : PS} (z : (lnlo K s).1 = true) : PSX s (lnlo K s).2 := by
    have st : ∀ {q : PQ} {k : Nat}, (tkQ K k q).1 = true → PSX s q.2 → PSX s (tkQ K k q).2 := fun z g => by rw [(tkQ_t z).2.2]; exact g.ad
    have sr : ∀ {q : PQ} {k : Nat} {x : Int32}, (tkR K k x q).1 = true → PSX s q.2 → PSX s (tkR K k x q).2 := fun z g => by rw [(tkR_t z).2.2]; exact g.ro
    have so : ∀ {q : PQ} {k : Nat} {x : Int32}, PSX s q.2 → PSX s (opR K k x q).2 := fun {q k x} g => by
      unfold opR; split
      · exact g.ro
      · exact g
    have y3 : ((tkR K 44 13 ((tkQ K 10 ((tkR K 43 3 ((true, adv s 1)))))))).1 = true := z
    have y2 : ((tkQ K 10 ((tkR K 43 3 ((true, adv s 1)))))).1 = true := (tkR_t y3).1
    have y1 : ((tkR K 43 3 ((true, adv s 1)))).1 = true := (tkQ_t y2).1
    have x0 : PSX s (adv s 1) := (PSX.rf s).ad
    have x1 : PSX s ((tkR K 43 3 ((true, adv s 1)))).2 := sr y1 x0
    have x2 : PSX s ((tkQ K 10 ((tkR K 43 3 ((true, adv s 1)))))).2 := st y2 x1
    have x3 : PSX s ((tkR K 44 13 ((tkQ K 10 ((tkR K 43 3 ((true, adv s 1)))))))).2 := sr y3 x2
    exact x3
