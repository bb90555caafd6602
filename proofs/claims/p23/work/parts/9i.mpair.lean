theorem tkQ_y {K : Nat → Nat} {k : Nat} {q : PQ} (h : q.1 = true) (e : K q.2.1 = k) : tkQ K k q = (true, adv q.2 1) := by unfold tkQ; rw [if_pos h, if_pos e]
theorem tcQ_y {K : Nat → Nat} {q : PQ} (h : q.1 = true) (e : 38 ≤ K q.2.1 ∧ K q.2.1 ≤ 42) : tcQ K q = (true, adv q.2 1) := by unfold tcQ; rw [if_pos h, if_pos e]
