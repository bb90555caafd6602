/-! the grammar's rules have one outcome: what they make of a place, by fuel -/
def pf (K : Nat → Nat) (vv : Nat → Int32) : Nat → Nat → Nat → PQ → PQ
  | 0, _, _, q => q
  | n + 1, m, d, q => if q.1 = false then q else
    if m = 0 then
      (if K q.2.1 = 44 then (true, adv (stp q.2 44 (vv q.2.1)) 1)
      else if 16 ≤ K q.2.1 ∧ K q.2.1 ≤ 19 then (true, adv (stp q.2 (K q.2.1) 0) 1)
      else if K q.2.1 = 20 ∨ K q.2.1 = 21 ∨ K q.2.1 = 6 then (if K (q.2.1 + 1) = 43 then (true, adv (rol (stp q.2 (K q.2.1) (nI (q.2.1 + 1))) (q.2.1 + 1) 17) 2) else (false, adv q.2 1))
      else if K q.2.1 = 3 ∨ K q.2.1 = 22 then (if K (q.2.1 + 1) = 43 then (true, adv (rol (stp q.2 (K q.2.1) (nI (q.2.1 + 1))) (q.2.1 + 1) 18) 2) else (false, adv q.2 1))
      else if K q.2.1 = 35 then (if d < 8 then adQ (pf K vv n 0 (d + 1) (true, adv q.2 1)) 47 else (false, q.2))
      else if K q.2.1 = 28 then (if d < 8 then tkQ K 29 (pf K vv n 3 (d + 1) (true, adv q.2 1)) else (false, q.2))
      else if K q.2.1 = 26 ∨ K q.2.1 = 27 then (if K (q.2.1 + 1) = 28 then (if d < 8 then adQ (tkQ K 29 (pf K vv n 3 (d + 1) (tkQ K 33 (pf K vv n 3 (d + 1) (true, adv q.2 2))))) (K q.2.1) else (false, adv q.2 1)) else (false, adv q.2 1))
      else (false, q.2))
    else if m = 1 then pf K vv n 2 d (pf K vv n 0 d q)
    else if m = 2 then (if K q.2.1 = 36 ∨ K q.2.1 = 37 then pf K vv n 2 d (adQ (pf K vv n 0 d (true, adv q.2 1)) (K q.2.1)) else q)
    else if m = 3 then pf K vv n 4 d (pf K vv n 1 d q)
    else if m = 4 then (if K q.2.1 = 34 ∨ K q.2.1 = 35 then pf K vv n 4 d (adQ (pf K vv n 1 d (true, adv q.2 1)) (K q.2.1)) else q)
    else if m = 5 then
      (if K q.2.1 = 23 then (if d < 8 then adQ (pf K vv n 5 (d + 1) (true, adv q.2 1)) 23 else (false, q.2))
      else if K q.2.1 = 30 then (if d < 8 then tkQ K 31 (pf K vv n 8 (d + 1) (true, adv q.2 1)) else (false, q.2))
      else adQ (pf K vv n 3 d (tcQ K (pf K vv n 3 d q))) (K (pf K vv n 3 d q).2.1))
    else if m = 6 then pf K vv n 7 d (pf K vv n 5 d q)
    else if m = 7 then (if K q.2.1 = 24 then pf K vv n 7 d (adQ (pf K vv n 5 d (true, adv q.2 1)) 24) else q)
    else if m = 8 then pf K vv n 9 d (pf K vv n 6 d q)
    else (if K q.2.1 = 25 then pf K vv n 9 d (adQ (pf K vv n 6 d (true, adv q.2 1)) 25) else q)
section DET
variable {K : Nat → Nat} {vv : Nat → Int32} {n m d : Nat} {s : PS} {q : PQ}
theorem pf_b : pf K vv n m d (false, s) = (false, s) := by
  cases n with
  | zero => rfl
  | succ n => rw [pf, if_pos rfl]
theorem pf_0 : pf K vv (n + 1) 0 d (true, s) = 
      (if K s.1 = 44 then (true, adv (stp s 44 (vv s.1)) 1)
      else if 16 ≤ K s.1 ∧ K s.1 ≤ 19 then (true, adv (stp s (K s.1) 0) 1)
      else if K s.1 = 20 ∨ K s.1 = 21 ∨ K s.1 = 6 then (if K (s.1 + 1) = 43 then (true, adv (rol (stp s (K s.1) (nI (s.1 + 1))) (s.1 + 1) 17) 2) else (false, adv s 1))
      else if K s.1 = 3 ∨ K s.1 = 22 then (if K (s.1 + 1) = 43 then (true, adv (rol (stp s (K s.1) (nI (s.1 + 1))) (s.1 + 1) 18) 2) else (false, adv s 1))
      else if K s.1 = 35 then (if d < 8 then adQ (pf K vv n 0 (d + 1) (true, adv s 1)) 47 else (false, s))
      else if K s.1 = 28 then (if d < 8 then tkQ K 29 (pf K vv n 3 (d + 1) (true, adv s 1)) else (false, s))
      else if K s.1 = 26 ∨ K s.1 = 27 then (if K (s.1 + 1) = 28 then (if d < 8 then adQ (tkQ K 29 (pf K vv n 3 (d + 1) (tkQ K 33 (pf K vv n 3 (d + 1) (true, adv s 2))))) (K s.1) else (false, adv s 1)) else (false, adv s 1))
      else (false, s)) := by rw [pf, if_neg (by simp), if_pos rfl]
theorem pf_1 : pf K vv (n + 1) 1 d q = pf K vv n 2 d (pf K vv n 0 d q) := by
  obtain ⟨g, s⟩ := q
  cases g with
  | false => rw [pf_b, pf_b, pf_b]
  | true => rw [pf, if_neg (by simp), if_neg (by decide), if_pos rfl]
theorem pf_2 : pf K vv (n + 1) 2 d (true, s) = (if K s.1 = 36 ∨ K s.1 = 37 then pf K vv n 2 d (adQ (pf K vv n 0 d (true, adv s 1)) (K s.1)) else (true, s)) := by
  rw [pf, if_neg (by simp), if_neg (by decide), if_neg (by decide), if_pos rfl]
theorem pf_3 : pf K vv (n + 1) 3 d q = pf K vv n 4 d (pf K vv n 1 d q) := by
  obtain ⟨g, s⟩ := q
  cases g with
  | false => rw [pf_b, pf_b, pf_b]
  | true => rw [pf, if_neg (by simp), if_neg (by decide), if_neg (by decide), if_neg (by decide), if_pos rfl]
theorem pf_4 : pf K vv (n + 1) 4 d (true, s) = (if K s.1 = 34 ∨ K s.1 = 35 then pf K vv n 4 d (adQ (pf K vv n 1 d (true, adv s 1)) (K s.1)) else (true, s)) := by
  rw [pf, if_neg (by simp), if_neg (by decide), if_neg (by decide), if_neg (by decide), if_neg (by decide), if_pos rfl]
theorem pf_5 : pf K vv (n + 1) 5 d (true, s) = (if K s.1 = 23 then (if d < 8 then adQ (pf K vv n 5 (d + 1) (true, adv s 1)) 23 else (false, s))
      else if K s.1 = 30 then (if d < 8 then tkQ K 31 (pf K vv n 8 (d + 1) (true, adv s 1)) else (false, s))
      else adQ (pf K vv n 3 d (tcQ K (pf K vv n 3 d (true, s)))) (K (pf K vv n 3 d (true, s)).2.1)) := by
  rw [pf, if_neg (by simp), if_neg (by decide), if_neg (by decide), if_neg (by decide), if_neg (by decide), if_neg (by decide), if_pos rfl]
theorem pf_6 : pf K vv (n + 1) 6 d q = pf K vv n 7 d (pf K vv n 5 d q) := by
  obtain ⟨g, s⟩ := q
  cases g with
  | false => rw [pf_b, pf_b, pf_b]
  | true => rw [pf, if_neg (by simp), if_neg (by decide), if_neg (by decide), if_neg (by decide), if_neg (by decide), if_neg (by decide), if_neg (by decide), if_pos rfl]
theorem pf_7 : pf K vv (n + 1) 7 d (true, s) = (if K s.1 = 24 then pf K vv n 7 d (adQ (pf K vv n 5 d (true, adv s 1)) 24) else (true, s)) := by
  rw [pf, if_neg (by simp), if_neg (by decide), if_neg (by decide), if_neg (by decide), if_neg (by decide), if_neg (by decide), if_neg (by decide), if_neg (by decide), if_pos rfl]
theorem pf_8 : pf K vv (n + 1) 8 d q = pf K vv n 9 d (pf K vv n 6 d q) := by
  obtain ⟨g, s⟩ := q
  cases g with
  | false => rw [pf_b, pf_b, pf_b]
  | true => rw [pf, if_neg (by simp), if_neg (by decide), if_neg (by decide), if_neg (by decide), if_neg (by decide), if_neg (by decide), if_neg (by decide), if_neg (by decide), if_neg (by decide), if_pos rfl]
theorem pf_9 : pf K vv (n + 1) 9 d (true, s) = (if K s.1 = 25 then pf K vv n 9 d (adQ (pf K vv n 6 d (true, adv s 1)) 25) else (true, s)) := by
  rw [pf, if_neg (by simp), if_neg (by decide), if_neg (by decide), if_neg (by decide), if_neg (by decide), if_neg (by decide), if_neg (by decide), if_neg (by decide), if_neg (by decide), if_neg (by decide)]
/-- from some fuel on -/
def PFx (K : Nat → Nat) (vv : Nat → Int32) (m d : Nat) (q q' : PQ) : Prop := ∃ N, ∀ n, N ≤ n → pf K vv n m d q = q'
theorem PFx.mk {q q' : PQ} {N : Nat} (h : ∀ n, N ≤ n → pf K vv (n + 1) m d q = q') : PFx K vv m d q q' := ⟨N + 1, fun n hn => by
  obtain ⟨k, rfl⟩ : ∃ k, n = k + 1 := ⟨n - 1, by omega⟩
  exact h k (by omega)⟩
theorem PFx.gr : GR K vv (PFx K vv) := by
  refine ⟨fun m d s => ⟨0, fun n _ => pf_b⟩, fun d s h => .mk (N := 0) fun n _ => ?_, fun d s h => .mk (N := 0) fun n _ => ?_, fun d s h g => .mk (N := 0) fun n _ => ?_, fun d s h g => .mk (N := 0) fun n _ => ?_, fun d s h g => .mk (N := 0) fun n _ => ?_, fun d s h g => .mk (N := 0) fun n _ => ?_, fun d s q h g a => ?_, fun d s h g => .mk (N := 0) fun n _ => ?_, fun d s q h g a => ?_, fun d s h g => .mk (N := 0) fun n _ => ?_, fun d s q q2 h g e a b => ?_, fun d s h g => .mk (N := 0) fun n _ => ?_, fun d s h g e => .mk (N := 0) fun n _ => ?_, fun d s h => .mk (N := 0) fun n _ => ?_, fun d s q q2 a b => ?_, fun d s q q2 h a b => ?_, fun d s h => .mk (N := 0) fun n _ => ?_, fun d s q q2 a b => ?_, fun d s q q2 h a b => ?_, fun d s h => .mk (N := 0) fun n _ => ?_, fun d s q h g a => ?_, fun d s h g => .mk (N := 0) fun n _ => ?_, fun d s q h g a => ?_, fun d s h g => .mk (N := 0) fun n _ => ?_, fun d s q q2 h g a b => ?_, fun d s q q2 a b => ?_, fun d s q q2 h a b => ?_, fun d s h => .mk (N := 0) fun n _ => ?_, fun d s q q2 a b => ?_, fun d s q q2 h a b => ?_, fun d s h => .mk (N := 0) fun n _ => ?_⟩
  · rw [pf_0, if_pos h]
  · rw [pf_0, if_neg (by omega), if_pos h]
  · rw [pf_0, if_neg (by omega), if_neg (by omega), if_pos h, if_pos g]
  · rw [pf_0, if_neg (by omega), if_neg (by omega), if_pos h, if_neg g]
  · rw [pf_0, if_neg (by omega), if_neg (by omega), if_neg (by omega), if_pos h, if_pos g]
  · rw [pf_0, if_neg (by omega), if_neg (by omega), if_neg (by omega), if_pos h, if_neg g]
  · obtain ⟨N, a⟩ := a
    exact .mk (N := N) fun n hn => by rw [pf_0, if_neg (by omega), if_neg (by omega), if_neg (by omega), if_neg (by omega), if_pos h, if_pos g, a n hn]
  · rw [pf_0, if_neg (by omega), if_neg (by omega), if_neg (by omega), if_neg (by omega), if_pos h, if_neg g]
  · obtain ⟨N, a⟩ := a
    exact .mk (N := N) fun n hn => by rw [pf_0, if_neg (by omega), if_neg (by omega), if_neg (by omega), if_neg (by omega), if_neg (by omega), if_pos h, if_pos g, a n hn]
  · rw [pf_0, if_neg (by omega), if_neg (by omega), if_neg (by omega), if_neg (by omega), if_neg (by omega), if_pos h, if_neg g]
  · obtain ⟨N, a⟩ := a
    obtain ⟨N2, b⟩ := b
    exact .mk (N := N + N2) fun n hn => by rw [pf_0, if_neg (by omega), if_neg (by omega), if_neg (by omega), if_neg (by omega), if_neg (by omega), if_neg (by omega), if_pos h, if_pos g, if_pos e, a n (by omega), b n (by omega)]
  · rw [pf_0, if_neg (by omega), if_neg (by omega), if_neg (by omega), if_neg (by omega), if_neg (by omega), if_neg (by omega), if_pos h, if_neg g]
  · rw [pf_0, if_neg (by omega), if_neg (by omega), if_neg (by omega), if_neg (by omega), if_neg (by omega), if_neg (by omega), if_pos h, if_pos g, if_neg e]
  · unfold vlK at h
    rw [pf_0, if_neg (by omega), if_neg (by omega), if_neg (by omega), if_neg (by omega), if_neg (by omega), if_neg (by omega), if_neg (by omega)]
  · obtain ⟨N, a⟩ := a
    obtain ⟨N2, b⟩ := b
    exact .mk (N := N + N2) fun n hn => by rw [pf_1, a n (by omega), b n (by omega)]
  · obtain ⟨N, a⟩ := a
    obtain ⟨N2, b⟩ := b
    exact .mk (N := N + N2) fun n hn => by rw [pf_2, if_pos h, a n (by omega), b n (by omega)]
  · rw [pf_2, if_neg h]
  · obtain ⟨N, a⟩ := a
    obtain ⟨N2, b⟩ := b
    exact .mk (N := N + N2) fun n hn => by rw [pf_3, a n (by omega), b n (by omega)]
  · obtain ⟨N, a⟩ := a
    obtain ⟨N2, b⟩ := b
    exact .mk (N := N + N2) fun n hn => by rw [pf_4, if_pos h, a n (by omega), b n (by omega)]
  · rw [pf_4, if_neg h]
  · obtain ⟨N, a⟩ := a
    exact .mk (N := N) fun n hn => by rw [pf_5, if_pos h, if_pos g, a n hn]
  · rw [pf_5, if_pos h, if_neg g]
  · obtain ⟨N, a⟩ := a
    exact .mk (N := N) fun n hn => by rw [pf_5, if_neg (by omega), if_pos h, if_pos g, a n hn]
  · rw [pf_5, if_neg (by omega), if_pos h, if_neg g]
  · obtain ⟨N, a⟩ := a
    obtain ⟨N2, b⟩ := b
    exact .mk (N := N + N2) fun n hn => by rw [pf_5, if_neg h, if_neg g, a n (by omega), b n (by omega)]
  · obtain ⟨N, a⟩ := a
    obtain ⟨N2, b⟩ := b
    exact .mk (N := N + N2) fun n hn => by rw [pf_6, a n (by omega), b n (by omega)]
  · obtain ⟨N, a⟩ := a
    obtain ⟨N2, b⟩ := b
    exact .mk (N := N + N2) fun n hn => by rw [pf_7, if_pos h, a n (by omega), b n (by omega)]
  · rw [pf_7, if_neg h]
  · obtain ⟨N, a⟩ := a
    obtain ⟨N2, b⟩ := b
    exact .mk (N := N + N2) fun n hn => by rw [pf_8, a n (by omega), b n (by omega)]
  · obtain ⟨N, a⟩ := a
    obtain ⟨N2, b⟩ := b
    exact .mk (N := N + N2) fun n hn => by rw [pf_9, if_pos h, a n (by omega), b n (by omega)]
  · rw [pf_9, if_neg h]
/-- one outcome -/
theorem PR.det {q q1 q2 : PQ} (h : PR K vv m d q q1) (g : PR K vv m d q q2) : q1 = q2 := by
  obtain ⟨N, a⟩ := h _ PFx.gr
  obtain ⟨N2, b⟩ := g _ PFx.gr
  rw [← a (N + N2) (by omega), ← b (N + N2) (by omega)]
end DET
section LSI
variable {K : Nat → Nat} {vv : Nat → Int32} {s : PS} {β β' : RH} {q q' : PQ}
theorem LSr.clo : LSc K vv (fun q β q' β' => LSr K vv q β q' β' ∧ ((q.1 = false → q' = q ∧ β' = β) ∧ (q.1 = true → (K q.2.1 = 45 → q' = q ∧ β' = β) ∧ (¬ K q.2.1 = 45 → ∃ q1 β1, LNr K vv q.2 β q1 β1 ∧ LSr K vv q1 β1 q' β')))) := by
  refine ⟨fun s β => ⟨LSr.br, fun _ => ⟨rfl, rfl⟩, fun h => absurd h (by simp)⟩, fun s β e => ⟨LSr.en e, fun h => absurd h (by simp), fun _ => ⟨fun _ => ⟨rfl, rfl⟩, fun z => absurd e z⟩⟩, fun s β q1 β1 q2 β2 e g r => ⟨LSr.ln e g r.1, fun h => absurd h (by simp), fun _ => ⟨fun z => absurd z e, fun _ => ⟨q1, β1, g, r.1⟩⟩⟩⟩
/-- the list's end, or its next line -/
theorem LSr.inv (h : LSr K vv (true, s) β q' β') : (K s.1 = 45 → q' = (true, s) ∧ β' = β) ∧ (¬ K s.1 = 45 → ∃ q1 β1, LNr K vv s β q1 β1 ∧ LSr K vv q1 β1 q' β') := ((h _ LSr.clo).2.2 rfl)
end LSI
