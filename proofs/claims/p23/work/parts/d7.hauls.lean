/-! lines read: hauls and waits -/
section HLX
variable {K : Nat → Nat} {V : Nat → Int64} {S : Nat → Int32} {vv : Nat → Int32}
theorem sm_all (hvv : ∀ t, vv t = (V t).toInt32) {t n : Nat} (htn : t < 1000 ∧ n < 1000) {o : Nat → Nat} {x r : Nat → Int32} {nh nt c h w : Nat} {D : RH} (hz : ∀ i, t ≤ i → r i = 0) (hT : TI V S r t nt nh c h w D) {kd nn v : Nat} (hkd : kd < 6) (hn : nn < 99) (hv : v < 10) (hh0 : 1 ≤ nh ∧ nh ≤ 5) (ht0 : 1 ≤ nt ∧ nt ≤ 6) {w9 : List Nat} (hA : AtL K V t (smP kd nn v nt nh w9)) (hnx : K (t + (smP kd nn v nt nh w9).length) = 32 ∨ K (t + (smP kd nn v nt nh w9).length) = 13) {cn : Nat → Nat} (hc3 : cn 3 = nt) (hc4 : cn 4 = nh) : ∃ m o' x' r', PR K vv 3 0 (true, (t, n, o, x, r)) (true, (t + (smP kd nn v nt nh w9).length, n + m, o', x', r')) ∧ XR V S t (smP kd nn v nt nh w9).length n m o o' x x' r r' nt nh c h w D (fun σ g => ∀ ρ, vlF (cn 5) ρ σ g n (n + m) = smF cn ρ kd nn v) := by
  rcases (by omega : kd = 0 ∨ kd = 1 ∨ kd = 2 ∨ kd = 3 ∨ kd = 4 ∨ kd = 5) with rfl | rfl | rfl | rfl | rfl | rfl
  · exact sm_0 hvv htn hz hT hn hv hh0 ht0 hA hnx hc3 hc4
  · exact sm_1 hvv htn hz hT hn hv hh0 ht0 hA hnx hc3 hc4
  · exact sm_2 hvv htn hz hT hn hv hh0 ht0 hA hnx hc3 hc4
  · exact sm_3 hvv htn hz hT hn hv hh0 ht0 hA hnx hc3 hc4
  · exact sm_4 hvv htn hz hT hn hv hh0 ht0 hA hnx hc3 hc4
  · exact sm_5 hvv htn hz hT hn hv hh0 ht0 hA hnx hc3 hc4
theorem ts_all (hvv : ∀ t, vv t = (V t).toInt32) {t n : Nat} (htn : t < 1000 ∧ n < 1000) {o : Nat → Nat} {x r : Nat → Int32} {nh nt c h w : Nat} {D : RH} (hz : ∀ i, t ≤ i → r i = 0) (hT : TI V S r t nt nh c h w D) {kd nn v : Nat} (hkd : kd < 7) (hn : nn < 99) (hv : v < 10) (hh0 : 1 ≤ nh ∧ nh ≤ 5) (ht0 : 1 ≤ nt ∧ nt ≤ 6) {w9 : List Nat} (hA : AtL K V t (tsP kd nn v nt nh w9)) (hnx : K (t + (tsP kd nn v nt nh w9).length) = 32 ∨ K (t + (tsP kd nn v nt nh w9).length) = 13) {cn : Nat → Nat} (hc3 : cn 3 = nt) (hc4 : cn 4 = nh) : ∃ m o' x' r', PR K vv 8 0 (true, (t, n, o, x, r)) (true, (t + (tsP kd nn v nt nh w9).length, n + m, o', x', r')) ∧ XR V S t (tsP kd nn v nt nh w9).length n m o o' x x' r r' nt nh c h w D (fun σ g => ∀ ρ, (vlF (cn 5) ρ σ g n (n + m) = 0 ↔ hlF cn ρ kd nn v = 0)) := by
  rcases (by omega : kd = 0 ∨ kd = 1 ∨ kd = 2 ∨ kd = 3 ∨ kd = 4 ∨ kd = 5 ∨ kd = 6) with rfl | rfl | rfl | rfl | rfl | rfl | rfl
  · exact ts_0 hvv htn hz hT hn hv hh0 ht0 hA hnx hc3 hc4
  · exact ts_1 hvv htn hz hT hn hv hh0 ht0 hA hnx hc3 hc4
  · exact ts_2 hvv htn hz hT hn hv hh0 ht0 hA hnx hc3 hc4
  · exact ts_3 hvv htn hz hT hn hv hh0 ht0 hA hnx hc3 hc4
  · exact ts_4 hvv htn hz hT hn hv hh0 ht0 hA hnx hc3 hc4
  · exact ts_5 hvv htn hz hT hn hv hh0 ht0 hA hnx hc3 hc4
  · exact ts_6 hvv htn hz hT hn hv hh0 ht0 hA hnx hc3 hc4
end HLX
/-- later places keep what was read -/
def AGR (q q' : PQ) : Prop := (q.2.1 ≤ q'.2.1 ∧ q.2.2.1 ≤ q'.2.2.1) ∧ (∀ j, j < q.2.1 → q'.2.2.2.2.2 j = q.2.2.2.2.2 j) ∧ ∀ j, j < q.2.2.1 → q'.2.2.2.1 j = q.2.2.2.1 j ∧ q'.2.2.2.2.1 j = q.2.2.2.2.1 j
theorem AGR.rf (q : PQ) : AGR q q := ⟨⟨Nat.le_refl _, Nat.le_refl _⟩, fun _ _ => rfl, fun _ _ => ⟨rfl, rfl⟩⟩
theorem AGR.tr {q q' q2 : PQ} (h : AGR q q') (g : AGR q' q2) : AGR q q2 := by
  obtain ⟨⟨a1, a2⟩, a3, a4⟩ := h
  obtain ⟨⟨b1, b2⟩, b3, b4⟩ := g
  exact ⟨⟨by omega, by omega⟩, fun j hj => (b3 j (by omega)).trans (a3 j hj), fun j hj => ⟨(b4 j (by omega)).1.trans (a4 j hj).1, (b4 j (by omega)).2.trans (a4 j hj).2⟩⟩
/-- the class's steps are those that were read up to q -/
def STq (V : Nat → Int64) (q : PQ) (rF : Nat → Int32) (σ : Nat → Nat) (g : Nat → Int32) : Prop := (∀ j, j < q.2.1 → rF j = q.2.2.2.2.2 j) ∧ ∀ j, j < q.2.2.1 → σ j = q.2.2.2.1 j ∧ g j = rsF V rF (q.2.2.2.1 j) (q.2.2.2.2.1 j)
theorem STq.ag {V : Nat → Int64} {q q' : PQ} {rF : Nat → Int32} {σ : Nat → Nat} {g : Nat → Int32} (h : STq V q' rF σ g) (a : AGR q q') : STq V q rF σ g := by
  obtain ⟨⟨a1, a2⟩, a3, a4⟩ := a
  refine ⟨fun j hj => (h.1 j (by omega)).trans (a3 j hj), fun j hj => ?_⟩
  have := h.2 j (by omega)
  rw [(a4 j hj).1, (a4 j hj).2] at this
  exact this
/-- what haul i, what wait i came to -/
def HSi (cn : Nat → Nat) (Δ : Nat → Nat → Nat) (V : Nat → Int64) (q : PQ) (β : RH) (i : Nat) : Prop := ∃ f m t, (β 52 i = nI f ∧ β 53 i = nI m ∧ β 54 i = nI t) ∧ (f ≤ m ∧ m ≤ t ∧ t ≤ q.2.2.1) ∧ ∀ rF σ g, STq V q rF σ g → (∀ ρ, vlF (cn 5) ρ σ g f m = smF cn ρ (Δ 9 i) (Δ 10 i) (Δ 11 i)) ∧
  ((Δ 12 i < 3 ∧ m = t) ∨ (¬ Δ 12 i < 3 ∧ m < t ∧ ∀ ρ, (vlF (cn 5) ρ σ g m t = 0 ↔ hlF cn ρ (Δ 12 i - 3) (Δ 13 i) (Δ 14 i) = 0)))
def WSi (cn : Nat → Nat) (Δ : Nat → Nat → Nat) (V : Nat → Int64) (q : PQ) (β : RH) (i : Nat) : Prop := ∃ f t, (β 57 i = nI f ∧ β 59 i = nI t) ∧ (f ≤ t ∧ t ≤ q.2.2.1) ∧ ∀ rF σ g, STq V q rF σ g → ∀ ρ, (vlF (cn 5) ρ σ g f t = 0 ↔ hlF cn ρ (Δ 17 i) (Δ 18 i) (Δ 19 i) = 0)
theorem HSi.mv {cn : Nat → Nat} {Δ : Nat → Nat → Nat} {V : Nat → Int64} {q q' : PQ} {β β' : RH} {i : Nat} (h : HSi cn Δ V q β i) (a : AGR q q') (e : ∀ f, 52 ≤ f → f < 55 → β' f i = β f i) : HSi cn Δ V q' β' i := by
  obtain ⟨f, m, t, ⟨h1, h2, h3⟩, h4, h5⟩ := h
  exact ⟨f, m, t, ⟨(e 52 (by decide) (by decide)).trans h1, (e 53 (by decide) (by decide)).trans h2, (e 54 (by decide) (by decide)).trans h3⟩, by have := a.1; omega, fun rF σ g hs => h5 rF σ g (hs.ag a)⟩
theorem WSi.mv {cn : Nat → Nat} {Δ : Nat → Nat → Nat} {V : Nat → Int64} {q q' : PQ} {β β' : RH} {i : Nat} (h : WSi cn Δ V q β i) (a : AGR q q') (e : ∀ f, 57 ≤ f → f < 60 → β' f i = β f i) : WSi cn Δ V q' β' i := by
  obtain ⟨f, t, ⟨h1, h2⟩, h4, h5⟩ := h
  exact ⟨f, t, ⟨(e 57 (by decide) (by decide)).trans h1, (e 59 (by decide) (by decide)).trans h2⟩, by have := a.1; omega, fun rF σ g hs => h5 rF σ g (hs.ag a)⟩
section HLY
variable {K : Nat → Nat} {V : Nat → Int64} {S : Nat → Int32} {vv : Nat → Int32} {Δ : Nat → Nat → Nat} {cn : Nat → Nat}
theorem ln_K (ok : LDok Δ) (hvv : ∀ t, vv t = (V t).toInt32) (hc3 : cn 3 = Δ 0 3) (hc4 : cn 4 = Δ 0 4) {q q1 : PQ} {β β1 : RH} {i c w : Nat} {D : RH} (hi : i < Δ 0 6) (hP : PI V S q (Δ 0 3) (Δ 0 4) c i w D) (hb : q.2.1 < 600 ∧ q.2.2.1 < 600) (hA : AtL K V q.2.1 (plK Δ i)) (hL : LNr K vv q.2 β q1 β1) :
    PI V S q1 (Δ 0 3) (Δ 0 4) c (i + 1) w (u2 D 50 i (nI (i % Δ 0 4))) ∧ q1.2.1 = q.2.1 + (plK Δ i).length ∧ q1.2.2.1 ≤ q.2.2.1 + 24 ∧ AGR q q1 ∧ (∀ f j, ¬ (j = i ∧ 52 ≤ f ∧ f < 55) → β1 f j = β f j) ∧ HSi cn Δ V q1 β1 i := by
  obtain ⟨⟨o3, o4, o5, o6, o7⟩, -, -, -, ⟨o16, o17, o18, o19, o20, o21⟩, -⟩ := ok
  have b0 := o16 i
  have b1 := o17 i
  have b2 := o18 i
  have b3 := o19 i
  have b4 := o20 i
  have b5 := o21 i
  have m4 : i % Δ 0 4 < Δ 0 4 := Nat.mod_lt _ (by omega)
  obtain ⟨g, t, n, o, x, r⟩ := q
  obtain ⟨g1, hz, hT⟩ := hP
  change g = true at g1
  subst g1
  change ∀ i, t ≤ i → r i = 0 at hz
  change TI V S r t (Δ 0 3) (Δ 0 4) c i w D at hT
  change AtL K V t (plK Δ i) at hA
  change LNr K vv (t, n, o, x, r) β q1 β1 at hL
  change t < 600 ∧ n < 600 at hb
  unfold plK at hA
  rw [AtL.app] at hA
  obtain ⟨⟨⟨k0, -⟩, ⟨k1, v1⟩, ⟨k2, -⟩, -⟩, hA2⟩ := hA
  replace k0 : K t = 11 := k0
  replace k1 : K (t + 1) = 43 := k1
  replace v1 : V (t + 1) = nmV 104 (i % Δ 0 4) := v1 (wn_a _ _ _ rfl)
  replace k2 : K (t + 1 + 1) = 12 := k2
  change AtL K V (t + 1 + 1 + 1) _ at hA2
  have e : lnhq K (t, n, o, x, r) = (true, (t + 1 + 1 + 1, n, o, x, uI (uI r t 4) (t + 1) 14)) := by
    simp only [lnhq, tkQ, tkR, adv, rol, k1, k2, reduceIte]
  have hcnt : cntR r 4 t = i := hT.2.2.2.2.2.1
  rcases hL with ⟨z, -⟩ | ⟨z, -⟩ | ⟨z, -⟩ | ⟨z, q2, ⟨q4, p1, p2, rfl⟩, rfl⟩ | ⟨z, -⟩ | ⟨z, -⟩
  · exact absurd (k0.symm.trans z) (by decide)
  · exact absurd (k0.symm.trans z) (by decide)
  · exact absurd (k0.symm.trans z) (by decide)
  · clear z
    rw [e] at p1
    generalize hR : uI (uI r t 4) (t + 1) 14 = R at p1 e
    have hlo : ∀ j, j < t → R j = r j := fun j hj => by rw [← hR]; unfold uI; rw [if_neg (by omega), if_neg (by omega)]
    have r0 : R t = 4 := by rw [← hR]; unfold uI; rw [if_neg (by omega), if_pos rfl]
    have r1 : R (t + 1) = 14 := by rw [← hR]; unfold uI; rw [if_pos rfl]
    have hz3 : ∀ j, t + 1 + 1 ≤ j → R j = 0 := fun j hj => by rw [← hR]; unfold uI; rw [if_neg (by omega), if_neg (by omega)]; exact hz j (by omega)
    have h3 : TI V S R (t + 1 + 1 + 1) (Δ 0 3) (Δ 0 4) c (i + 1) w (u2 D 50 i (nI (i % Δ 0 4))) := (((hT.cc hlo).t4 r0 (by omega)).t14 r1 v1 m4 (by omega)).t0 (hz3 _ (Nat.le_refl _))
    show _ ∧ _ ∧ _ ∧ _ ∧ (∀ f j, ¬ (j = i ∧ 52 ≤ f ∧ f < 55) → beH β (cntR r 4 t) n q4.2.2.1 q2.2.2.1 f j = β f j) ∧ HSi cn Δ V _ (beH β (cntR r 4 t) n q4.2.2.1 q2.2.2.1) i
    rw [hcnt]
    have hβ : ∀ f j, ¬ (j = i ∧ 52 ≤ f ∧ f < 55) → beH β i n q4.2.2.1 q2.2.2.1 f j = β f j := fun f j hj => by
      unfold beH u2
      rw [if_neg (by omega), if_neg (by omega), if_neg (by omega)]
    have hβ2 : ∀ a b d : Nat, beH β i a b d 52 i = nI a ∧ beH β i a b d 53 i = nI b ∧ beH β i a b d 54 i = nI d := fun a b d => by
      refine ⟨?_, ?_, ?_⟩ <;> simp [beH, u2]
    unfold plK
    by_cases cs : Δ 12 i < 3
    · rw [if_pos cs] at hA2 ⊢
      rw [AtL.app] at hA2
      obtain ⟨hA3, ⟨k3, -⟩, -⟩ := hA2
      replace k3 : K (t + 1 + 1 + 1 + (smP (Δ 9 i) (Δ 10 i) (Δ 11 i) (Δ 0 3) (Δ 0 4) []).length) = 32 := k3
      obtain ⟨m, o', x', r', pr, ⟨x1, x1'⟩, x2, x3, x4, x5, x6⟩ := sm_all (n := n) (o := o) (x := x) hvv ⟨by omega, by omega⟩ (fun j hj => hz3 j (by omega)) h3 b0 b1 b2 o4 o3 hA3 (Or.inl k3) hc3 hc4
      generalize (smP (Δ 9 i) (Δ 10 i) (Δ 11 i) (Δ 0 3) (Δ 0 4) []) = L at *
      have e4 := PR.det p1 pr
      subst e4
      have e2 : q2 = (true, (t + 1 + 1 + 1 + L.length, n + m, o', x', r')) := by
        rcases p2 with ⟨-, p3, -⟩ | ⟨-, p3⟩
        · exact absurd (k3.symm.trans p3) (by decide)
        · exact p3
      subst e2
      rw [tkQ_y (q := (true, (t + 1 + 1 + 1 + L.length, n + m, o', x', r'))) rfl k3]
      refine ⟨⟨rfl, fun j hj => x3 j (by have : t + 1 + 1 + 1 + L.length + 1 ≤ j := hj; omega), x5.t0 (x3 _ (Nat.le_refl _))⟩, ?_, ?_, ⟨⟨?_, ?_⟩, fun j hj => ?_, fun j hj => x2 j hj⟩, hβ, ?_⟩
      · simp only [List.length_append, List.length_cons, List.length_nil, adv]; omega
      · show n + m ≤ n + 24; omega
      · show t ≤ t + 1 + 1 + 1 + L.length + 1; omega
      · show n ≤ n + m; omega
      · exact (x4 j (Nat.lt_of_lt_of_le hj (by show t ≤ t + 1 + 1 + 1; omega))).trans (hlo j hj)
      · obtain ⟨y1, y2, y3⟩ := hβ2 n (n + m) (n + m)
        refine ⟨n, n + m, n + m, ⟨y1, y2, y3⟩, ⟨by omega, Nat.le_refl _, Nat.le_refl _⟩, fun rF σ g hs => ⟨x6 rF σ g (fun j hj => hs.1 j (by show j < t + 1 + 1 + 1 + L.length + 1; omega)) (fun j j1 j2 => hs.2 j j2), Or.inl ⟨cs, rfl⟩⟩⟩
    · rw [if_neg cs] at hA2 ⊢
      rw [AtL.app] at hA2
      obtain ⟨hA3, ⟨k3, -⟩, hA4⟩ := hA2
      replace k3 : K (t + 1 + 1 + 1 + (smP (Δ 9 i) (Δ 10 i) (Δ 11 i) (Δ 0 3) (Δ 0 4) [32]).length) = 13 := k3
      rw [AtL.app] at hA4
      obtain ⟨hA5, ⟨k4, -⟩, -⟩ := hA4
      replace k4 : K (t + 1 + 1 + 1 + (smP (Δ 9 i) (Δ 10 i) (Δ 11 i) (Δ 0 3) (Δ 0 4) [32]).length + 1 + (tsP (Δ 12 i - 3) (Δ 13 i) (Δ 14 i) (Δ 0 3) (Δ 0 4) []).length) = 32 := k4
      have sl := smP_le (Δ 9 i) (Δ 10 i) (Δ 11 i) (Δ 0 3) (Δ 0 4) [32]
      obtain ⟨m, o', x', r', pr, ⟨x1, x1'⟩, x2, x3, x4, x5, x6⟩ := sm_all (n := n) (o := o) (x := x) hvv ⟨by omega, by omega⟩ (fun j hj => hz3 j (by omega)) h3 b0 b1 b2 o4 o3 hA3 (Or.inr k3) hc3 hc4
      generalize (smP (Δ 9 i) (Δ 10 i) (Δ 11 i) (Δ 0 3) (Δ 0 4) [32]) = L at *
      have e4 := PR.det p1 pr
      subst e4
      obtain ⟨m2, o2, x2', r2, pr2, ⟨w1, w1'⟩, w2, w3, w4, w5, w6⟩ := ts_all (n := n + m) (o := o') (x := x') (t := t + 1 + 1 + 1 + L.length + 1) hvv ⟨by omega, by omega⟩ (fun j hj => x3 j (by omega)) (x5.t0 (x3 _ (Nat.le_refl _))) (by omega : Δ 12 i - 3 < 7) (by omega) b5 o4 o3 hA5 (Or.inl k4) hc3 hc4
      generalize (tsP (Δ 12 i - 3) (Δ 13 i) (Δ 14 i) (Δ 0 3) (Δ 0 4) []) = L2 at *
      have e2 : q2 = (true, (t + 1 + 1 + 1 + L.length + 1 + L2.length, n + m + m2, o2, x2', r2)) := by
        rcases p2 with ⟨-, -, p3⟩ | ⟨p3, -⟩
        · exact PR.det p3 pr2
        · exact absurd ⟨rfl, k3⟩ p3
      subst e2
      rw [tkQ_y (q := (true, (t + 1 + 1 + 1 + L.length + 1 + L2.length, n + m + m2, o2, x2', r2))) rfl k4]
      refine ⟨⟨rfl, fun j hj => w3 j (by have : t + 1 + 1 + 1 + L.length + 1 + L2.length + 1 ≤ j := hj; omega), w5.t0 (w3 _ (Nat.le_refl _))⟩, ?_, ?_, ⟨⟨?_, ?_⟩, fun j hj => ?_, fun j hj => ?_⟩, hβ, ?_⟩
      · simp only [List.length_append, List.length_cons, List.length_nil, adv]; omega
      · show n + m + m2 ≤ n + 24; omega
      · show t ≤ t + 1 + 1 + 1 + L.length + 1 + L2.length + 1; omega
      · show n ≤ n + m + m2; omega
      · have hj' : j < t := hj
        exact (w4 j (by omega)).trans ((x4 j (by omega)).trans (hlo j hj))
      · have hj' : j < n := hj
        exact ⟨(w2 j (by omega)).1.trans (x2 j hj').1, (w2 j (by omega)).2.trans (x2 j hj').2⟩
      · obtain ⟨y1, y2, y3⟩ := hβ2 n (n + m) (n + m + m2)
        refine ⟨n, n + m, n + m + m2, ⟨y1, y2, y3⟩, ⟨by omega, by omega, Nat.le_refl _⟩, fun rF σ g hs => ⟨x6 rF σ g (fun j hj => (hs.1 j (by show j < t + 1 + 1 + 1 + L.length + 1 + L2.length + 1; omega)).trans (w4 j (by omega))) (fun j j1 j2 => ?_), Or.inr ⟨cs, by omega, w6 rF σ g (fun j hj => hs.1 j (by show j < t + 1 + 1 + 1 + L.length + 1 + L2.length + 1; omega)) (fun j j1 j2 => hs.2 j j2)⟩⟩⟩
        obtain ⟨u1', u2'⟩ := hs.2 j (by show j < n + m + m2; omega)
        change σ j = o2 j at u1'
        change g j = rsF V rF (o2 j) (x2' j) at u2'
        rw [(w2 j (by omega)).1] at u1' u2'
        rw [(w2 j (by omega)).2] at u2'
        exact ⟨u1', u2'⟩
  · exact absurd (k0.symm.trans z) (by decide)
  · exact absurd (Or.inr (Or.inr (Or.inr (Or.inl k0)))) z
theorem ln_W (ok : LDok Δ) (hvv : ∀ t, vv t = (V t).toInt32) (hc3 : cn 3 = Δ 0 3) (hc4 : cn 4 = Δ 0 4) {q q1 : PQ} {β β1 : RH} {i c h : Nat} {D : RH} (hi : i < Δ 0 7) (hP : PI V S q (Δ 0 3) (Δ 0 4) c h i D) (hb : q.2.1 < 600 ∧ q.2.2.1 < 600) (hA : AtL K V q.2.1 (plW Δ i)) (hL : LNr K vv q.2 β q1 β1) :
    PI V S q1 (Δ 0 3) (Δ 0 4) c h (i + 1) (u2 (u2 D 55 i (nI (Δ 15 i))) 56 i (nI (Δ 16 i))) ∧ q1.2.1 = q.2.1 + (plW Δ i).length ∧ q1.2.2.1 ≤ q.2.2.1 + 12 ∧ AGR q q1 ∧ (∀ f j, ¬ (j = i ∧ 57 ≤ f ∧ f < 60) → β1 f j = β f j) ∧ WSi cn Δ V q1 β1 i := by
  obtain ⟨⟨o3, o4, o5, o6, o7⟩, -, -, -, -, ⟨o22, o23, o24, o25, o26⟩⟩ := ok
  have b0 := o22 i
  have b1 := o23 i
  have b2 := o24 i
  have b3 := o25 i
  have b4 := o26 i
  obtain ⟨g, t, n, o, x, r⟩ := q
  obtain ⟨g1, hz, hT⟩ := hP
  change g = true at g1
  subst g1
  change ∀ i, t ≤ i → r i = 0 at hz
  change TI V S r t (Δ 0 3) (Δ 0 4) c h i D at hT
  change AtL K V t (plW Δ i) at hA
  change LNr K vv (t, n, o, x, r) β q1 β1 at hL
  change t < 600 ∧ n < 600 at hb
  unfold plW at hA
  rw [AtL.app] at hA
  obtain ⟨⟨⟨k0, -⟩, ⟨k1, v1⟩, ⟨k2, -⟩, ⟨k3, v3⟩, ⟨k4, -⟩, -⟩, hA2⟩ := hA
  replace k0 : K t = 14 := k0
  replace k1 : K (t + 1) = 43 := k1
  replace v1 : V (t + 1) = nmV 104 (Δ 15 i) := v1 (wn_a _ _ _ rfl)
  replace k2 : K (t + 1 + 1) = 15 := k2
  replace k3 : K (t + 1 + 1 + 1) = 43 := k3
  replace v3 : V (t + 1 + 1 + 1) = nmV 115 (Δ 16 i) := v3 (wn_a _ _ _ rfl)
  replace k4 : K (t + 1 + 1 + 1 + 1) = 13 := k4
  change AtL K V (t + 1 + 1 + 1 + 1 + 1) _ at hA2
  have e : lnwq K (t, n, o, x, r) = (true, (t + 1 + 1 + 1 + 1 + 1, n, o, x, uI (uI (uI r t 5) (t + 1) 15) (t + 1 + 1 + 1) 16)) := by
    simp only [lnwq, tkQ, tkR, adv, rol, k1, k2, k3, k4, reduceIte]
  have hcnt : cntR r 5 t = i := hT.2.2.2.2.2.2.1
  rcases hL with ⟨z, -⟩ | ⟨z, -⟩ | ⟨z, -⟩ | ⟨z, -⟩ | ⟨z, q2, ⟨p1, rfl⟩, rfl⟩ | ⟨z, -⟩
  · exact absurd (k0.symm.trans z) (by decide)
  · exact absurd (k0.symm.trans z) (by decide)
  · exact absurd (k0.symm.trans z) (by decide)
  · exact absurd (k0.symm.trans z) (by decide)
  · clear z
    rw [e] at p1
    generalize hR : uI (uI (uI r t 5) (t + 1) 15) (t + 1 + 1 + 1) 16 = R at p1 e
    have hlo : ∀ j, j < t → R j = r j := fun j hj => by rw [← hR]; unfold uI; rw [if_neg (by omega), if_neg (by omega), if_neg (by omega)]
    have r0 : R t = 5 := by rw [← hR]; unfold uI; rw [if_neg (by omega), if_neg (by omega), if_pos rfl]
    have r1 : R (t + 1) = 15 := by rw [← hR]; unfold uI; rw [if_neg (by omega), if_pos rfl]
    have r2 : R (t + 1 + 1) = 0 := by rw [← hR]; unfold uI; rw [if_neg (by omega), if_neg (by omega), if_neg (by omega)]; exact hz _ (by omega)
    have r3 : R (t + 1 + 1 + 1) = 16 := by rw [← hR]; unfold uI; rw [if_pos rfl]
    have hz3 : ∀ j, t + 1 + 1 + 1 + 1 ≤ j → R j = 0 := fun j hj => by rw [← hR]; unfold uI; rw [if_neg (by omega), if_neg (by omega), if_neg (by omega)]; exact hz j (by omega)
    have h3 : TI V S R (t + 1 + 1 + 1 + 1 + 1) (Δ 0 3) (Δ 0 4) c h (i + 1) (u2 (u2 D 55 i (nI (Δ 15 i))) 56 i (nI (Δ 16 i))) := ((((hT.cc hlo).t5 r0 (by omega)).t15 r1 v1 b0 (by omega)).t0 r2).t16 r3 v3 b1 (by omega) |>.t0 (hz3 _ (Nat.le_refl _))
    show _ ∧ _ ∧ _ ∧ _ ∧ (∀ f j, ¬ (j = i ∧ 57 ≤ f ∧ f < 60) → beW β (cntR r 5 t) n q2.2.2.1 f j = β f j) ∧ WSi cn Δ V _ (beW β (cntR r 5 t) n q2.2.2.1) i
    rw [hcnt]
    have hβ : ∀ f j, ¬ (j = i ∧ 57 ≤ f ∧ f < 60) → beW β i n q2.2.2.1 f j = β f j := fun f j hj => by
      unfold beW u2
      rw [if_neg (by omega), if_neg (by omega)]
    have hβ2 : ∀ a b : Nat, beW β i a b 57 i = nI a ∧ beW β i a b 59 i = nI b := fun a b => by
      refine ⟨?_, ?_⟩ <;> simp [beW, u2]
    unfold plW
    rw [AtL.app] at hA2
    obtain ⟨hA3, ⟨k5, -⟩, -⟩ := hA2
    replace k5 : K (t + 1 + 1 + 1 + 1 + 1 + (tsP (Δ 17 i) (Δ 18 i) (Δ 19 i) (Δ 0 3) (Δ 0 4) []).length) = 32 := k5
    obtain ⟨m, o', x', r', pr, ⟨x1, x1'⟩, x2, x3, x4, x5, x6⟩ := ts_all (n := n) (o := o) (x := x) hvv ⟨by omega, by omega⟩ (fun j hj => hz3 j (by omega)) h3 b2 (by omega) b4 o4 o3 hA3 (Or.inl k5) hc3 hc4
    generalize (tsP (Δ 17 i) (Δ 18 i) (Δ 19 i) (Δ 0 3) (Δ 0 4) []) = L at *
    have e4 := PR.det p1 pr
    subst e4
    rw [tkQ_y (q := (true, (t + 1 + 1 + 1 + 1 + 1 + L.length, n + m, o', x', r'))) rfl k5]
    refine ⟨⟨rfl, fun j hj => x3 j (by have : t + 1 + 1 + 1 + 1 + 1 + L.length + 1 ≤ j := hj; omega), x5.t0 (x3 _ (Nat.le_refl _))⟩, ?_, ?_, ⟨⟨?_, ?_⟩, fun j hj => ?_, fun j hj => x2 j hj⟩, hβ, ?_⟩
    · simp only [List.length_append, List.length_cons, List.length_nil, adv]; omega
    · show n + m ≤ n + 12; omega
    · show t ≤ t + 1 + 1 + 1 + 1 + 1 + L.length + 1; omega
    · show n ≤ n + m; omega
    · have hj' : j < t := hj
      exact (x4 j (by omega)).trans (hlo j hj)
    · obtain ⟨y1, y2⟩ := hβ2 n (n + m)
      exact ⟨n, n + m, ⟨y1, y2⟩, ⟨by omega, Nat.le_refl _⟩, fun rF σ g hs => x6 rF σ g (fun j hj => hs.1 j (by show j < t + 1 + 1 + 1 + 1 + 1 + L.length + 1; omega)) (fun j j1 j2 => hs.2 j j2)⟩
  · exact absurd (Or.inr (Or.inr (Or.inr (Or.inr k0)))) z
end HLY
