/-! the reader at a place of a line -/
def cu (lt : Nat) (q : PQ) : Nat := if q.1 = true then q.2.1 else lt
def tkR (K : Nat → Nat) (k : Nat) (x : Int32) (q : PQ) : PQ := if q.1 = true then (if K q.2.1 = k then (true, adv (rol q.2 q.2.1 x) 1) else (false, q.2)) else q
def opR (K : Nat → Nat) (k : Nat) (x : Int32) (q : PQ) : PQ := if q.1 = true ∧ K q.2.1 = k then (true, adv (rol q.2 q.2.1 x) 1) else q
def RO (V : Nat → Int64) (S : Nat → Int32) (lt : Nat) (q : PQ) (nx : Nat) (bk ba fl fa : Int32) : Prop := (nx ≤ lt ∧ b01 bk) ∧ (q.1 = true → nx = q.2.1 ∧ bk = 0 ∧ (∀ i, nx ≤ i → q.2.2.2.2.2 i = 0) ∧ flF V S q.2.2.2.2.2 nx = (fl, fa)) ∧ (q.1 = false → nx = lt ∧ bk = 1 ∧ ba = S q.2.1)
section ROS
variable {V : Nat → Int64} {S : Nat → Int32} {K : Nat → Nat} {lt nx k : Nat} {q : PQ} {s : PS} {bk ba fl fa x e : Int32}
theorem RO.cu (h : RO V S lt q nx bk ba fl fa) : nx = cu lt q := by
  obtain ⟨g, s⟩ := q
  cases g with
  | true => exact (h.2.1 rfl).1
  | false => exact (h.2.2 rfl).1
theorem RO.fail (h : RO V S lt (true, s) nx bk ba fl fa) {fl' fa' : Int32} : RO V S lt (false, s) lt (bkF bk) (if bk = 0 then S nx else ba) fl' fa' := by
  obtain ⟨h1, h2, -⟩ := h.2.1 rfl
  exact ⟨⟨Nat.le_refl _, bk_b h.1.2⟩, fun z => absurd z (by simp), fun _ => ⟨rfl, by rw [h2]; rfl, by rw [if_pos h2, h1]⟩⟩
theorem RO.sk (h : RO V S lt (true, s) nx bk ba fl fa) (hl : nx < lt) : RO V S lt (true, adv s 1) (nx + 1) bk ba fl fa := by
  obtain ⟨h1, h2, h3, h4⟩ := h.2.1 rfl
  have e0 := h3 nx (Nat.le_refl _)
  exact ⟨⟨hl, h.1.2⟩, fun _ => ⟨by rw [h1]; rfl, h2, fun i hi => h3 i (by omega), (flF_0 e0).trans h4⟩, fun z => absurd z (by simp)⟩
theorem RO.skr (h : RO V S lt (true, s) nx bk ba fl fa) (hl : nx < lt) (he : (flF V S s.2.2.2.2 s.1).1 = 0 → e = erF V (uI s.2.2.2.2 s.1 x) s.1) : RO V S lt (true, adv (rol s s.1 x) 1) (nx + 1) bk ba (nfE fl e) (nfA fl fa e (S nx)) := by
  obtain ⟨h1, h2, h3, h4⟩ := h.2.1 rfl
  have h1' : nx = s.1 := h1
  subst h1'
  refine ⟨⟨hl, h.1.2⟩, fun _ => ⟨rfl, h2, fun i hi => ?_, ?_⟩, fun z => absurd z (by simp)⟩
  · show uI s.2.2.2.2 s.1 x i = 0
    rw [uI_i (by omega)]; exact h3 i (by omega)
  · exact flF_s (by show flF V S (uI s.2.2.2.2 s.1 x) s.1 = _; rw [flF_c (uI_c (Nat.le_refl _))]; exact h4) (fun z => he (by rw [h4]; exact z))
theorem RO.fl2 {fl' fa' : Int32} (h : RO V S lt (false, s) nx bk ba fl fa) : RO V S lt (false, s) nx bk ba fl' fa' := ⟨h.1, fun z => absurd z (by simp), h.2.2⟩
theorem RO.tk (hK2 : K lt = 45 ∨ K lt = 46) (h45 : ¬ k = 45) (h46 : ¬ k = 46) (h : RO V S lt q nx bk ba fl fa) (he : q.1 = true → (flF V S q.2.2.2.2.2 q.2.1).1 = 0 → e = erF V (uI q.2.2.2.2.2 q.2.1 x) q.2.1) : RO V S lt (tkR K k x q) (tkN' K lt nx k) (tkB K nx k bk) (tkA K S nx k bk ba) (nfE fl e) (nfA fl fa e (S nx)) := by
  obtain ⟨g, s⟩ := q
  unfold tkN' tkB tkA tkR
  cases g with
  | false =>
    obtain ⟨h1, h2, h3⟩ := h.2.2 rfl
    have hne : ¬ K nx = k := by rw [h1]; omega
    rw [if_neg hne, if_neg hne, if_neg hne, h2, if_neg (by simp), if_neg (by decide)]
    exact ⟨⟨Nat.le_refl _, Or.inr rfl⟩, fun z => absurd z (by simp), fun _ => ⟨rfl, rfl, h3⟩⟩
  | true =>
    have h1 : nx = s.1 := (h.2.1 rfl).1
    rw [if_pos rfl]
    by_cases e9 : K nx = k
    · have hlt := K_lt hK2 h.1.1 e9 h45 h46
      rw [if_pos e9, if_pos e9, if_pos e9, skN_lt hlt, if_pos (by show K s.1 = k; rw [← h1]; exact e9)]
      exact h.skr hlt (he rfl)
    · rw [if_neg e9, if_neg e9, if_neg e9, if_neg (by show ¬ K s.1 = k; rw [← h1]; exact e9)]
      exact h.fail
theorem RO.tk0 (hK2 : K lt = 45 ∨ K lt = 46) (h45 : ¬ k = 45) (h46 : ¬ k = 46) (h : RO V S lt q nx bk ba fl fa) : RO V S lt (tkQ K k q) (tkN' K lt nx k) (tkB K nx k bk) (tkA K S nx k bk ba) fl fa := by
  obtain ⟨g, s⟩ := q
  unfold tkN' tkB tkA tkQ
  cases g with
  | false =>
    obtain ⟨h1, h2, h3⟩ := h.2.2 rfl
    have hne : ¬ K nx = k := by rw [h1]; omega
    rw [if_neg hne, if_neg hne, if_neg hne, h2, if_neg (by simp), if_neg (by decide)]
    exact ⟨⟨Nat.le_refl _, Or.inr rfl⟩, fun z => absurd z (by simp), fun _ => ⟨rfl, rfl, h3⟩⟩
  | true =>
    have h1 : nx = s.1 := (h.2.1 rfl).1
    rw [if_pos rfl]
    by_cases e9 : K nx = k
    · have hlt := K_lt hK2 h.1.1 e9 h45 h46
      rw [if_pos e9, if_pos e9, if_pos e9, skN_lt hlt, if_pos (by show K s.1 = k; rw [← h1]; exact e9)]
      exact h.sk hlt
    · rw [if_neg e9, if_neg e9, if_neg e9, if_neg (by show ¬ K s.1 = k; rw [← h1]; exact e9)]
      exact h.fail
theorem RO.op (hK2 : K lt = 45 ∨ K lt = 46) (h45 : ¬ k = 45) (h46 : ¬ k = 46) (h : RO V S lt q nx bk ba fl fa) (he : ∀ (rl : Nat → Int32) t, rl t = x → erF V rl t = 0) : RO V S lt (opR K k x q) (if K nx = k then skN lt nx else nx) bk ba fl fa := by
  obtain ⟨g, s⟩ := q
  unfold opR
  cases g with
  | false =>
    obtain ⟨h1, h2, h3⟩ := h.2.2 rfl
    have hne : ¬ K nx = k := by rw [h1]; omega
    rw [if_neg hne, if_neg (by simp)]
    exact h
  | true =>
    have h1 : nx = s.1 := (h.2.1 rfl).1
    by_cases e9 : K nx = k
    · have hlt := K_lt hK2 h.1.1 e9 h45 h46
      rw [if_pos e9, skN_lt hlt, if_pos ⟨rfl, by show K s.1 = k; rw [← h1]; exact e9⟩]
      have h2 := h.skr (e := 0) (x := x) hlt (fun _ => (he _ _ (uI_s _ _ _)).symm)
      rwa [nfE_0, nfA_0] at h2
    · rw [if_neg e9, if_neg (by show ¬ (true = true ∧ K s.1 = k); rw [← h1]; exact fun q => e9 q.2)]
      exact h
end ROS
def RQ (τ : TY) (M : ME) (j r p lt : Nat) (S : Nat → Int32) (V : Nat → Int64) (q : PQ) : Prop := ∃ nx bk ba fl fa, RV τ M M j r p nx bk ba fl fa ∧ RO V S lt q nx bk ba fl fa
/-- something is noted, its token not yet taken -/
def RN (τ : TY) (M : ME) (j r p lt : Nat) (S : Nat → Int32) (V : Nat → Int64) (q : PQ) (e : Int32) : Prop := ∃ nx bk ba fl fa, RV τ M M j r p nx bk ba (nfE fl e) (nfA fl fa e (S nx)) ∧ RO V S lt q nx bk ba fl fa
theorem RQ.re {τ : TY} {M M1 : ME} {j r p lt lo hi : Nat} {S : Nat → Int32} {V : Nat → Int64} {q : PQ} (h : RQ τ M j r p lt S V q) (e : Fr lo hi M M1) (hd : hi ≤ j ∨ j + 1 ≤ lo) : RQ τ M1 j r p lt S V q := by
  obtain ⟨nx, bk, ba, fl, fa, hE, hO⟩ := h
  exact ⟨nx, bk, ba, fl, fa, hE.nx e hd, hO⟩
set_option maxHeartbeats 1000000 in
theorem rq_skip {l : Launch} {D : va_G} {cA : Nat → ClassId} {n0 : Nat} {sg adK adV : Nat → Nat} {sgA smA wdA bS LS : Nat} {xs : Nat → Int32} (hX : SF n0 (XW0 sg adK adV sgA smA wdA n0 bS LS xs)) {sz : Nat} {τ : TY} {M : ME} {N2 : ME} {j r p tp ln lt : Nat} {K : Nat → Nat} {S : Nat → Int32} {V : Nat → Int64} (hT : TM τ N2 M (j + 1) sg tp ln lt K S V) (hl : lt ≤ 400) (hK : ∀ i, i ≤ lt → K i < 48) (hK2 : K lt = 45 ∨ K lt = 46) {s : PS} (hQ : RQ τ M j r p lt S V ((true, s))) (h5 : ¬ K s.1 = 45 ∧ ¬ K s.1 = 46) : CT l D cA n0 (XW0 sg adK adV sgA smA wdA n0 bS LS xs) mX5_skip 1 0 0 sz τ M [.ref j] (fun v' sz' τ' M' => v' = none ∧ sz' = sz ∧ τ' = τ ∧ RQ τ M' j r p lt S V ((true, adv s 1)) ∧ Fr j (j + 1) M M') := by
  obtain ⟨nx, bk, ba, fl, fa, hE, hO⟩ := hQ
  refine (c_X5_skip hX hE hT hO.1.1 hl hK).wk ?_
  rintro _ _ _ M9 ⟨rfl, rfl, rfl, hE9⟩
  have h1 : nx = s.1 := (hO.2.1 rfl).1
  have hlt := K_lt hK2 hO.1.1 rfl (by rw [h1]; exact h5.1) (by rw [h1]; exact h5.2)
  rw [skN_lt hlt] at hE9
  exact ⟨rfl, rfl, rfl, ⟨_, _, _, _, _, hE9.rf, hO.sk hlt⟩, hE9.frame⟩
set_option maxHeartbeats 1000000 in
theorem rq_skipN {l : Launch} {D : va_G} {cA : Nat → ClassId} {n0 : Nat} {sg adK adV : Nat → Nat} {sgA smA wdA bS LS : Nat} {xs : Nat → Int32} (hX : SF n0 (XW0 sg adK adV sgA smA wdA n0 bS LS xs)) {sz : Nat} {τ : TY} {M : ME} {N2 : ME} {j r p tp ln lt : Nat} {K : Nat → Nat} {S : Nat → Int32} {V : Nat → Int64} (hT : TM τ N2 M (j + 1) sg tp ln lt K S V) (hl : lt ≤ 400) (hK : ∀ i, i ≤ lt → K i < 48) (hK2 : K lt = 45 ∨ K lt = 46) {s : PS} {e x : Int32} (hQ : RN τ M j r p lt S V (true, s) e) (h5 : ¬ K s.1 = 45 ∧ ¬ K s.1 = 46) (he : (flF V S s.2.2.2.2 s.1).1 = 0 → e = erF V (uI s.2.2.2.2 s.1 x) s.1) : CT l D cA n0 (XW0 sg adK adV sgA smA wdA n0 bS LS xs) mX5_skip 1 0 0 sz τ M [.ref j] (fun v' sz' τ' M' => v' = none ∧ sz' = sz ∧ τ' = τ ∧ RQ τ M' j r p lt S V ((true, adv (rol s s.1 x) 1)) ∧ Fr j (j + 1) M M') := by
  obtain ⟨nx, bk, ba, fl, fa, hE, hO⟩ := hQ
  refine (c_X5_skip hX hE hT hO.1.1 hl hK).wk ?_
  rintro _ _ _ M9 ⟨rfl, rfl, rfl, hE9⟩
  have h1 : nx = s.1 := (hO.2.1 rfl).1
  have hlt := K_lt hK2 hO.1.1 rfl (by rw [h1]; exact h5.1) (by rw [h1]; exact h5.2)
  rw [skN_lt hlt] at hE9
  exact ⟨rfl, rfl, rfl, ⟨_, _, _, _, _, hE9.rf, hO.skr hlt he⟩, hE9.frame⟩
set_option maxHeartbeats 1000000 in
theorem rq_chk {l : Launch} {D : va_G} {cA : Nat → ClassId} {n0 : Nat} {sg adK adV : Nat → Nat} {sgA smA wdA bS LS : Nat} {xs : Nat → Int32} (hX : SF n0 (XW0 sg adK adV sgA smA wdA n0 bS LS xs)) {sz : Nat} {τ : TY} {M : ME} {N2 : ME} {j r p tp ln lt : Nat} {K : Nat → Nat} {S : Nat → Int32} {V : Nat → Int64} (hT : TM τ N2 M (j + 1) sg tp ln lt K S V) (hl : lt ≤ 400) (hK : ∀ i, i ≤ lt → K i < 48) (hK2 : K lt = 45 ∨ K lt = 46) {q : PQ} (hQ : RQ τ M j r p lt S V (q)) {x y : Int32} (hx : b01 x) (hy : b01 y) : CT l D cA n0 (XW0 sg adK adV sgA smA wdA n0 bS LS xs) mX5_checkNew 2 0 0 sz τ M [.ref j, .int x, .int y] (fun v' sz' τ' M' => v' = none ∧ sz' = sz ∧ τ' = τ ∧ RN τ M' j r p lt S V q (if x = 0 then (if y = 0 then 0 else 4) else 2) ∧ Fr j (j + 1) M M') := by
  obtain ⟨nx, bk, ba, fl, fa, hE, hO⟩ := hQ
  refine (c_X5_checkNew hX hE hT hO.1.1 hl hK hx hy).wk ?_
  rintro _ _ _ M9 ⟨rfl, rfl, rfl, hE9⟩
  exact ⟨rfl, rfl, rfl, ⟨_, _, _, _, _, hE9.rf, hO⟩, hE9.frame⟩
set_option maxHeartbeats 1000000 in
theorem rq_name {l : Launch} {D : va_G} {cA : Nat → ClassId} {n0 : Nat} {sg adK adV : Nat → Nat} {sgA smA wdA bS LS : Nat} {xs : Nat → Int32} (hX : SF n0 (XW0 sg adK adV sgA smA wdA n0 bS LS xs)) {sz : Nat} {τ : TY} {M : ME} {N2 : ME} {j r p tp ln lt : Nat} {K : Nat → Nat} {S : Nat → Int32} {V : Nat → Int64} (hT : TM τ N2 M (j + 1) sg tp ln lt K S V) (hl : lt ≤ 400) (hK : ∀ i, i ≤ lt → K i < 48) (hK2 : K lt = 45 ∨ K lt = 46) {q : PQ} {e x : Int32} (hQ : RN τ M j r p lt S V q e) (he : q.1 = true → (flF V S q.2.2.2.2.2 q.2.1).1 = 0 → e = erF V (uI q.2.2.2.2.2 q.2.1 x) q.2.1) : CT l D cA n0 (XW0 sg adK adV sgA smA wdA n0 bS LS xs) mX5_takeName 3 0 0 sz τ M [.ref j] (fun v' sz' τ' M' => v' = some (.long (V (cu lt q))) ∧ sz' = sz ∧ τ' = τ ∧ RQ τ M' j r p lt S V (tkR K 43 x q) ∧ Fr j (j + 1) M M') := by
  obtain ⟨nx, bk, ba, fl, fa, hE, hO⟩ := hQ
  refine (c_X5_takeName hX hE hT hO.1.1 hl hK).wk ?_
  rintro _ _ _ M9 ⟨rfl, rfl, rfl, hE9⟩
  have hc := hO.cu
  exact ⟨by rw [← hc], rfl, rfl, ⟨_, _, _, _, _, hE9.rf, hO.tk hK2 (by decide) (by decide) he⟩, hE9.frame⟩
set_option maxHeartbeats 1000000 in
theorem rq_take {l : Launch} {D : va_G} {cA : Nat → ClassId} {n0 : Nat} {sg adK adV : Nat → Nat} {sgA smA wdA bS LS : Nat} {xs : Nat → Int32} (hX : SF n0 (XW0 sg adK adV sgA smA wdA n0 bS LS xs)) {sz : Nat} {τ : TY} {M : ME} {N2 : ME} {j r p tp ln lt : Nat} {K : Nat → Nat} {S : Nat → Int32} {V : Nat → Int64} (hT : TM τ N2 M (j + 1) sg tp ln lt K S V) (hl : lt ≤ 400) (hK : ∀ i, i ≤ lt → K i < 48) (hK2 : K lt = 45 ∨ K lt = 46) {q : PQ} (hQ : RQ τ M j r p lt S V (q)) {k : Nat} (hk0 : k < 48) (h45 : ¬ k = 45) (h46 : ¬ k = 46) : CT l D cA n0 (XW0 sg adK adV sgA smA wdA n0 bS LS xs) mX5_take 2 0 0 sz τ M [.ref j, .ref (sg k)] (fun v' sz' τ' M' => v' = none ∧ sz' = sz ∧ τ' = τ ∧ RQ τ M' j r p lt S V (tkQ K k q) ∧ Fr j (j + 1) M M') := by
  obtain ⟨nx, bk, ba, fl, fa, hE, hO⟩ := hQ
  refine (c_X5_take hX hE hT hO.1.1 hl hK hk0).wk ?_
  rintro _ _ _ M9 ⟨rfl, rfl, rfl, hE9⟩
  exact ⟨rfl, rfl, rfl, ⟨_, _, _, _, _, hE9.rf, hO.tk0 hK2 h45 h46⟩, hE9.frame⟩
set_option maxHeartbeats 1000000 in
theorem rq_num {l : Launch} {D : va_G} {cA : Nat → ClassId} {n0 : Nat} {sg adK adV : Nat → Nat} {sgA smA wdA bS LS : Nat} {xs : Nat → Int32} (hX : SF n0 (XW0 sg adK adV sgA smA wdA n0 bS LS xs)) {sz : Nat} {τ : TY} {M : ME} {N2 : ME} {j r p tp ln lt : Nat} {K : Nat → Nat} {S : Nat → Int32} {V : Nat → Int64} (hT : TM τ N2 M (j + 1) sg tp ln lt K S V) (hl : lt ≤ 400) (hK : ∀ i, i ≤ lt → K i < 48) (hK2 : K lt = 45 ∨ K lt = 46) {q : PQ} (hQ : RQ τ M j r p lt S V (q)) (x y : Int32) {z : Int32} (he : ∀ (rl : Nat → Int32) t, rl t = z → erF V rl t = rgE (V t) x y) : CT l D cA n0 (XW0 sg adK adV sgA smA wdA n0 bS LS xs) mX5_takeNumber 3 0 0 sz τ M [.ref j, .int x, .int y] (fun v' sz' τ' M' => v' = some (.int (V (cu lt q)).toInt32) ∧ sz' = sz ∧ τ' = τ ∧ RQ τ M' j r p lt S V (tkR K 44 z q) ∧ Fr j (j + 1) M M') := by
  obtain ⟨nx, bk, ba, fl, fa, hE, hO⟩ := hQ
  refine (c_X5_takeNumber hX hE hT hO.1.1 hl hK x y).wk ?_
  rintro _ _ _ M9 ⟨rfl, rfl, rfl, hE9⟩
  have hc := hO.cu
  exact ⟨by rw [← hc], rfl, rfl, ⟨_, _, _, _, _, hE9.rf, hO.tk hK2 (by decide) (by decide) (fun z9 _ => by rw [he _ _ (uI_s _ _ _), (hO.2.1 z9).1])⟩, hE9.frame⟩
set_option maxHeartbeats 1000000 in
theorem rq_try {l : Launch} {D : va_G} {cA : Nat → ClassId} {n0 : Nat} {sg adK adV : Nat → Nat} {sgA smA wdA bS LS : Nat} {xs : Nat → Int32} (hX : SF n0 (XW0 sg adK adV sgA smA wdA n0 bS LS xs)) {sz : Nat} {τ : TY} {M : ME} {N2 : ME} {j r p tp ln lt : Nat} {K : Nat → Nat} {S : Nat → Int32} {V : Nat → Int64} (hT : TM τ N2 M (j + 1) sg tp ln lt K S V) (hl : lt ≤ 400) (hK : ∀ i, i ≤ lt → K i < 48) (hK2 : K lt = 45 ∨ K lt = 46) {q : PQ} (hQ : RQ τ M j r p lt S V (q)) {k : Nat} (hk0 : k < 48) (h45 : ¬ k = 45) (h46 : ¬ k = 46) {z : Int32} (he : ∀ (rl : Nat → Int32) t, rl t = z → erF V rl t = 0) : CT l D cA n0 (XW0 sg adK adV sgA smA wdA n0 bS LS xs) mX5_tryTake 2 0 0 sz τ M [.ref j, .ref (sg k)] (fun v' sz' τ' M' => v' = some (.int (if K (cu lt q) = k then 1 else 0)) ∧ sz' = sz ∧ τ' = τ ∧ RQ τ M' j r p lt S V (opR K k z q) ∧ Fr j (j + 1) M M') := by
  obtain ⟨nx, bk, ba, fl, fa, hE, hO⟩ := hQ
  refine (c_X5_tryTake hX hE hT hO.1.1 hl hK hk0).wk ?_
  rintro _ _ _ M9 ⟨rfl, rfl, rfl, hE9⟩
  have hc := hO.cu
  exact ⟨by rw [← hc], rfl, rfl, ⟨_, _, _, _, _, hE9.rf, hO.op hK2 h45 h46 he⟩, hE9.frame⟩
set_option maxHeartbeats 1000000 in
theorem rq_takeHorse {l : Launch} {D : va_G} {cA : Nat → ClassId} {n0 : Nat} {sg adK adV : Nat → Nat} {sgA smA wdA bS LS : Nat} {xs : Nat → Int32} (hX : SF n0 (XW0 sg adK adV sgA smA wdA n0 bS LS xs)) {sz : Nat} {τ : TY} {M : ME} {N2 : ME} {j r p tp ln lt : Nat} {K : Nat → Nat} {S : Nat → Int32} {V : Nat → Int64} (hT : TM τ N2 M (j + 1) sg tp ln lt K S V) (hl : lt ≤ 400) (hK : ∀ i, i ≤ lt → K i < 48) (hK2 : K lt = 45 ∨ K lt = 46) {N3 : ME} {a b c : Nat} {ρ : RH} {ν : NU} (hR : LM τ N3 M r a b c ρ ν) (hd : j + 1 ≤ r ∨ r + 38 ≤ j) {q : PQ} (hQ : RQ τ M j r p lt S V (q)) {x : Int32} (he : q.1 = true → (flF V S q.2.2.2.2.2 q.2.1).1 = 0 → ngE (fdF (ν 1) (V q.2.1) b) = erF V (uI q.2.2.2.2.2 q.2.1 x) q.2.1) : CT l D cA n0 (XW0 sg adK adV sgA smA wdA n0 bS LS xs) mX5_takeHorse 3 0 0 sz τ M [.ref j] (fun v' sz' τ' M' => v' = some (.int (fdF (ν 1) (V (cu lt q)) b)) ∧ sz' = sz ∧ τ' = τ ∧ RQ τ M' j r p lt S V (tkR K 43 x q) ∧ Fr j (j + 1) M M') := by
  obtain ⟨nx, bk, ba, fl, fa, hE, hO⟩ := hQ
  refine (c_X5_takeHorse hX hE hT hO.1.1 hl hK hR hd).wk ?_
  rintro _ _ _ M9 ⟨rfl, rfl, rfl, hE9⟩
  have hc := hO.cu
  exact ⟨by rw [← hc], rfl, rfl, ⟨_, _, _, _, _, hE9.rf, hO.tk hK2 (by decide) (by decide) (fun z1 z2 => by rw [(hO.2.1 z1).1]; exact he z1 z2)⟩, hE9.frame⟩
set_option maxHeartbeats 1000000 in
theorem rq_takeStretch {l : Launch} {D : va_G} {cA : Nat → ClassId} {n0 : Nat} {sg adK adV : Nat → Nat} {sgA smA wdA bS LS : Nat} {xs : Nat → Int32} (hX : SF n0 (XW0 sg adK adV sgA smA wdA n0 bS LS xs)) {sz : Nat} {τ : TY} {M : ME} {N2 : ME} {j r p tp ln lt : Nat} {K : Nat → Nat} {S : Nat → Int32} {V : Nat → Int64} (hT : TM τ N2 M (j + 1) sg tp ln lt K S V) (hl : lt ≤ 400) (hK : ∀ i, i ≤ lt → K i < 48) (hK2 : K lt = 45 ∨ K lt = 46) {N3 : ME} {a b c : Nat} {ρ : RH} {ν : NU} (hR : LM τ N3 M r a b c ρ ν) (hd : j + 1 ≤ r ∨ r + 38 ≤ j) {q : PQ} (hQ : RQ τ M j r p lt S V (q)) {x : Int32} (he : q.1 = true → (flF V S q.2.2.2.2.2 q.2.1).1 = 0 → ngE (fdF (ν 4) (V q.2.1) a) = erF V (uI q.2.2.2.2.2 q.2.1 x) q.2.1) : CT l D cA n0 (XW0 sg adK adV sgA smA wdA n0 bS LS xs) mX5_takeStretch 3 0 0 sz τ M [.ref j] (fun v' sz' τ' M' => v' = some (.int (fdF (ν 4) (V (cu lt q)) a)) ∧ sz' = sz ∧ τ' = τ ∧ RQ τ M' j r p lt S V (tkR K 43 x q) ∧ Fr j (j + 1) M M') := by
  obtain ⟨nx, bk, ba, fl, fa, hE, hO⟩ := hQ
  refine (c_X5_takeStretch hX hE hT hO.1.1 hl hK hR hd).wk ?_
  rintro _ _ _ M9 ⟨rfl, rfl, rfl, hE9⟩
  have hc := hO.cu
  exact ⟨by rw [← hc], rfl, rfl, ⟨_, _, _, _, _, hE9.rf, hO.tk hK2 (by decide) (by decide) (fun z1 z2 => by rw [(hO.2.1 z1).1]; exact he z1 z2)⟩, hE9.frame⟩

