/-! a text in pieces: what its tokens are -/
def LT (x : List Nat) : Nat → Nat := fun i => x.getD i 0
section TKS
variable {B B' : Nat → Nat} {ln p p' k n : Nat}
theorem txQ_c (h : ∀ i, i < n → B (p + i) = B' (p' + i)) : txQ B k p n = txQ B' k p' n := by
  rw [Bool.eq_iff_iff, txQ_iff, txQ_iff]
  constructor
  · rintro ⟨h1, h2⟩; exact ⟨h1, fun j hj => by rw [h2 j hj, h j hj]⟩
  · rintro ⟨h1, h2⟩; exact ⟨h1, fun j hj => by rw [h2 j hj, h j hj]⟩
theorem kwG_c (h : ∀ i, i < n → B (p + i) = B' (p' + i)) : ∀ m i, kwG B p n i m = kwG B' p' n i m := by
  intro m
  induction m with
  | zero => intro i; rfl
  | succ m ih => intro i; rw [kwG, kwG, txQ_c h, ih]
theorem kwF_c (h : ∀ i, i < n → B (p + i) = B' (p' + i)) : kwF B p n = kwF B' p' n := kwG_c h 48 0
theorem cN_c (h : ∀ i, i < n → B (p + i) = B' (p' + i)) : cN B p n = cN B' p' n := by
  induction n with
  | zero => rfl
  | succ n ih => rw [cN, cN, ih (fun i hi => h i (by omega)), h n (by omega)]
theorem nN_c (h : ∀ i, i < n → B (p + i) = B' (p' + i)) : nN B p n = nN B' p' n := by
  induction n with
  | zero => rfl
  | succ n ih => rw [nN, nN, ih (fun i hi => h i (by omega)), h n (by omega)]
theorem rn_run {P : Nat → Bool} : ∀ (m p : Nat), (∀ i, i < m → P (B (p + i)) = true) → p + m ≤ ln → (p + m = ln ∨ P (B (p + m)) = false) → rn P B ln p = p + m := by
  intro m
  induction m with
  | zero => intro p h h1 h2; exact rn_n (fun q => by rcases h2 with e | e; · omega
                                                     · rw [show p + 0 = p from rfl, q.2] at e; exact absurd e (by simp))
  | succ m ih =>
    intro p h h1 h2
    rw [rn_y (ln := ln) (p := p) (P := P) (B := B) (by omega) (h 0 (by omega))]
    have := ih (p + 1) (fun i hi => by rw [show p + 1 + i = p + (i + 1) by omega]; exact h (i + 1) (by omega)) (by omega) (by rw [show p + 1 + m = p + (m + 1) by omega]; exact h2)
    rw [this]; omega
/-- a piece and the character behind it -/
def TOK (x : List Nat) (k : Nat) (v : Int64) (hd : Option Nat) : Prop := (1 ≤ x.length ∧ blB (LT x 0) = false) ∧
  (((ltB (LT x 0) = true ∧ (∀ i, i < x.length → ldB (LT x i) = true)) ∧ x.length ≤ 10 ∧ (k = kwF (LT x) 0 x.length ∧ v = Int64.ofNat (cN (LT x) 0 x.length)) ∧ ∀ c, hd = some c → ldB c = false) ∨
  (((ltB (LT x 0) = false ∧ dgB (LT x 0) = true) ∧ (∀ i, i < x.length → dgB (LT x i) = true)) ∧ x.length ≤ 6 ∧ (k = 44 ∧ v = Int64.ofNat (nN (LT x) 0 x.length)) ∧ ∀ c, hd = some c → dgB c = false) ∨
  ((ltB (LT x 0) = false ∧ dgB (LT x 0) = false) ∧ (k = kwF (LT x) 0 x.length ∧ k ≠ 43) ∧ ((x.length = 1 ∧ ∀ c, hd = some c → kwF (LT [LT x 0, c]) 0 2 = 43) ∨ x.length = 2)))
theorem TOK.at {x : List Nat} {v : Int64} {hd : Option Nat} (h : TOK x k v hd) (hB : ∀ i, i < x.length → B (p + i) = LT x i) (hl : p + x.length ≤ ln) (hh : p + x.length < ln → hd = some (B (p + x.length))) :
    p < ln ∧ tkE B ln p = p + x.length ∧ tkK B ln p = k ∧ ((ltB (B p) = true ∨ dgB (B p) = true) → tkV B ln p = v) := by
  obtain ⟨⟨l1, -⟩, h⟩ := h
  have e0 : B p = LT x 0 := hB 0 l1
  have hc : ∀ i, i < x.length → B (p + i) = LT x (0 + i) := fun i hi => by rw [Nat.zero_add]; exact hB i hi
  refine ⟨by omega, ?_⟩
  rcases h with ⟨⟨a1, a2⟩, a3, ⟨a4, a5⟩, a6⟩ | ⟨⟨⟨a0, a1⟩, a2⟩, a3, ⟨a4, a5⟩, a6⟩ | ⟨⟨a0, a1⟩, ⟨a2, a3⟩, a4⟩
  · have r : rn ldB B ln p = p + x.length := rn_run _ _ (fun i hi => by rw [hB i hi]; exact a2 i hi) hl (by
      rcases Nat.lt_or_ge (p + x.length) ln with q | q
      · exact Or.inr (a6 _ (hh q))
      · exact Or.inl (by omega))
    refine ⟨?_, ?_, fun _ => ?_⟩
    · unfold tkE wdE; rw [e0, if_pos a1, r, if_neg (by omega)]
    · unfold tkK; rw [e0, if_pos a1, r, show p + x.length - p = x.length by omega, kwF_c hc, a4]
    · unfold tkV; rw [e0, if_pos a1, r, show p + x.length - p = x.length by omega, cN_c hc, a5]
  · have r : rn dgB B ln p = p + x.length := rn_run _ _ (fun i hi => by rw [hB i hi]; exact a2 i hi) hl (by
      rcases Nat.lt_or_ge (p + x.length) ln with q | q
      · exact Or.inr (a6 _ (hh q))
      · exact Or.inl (by omega))
    refine ⟨?_, ?_, fun _ => ?_⟩
    · unfold tkE nbE; rw [e0, if_neg (by rw [a0]; simp), if_pos a1, r, if_neg (by omega)]
    · unfold tkK; rw [e0, if_neg (by rw [a0]; simp), if_pos a1, a4]
    · unfold tkV; rw [e0, if_neg (by rw [a0]; simp), r, show p + x.length - p = x.length by omega, nN_c hc, a5]
  · have key : syE B ln p = p + x.length ∧ syK B ln p = k := by
      unfold syE syK
      rcases a4 with ⟨b1, b2⟩ | b1
      · have k1 : kwF B p 1 = k := by rw [a2, b1]; exact kwF_c (fun i hi => hc i (by omega))
        rcases Nat.lt_or_ge (p + x.length) ln with q | q
        · have k2 : kwF B p 2 = 43 := by
            refine (kwF_c (B' := LT [LT x 0, B (p + x.length)]) (p' := 0) (fun i hi => ?_)).trans (b2 _ (hh q))
            rcases (by omega : i = 0 ∨ i = 1) with rfl | rfl
            · exact e0
            · rw [b1]; rfl
          rw [show syn ln p = 2 from if_pos (by omega)]
          simp only [seE, seK, k2, if_true, k1, if_neg a3]
          exact ⟨by omega, trivial⟩
        · rw [show syn ln p = 1 from if_neg (by omega)]
          simp only [seE, seK, k1, if_neg a3]
          exact ⟨by omega, trivial⟩
      · have k1 : kwF B p 2 = k := by rw [a2, b1]; exact kwF_c (fun i hi => hc i (by omega))
        rw [show syn ln p = 2 from if_pos (by omega)]
        simp only [seE, seK, k1, if_neg a3]
        exact ⟨by omega, trivial⟩
    refine ⟨?_, ?_, fun z => ?_⟩
    · unfold tkE; rw [e0, if_neg (by rw [a0]; simp), if_neg (by rw [a1]; simp)]; exact key.1
    · unfold tkK; rw [e0, if_neg (by rw [a0]; simp), if_neg (by rw [a1]; simp)]; exact key.2
    · rw [e0, a0, a1] at z; simp at z
end TKS
/-- a piece: its text, the blanks behind it, its kind, its value -/
abbrev Pc : Type := List Nat × List Nat × Nat × Int64
def ptx : List Pc → List Nat
  | [] => []
  | c :: r => c.1 ++ (c.2.1 ++ ptx r)
def hdO (l : List Nat) (hd : Option Nat) : Option Nat := match l with | [] => hd | c :: _ => some c
def GD : List Pc → Option Nat → Prop
  | [], _ => True
  | c :: r, hd => (TOK c.1 c.2.2.1 c.2.2.2 (hdO (c.2.1 ++ ptx r) hd) ∧ ∀ b ∈ c.2.1, blB b = true) ∧ GD r hd
theorem ptx_app (a b : List Pc) : ptx (a ++ b) = ptx a ++ ptx b := by
  induction a with
  | nil => rfl
  | cons c r ih => show c.1 ++ (c.2.1 ++ ptx (r ++ b)) = (c.1 ++ (c.2.1 ++ ptx r)) ++ ptx b; rw [ih]; simp only [List.append_assoc]
theorem hdO_app (a b : List Nat) (hd : Option Nat) : hdO (a ++ b) hd = hdO a (hdO b hd) := by cases a <;> rfl
theorem GD.app (a b : List Pc) (hd : Option Nat) : GD (a ++ b) hd ↔ GD a (hdO (ptx b) hd) ∧ GD b hd := by
  induction a with
  | nil => exact ⟨fun h => ⟨trivial, h⟩, fun h => h.2⟩
  | cons c r ih =>
    show ((TOK c.1 c.2.2.1 c.2.2.2 (hdO (c.2.1 ++ ptx (r ++ b)) hd) ∧ _) ∧ GD (r ++ b) hd) ↔ ((TOK c.1 c.2.2.1 c.2.2.2 (hdO (c.2.1 ++ ptx r) (hdO (ptx b) hd)) ∧ _) ∧ GD r (hdO (ptx b) hd)) ∧ GD b hd
    rw [ih, ptx_app, ← List.append_assoc, hdO_app _ (ptx b)]
    exact and_assoc.symm
section TKL
variable {B : Nat → Nat} {ln : Nat} {P P1 r : List Pc} {c : Pc}
theorem getD_app {a b : List Nat} {j : Nat} : (a ++ b).getD (a.length + j) 0 = b.getD j 0 := by
  simp only [List.getD_eq_getElem?_getD]
  rw [List.getElem?_append_right (by omega), Nat.add_sub_cancel_left]
theorem getD_apl {a b : List Nat} {j : Nat} (h : j < a.length) : (a ++ b).getD j 0 = a.getD j 0 := by
  simp only [List.getD_eq_getElem?_getD]
  rw [List.getElem?_append_left h]
theorem getD_hdO {a : List Nat} {hd : Option Nat} (h : 0 < a.length) : hdO a hd = some (a.getD 0 0) := by
  cases a with
  | nil => exact absurd h (Nat.lt_irrefl _)
  | cons x y => rfl
theorem blanks {a b : List Nat} {p : Nat} (hB : ∀ j, j < (a ++ b).length → B (p + j) = (a ++ b).getD j 0) (hl : p + (a ++ b).length = ln) (ha : ∀ x ∈ a, blB x = true) (hb : b = [] ∨ blB (b.getD 0 0) = false) : rn blB B ln p = p + a.length := by
  refine rn_run _ _ (fun i hi => ?_) (by rw [List.length_append] at hl; omega) ?_
  · rw [hB i (by rw [List.length_append]; omega), getD_apl hi, List.getD_eq_getElem?_getD, List.getElem?_eq_getElem hi]
    exact ha _ (List.getElem_mem hi)
  · cases b with
    | nil => left; rw [List.append_nil] at hl; omega
    | cons x y =>
      right
      rw [hB a.length (by rw [List.length_append, List.length_cons]; omega), show a.length = a.length + 0 from rfl, getD_app]
      rcases hb with h | h
      · cases h
      · exact h
theorem GD.bl {hd : Option Nat} (h : GD P hd) : ptx P = [] ∨ blB ((ptx P).getD 0 0) = false := by
  cases P with
  | nil => exact Or.inl rfl
  | cons c r =>
    right
    have h1 := h.1.1.1
    show blB ((c.1 ++ (c.2.1 ++ ptx r)).getD 0 0) = false
    rw [getD_apl (by omega)]; exact h1.2
theorem tok_step (hP : P = P1 ++ c :: r) (hG : GD P none) (hB : ∀ i, i < (ptx P).length → B i = (ptx P).getD i 0) (hl : ln = (ptx P).length) {i : Nat} (ht : tP B ln i = (ptx P1).length) :
    gdT B ln i ∧ tkK B ln (tP B ln i) = c.2.2.1 ∧ ((ltB (LT c.1 0) = true ∨ dgB (LT c.1 0) = true) → (ltB (B (tP B ln i)) = true ∨ dgB (B (tP B ln i)) = true) ∧ tkV B ln (tP B ln i) = c.2.2.2) ∧ tP B ln (i + 1) = (ptx (P1 ++ [c])).length := by
  subst hP
  have e : ptx (P1 ++ c :: r) = ptx P1 ++ (c.1 ++ (c.2.1 ++ ptx r)) := ptx_app _ _
  have el := congrArg List.length e
  simp only [List.length_append] at el
  have hG2 := ((GD.app P1 (c :: r) none).mp hG).2
  obtain ⟨⟨hT, hw⟩, hr⟩ := hG2
  have hB2 : ∀ j, j < (c.1 ++ (c.2.1 ++ ptx r)).length → B ((ptx P1).length + j) = (c.1 ++ (c.2.1 ++ ptx r)).getD j 0 := fun j hj => by
    rw [hB _ (by rw [el]; simp only [List.length_append] at hj; omega), e, getD_app]
  have hx : ∀ j, j < c.1.length → B ((ptx P1).length + j) = LT c.1 j := fun j hj => by
    rw [hB2 j (by rw [List.length_append]; omega), getD_apl hj]; rfl
  obtain ⟨k1, k2, k3, k4⟩ := hT.at (B := B) (ln := ln) (p := (ptx P1).length) hx (by omega) (fun q => by
    rw [getD_hdO (by rw [List.length_append]; omega)]
    congr 1
    have := hB2 c.1.length (by simp only [List.length_append]; omega)
    rw [this, show c.1.length = c.1.length + 0 from rfl, getD_app])
  have l1 := hT.1.1
  rw [ht]
  refine ⟨⟨by rw [ht]; omega, by rw [ht, k2]; omega⟩, k3, fun q => ?_, ?_⟩
  · have : ltB (B (ptx P1).length) = true ∨ dgB (B (ptx P1).length) = true := by
      have e0 : B (ptx P1).length = LT c.1 0 := hx 0 l1
      rw [e0]; exact q
    exact ⟨this, k4 this⟩
  · show rn blB B ln (tkE B ln (rn blB B ln (plF B ln i))) = _
    rw [show rn blB B ln (plF B ln i) = tP B ln i from rfl, ht, k2, ptx_app, List.length_append]
    show _ = _ + (c.1 ++ (c.2.1 ++ [])).length
    rw [List.append_nil, List.length_append]
    refine (blanks (a := c.2.1) (b := ptx r) (fun j hj => ?_) (by rw [List.length_append]; omega) hw hr.bl).trans (by omega)
    rw [Nat.add_assoc, hB2 (c.1.length + j) (by simp only [List.length_append] at hj ⊢; omega), getD_app]
theorem tok_pos (hG : GD P none) (hB : ∀ i, i < (ptx P).length → B i = (ptx P).getD i 0) (hl : ln = (ptx P).length) : ∀ i, i ≤ P.length → tP B ln i = (ptx (P.take i)).length := by
  intro i
  induction i with
  | zero =>
    intro _
    show rn blB B ln 0 = 0
    exact blanks (a := []) (b := ptx P) (p := 0) (fun j hj => by rw [Nat.zero_add]; exact hB j hj) (by rw [hl, Nat.zero_add]; rfl) (fun x hx => by cases hx) hG.bl
  | succ i ih =>
    intro hi
    have e : P = P.take i ++ P[i]'(by omega) :: P.drop (i + 1) := by
      rw [← List.drop_eq_getElem_cons (by omega : i < P.length), List.take_append_drop]
    have := (tok_step e hG hB hl (ih (by omega))).2.2.2
    rw [this, List.take_add_one, List.getElem?_eq_getElem (by omega : i < P.length)]
    rfl
/-- the tokens of a text in pieces -/
theorem Toks.pcs (hG : GD P none) (hB : ∀ i, i < (ptx P).length → B i = (ptx P).getD i 0) (hl : ln = (ptx P).length) (h400 : P.length < 400) {lt : Nat} {σ : Nat → Nat} {st : Nat → Int32} {vl : Nat → Int64} (h : Toks B ln lt σ st vl) :
    lt = P.length ∧ σ lt = 45 ∧ ∀ i (hi : i < P.length), σ i = (P[i]).2.2.1 ∧ ((ltB (LT (P[i]).1 0) = true ∨ dgB (LT (P[i]).1 0) = true) → vl i = (P[i]).2.2.2) := by
  have step : ∀ i (hi : i < P.length), _ := fun i hi => tok_step (P1 := P.take i) (c := P[i]) (r := P.drop (i + 1)) (by rw [← List.drop_eq_getElem_cons hi, List.take_append_drop]) hG hB hl (tok_pos hG hB hl i (by omega))
  obtain ⟨h1, h2, h3, h4, h5⟩ := h
  have hend : tP B ln P.length = ln := by rw [tok_pos hG hB hl _ (Nat.le_refl _), List.take_length, hl]
  have elt : lt = P.length := by
    rcases Nat.lt_trichotomy lt P.length with q | q | q
    · rcases h3 with z | z
      · omega
      · exact absurd (step lt q).1 z
    · exact q
    · have := (h2 _ q).1.1
      rw [hend] at this; omega
  subst elt
  refine ⟨rfl, by rw [h5, hend, if_neg (Nat.lt_irrefl _)], fun i hi => ?_⟩
  obtain ⟨g1, g2, g3, g4⟩ := h2 i hi
  obtain ⟨s1, s2, s3, s4⟩ := step i hi
  exact ⟨g2.trans s2, fun q => (g4 (s3 q).1).trans (s3 q).2⟩
end TKL
