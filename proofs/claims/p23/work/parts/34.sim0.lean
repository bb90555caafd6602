/-! The law's own road: an object at j, five arrays of rows (A 3 road, A 4 horse, A 5 log, A 6 hauls, A 7 waits), the rows Rw f i; all in [j, e). cn f: how many rows. -/
def SMT (τ : TY) (j e : Nat) (A : Nat → Nat) (Rw : Nat → Nat → Nat) (cn : Nat → Nat) : Prop :=
  τ j = (9, 0) ∧ (τ (A 3) = (108, cn 3) ∧ τ (A 4) = (108, cn 4) ∧ τ (A 5) = (108, cn 5) ∧ τ (A 6) = (108, cn 6) ∧ τ (A 7) = (108, cn 7)) ∧
  ((∀ i, i < cn 3 → τ (Rw 3 i) = (100, 3)) ∧ (∀ i, i < cn 4 → τ (Rw 4 i) = (100, 10)) ∧ (∀ i, i < cn 5 → τ (Rw 5 i) = (100, 4)) ∧ (∀ i, i < cn 6 → τ (Rw 6 i) = (100, 7)) ∧ (∀ i, i < cn 7 → τ (Rw 7 i) = (100, 5))) ∧
  (j < e ∧ (∀ f, 3 ≤ f → f < 8 → j < A f ∧ A f < e) ∧ (∀ f i, 3 ≤ f → f < 8 → i < cn f → j < Rw f i ∧ Rw f i < e)) ∧
  (∀ f i i', 3 ≤ f → f < 8 → i < cn f → i' < cn f → Rw f i = Rw f i' → i = i')
def SMP (M : ME) (j : Nat) (A : Nat → Nat) (Rw : Nat → Nat → Nat) (cn : Nat → Nat) : Prop :=
  (∀ f, 3 ≤ f → f < 8 → M j f = .ref (A f)) ∧ (∀ f i, 3 ≤ f → f < 8 → i < cn f → M (A f) i = .ref (Rw f i))
def SMV (M : ME) (j : Nat) (Rw : Nat → Nat → Nat) (cn : Nat → Nat) (ρ : RH) (μ : Nat → Int32) (κ ω : Nat → Nat → Int32) : Prop :=
  (∀ k, k < 3 → M j k = .int (ρ (6 + k) 0)) ∧ (∀ i k, i < cn 3 → k < 3 → M (Rw 3 i) k = .int (ρ (41 + k) i)) ∧ (∀ i k, i < cn 4 → k < 9 → M (Rw 4 i) k = .int (ρ (11 + k) i)) ∧ (∀ i, i < cn 4 → M (Rw 4 i) 9 = .int (μ i)) ∧
  (∀ i k, i < cn 5 → k < 4 → M (Rw 5 i) k = .int (ρ (31 + k) i)) ∧ (∀ i k, i < cn 6 → k < 7 → M (Rw 6 i) k = .int (κ i k)) ∧ (∀ i k, i < cn 7 → k < 5 → M (Rw 7 i) k = .int (ω i k))
def CnOK (cn : Nat → Nat) : Prop := (1 ≤ cn 3 ∧ cn 3 ≤ 6) ∧ (1 ≤ cn 4 ∧ cn 4 ≤ 5) ∧ cn 5 ≤ 14 ∧ cn 6 ≤ 5 ∧ cn 7 ≤ 3
def SM (τ : TY) (M0 M : ME) (j e : Nat) (A : Nat → Nat) (Rw : Nat → Nat → Nat) (cn : Nat → Nat) (ρ : RH) (μ : Nat → Int32) (κ ω : Nat → Nat → Int32) : Prop :=
  CnOK cn ∧ SMT τ j e A Rw cn ∧ SMP M j A Rw cn ∧ SMV M j Rw cn ρ μ κ ω ∧ Fr j e M0 M
section SIM
variable {τ : TY} {M0 M M1 : ME} {j e : Nat} {A : Nat → Nat} {Rw : Nat → Nat → Nat} {cn : Nat → Nat} {ρ : RH} {μ : Nat → Int32} {κ ω : Nat → Nat → Int32}
theorem SM.ok (h : SM τ M0 M j e A Rw cn ρ μ κ ω) : CnOK cn := h.1
theorem SM.frame (h : SM τ M0 M j e A Rw cn ρ μ κ ω) : Fr j e M0 M := h.2.2.2.2
theorem SM.t0 (h : SM τ M0 M j e A Rw cn ρ μ κ ω) : τ j = (9, 0) := h.2.1.1
theorem SM.ta3 (h : SM τ M0 M j e A Rw cn ρ μ κ ω) : τ (A 3) = (108, cn 3) := h.2.1.2.1.1
theorem SM.ta4 (h : SM τ M0 M j e A Rw cn ρ μ κ ω) : τ (A 4) = (108, cn 4) := h.2.1.2.1.2.1
theorem SM.ta5 (h : SM τ M0 M j e A Rw cn ρ μ κ ω) : τ (A 5) = (108, cn 5) := h.2.1.2.1.2.2.1
theorem SM.ta6 (h : SM τ M0 M j e A Rw cn ρ μ κ ω) : τ (A 6) = (108, cn 6) := h.2.1.2.1.2.2.2.1
theorem SM.ta7 (h : SM τ M0 M j e A Rw cn ρ μ κ ω) : τ (A 7) = (108, cn 7) := h.2.1.2.1.2.2.2.2
theorem SM.tr3 (h : SM τ M0 M j e A Rw cn ρ μ κ ω) {i : Nat} (hi : i < cn 3) : τ (Rw 3 i) = (100, 3) := h.2.1.2.2.1.1 i hi
theorem SM.tr4 (h : SM τ M0 M j e A Rw cn ρ μ κ ω) {i : Nat} (hi : i < cn 4) : τ (Rw 4 i) = (100, 10) := h.2.1.2.2.1.2.1 i hi
theorem SM.tr5 (h : SM τ M0 M j e A Rw cn ρ μ κ ω) {i : Nat} (hi : i < cn 5) : τ (Rw 5 i) = (100, 4) := h.2.1.2.2.1.2.2.1 i hi
theorem SM.tr6 (h : SM τ M0 M j e A Rw cn ρ μ κ ω) {i : Nat} (hi : i < cn 6) : τ (Rw 6 i) = (100, 7) := h.2.1.2.2.1.2.2.2.1 i hi
theorem SM.tr7 (h : SM τ M0 M j e A Rw cn ρ μ κ ω) {i : Nat} (hi : i < cn 7) : τ (Rw 7 i) = (100, 5) := h.2.1.2.2.1.2.2.2.2 i hi
theorem SM.inj (h : SM τ M0 M j e A Rw cn ρ μ κ ω) {f i i' : Nat} (h3 : 3 ≤ f) (h8 : f < 8) (hi : i < cn f) (hi' : i' < cn f) (q : Rw f i = Rw f i') : i = i' := h.2.1.2.2.2.2 f i i' h3 h8 hi hi' q
theorem SM.pa (h : SM τ M0 M j e A Rw cn ρ μ κ ω) {f : Nat} (h3 : 3 ≤ f) (h8 : f < 8) : M j f = .ref (A f) := h.2.2.1.1 f h3 h8
theorem SM.pr (h : SM τ M0 M j e A Rw cn ρ μ κ ω) {f i : Nat} (h3 : 3 ≤ f) (h8 : f < 8) (hi : i < cn f) : M (A f) i = .ref (Rw f i) := h.2.2.1.2 f i h3 h8 hi
theorem SM.rf (h : SM τ M0 M j e A Rw cn ρ μ κ ω) : SM τ M M j e A Rw cn ρ μ κ ω := ⟨h.1, h.2.1, h.2.2.1, h.2.2.2.1, Fr.rf _ _ _⟩
theorem SM.bs (h : SM τ M1 M j e A Rw cn ρ μ κ ω) (h2 : Fr j e M0 M1) : SM τ M0 M j e A Rw cn ρ μ κ ω := ⟨h.1, h.2.1, h.2.2.1, h.2.2.2.1, h2.tr h.2.2.2.2⟩
theorem SM.mv (h : SM τ M0 M j e A Rw cn ρ μ κ ω) (q : M1 = M) : SM τ M0 M1 j e A Rw cn ρ μ κ ω := by subst q; exact h
theorem SM.in0 (h : SM τ M0 M j e A Rw cn ρ μ κ ω) : j < e := h.2.1.2.2.2.1.1
theorem SM.inA (h : SM τ M0 M j e A Rw cn ρ μ κ ω) {f : Nat} (h3 : 3 ≤ f) (h8 : f < 8) : j < A f ∧ A f < e := h.2.1.2.2.2.1.2.1 f h3 h8
theorem SM.inR (h : SM τ M0 M j e A Rw cn ρ μ κ ω) {f i : Nat} (h3 : 3 ≤ f) (h8 : f < 8) (hi : i < cn f) : j < Rw f i ∧ Rw f i < e := h.2.1.2.2.2.1.2.2 f i h3 h8 hi
theorem SM.fr (h : SM τ M0 M j e A Rw cn ρ μ κ ω) (hf : ∀ q, j ≤ q → q < e → M1 q = M q) : SM τ M1 M1 j e A Rw cn ρ μ κ ω := by
  have r0 := h.in0
  obtain ⟨h1, h2, ⟨p1, p2⟩, ⟨v1, v2, v3, v4, v5, v6, v7⟩, -⟩ := id h
  have hR : ∀ f i, 3 ≤ f → f < 8 → i < cn f → M1 (Rw f i) = M (Rw f i) := fun f i a b c => hf _ (by have := h.inR a b c; omega) (h.inR a b c).2
  refine ⟨h1, h2, ⟨fun f a b => ?_, fun f i a b c => ?_⟩, ⟨fun k a => ?_, fun i k a b => ?_, fun i k a b => ?_, fun i a => ?_, fun i k a b => ?_, fun i k a b => ?_, fun i k a b => ?_⟩, Fr.rf _ _ _⟩
  · rw [hf j (Nat.le_refl _) r0]; exact p1 f a b
  · rw [hf _ (by have := h.inA a b; omega) (h.inA a b).2]; exact p2 f i a b c
  · rw [hf j (Nat.le_refl _) r0]; exact v1 k a
  · rw [hR 3 i (by decide) (by decide) a]; exact v2 i k a b
  · rw [hR 4 i (by decide) (by decide) a]; exact v3 i k a b
  · rw [hR 4 i (by decide) (by decide) a]; exact v4 i a
  · rw [hR 5 i (by decide) (by decide) a]; exact v5 i k a b
  · rw [hR 6 i (by decide) (by decide) a]; exact v6 i k a b
  · rw [hR 7 i (by decide) (by decide) a]; exact v7 i k a b
theorem SM.frU {q k : Nat} {v : Value} (h : SM τ M0 M j e A Rw cn ρ μ κ ω) (ee : M1 = up M q k v) (hd : q < j ∨ e ≤ q) : SM τ M1 M1 j e A Rw cn ρ μ κ ω := h.fr (fun b h1 h2 => by rw [ee]; exact up_a (by omega))
theorem SM.nx {lo hi : Nat} (h : SM τ M0 M j e A Rw cn ρ μ κ ω) (ee : Fr lo hi M M1) (hd : hi ≤ j ∨ e ≤ lo) : SM τ M1 M1 j e A Rw cn ρ μ κ ω := h.fr (fun b h1 h2 => ee b (by omega))
theorem SM.tau {τ' : TY} (h : SM τ M0 M j e A Rw cn ρ μ κ ω) (hf : ∀ q, j ≤ q → q < e → τ' q = τ q) : SM τ' M0 M j e A Rw cn ρ μ κ ω := by
  have r0 := h.in0
  obtain ⟨h1, ⟨t1, ⟨t2, t3, t4, t5, t6⟩, ⟨t7, t8, t9, t10, t11⟩, t12, t13⟩, h3⟩ := id h
  have hA : ∀ f, 3 ≤ f → f < 8 → τ' (A f) = τ (A f) := fun f a b => hf _ (by have := h.inA a b; omega) (h.inA a b).2
  have hR : ∀ f i, 3 ≤ f → f < 8 → i < cn f → τ' (Rw f i) = τ (Rw f i) := fun f i a b c => hf _ (by have := h.inR a b c; omega) (h.inR a b c).2
  refine ⟨h1, ⟨(hf j (Nat.le_refl _) r0).trans t1, ⟨?_, ?_, ?_, ?_, ?_⟩, ⟨fun i q => ?_, fun i q => ?_, fun i q => ?_, fun i q => ?_, fun i q => ?_⟩, t12, t13⟩, h3⟩
  · rw [hA 3 (by decide) (by decide)]; exact t2
  · rw [hA 4 (by decide) (by decide)]; exact t3
  · rw [hA 5 (by decide) (by decide)]; exact t4
  · rw [hA 6 (by decide) (by decide)]; exact t5
  · rw [hA 7 (by decide) (by decide)]; exact t6
  · rw [hR 3 i (by decide) (by decide) q]; exact t7 i q
  · rw [hR 4 i (by decide) (by decide) q]; exact t8 i q
  · rw [hR 5 i (by decide) (by decide) q]; exact t9 i q
  · rw [hR 6 i (by decide) (by decide) q]; exact t10 i q
  · rw [hR 7 i (by decide) (by decide) q]; exact t11 i q
/-- what of ρ and μ is told -/
def SM_in (cn : Nat → Nat) (f i : Nat) : Prop := (6 ≤ f ∧ f < 9 ∧ i = 0) ∨ (41 ≤ f ∧ f < 44 ∧ i < cn 3) ∨ (11 ≤ f ∧ f < 20 ∧ i < cn 4) ∨ (31 ≤ f ∧ f < 35 ∧ i < cn 5)
theorem SM.cg {ρ' : RH} (h : SM τ M0 M j e A Rw cn ρ μ κ ω) (q : ∀ f i, SM_in cn f i → ρ f i = ρ' f i) : SM τ M0 M j e A Rw cn ρ' μ κ ω := by
  obtain ⟨h1, h2, h3, ⟨v1, v2, v3, v4, v5, v6, v7⟩, hF⟩ := h
  refine ⟨h1, h2, h3, ⟨fun k a => ?_, fun i k a b => ?_, fun i k a b => ?_, v4, fun i k a b => ?_, v6, v7⟩, hF⟩
  · rw [← q _ _ (Or.inl ⟨by omega, by omega, rfl⟩)]; exact v1 k a
  · rw [← q _ _ (Or.inr (Or.inl ⟨by omega, by omega, a⟩))]; exact v2 i k a b
  · rw [← q _ _ (Or.inr (Or.inr (Or.inl ⟨by omega, by omega, a⟩)))]; exact v3 i k a b
  · rw [← q _ _ (Or.inr (Or.inr (Or.inr ⟨by omega, by omega, a⟩)))]; exact v5 i k a b
theorem SM.cm {μ' : Nat → Int32} (h : SM τ M0 M j e A Rw cn ρ μ κ ω) (q : ∀ i, i < cn 4 → μ i = μ' i) : SM τ M0 M j e A Rw cn ρ μ' κ ω := by
  obtain ⟨h1, h2, h3, ⟨v1, v2, v3, v4, v5, v6, v7⟩, hF⟩ := h
  exact ⟨h1, h2, h3, ⟨v1, v2, v3, fun i a => by rw [← q i a]; exact v4 i a, v5, v6, v7⟩, hF⟩
theorem kne {a b : Nat} {x y : KD} (h1 : τ a = x) (h2 : τ b = y) (h : x ≠ y) : a ≠ b := fun q => h (by rw [← h1, ← h2, q])
/-- pointers stay where a row, or a number of the object, is written -/
theorem SM.pup (h : SM τ M0 M j e A Rw cn ρ μ κ ω) {q k n : Nat} {v : Value} (hq : (q = j ∧ k < 3) ∨ τ q = (100, n)) : SMP (up M q k v) j A Rw cn := by
  obtain ⟨h1, h2, ⟨p1, p2⟩, -⟩ := id h
  have t0 := h.t0
  have tA : ∀ f, 3 ≤ f → f < 8 → τ (A f) = (108, cn f) := fun f a b => by
    rcases (by omega : f = 3 ∨ f = 4 ∨ f = 5 ∨ f = 6 ∨ f = 7) with rfl | rfl | rfl | rfl | rfl
    · exact h.ta3
    · exact h.ta4
    · exact h.ta5
    · exact h.ta6
    · exact h.ta7
  refine ⟨fun f a b => ?_, fun f i a b c => ?_⟩
  · rcases hq with ⟨rfl, hk⟩ | hq
    · rw [up_k (by omega)]; exact p1 f a b
    · rw [up_a (kne t0 hq (by simp))]; exact p1 f a b
  · have : A f ≠ q := by
      rcases hq with ⟨rfl, hk⟩ | hq
      · exact kne (tA f a b) t0 (by simp)
      · exact kne (tA f a b) hq (by simp)
    rw [up_a this]; exact p2 f i a b c
theorem SM.g0_0 (h : SM τ M0 M j e A Rw cn ρ μ κ ω) : M j 0 = .int (ρ 6 0) := h.2.2.2.1.1 0 (by decide)
theorem SM.g0_1 (h : SM τ M0 M j e A Rw cn ρ μ κ ω) : M j 1 = .int (ρ 7 0) := h.2.2.2.1.1 1 (by decide)
theorem SM.g0_2 (h : SM τ M0 M j e A Rw cn ρ μ κ ω) : M j 2 = .int (ρ 8 0) := h.2.2.2.1.1 2 (by decide)
theorem SM.g3_0 (h : SM τ M0 M j e A Rw cn ρ μ κ ω) {i : Nat} (hi : i < cn 3) : M (Rw 3 i) 0 = .int (ρ 41 i) := h.2.2.2.1.2.1 i 0 hi (by decide)
theorem SM.g3_1 (h : SM τ M0 M j e A Rw cn ρ μ κ ω) {i : Nat} (hi : i < cn 3) : M (Rw 3 i) 1 = .int (ρ 42 i) := h.2.2.2.1.2.1 i 1 hi (by decide)
theorem SM.g3_2 (h : SM τ M0 M j e A Rw cn ρ μ κ ω) {i : Nat} (hi : i < cn 3) : M (Rw 3 i) 2 = .int (ρ 43 i) := h.2.2.2.1.2.1 i 2 hi (by decide)
theorem SM.g4_0 (h : SM τ M0 M j e A Rw cn ρ μ κ ω) {i : Nat} (hi : i < cn 4) : M (Rw 4 i) 0 = .int (ρ 11 i) := h.2.2.2.1.2.2.1 i 0 hi (by decide)
theorem SM.g4_1 (h : SM τ M0 M j e A Rw cn ρ μ κ ω) {i : Nat} (hi : i < cn 4) : M (Rw 4 i) 1 = .int (ρ 12 i) := h.2.2.2.1.2.2.1 i 1 hi (by decide)
theorem SM.g4_2 (h : SM τ M0 M j e A Rw cn ρ μ κ ω) {i : Nat} (hi : i < cn 4) : M (Rw 4 i) 2 = .int (ρ 13 i) := h.2.2.2.1.2.2.1 i 2 hi (by decide)
theorem SM.g4_3 (h : SM τ M0 M j e A Rw cn ρ μ κ ω) {i : Nat} (hi : i < cn 4) : M (Rw 4 i) 3 = .int (ρ 14 i) := h.2.2.2.1.2.2.1 i 3 hi (by decide)
theorem SM.g4_4 (h : SM τ M0 M j e A Rw cn ρ μ κ ω) {i : Nat} (hi : i < cn 4) : M (Rw 4 i) 4 = .int (ρ 15 i) := h.2.2.2.1.2.2.1 i 4 hi (by decide)
theorem SM.g4_5 (h : SM τ M0 M j e A Rw cn ρ μ κ ω) {i : Nat} (hi : i < cn 4) : M (Rw 4 i) 5 = .int (ρ 16 i) := h.2.2.2.1.2.2.1 i 5 hi (by decide)
theorem SM.g4_6 (h : SM τ M0 M j e A Rw cn ρ μ κ ω) {i : Nat} (hi : i < cn 4) : M (Rw 4 i) 6 = .int (ρ 17 i) := h.2.2.2.1.2.2.1 i 6 hi (by decide)
theorem SM.g4_7 (h : SM τ M0 M j e A Rw cn ρ μ κ ω) {i : Nat} (hi : i < cn 4) : M (Rw 4 i) 7 = .int (ρ 18 i) := h.2.2.2.1.2.2.1 i 7 hi (by decide)
theorem SM.g4_8 (h : SM τ M0 M j e A Rw cn ρ μ κ ω) {i : Nat} (hi : i < cn 4) : M (Rw 4 i) 8 = .int (ρ 19 i) := h.2.2.2.1.2.2.1 i 8 hi (by decide)
theorem SM.g4_9 (h : SM τ M0 M j e A Rw cn ρ μ κ ω) {i : Nat} (hi : i < cn 4) : M (Rw 4 i) 9 = .int (μ i) := h.2.2.2.1.2.2.2.1 i hi
theorem SM.g5_0 (h : SM τ M0 M j e A Rw cn ρ μ κ ω) {i : Nat} (hi : i < cn 5) : M (Rw 5 i) 0 = .int (ρ 31 i) := h.2.2.2.1.2.2.2.2.1 i 0 hi (by decide)
theorem SM.g5_1 (h : SM τ M0 M j e A Rw cn ρ μ κ ω) {i : Nat} (hi : i < cn 5) : M (Rw 5 i) 1 = .int (ρ 32 i) := h.2.2.2.1.2.2.2.2.1 i 1 hi (by decide)
theorem SM.g5_2 (h : SM τ M0 M j e A Rw cn ρ μ κ ω) {i : Nat} (hi : i < cn 5) : M (Rw 5 i) 2 = .int (ρ 33 i) := h.2.2.2.1.2.2.2.2.1 i 2 hi (by decide)
theorem SM.g5_3 (h : SM τ M0 M j e A Rw cn ρ μ κ ω) {i : Nat} (hi : i < cn 5) : M (Rw 5 i) 3 = .int (ρ 34 i) := h.2.2.2.1.2.2.2.2.1 i 3 hi (by decide)
theorem SM.g6_0 (h : SM τ M0 M j e A Rw cn ρ μ κ ω) {i : Nat} (hi : i < cn 6) : M (Rw 6 i) 0 = .int (κ i 0) := h.2.2.2.1.2.2.2.2.2.1 i 0 hi (by decide)
theorem SM.g6_1 (h : SM τ M0 M j e A Rw cn ρ μ κ ω) {i : Nat} (hi : i < cn 6) : M (Rw 6 i) 1 = .int (κ i 1) := h.2.2.2.1.2.2.2.2.2.1 i 1 hi (by decide)
theorem SM.g6_2 (h : SM τ M0 M j e A Rw cn ρ μ κ ω) {i : Nat} (hi : i < cn 6) : M (Rw 6 i) 2 = .int (κ i 2) := h.2.2.2.1.2.2.2.2.2.1 i 2 hi (by decide)
theorem SM.g6_3 (h : SM τ M0 M j e A Rw cn ρ μ κ ω) {i : Nat} (hi : i < cn 6) : M (Rw 6 i) 3 = .int (κ i 3) := h.2.2.2.1.2.2.2.2.2.1 i 3 hi (by decide)
theorem SM.g6_4 (h : SM τ M0 M j e A Rw cn ρ μ κ ω) {i : Nat} (hi : i < cn 6) : M (Rw 6 i) 4 = .int (κ i 4) := h.2.2.2.1.2.2.2.2.2.1 i 4 hi (by decide)
theorem SM.g6_5 (h : SM τ M0 M j e A Rw cn ρ μ κ ω) {i : Nat} (hi : i < cn 6) : M (Rw 6 i) 5 = .int (κ i 5) := h.2.2.2.1.2.2.2.2.2.1 i 5 hi (by decide)
theorem SM.g6_6 (h : SM τ M0 M j e A Rw cn ρ μ κ ω) {i : Nat} (hi : i < cn 6) : M (Rw 6 i) 6 = .int (κ i 6) := h.2.2.2.1.2.2.2.2.2.1 i 6 hi (by decide)
theorem SM.g7_0 (h : SM τ M0 M j e A Rw cn ρ μ κ ω) {i : Nat} (hi : i < cn 7) : M (Rw 7 i) 0 = .int (ω i 0) := h.2.2.2.1.2.2.2.2.2.2 i 0 hi (by decide)
theorem SM.g7_1 (h : SM τ M0 M j e A Rw cn ρ μ κ ω) {i : Nat} (hi : i < cn 7) : M (Rw 7 i) 1 = .int (ω i 1) := h.2.2.2.1.2.2.2.2.2.2 i 1 hi (by decide)
theorem SM.g7_2 (h : SM τ M0 M j e A Rw cn ρ μ κ ω) {i : Nat} (hi : i < cn 7) : M (Rw 7 i) 2 = .int (ω i 2) := h.2.2.2.1.2.2.2.2.2.2 i 2 hi (by decide)
theorem SM.g7_3 (h : SM τ M0 M j e A Rw cn ρ μ κ ω) {i : Nat} (hi : i < cn 7) : M (Rw 7 i) 3 = .int (ω i 3) := h.2.2.2.1.2.2.2.2.2.2 i 3 hi (by decide)
theorem SM.g7_4 (h : SM τ M0 M j e A Rw cn ρ μ κ ω) {i : Nat} (hi : i < cn 7) : M (Rw 7 i) 4 = .int (ω i 4) := h.2.2.2.1.2.2.2.2.2.2 i 4 hi (by decide)
theorem SM.w3 (h : SM τ M0 M j e A Rw cn ρ μ κ ω) {i0 k0 : Nat} {x : Int32} (hi : i0 < cn 3) (hk : k0 < 3) : SM τ M0 (up M (Rw 3 i0) k0 (.int x)) j e A Rw cn (u2 ρ (41 + k0) i0 x) μ κ ω := by
  have tq := h.tr3 hi
  obtain ⟨h1, h2, h3, ⟨v1, v2, v3, v4, v5, v6, v7⟩, hF⟩ := id h
  refine ⟨h1, h2, h.pup (Or.inr tq), ⟨fun k a => ?_, fun i k a b => ?_, fun i k a b => ?_, fun i a => ?_, fun i k a b => ?_, fun i k a b => ?_, fun i k a b => ?_⟩, hF.up (by have := h.inR (f := 3) (by decide) (by decide) hi; omega)⟩
  · rw [up_a (kne h.t0 tq (by simp))]; rw [u2_f (by omega)]; exact v1 k a
  · by_cases c1 : i = i0 ∧ k = k0
    · rw [c1.1, c1.2, up_s, u2_s]
    · by_cases c2 : i = i0
      · subst c2
        rw [up_k (fun q => c1 ⟨rfl, q⟩), u2_f (by omega)]; exact v2 i k a b
      · rw [up_a (fun q => c2 (h.inj (f := 3) (by decide) (by decide) a hi q)), u2_i c2]; exact v2 i k a b
  · rw [up_a (kne (h.tr4 a) tq (by simp))]; rw [u2_f (by omega)]; exact v3 i k a b
  · rw [up_a (kne (h.tr4 a) tq (by simp))]; exact v4 i a
  · rw [up_a (kne (h.tr5 a) tq (by simp))]; rw [u2_f (by omega)]; exact v5 i k a b
  · rw [up_a (kne (h.tr6 a) tq (by simp))]; exact v6 i k a b
  · rw [up_a (kne (h.tr7 a) tq (by simp))]; exact v7 i k a b
theorem SM.w4 (h : SM τ M0 M j e A Rw cn ρ μ κ ω) {i0 k0 : Nat} {x : Int32} (hi : i0 < cn 4) (hk : k0 < 9) : SM τ M0 (up M (Rw 4 i0) k0 (.int x)) j e A Rw cn (u2 ρ (11 + k0) i0 x) μ κ ω := by
  have tq := h.tr4 hi
  obtain ⟨h1, h2, h3, ⟨v1, v2, v3, v4, v5, v6, v7⟩, hF⟩ := id h
  refine ⟨h1, h2, h.pup (Or.inr tq), ⟨fun k a => ?_, fun i k a b => ?_, fun i k a b => ?_, fun i a => ?_, fun i k a b => ?_, fun i k a b => ?_, fun i k a b => ?_⟩, hF.up (by have := h.inR (f := 4) (by decide) (by decide) hi; omega)⟩
  · rw [up_a (kne h.t0 tq (by simp))]; rw [u2_f (by omega)]; exact v1 k a
  · rw [up_a (kne (h.tr3 a) tq (by simp))]; rw [u2_f (by omega)]; exact v2 i k a b
  · by_cases c1 : i = i0 ∧ k = k0
    · rw [c1.1, c1.2, up_s, u2_s]
    · by_cases c2 : i = i0
      · subst c2
        rw [up_k (fun q => c1 ⟨rfl, q⟩), u2_f (by omega)]; exact v3 i k a b
      · rw [up_a (fun q => c2 (h.inj (f := 4) (by decide) (by decide) a hi q)), u2_i c2]; exact v3 i k a b
  · by_cases c2 : i = i0
    · subst c2
      rw [up_k (by omega)]; exact v4 i a
    · rw [up_a (fun q => c2 (h.inj (f := 4) (by decide) (by decide) a hi q))]; exact v4 i a
  · rw [up_a (kne (h.tr5 a) tq (by simp))]; rw [u2_f (by omega)]; exact v5 i k a b
  · rw [up_a (kne (h.tr6 a) tq (by simp))]; exact v6 i k a b
  · rw [up_a (kne (h.tr7 a) tq (by simp))]; exact v7 i k a b
theorem SM.w5 (h : SM τ M0 M j e A Rw cn ρ μ κ ω) {i0 k0 : Nat} {x : Int32} (hi : i0 < cn 5) (hk : k0 < 4) : SM τ M0 (up M (Rw 5 i0) k0 (.int x)) j e A Rw cn (u2 ρ (31 + k0) i0 x) μ κ ω := by
  have tq := h.tr5 hi
  obtain ⟨h1, h2, h3, ⟨v1, v2, v3, v4, v5, v6, v7⟩, hF⟩ := id h
  refine ⟨h1, h2, h.pup (Or.inr tq), ⟨fun k a => ?_, fun i k a b => ?_, fun i k a b => ?_, fun i a => ?_, fun i k a b => ?_, fun i k a b => ?_, fun i k a b => ?_⟩, hF.up (by have := h.inR (f := 5) (by decide) (by decide) hi; omega)⟩
  · rw [up_a (kne h.t0 tq (by simp))]; rw [u2_f (by omega)]; exact v1 k a
  · rw [up_a (kne (h.tr3 a) tq (by simp))]; rw [u2_f (by omega)]; exact v2 i k a b
  · rw [up_a (kne (h.tr4 a) tq (by simp))]; rw [u2_f (by omega)]; exact v3 i k a b
  · rw [up_a (kne (h.tr4 a) tq (by simp))]; exact v4 i a
  · by_cases c1 : i = i0 ∧ k = k0
    · rw [c1.1, c1.2, up_s, u2_s]
    · by_cases c2 : i = i0
      · subst c2
        rw [up_k (fun q => c1 ⟨rfl, q⟩), u2_f (by omega)]; exact v5 i k a b
      · rw [up_a (fun q => c2 (h.inj (f := 5) (by decide) (by decide) a hi q)), u2_i c2]; exact v5 i k a b
  · rw [up_a (kne (h.tr6 a) tq (by simp))]; exact v6 i k a b
  · rw [up_a (kne (h.tr7 a) tq (by simp))]; exact v7 i k a b
theorem SM.w49 (h : SM τ M0 M j e A Rw cn ρ μ κ ω) {i0 : Nat} {x : Int32} (hi : i0 < cn 4) : SM τ M0 (up M (Rw 4 i0) 9 (.int x)) j e A Rw cn ρ (uI μ i0 x) κ ω := by
  have tq := h.tr4 hi
  obtain ⟨h1, h2, h3, ⟨v1, v2, v3, v4, v5, v6, v7⟩, hF⟩ := id h
  refine ⟨h1, h2, h.pup (Or.inr tq), ⟨fun k a => ?_, fun i k a b => ?_, fun i k a b => ?_, fun i a => ?_, fun i k a b => ?_, fun i k a b => ?_, fun i k a b => ?_⟩, hF.up (by have := h.inR (f := 4) (by decide) (by decide) hi; omega)⟩
  · rw [up_a (kne h.t0 tq (by simp))]; exact v1 k a
  · rw [up_a (kne (h.tr3 a) tq (by simp))]; exact v2 i k a b
  · by_cases c2 : i = i0
    · subst c2
      rw [up_k (by omega)]; exact v3 i k a b
    · rw [up_a (fun q => c2 (h.inj (f := 4) (by decide) (by decide) a hi q))]; exact v3 i k a b
  · by_cases c2 : i = i0
    · subst c2
      rw [up_s, uI_s]
    · rw [up_a (fun q => c2 (h.inj (f := 4) (by decide) (by decide) a hi q)), uI_i c2]; exact v4 i a
  · rw [up_a (kne (h.tr5 a) tq (by simp))]; exact v5 i k a b
  · rw [up_a (kne (h.tr6 a) tq (by simp))]; exact v6 i k a b
  · rw [up_a (kne (h.tr7 a) tq (by simp))]; exact v7 i k a b
theorem SM.w0 (h : SM τ M0 M j e A Rw cn ρ μ κ ω) {k0 : Nat} {x : Int32} (hk : k0 < 3) : SM τ M0 (up M j k0 (.int x)) j e A Rw cn (u2 ρ (6 + k0) 0 x) μ κ ω := by
  have tq := h.t0
  obtain ⟨h1, h2, h3, ⟨v1, v2, v3, v4, v5, v6, v7⟩, hF⟩ := id h
  refine ⟨h1, h2, h.pup (n := 0) (Or.inl ⟨rfl, hk⟩), ⟨fun k a => ?_, fun i k a b => ?_, fun i k a b => ?_, fun i a => ?_, fun i k a b => ?_, fun i k a b => ?_, fun i k a b => ?_⟩, hF.up (by have := h.in0; omega)⟩
  · by_cases c1 : k = k0
    · rw [c1, up_s, u2_s]
    · rw [up_k c1, u2_f (by omega)]; exact v1 k a
  · rw [up_a (kne (h.tr3 a) tq (by simp)), u2_f (by omega)]; exact v2 i k a b
  · rw [up_a (kne (h.tr4 a) tq (by simp)), u2_f (by omega)]; exact v3 i k a b
  · rw [up_a (kne (h.tr4 a) tq (by simp))]; exact v4 i a
  · rw [up_a (kne (h.tr5 a) tq (by simp)), u2_f (by omega)]; exact v5 i k a b
  · rw [up_a (kne (h.tr6 a) tq (by simp))]; exact v6 i k a b
  · rw [up_a (kne (h.tr7 a) tq (by simp))]; exact v7 i k a b
theorem SM.p0_0 {x : Int32} (h : SM τ M0 M j e A Rw cn ρ μ κ ω) : SM τ M0 (up M j 0 (.int x)) j e A Rw cn (u2 ρ 6 0 x) μ κ ω := h.w0 (k0 := 0) (by decide)
theorem SM.p0_1 {x : Int32} (h : SM τ M0 M j e A Rw cn ρ μ κ ω) : SM τ M0 (up M j 1 (.int x)) j e A Rw cn (u2 ρ 7 0 x) μ κ ω := h.w0 (k0 := 1) (by decide)
theorem SM.p0_2 {x : Int32} (h : SM τ M0 M j e A Rw cn ρ μ κ ω) : SM τ M0 (up M j 2 (.int x)) j e A Rw cn (u2 ρ 8 0 x) μ κ ω := h.w0 (k0 := 2) (by decide)
theorem SM.p3_0 {x : Int32} (h : SM τ M0 M j e A Rw cn ρ μ κ ω) {i0 : Nat} (hi : i0 < cn 3) : SM τ M0 (up M (Rw 3 i0) 0 (.int x)) j e A Rw cn (u2 ρ 41 i0 x) μ κ ω := h.w3 (k0 := 0) hi (by decide)
theorem SM.p3_1 {x : Int32} (h : SM τ M0 M j e A Rw cn ρ μ κ ω) {i0 : Nat} (hi : i0 < cn 3) : SM τ M0 (up M (Rw 3 i0) 1 (.int x)) j e A Rw cn (u2 ρ 42 i0 x) μ κ ω := h.w3 (k0 := 1) hi (by decide)
theorem SM.p3_2 {x : Int32} (h : SM τ M0 M j e A Rw cn ρ μ κ ω) {i0 : Nat} (hi : i0 < cn 3) : SM τ M0 (up M (Rw 3 i0) 2 (.int x)) j e A Rw cn (u2 ρ 43 i0 x) μ κ ω := h.w3 (k0 := 2) hi (by decide)
theorem SM.p4_0 {x : Int32} (h : SM τ M0 M j e A Rw cn ρ μ κ ω) {i0 : Nat} (hi : i0 < cn 4) : SM τ M0 (up M (Rw 4 i0) 0 (.int x)) j e A Rw cn (u2 ρ 11 i0 x) μ κ ω := h.w4 (k0 := 0) hi (by decide)
theorem SM.p4_1 {x : Int32} (h : SM τ M0 M j e A Rw cn ρ μ κ ω) {i0 : Nat} (hi : i0 < cn 4) : SM τ M0 (up M (Rw 4 i0) 1 (.int x)) j e A Rw cn (u2 ρ 12 i0 x) μ κ ω := h.w4 (k0 := 1) hi (by decide)
theorem SM.p4_2 {x : Int32} (h : SM τ M0 M j e A Rw cn ρ μ κ ω) {i0 : Nat} (hi : i0 < cn 4) : SM τ M0 (up M (Rw 4 i0) 2 (.int x)) j e A Rw cn (u2 ρ 13 i0 x) μ κ ω := h.w4 (k0 := 2) hi (by decide)
theorem SM.p4_3 {x : Int32} (h : SM τ M0 M j e A Rw cn ρ μ κ ω) {i0 : Nat} (hi : i0 < cn 4) : SM τ M0 (up M (Rw 4 i0) 3 (.int x)) j e A Rw cn (u2 ρ 14 i0 x) μ κ ω := h.w4 (k0 := 3) hi (by decide)
theorem SM.p4_4 {x : Int32} (h : SM τ M0 M j e A Rw cn ρ μ κ ω) {i0 : Nat} (hi : i0 < cn 4) : SM τ M0 (up M (Rw 4 i0) 4 (.int x)) j e A Rw cn (u2 ρ 15 i0 x) μ κ ω := h.w4 (k0 := 4) hi (by decide)
theorem SM.p4_5 {x : Int32} (h : SM τ M0 M j e A Rw cn ρ μ κ ω) {i0 : Nat} (hi : i0 < cn 4) : SM τ M0 (up M (Rw 4 i0) 5 (.int x)) j e A Rw cn (u2 ρ 16 i0 x) μ κ ω := h.w4 (k0 := 5) hi (by decide)
theorem SM.p4_6 {x : Int32} (h : SM τ M0 M j e A Rw cn ρ μ κ ω) {i0 : Nat} (hi : i0 < cn 4) : SM τ M0 (up M (Rw 4 i0) 6 (.int x)) j e A Rw cn (u2 ρ 17 i0 x) μ κ ω := h.w4 (k0 := 6) hi (by decide)
theorem SM.p4_7 {x : Int32} (h : SM τ M0 M j e A Rw cn ρ μ κ ω) {i0 : Nat} (hi : i0 < cn 4) : SM τ M0 (up M (Rw 4 i0) 7 (.int x)) j e A Rw cn (u2 ρ 18 i0 x) μ κ ω := h.w4 (k0 := 7) hi (by decide)
theorem SM.p4_8 {x : Int32} (h : SM τ M0 M j e A Rw cn ρ μ κ ω) {i0 : Nat} (hi : i0 < cn 4) : SM τ M0 (up M (Rw 4 i0) 8 (.int x)) j e A Rw cn (u2 ρ 19 i0 x) μ κ ω := h.w4 (k0 := 8) hi (by decide)
theorem SM.p5_0 {x : Int32} (h : SM τ M0 M j e A Rw cn ρ μ κ ω) {i0 : Nat} (hi : i0 < cn 5) : SM τ M0 (up M (Rw 5 i0) 0 (.int x)) j e A Rw cn (u2 ρ 31 i0 x) μ κ ω := h.w5 (k0 := 0) hi (by decide)
theorem SM.p5_1 {x : Int32} (h : SM τ M0 M j e A Rw cn ρ μ κ ω) {i0 : Nat} (hi : i0 < cn 5) : SM τ M0 (up M (Rw 5 i0) 1 (.int x)) j e A Rw cn (u2 ρ 32 i0 x) μ κ ω := h.w5 (k0 := 1) hi (by decide)
theorem SM.p5_2 {x : Int32} (h : SM τ M0 M j e A Rw cn ρ μ κ ω) {i0 : Nat} (hi : i0 < cn 5) : SM τ M0 (up M (Rw 5 i0) 2 (.int x)) j e A Rw cn (u2 ρ 33 i0 x) μ κ ω := h.w5 (k0 := 2) hi (by decide)
theorem SM.p5_3 {x : Int32} (h : SM τ M0 M j e A Rw cn ρ μ κ ω) {i0 : Nat} (hi : i0 < cn 5) : SM τ M0 (up M (Rw 5 i0) 3 (.int x)) j e A Rw cn (u2 ρ 34 i0 x) μ κ ω := h.w5 (k0 := 3) hi (by decide)
theorem SM.p4_9 {x : Int32} (h : SM τ M0 M j e A Rw cn ρ μ κ ω) {i0 : Nat} (hi : i0 < cn 4) : SM τ M0 (up M (Rw 4 i0) 9 (.int x)) j e A Rw cn ρ (uI μ i0 x) κ ω := h.w49 hi
end SIM
