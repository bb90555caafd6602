/-! the list's data by number: 0 counts (3 stretches .. 7 waits); 1..3 a stretch, 4..7 a horse, 8 a log, 9..14 a haul, 15..19 a wait -/
def shR (v : Int32) (k : Nat) : Int32 := v >>> (nI k &&& 31)
def xTX (LS : Nat) (xs : Nat → Int32) (i : Nat) : Int32 := shR (clF LS xs (1 + i % 3)) (i / 3 * 9)
def xHX (LS : Nat) (xs : Nat → Int32) (i : Nat) : Int32 := shR (clF LS xs (5 + i % 3)) (i / 3 * 9)
def xGX (LS : Nat) (xs : Nat → Int32) (i : Nat) : Int32 := shR (clF LS xs (9 + i % 4)) (i / 4 * 6)
def xKX (LS : Nat) (xs : Nat → Int32) (i : Nat) : Int32 := shR (clF LS xs (13 + i % 3)) (i / 3 * 11)
def xWX (LS : Nat) (xs : Nat → Int32) (i : Nat) : Int32 := shR (clF LS xs (14 + i % 2)) (i * 6)
def nTX (LS : Nat) (xs : Nat → Int32) : Nat := 1 + blF (clF LS xs 0) 6
def nHX (LS : Nat) (xs : Nat → Int32) : Nat := 1 + blF (clF LS xs 4) 5
def nGX (LS : Nat) (xs : Nat → Int32) : Nat := blF (clF LS xs 8) 15
def nKX (LS : Nat) (xs : Nat → Int32) : Nat := min 5 (nHX LS xs + blF (clF LS xs 13) 4)
def nWX (LS : Nat) (xs : Nat → Int32) : Nat := blF (shR (clF LS xs 14) 5) 4
def ldX (LS : Nat) (xs : Nat → Int32) (f i : Nat) : Nat := match f with
  | 0 => if i = 3 then nTX LS xs else if i = 4 then nHX LS xs else if i = 5 then nGX LS xs else if i = 6 then nKX LS xs else nWX LS xs
  | 1 => 1 + blF (xTX LS xs i) 9
  | 2 => blF (shR (xTX LS xs i) 4) 19
  | 3 => blF (shR (xTX LS xs i) 3) 10
  | 4 => 1 + blF (xHX LS xs i) (if blF (shR (xHX LS xs i) 8) 2 = 0 then 99 else 40)
  | 5 => 1 + blF (shR (xHX LS xs i) 4) 9
  | 6 => 1 + blF (shR (xHX LS xs i) 5) (if blF (shR (xHX LS xs i) 7) 3 = 0 then 30 else 99)
  | 7 => blF (shR (xHX LS xs i) 6) 2
  | 8 => 1 + blF (xGX LS xs i) (if blF (shR (xGX LS xs i) 5) 2 = 0 then 60 else 15)
  | 9 => blF (xKX LS xs i) 6
  | 10 => blF (shR (xKX LS xs i) 3) (if blF (shR (xKX LS xs i) 9) 2 = 0 then 99 else 40)
  | 11 => blF (shR (xKX LS xs i) 5) 10
  | 12 => blF (shR (xKX LS xs i) 4) 10
  | 13 => blF (shR (xKX LS xs i) 6) 60
  | 14 => blF (shR (xKX LS xs i) 7) 10
  | 15 => blF (xWX LS xs i) (nHX LS xs)
  | 16 => blF (shR (xWX LS xs i) 4) (nTX LS xs)
  | 17 => blF (shR (xWX LS xs i) 3) 7
  | 18 => blF (shR (xWX LS xs i) 6) 60
  | _ => blF (shR (xWX LS xs i) 5) 10
/-- what a list's data keep -/
def LDok (Δ : Nat → Nat → Nat) : Prop := ((1 ≤ Δ 0 3 ∧ Δ 0 3 ≤ 6) ∧ (1 ≤ Δ 0 4 ∧ Δ 0 4 ≤ 5) ∧ Δ 0 5 ≤ 14 ∧ Δ 0 6 ≤ 5 ∧ Δ 0 7 ≤ 3) ∧
  ((∀ i, 1 ≤ Δ 1 i ∧ Δ 1 i ≤ 9) ∧ (∀ i, Δ 2 i < 19) ∧ ∀ i, Δ 3 i < 10) ∧
  ((∀ i, 1 ≤ Δ 4 i ∧ Δ 4 i ≤ 99) ∧ (∀ i, 1 ≤ Δ 5 i ∧ Δ 5 i ≤ 9) ∧ (∀ i, 1 ≤ Δ 6 i ∧ Δ 6 i ≤ 99) ∧ ∀ i, Δ 7 i < 2) ∧
  (∀ i, 1 ≤ Δ 8 i ∧ Δ 8 i ≤ 60) ∧
  ((∀ i, Δ 9 i < 6) ∧ (∀ i, Δ 10 i < 99) ∧ (∀ i, Δ 11 i < 10) ∧ (∀ i, Δ 12 i < 10) ∧ (∀ i, Δ 13 i < 60) ∧ ∀ i, Δ 14 i < 10) ∧
  ((∀ i, Δ 15 i < Δ 0 4) ∧ (∀ i, Δ 16 i < Δ 0 3) ∧ (∀ i, Δ 17 i < 7) ∧ (∀ i, Δ 18 i < 60) ∧ ∀ i, Δ 19 i < 10)
theorem bl_ite {v : Int32} {P : Prop} [Decidable P] {m n N : Nat} (hm : 1 ≤ m ∧ m ≤ N) (hn : 1 ≤ n ∧ n ≤ N) : blF v (if P then m else n) < N := by
  split
  · exact Nat.lt_of_lt_of_le (bl_lt hm.1) hm.2
  · exact Nat.lt_of_lt_of_le (bl_lt hn.1) hn.2
theorem ldX_ok (LS : Nat) (xs : Nat → Int32) : LDok (ldX LS xs) := by
  have b6 : blF (clF LS xs 0) 6 < 6 := bl_lt (by decide)
  have b5 : blF (clF LS xs 4) 5 < 5 := bl_lt (by decide)
  have b15 : blF (clF LS xs 8) 15 < 15 := bl_lt (by decide)
  have b4 : blF (shR (clF LS xs 14) 5) 4 < 4 := bl_lt (by decide)
  refine ⟨⟨⟨?_, ?_⟩, ⟨?_, ?_⟩, ?_, ?_, ?_⟩, ⟨fun i => ?_, fun i => ?_, fun i => ?_⟩, ⟨fun i => ?_, fun i => ?_, fun i => ?_, fun i => ?_⟩, fun i => ?_, ⟨fun i => ?_, fun i => ?_, fun i => ?_, fun i => ?_, fun i => ?_, fun i => ?_⟩, ⟨fun i => ?_, fun i => ?_, fun i => ?_, fun i => ?_, fun i => ?_⟩⟩
  · show 1 ≤ 1 + blF (clF LS xs 0) 6; omega
  · show 1 + blF (clF LS xs 0) 6 ≤ 6; omega
  · show 1 ≤ 1 + blF (clF LS xs 4) 5; omega
  · show 1 + blF (clF LS xs 4) 5 ≤ 5; omega
  · show blF (clF LS xs 8) 15 ≤ 14; omega
  · show min 5 _ ≤ 5; exact Nat.min_le_left _ _
  · show blF (shR (clF LS xs 14) 5) 4 ≤ 3; omega
  · have : blF (xTX LS xs i) 9 < 9 := bl_lt (by decide)
    show 1 ≤ 1 + blF (xTX LS xs i) 9 ∧ 1 + blF (xTX LS xs i) 9 ≤ 9; omega
  · exact bl_lt (by decide)
  · exact bl_lt (by decide)
  · have : blF (xHX LS xs i) (if blF (shR (xHX LS xs i) 8) 2 = 0 then 99 else 40) < 99 := bl_ite (by decide) (by decide)
    show 1 ≤ 1 + blF (xHX LS xs i) (if blF (shR (xHX LS xs i) 8) 2 = 0 then 99 else 40) ∧ 1 + blF (xHX LS xs i) (if blF (shR (xHX LS xs i) 8) 2 = 0 then 99 else 40) ≤ 99; omega
  · have : blF (shR (xHX LS xs i) 4) 9 < 9 := bl_lt (by decide)
    show 1 ≤ 1 + blF (shR (xHX LS xs i) 4) 9 ∧ 1 + blF (shR (xHX LS xs i) 4) 9 ≤ 9; omega
  · have : blF (shR (xHX LS xs i) 5) (if blF (shR (xHX LS xs i) 7) 3 = 0 then 30 else 99) < 99 := bl_ite (by decide) (by decide)
    show 1 ≤ 1 + blF (shR (xHX LS xs i) 5) (if blF (shR (xHX LS xs i) 7) 3 = 0 then 30 else 99) ∧ 1 + blF (shR (xHX LS xs i) 5) (if blF (shR (xHX LS xs i) 7) 3 = 0 then 30 else 99) ≤ 99; omega
  · exact bl_lt (by decide)
  · have : blF (xGX LS xs i) (if blF (shR (xGX LS xs i) 5) 2 = 0 then 60 else 15) < 60 := bl_ite (by decide) (by decide)
    show 1 ≤ 1 + blF (xGX LS xs i) (if blF (shR (xGX LS xs i) 5) 2 = 0 then 60 else 15) ∧ 1 + blF (xGX LS xs i) (if blF (shR (xGX LS xs i) 5) 2 = 0 then 60 else 15) ≤ 60; omega
  · exact bl_lt (by decide)
  · exact bl_ite (by decide) (by decide)
  · exact bl_lt (by decide)
  · exact bl_lt (by decide)
  · exact bl_lt (by decide)
  · exact bl_lt (by decide)
  · exact bl_lt (show 1 ≤ 1 + blF (clF LS xs 4) 5 by omega)
  · exact bl_lt (show 1 ≤ 1 + blF (clF LS xs 0) 6 by omega)
  · exact bl_lt (by decide)
  · exact bl_lt (by decide)
  · exact bl_lt (by decide)
/-- the rows' cells -/
def VL (Δ : Nat → Nat → Nat) (f i c : Nat) : Int32 := match f with
  | 3 => (match c with | 0 => nI (Δ 1 i) | 1 => nI (Δ 2 i) - 9 | _ => nI (Δ 3 i))
  | 4 => (match c with | 0 => nI (Δ 4 i) | 1 => nI (Δ 5 i) | 2 => nI (Δ 6 i) | 3 => nI (Δ 7 i) | 4 => -1 | _ => 0)
  | 5 => (match c with | 0 => nI (Δ 8 i) | 1 => 0 | _ => -1)
  | 6 => (match c with | 0 => nI (i % Δ 0 4) | 1 => nI (Δ 9 i) | 2 => nI (Δ 10 i) | 3 => nI (Δ 11 i) | 4 => (if Δ 12 i < 3 then -1 else nI (Δ 12 i) - 3) | 5 => nI (Δ 13 i) | _ => nI (Δ 14 i))
  | _ => (match c with | 0 => nI (Δ 15 i) | 1 => nI (Δ 16 i) | 2 => nI (Δ 17 i) | 3 => nI (Δ 18 i) | _ => nI (Δ 19 i))
def kF (Δ : Nat → Nat → Nat) (f i : Nat) : Nat → Nat := fun g => if g < f then Δ 0 g else if g = f then i else 0
def catF (F : Nat → List Nat) : Nat → List Nat
  | 0 => []
  | k + 1 => catF F k ++ F k
theorem cat_len {F : Nat → List Nat} {N : Nat} (h : ∀ i, (F i).length ≤ N) (k : Nat) : (catF F k).length ≤ N * k := by
  induction k with
  | zero => exact Nat.le_refl _
  | succ k ih =>
    have := h k
    show (catF F k ++ F k).length ≤ _
    rw [List.length_append, Nat.mul_succ]; omega
theorem nI_mul (a b : Nat) : nI a * nI b = nI (a * b) := (Int32.ofNat_mul a b).symm
theorem AP.vlt {sz sz' b v v1 : Nat} {τ τ' : TY} {M M' : ME} (h : AP sz τ M b v sz' τ' M' v1) (hv : v < sz) : v1 < sz' := by
  have := h.1
  rcases h.2.2.2 with e | e <;> omega
def lnT (Δ : Nat → Nat → Nat) (i : Nat) : List Nat := (((((((([115, 116, 114, 101, 116, 99, 104, 32, 115] ++ dgL (i)) ++ [32, 108, 111, 110, 103, 32]) ++ dgL (Δ 1 i)) ++ (if Δ 2 i < 9 then [32, 115, 108, 111, 112, 101, 32, 45, 32] else [32, 115, 108, 111, 112, 101, 32])) ++ dgL (if Δ 2 i < 9 then 9 - Δ 2 i else Δ 2 i - 9)) ++ [32, 102, 114, 111, 115, 116, 32]) ++ dgL (Δ 3 i)) ++ [59])
def lnH (Δ : Nat → Nat → Nat) (i : Nat) : List Nat := (((((((([104, 111, 114, 115, 101, 32, 104] ++ dgL (i)) ++ [32, 112, 117, 108, 108, 32]) ++ dgL (Δ 4 i)) ++ [32, 108, 105, 110, 107, 115, 32]) ++ dgL (Δ 5 i)) ++ [32, 105, 114, 111, 110, 32]) ++ dgL (Δ 6 i)) ++ (if Δ 7 i = 1 then [32, 98, 101, 108, 108, 59, 10] else [59]))
def lnG (Δ : Nat → Nat → Nat) (i : Nat) : List Nat := (((([108, 111, 103, 32, 103] ++ dgL (i)) ++ [32, 119, 101, 105, 103, 104, 116, 32]) ++ dgL (Δ 8 i)) ++ [59])
def lnK (Δ : Nat → Nat → Nat) (i : Nat) : List Nat := ((([104, 97, 117, 108, 32, 104] ++ dgL (i % Δ 0 4)) ++ [32, 119, 105, 116, 104, 32]) ++ smT (Δ 9 i) (Δ 10 i) (Δ 11 i) (Δ 0 3) (Δ 0 4)) ++ ((if Δ 12 i < 3 then [] else [32, 119, 104, 101, 110, 32] ++ tsT (Δ 12 i - 3) (Δ 13 i) (Δ 14 i) (Δ 0 3) (Δ 0 4)) ++ [59, 10])
def lnW (Δ : Nat → Nat → Nat) (i : Nat) : List Nat := (((((([119, 97, 105, 116, 32, 104] ++ dgL (Δ 15 i)) ++ [32, 97, 116, 32, 115]) ++ dgL (Δ 16 i)) ++ [32, 119, 104, 101, 110, 32]) ++ tsT (Δ 17 i) (Δ 18 i) (Δ 19 i) (Δ 0 3) (Δ 0 4)) ++ [59])
def ltX (Δ : Nat → Nat → Nat) : List Nat := (((catF (lnT Δ) (Δ 0 3) ++ catF (lnH Δ) (Δ 0 4)) ++ catF (lnG Δ) (Δ 0 5)) ++ catF (lnK Δ) (Δ 0 6)) ++ catF (lnW Δ) (Δ 0 7)
theorem smT_len (kd n v nt nh : Nat) : (smT kd n v nt nh).length ≤ 24 := by
  have d1 := dg_le2 n
  have d2 := dg_le2 (v % nh)
  have d3 := dg_le2 (v % nt)
  unfold smT
  split <;> simp only [List.length_append, List.length_cons, List.length_nil] <;> omega
theorem tsT_len (kd n v nt nh : Nat) : (tsT kd n v nt nh).length ≤ 42 := by
  have d1 := dg_le2 n
  have d2 := dg_le2 (v % nh)
  have d3 := dg_le2 (v % nt)
  have d4 := dg_le2 (n % nh)
  have d5 := dg_le2 (n % 20)
  have d6 := dg_le2 (n % 9)
  have d7 := dg_le2 (n % 3)
  unfold tsT
  split <;> simp only [List.length_append, List.length_cons, List.length_nil] <;> omega
theorem lnT_len (Δ : Nat → Nat → Nat) (i : Nat) : (lnT Δ i).length ≤ 42 := by
  have d1 := dg_le2 i
  have d2 := dg_le2 (Δ 1 i)
  have d3 := dg_le2 (Δ 3 i)
  have d4 := dg_le2 (if Δ 2 i < 9 then 9 - Δ 2 i else Δ 2 i - 9)
  unfold lnT
  by_cases h : Δ 2 i < 9
  · rw [if_pos h] at d4 ⊢
    simp only [if_pos h, List.length_append, List.length_cons, List.length_nil]; omega
  · rw [if_neg h] at d4 ⊢
    simp only [if_neg h, List.length_append, List.length_cons, List.length_nil]; omega
theorem lnH_len (Δ : Nat → Nat → Nat) (i : Nat) : (lnH Δ i).length ≤ 42 := by
  have d1 := dg_le2 i
  have d2 := dg_le2 (Δ 4 i)
  have d3 := dg_le2 (Δ 5 i)
  have d4 := dg_le2 (Δ 6 i)
  unfold lnH
  split <;> simp only [List.length_append, List.length_cons, List.length_nil] <;> omega
theorem lnG_len (Δ : Nat → Nat → Nat) (i : Nat) : (lnG Δ i).length ≤ 20 := by
  have d1 := dg_le2 i
  have d2 := dg_le2 (Δ 8 i)
  unfold lnG
  simp only [List.length_append, List.length_cons, List.length_nil]; omega
theorem lnK_len (Δ : Nat → Nat → Nat) (i : Nat) : (lnK Δ i).length ≤ 90 := by
  have d1 := dg_le2 (i % Δ 0 4)
  have d2 := smT_len (Δ 9 i) (Δ 10 i) (Δ 11 i) (Δ 0 3) (Δ 0 4)
  have d3 := tsT_len (Δ 12 i - 3) (Δ 13 i) (Δ 14 i) (Δ 0 3) (Δ 0 4)
  unfold lnK
  split <;> simp only [List.length_append, List.length_cons, List.length_nil] <;> omega
theorem lnW_len (Δ : Nat → Nat → Nat) (i : Nat) : (lnW Δ i).length ≤ 66 := by
  have d1 := dg_le2 (Δ 15 i)
  have d2 := dg_le2 (Δ 16 i)
  have d3 := tsT_len (Δ 17 i) (Δ 18 i) (Δ 19 i) (Δ 0 3) (Δ 0 4)
  unfold lnW
  simp only [List.length_append, List.length_cons, List.length_nil]; omega
theorem ltX_len {Δ : Nat → Nat → Nat} (h : LDok Δ) : (ltX Δ).length ≤ 1500 := by
  obtain ⟨⟨h1, h2, h3, h4, h5⟩, -⟩ := h
  have c1 := cat_len (lnT_len Δ) (Δ 0 3)
  have c2 := cat_len (lnH_len Δ) (Δ 0 4)
  have c3 := cat_len (lnG_len Δ) (Δ 0 5)
  have c4 := cat_len (lnK_len Δ) (Δ 0 6)
  have c5 := cat_len (lnW_len Δ) (Δ 0 7)
  unfold ltX
  simp only [List.length_append]; omega
