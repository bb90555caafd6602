/-! A Road lies in 38 cells from r on: itself, its stretches, its horses, its logs. Its numbers are ρ (field, which one); its names ν.
3 stretches 4 horses 5 logs 6 hour 7 weather 8 broken; 11 pull 12 links 13 iron 14 bell 15 place 16 down 17 units 18 tired 19 brought 20 moved; 31 weight 32 state 33 where 34 raftHour; 41 length 42 slope 43 frost -/
abbrev RH : Type := Nat → Nat → Int32
abbrev NU : Type := Nat → Nat → Int64
def u2 (ρ : RH) (f i : Nat) (x : Int32) : RH := fun g j => if g = f ∧ j = i then x else ρ g j
def u2l (ν : NU) (f i : Nat) (x : Int64) : NU := fun g j => if g = f ∧ j = i then x else ν g j
theorem u2_s (ρ : RH) (f i : Nat) (x : Int32) : u2 ρ f i x f i = x := by simp [u2]
theorem u2_f {ρ : RH} {f i g j : Nat} {x : Int32} (h : g ≠ f) : u2 ρ f i x g j = ρ g j := by simp [u2, h]
theorem u2_i {ρ : RH} {f i g j : Nat} {x : Int32} (h : j ≠ i) : u2 ρ f i x g j = ρ g j := by simp [u2, h]
theorem u2l_s (ρ : NU) (f i : Nat) (x : Int64) : u2l ρ f i x f i = x := by simp [u2l]
theorem u2l_f {ρ : NU} {f i g j : Nat} {x : Int64} (h : g ≠ f) : u2l ρ f i x g j = ρ g j := by simp [u2l, h]
theorem u2l_i {ρ : NU} {f i g j : Nat} {x : Int64} (h : j ≠ i) : u2l ρ f i x g j = ρ g j := by simp [u2l, h]
def stA (r s : Nat) : Nat := r + 2 + s
def hsA (r h : Nat) : Nat := r + 11 + h
def lgA (r l : Nat) : Nat := r + 18 + l
def b01 (x : Int32) : Prop := x = 0 ∨ x = 1
/-- the parts of the picture: kinds of cells, references, numbers -/
def RoadT (τ : TY) (r : Nat) : Prop := τ r = (5, 0) ∧ τ (r + 1) = (106, 8) ∧ τ (r + 10) = (103, 6) ∧ τ (r + 17) = (104, 20) ∧ (∀ s, s < 8 → τ (stA r s) = (6, 0)) ∧ (∀ h, h < 6 → τ (hsA r h) = (0, 0)) ∧ (∀ l, l < 20 → τ (lgA r l) = (1, 0))
def RoadP (M : ME) (r : Nat) : Prop := M r 0 = .ref (r + 1) ∧ M r 1 = .ref (r + 10) ∧ M r 2 = .ref (r + 17) ∧ (∀ s, s < 8 → M (r + 1) s = .ref (stA r s)) ∧ (∀ h, h < 6 → M (r + 10) h = .ref (hsA r h)) ∧ (∀ l, l < 20 → M (r + 17) l = .ref (lgA r l))
def RoadV (M : ME) (r : Nat) (ρ : RH) (ν : NU) : Prop := (∀ k, 3 ≤ k → k < 9 → M r k = .int (ρ k 0)) ∧ (∀ s k, s < 8 → 1 ≤ k → k < 4 → M (stA r s) k = .int (ρ (40 + k) s)) ∧ (∀ h k, h < 6 → 1 ≤ k → k < 11 → M (hsA r h) k = .int (ρ (10 + k) h)) ∧ (∀ l k, l < 20 → 1 ≤ k → k < 5 → M (lgA r l) k = .int (ρ (30 + k) l)) ∧ (∀ s, s < 8 → M (stA r s) 0 = .long (ν 4 s)) ∧ (∀ h, h < 6 → M (hsA r h) 0 = .long (ν 1 h)) ∧ (∀ l, l < 20 → M (lgA r l) 0 = .long (ν 3 l))
def Fr (lo hi : Nat) (M0 M : ME) : Prop := ∀ b, b < lo ∨ hi ≤ b → M b = M0 b
/-- the picture, and that since M0 nothing else has changed -/
def RM (τ : TY) (M0 M : ME) (r : Nat) (ρ : RH) (ν : NU) : Prop := RoadT τ r ∧ RoadP M r ∧ RoadV M r ρ ν ∧ Fr r (r + 38) M0 M
theorem Fr.rf (lo hi : Nat) (M : ME) : Fr lo hi M M := fun _ _ => rfl
theorem Fr.tr {lo hi : Nat} {M0 M1 M2 : ME} (h : Fr lo hi M0 M1) (h2 : Fr lo hi M1 M2) : Fr lo hi M0 M2 := fun b hb => (h2 b hb).trans (h b hb)
theorem Fr.up {lo hi a k : Nat} {v : Value} {M0 M : ME} (h : Fr lo hi M0 M) (ha : lo ≤ a ∧ a < hi) : Fr lo hi M0 (up M a k v) := fun b hb => (up_a (by omega)).trans (h b hb)
section ROAD
variable {τ : TY} {M0 M M' : ME} {r : Nat} {ρ : RH} {ν : NU}
theorem RM.rf (h : RM τ M0 M r ρ ν) : RM τ M M r ρ ν := ⟨h.1, h.2.1, h.2.2.1, Fr.rf _ _ _⟩
theorem RM.base {M1 : ME} (h : RM τ M1 M r ρ ν) (h2 : Fr r (r + 38) M0 M1) : RM τ M0 M r ρ ν := ⟨h.1, h.2.1, h.2.2.1, h2.tr h.2.2.2⟩
/-- elsewhere something was written -/
theorem RM.fr (h : RM τ M0 M r ρ ν) (hf : ∀ b, r ≤ b → b < r + 38 → M' b = M b) : RM τ M' M' r ρ ν := by
  obtain ⟨h1, ⟨p1, p2, p3, p4, p5, p6⟩, ⟨v1, v2, v3, v4, v5, v6, v7⟩, -⟩ := h
  refine ⟨h1, ⟨?_, ?_, ?_, fun s hs => ?_, fun s hs => ?_, fun s hs => ?_⟩, ⟨fun k a b => ?_, fun s k hs a b => ?_, fun s k hs a b => ?_, fun s k hs a b => ?_, fun s hs => ?_, fun s hs => ?_, fun s hs => ?_⟩, Fr.rf _ _ _⟩
  · rw [hf _ (by omega) (by omega)]; exact p1
  · rw [hf _ (by omega) (by omega)]; exact p2
  · rw [hf _ (by omega) (by omega)]; exact p3
  · rw [hf _ (by omega) (by omega)]; exact p4 s hs
  · rw [hf _ (by omega) (by omega)]; exact p5 s hs
  · rw [hf _ (by omega) (by omega)]; exact p6 s hs
  · rw [hf _ (by omega) (by omega)]; exact v1 k a b
  · rw [hf _ (by unfold stA; omega) (by unfold stA; omega)]; exact v2 s k hs a b
  · rw [hf _ (by unfold hsA; omega) (by unfold hsA; omega)]; exact v3 s k hs a b
  · rw [hf _ (by unfold lgA; omega) (by unfold lgA; omega)]; exact v4 s k hs a b
  · rw [hf _ (by unfold stA; omega) (by unfold stA; omega)]; exact v5 s hs
  · rw [hf _ (by unfold hsA; omega) (by unfold hsA; omega)]; exact v6 s hs
  · rw [hf _ (by unfold lgA; omega) (by unfold lgA; omega)]; exact v7 s hs
theorem RM.tau {τ' : TY} (h : RM τ M0 M r ρ ν) (hf : ∀ b, r ≤ b → b < r + 38 → τ' b = τ b) : RM τ' M0 M r ρ ν := by
  obtain ⟨⟨t1, t2, t3, t4, t5, t6, t7⟩, h2⟩ := h
  refine ⟨⟨?_, ?_, ?_, ?_, fun s hs => ?_, fun s hs => ?_, fun s hs => ?_⟩, h2⟩
  · rw [hf _ (by omega) (by omega)]; exact t1
  · rw [hf _ (by omega) (by omega)]; exact t2
  · rw [hf _ (by omega) (by omega)]; exact t3
  · rw [hf _ (by omega) (by omega)]; exact t4
  · rw [hf _ (by unfold stA; omega) (by unfold stA; omega)]; exact t5 s hs
  · rw [hf _ (by unfold hsA; omega) (by unfold hsA; omega)]; exact t6 s hs
  · rw [hf _ (by unfold lgA; omega) (by unfold lgA; omega)]; exact t7 s hs
theorem RM.mv {M1 M2 : ME} (h : RM τ M0 M2 r ρ ν) (e : M1 = M2) : RM τ M0 M1 r ρ ν := e ▸ h
theorem RM.t (h : RM τ M0 M r ρ ν) : τ r = (5, 0) := h.1.1
theorem RM.tS (h : RM τ M0 M r ρ ν) : τ (r + 1) = (100 + 6, 8) := h.1.2.1
theorem RM.tH (h : RM τ M0 M r ρ ν) : τ (r + 10) = (100 + 3, 6) := h.1.2.2.1
theorem RM.tL (h : RM τ M0 M r ρ ν) : τ (r + 17) = (100 + 4, 20) := h.1.2.2.2.1
theorem RM.ts (h : RM τ M0 M r ρ ν) {s : Nat} (hs : s < 8) : τ (stA r s) = (6, 0) := h.1.2.2.2.2.1 s hs
theorem RM.th (h : RM τ M0 M r ρ ν) {s : Nat} (hs : s < 6) : τ (hsA r s) = (0, 0) := h.1.2.2.2.2.2.1 s hs
theorem RM.tl (h : RM τ M0 M r ρ ν) {s : Nat} (hs : s < 20) : τ (lgA r s) = (1, 0) := h.1.2.2.2.2.2.2 s hs
theorem RM.r0 (h : RM τ M0 M r ρ ν) : M r 0 = .ref (r + 1) := h.2.1.1
theorem RM.r1 (h : RM τ M0 M r ρ ν) : M r 1 = .ref (r + 10) := h.2.1.2.1
theorem RM.r2 (h : RM τ M0 M r ρ ν) : M r 2 = .ref (r + 17) := h.2.1.2.2.1
theorem RM.S (h : RM τ M0 M r ρ ν) {s : Nat} (hs : s < 8) : M (r + 1) s = .ref (stA r s) := h.2.1.2.2.2.1 s hs
theorem RM.H (h : RM τ M0 M r ρ ν) {s : Nat} (hs : s < 6) : M (r + 10) s = .ref (hsA r s) := h.2.1.2.2.2.2.1 s hs
theorem RM.L (h : RM τ M0 M r ρ ν) {s : Nat} (hs : s < 20) : M (r + 17) s = .ref (lgA r s) := h.2.1.2.2.2.2.2 s hs
theorem RM.s0 (h : RM τ M0 M r ρ ν) {s : Nat} (hs : s < 8) : M (stA r s) 0 = .long (ν 4 s) := h.2.2.1.2.2.2.2.1 s hs
theorem RM.h0 (h : RM τ M0 M r ρ ν) {s : Nat} (hs : s < 6) : M (hsA r s) 0 = .long (ν 1 s) := h.2.2.1.2.2.2.2.2.1 s hs
theorem RM.l0 (h : RM τ M0 M r ρ ν) {s : Nat} (hs : s < 20) : M (lgA r s) 0 = .long (ν 3 s) := h.2.2.1.2.2.2.2.2.2 s hs
theorem RM.r3 (h : RM τ M0 M r ρ ν) : M r 3 = .int (ρ 3 0) := h.2.2.1.1 3 (by omega) (by omega)
theorem RM.r4 (h : RM τ M0 M r ρ ν) : M r 4 = .int (ρ 4 0) := h.2.2.1.1 4 (by omega) (by omega)
theorem RM.r5 (h : RM τ M0 M r ρ ν) : M r 5 = .int (ρ 5 0) := h.2.2.1.1 5 (by omega) (by omega)
theorem RM.r6 (h : RM τ M0 M r ρ ν) : M r 6 = .int (ρ 6 0) := h.2.2.1.1 6 (by omega) (by omega)
theorem RM.r7 (h : RM τ M0 M r ρ ν) : M r 7 = .int (ρ 7 0) := h.2.2.1.1 7 (by omega) (by omega)
theorem RM.r8 (h : RM τ M0 M r ρ ν) : M r 8 = .int (ρ 8 0) := h.2.2.1.1 8 (by omega) (by omega)
theorem RM.s1 (h : RM τ M0 M r ρ ν) {s : Nat} (hs : s < 8) : M (stA r s) 1 = .int (ρ 41 s) := h.2.2.1.2.1 s 1 hs (by omega) (by omega)
theorem RM.s2 (h : RM τ M0 M r ρ ν) {s : Nat} (hs : s < 8) : M (stA r s) 2 = .int (ρ 42 s) := h.2.2.1.2.1 s 2 hs (by omega) (by omega)
theorem RM.s3 (h : RM τ M0 M r ρ ν) {s : Nat} (hs : s < 8) : M (stA r s) 3 = .int (ρ 43 s) := h.2.2.1.2.1 s 3 hs (by omega) (by omega)
theorem RM.h1 (h : RM τ M0 M r ρ ν) {s : Nat} (hs : s < 6) : M (hsA r s) 1 = .int (ρ 11 s) := h.2.2.1.2.2.1 s 1 hs (by omega) (by omega)
theorem RM.h2 (h : RM τ M0 M r ρ ν) {s : Nat} (hs : s < 6) : M (hsA r s) 2 = .int (ρ 12 s) := h.2.2.1.2.2.1 s 2 hs (by omega) (by omega)
theorem RM.h3 (h : RM τ M0 M r ρ ν) {s : Nat} (hs : s < 6) : M (hsA r s) 3 = .int (ρ 13 s) := h.2.2.1.2.2.1 s 3 hs (by omega) (by omega)
theorem RM.h4 (h : RM τ M0 M r ρ ν) {s : Nat} (hs : s < 6) : M (hsA r s) 4 = .int (ρ 14 s) := h.2.2.1.2.2.1 s 4 hs (by omega) (by omega)
theorem RM.h5 (h : RM τ M0 M r ρ ν) {s : Nat} (hs : s < 6) : M (hsA r s) 5 = .int (ρ 15 s) := h.2.2.1.2.2.1 s 5 hs (by omega) (by omega)
theorem RM.h6 (h : RM τ M0 M r ρ ν) {s : Nat} (hs : s < 6) : M (hsA r s) 6 = .int (ρ 16 s) := h.2.2.1.2.2.1 s 6 hs (by omega) (by omega)
theorem RM.h7 (h : RM τ M0 M r ρ ν) {s : Nat} (hs : s < 6) : M (hsA r s) 7 = .int (ρ 17 s) := h.2.2.1.2.2.1 s 7 hs (by omega) (by omega)
theorem RM.h8 (h : RM τ M0 M r ρ ν) {s : Nat} (hs : s < 6) : M (hsA r s) 8 = .int (ρ 18 s) := h.2.2.1.2.2.1 s 8 hs (by omega) (by omega)
theorem RM.h9 (h : RM τ M0 M r ρ ν) {s : Nat} (hs : s < 6) : M (hsA r s) 9 = .int (ρ 19 s) := h.2.2.1.2.2.1 s 9 hs (by omega) (by omega)
theorem RM.h10 (h : RM τ M0 M r ρ ν) {s : Nat} (hs : s < 6) : M (hsA r s) 10 = .int (ρ 20 s) := h.2.2.1.2.2.1 s 10 hs (by omega) (by omega)
theorem RM.l1 (h : RM τ M0 M r ρ ν) {s : Nat} (hs : s < 20) : M (lgA r s) 1 = .int (ρ 31 s) := h.2.2.1.2.2.2.1 s 1 hs (by omega) (by omega)
theorem RM.l2 (h : RM τ M0 M r ρ ν) {s : Nat} (hs : s < 20) : M (lgA r s) 2 = .int (ρ 32 s) := h.2.2.1.2.2.2.1 s 2 hs (by omega) (by omega)
theorem RM.l3 (h : RM τ M0 M r ρ ν) {s : Nat} (hs : s < 20) : M (lgA r s) 3 = .int (ρ 33 s) := h.2.2.1.2.2.2.1 s 3 hs (by omega) (by omega)
theorem RM.l4 (h : RM τ M0 M r ρ ν) {s : Nat} (hs : s < 20) : M (lgA r s) 4 = .int (ρ 34 s) := h.2.2.1.2.2.2.1 s 4 hs (by omega) (by omega)
theorem RM.pr (h : RM τ M0 M r ρ ν) {k0 : Nat} {x : Int32} (hk : 3 ≤ k0 ∧ k0 < 9) : RM τ M0 (up M r k0 (.int x)) r (u2 ρ k0 0 x) ν := by
  obtain ⟨h1, ⟨p1, p2, p3, p4, p5, p6⟩, ⟨v1, v2, v3, v4, v5, v6, v7⟩, h4⟩ := h
  refine ⟨h1, ⟨?_, ?_, ?_, fun s hs => ?_, fun s hs => ?_, fun s hs => ?_⟩, ⟨fun k a b => ?_, fun s k hs a b => ?_, fun s k hs a b => ?_, fun s k hs a b => ?_, fun s hs => ?_, fun s hs => ?_, fun s hs => ?_⟩, h4.up (by (try simp only [stA, hsA, lgA]); omega)⟩
  · rw [up_k (by omega)]; exact p1
  · rw [up_k (by omega)]; exact p2
  · rw [up_k (by omega)]; exact p3
  · rw [up_a (by (try simp only [stA, hsA, lgA]); omega)]; exact p4 s hs
  · rw [up_a (by (try simp only [stA, hsA, lgA]); omega)]; exact p5 s hs
  · rw [up_a (by (try simp only [stA, hsA, lgA]); omega)]; exact p6 s hs
  · by_cases e : k = k0
    · subst e; rw [up_s, u2_s]
    · rw [up_k e, u2_f e]; exact v1 k a b
  · rw [up_a (by (try simp only [stA, hsA, lgA]); omega)]; rw [u2_f (by omega)]; exact v2 s k hs a b
  · rw [up_a (by (try simp only [stA, hsA, lgA]); omega)]; rw [u2_f (by omega)]; exact v3 s k hs a b
  · rw [up_a (by (try simp only [stA, hsA, lgA]); omega)]; rw [u2_f (by omega)]; exact v4 s k hs a b
  · rw [up_a (by (try simp only [stA, hsA, lgA]); omega)]; exact v5 s hs
  · rw [up_a (by (try simp only [stA, hsA, lgA]); omega)]; exact v6 s hs
  · rw [up_a (by (try simp only [stA, hsA, lgA]); omega)]; exact v7 s hs
theorem RM.ps (h : RM τ M0 M r ρ ν) {i k0 : Nat} {x : Int32} (hi : i < 8) (hk : 1 ≤ k0 ∧ k0 < 4) : RM τ M0 (up M (stA r i) k0 (.int x)) r (u2 ρ (40 + k0) i x) ν := by
  obtain ⟨h1, ⟨p1, p2, p3, p4, p5, p6⟩, ⟨v1, v2, v3, v4, v5, v6, v7⟩, h4⟩ := h
  refine ⟨h1, ⟨?_, ?_, ?_, fun s hs => ?_, fun s hs => ?_, fun s hs => ?_⟩, ⟨fun k a b => ?_, fun s k hs a b => ?_, fun s k hs a b => ?_, fun s k hs a b => ?_, fun s hs => ?_, fun s hs => ?_, fun s hs => ?_⟩, h4.up (by (try simp only [stA, hsA, lgA]); omega)⟩
  · rw [up_a (by (try simp only [stA, hsA, lgA]); omega)]; exact p1
  · rw [up_a (by (try simp only [stA, hsA, lgA]); omega)]; exact p2
  · rw [up_a (by (try simp only [stA, hsA, lgA]); omega)]; exact p3
  · rw [up_a (by (try simp only [stA, hsA, lgA]); omega)]; exact p4 s hs
  · rw [up_a (by (try simp only [stA, hsA, lgA]); omega)]; exact p5 s hs
  · rw [up_a (by (try simp only [stA, hsA, lgA]); omega)]; exact p6 s hs
  · rw [up_a (by (try simp only [stA, hsA, lgA]); omega)]; rw [u2_f (by omega)]; exact v1 k a b
  · by_cases e : s = i
    · subst e
      by_cases e2 : k = k0
      · subst e2; rw [up_s, u2_s]
      · rw [up_k e2, u2_f (by omega)]; exact v2 s k hs a b
    · rw [up_a (by (try simp only [stA, hsA, lgA]); omega)]; rw [u2_i e]; exact v2 s k hs a b
  · rw [up_a (by (try simp only [stA, hsA, lgA]); omega)]; rw [u2_f (by omega)]; exact v3 s k hs a b
  · rw [up_a (by (try simp only [stA, hsA, lgA]); omega)]; rw [u2_f (by omega)]; exact v4 s k hs a b
  · by_cases e : s = i
    · subst e; rw [up_k (by omega)]; exact v5 s hs
    · rw [up_a (by (try simp only [stA, hsA, lgA]); omega)]; exact v5 s hs
  · rw [up_a (by (try simp only [stA, hsA, lgA]); omega)]; exact v6 s hs
  · rw [up_a (by (try simp only [stA, hsA, lgA]); omega)]; exact v7 s hs
theorem RM.ps0 (h : RM τ M0 M r ρ ν) {i : Nat} {x : Int64} (hi : i < 8) : RM τ M0 (up M (stA r i) 0 (.long x)) r ρ (u2l ν 4 i x) := by
  obtain ⟨h1, ⟨p1, p2, p3, p4, p5, p6⟩, ⟨v1, v2, v3, v4, v5, v6, v7⟩, h4⟩ := h
  refine ⟨h1, ⟨?_, ?_, ?_, fun s hs => ?_, fun s hs => ?_, fun s hs => ?_⟩, ⟨fun k a b => ?_, fun s k hs a b => ?_, fun s k hs a b => ?_, fun s k hs a b => ?_, fun s hs => ?_, fun s hs => ?_, fun s hs => ?_⟩, h4.up (by (try simp only [stA, hsA, lgA]); omega)⟩
  · rw [up_a (by (try simp only [stA, hsA, lgA]); omega)]; exact p1
  · rw [up_a (by (try simp only [stA, hsA, lgA]); omega)]; exact p2
  · rw [up_a (by (try simp only [stA, hsA, lgA]); omega)]; exact p3
  · rw [up_a (by (try simp only [stA, hsA, lgA]); omega)]; exact p4 s hs
  · rw [up_a (by (try simp only [stA, hsA, lgA]); omega)]; exact p5 s hs
  · rw [up_a (by (try simp only [stA, hsA, lgA]); omega)]; exact p6 s hs
  · rw [up_a (by (try simp only [stA, hsA, lgA]); omega)]; exact v1 k a b
  · by_cases e : s = i
    · subst e; rw [up_k (by omega)]; exact v2 s k hs a b
    · rw [up_a (by (try simp only [stA, hsA, lgA]); omega)]; exact v2 s k hs a b
  · rw [up_a (by (try simp only [stA, hsA, lgA]); omega)]; exact v3 s k hs a b
  · rw [up_a (by (try simp only [stA, hsA, lgA]); omega)]; exact v4 s k hs a b
  · by_cases e : s = i
    · subst e; rw [up_s, u2l_s]
    · rw [up_a (by (try simp only [stA, hsA, lgA]); omega)]; rw [u2l_i e]; exact v5 s hs
  · rw [up_a (by (try simp only [stA, hsA, lgA]); omega)]; rw [u2l_f (by omega)]; exact v6 s hs
  · rw [up_a (by (try simp only [stA, hsA, lgA]); omega)]; rw [u2l_f (by omega)]; exact v7 s hs
theorem RM.ph (h : RM τ M0 M r ρ ν) {i k0 : Nat} {x : Int32} (hi : i < 6) (hk : 1 ≤ k0 ∧ k0 < 11) : RM τ M0 (up M (hsA r i) k0 (.int x)) r (u2 ρ (10 + k0) i x) ν := by
  obtain ⟨h1, ⟨p1, p2, p3, p4, p5, p6⟩, ⟨v1, v2, v3, v4, v5, v6, v7⟩, h4⟩ := h
  refine ⟨h1, ⟨?_, ?_, ?_, fun s hs => ?_, fun s hs => ?_, fun s hs => ?_⟩, ⟨fun k a b => ?_, fun s k hs a b => ?_, fun s k hs a b => ?_, fun s k hs a b => ?_, fun s hs => ?_, fun s hs => ?_, fun s hs => ?_⟩, h4.up (by (try simp only [stA, hsA, lgA]); omega)⟩
  · rw [up_a (by (try simp only [stA, hsA, lgA]); omega)]; exact p1
  · rw [up_a (by (try simp only [stA, hsA, lgA]); omega)]; exact p2
  · rw [up_a (by (try simp only [stA, hsA, lgA]); omega)]; exact p3
  · rw [up_a (by (try simp only [stA, hsA, lgA]); omega)]; exact p4 s hs
  · rw [up_a (by (try simp only [stA, hsA, lgA]); omega)]; exact p5 s hs
  · rw [up_a (by (try simp only [stA, hsA, lgA]); omega)]; exact p6 s hs
  · rw [up_a (by (try simp only [stA, hsA, lgA]); omega)]; rw [u2_f (by omega)]; exact v1 k a b
  · rw [up_a (by (try simp only [stA, hsA, lgA]); omega)]; rw [u2_f (by omega)]; exact v2 s k hs a b
  · by_cases e : s = i
    · subst e
      by_cases e2 : k = k0
      · subst e2; rw [up_s, u2_s]
      · rw [up_k e2, u2_f (by omega)]; exact v3 s k hs a b
    · rw [up_a (by (try simp only [stA, hsA, lgA]); omega)]; rw [u2_i e]; exact v3 s k hs a b
  · rw [up_a (by (try simp only [stA, hsA, lgA]); omega)]; rw [u2_f (by omega)]; exact v4 s k hs a b
  · rw [up_a (by (try simp only [stA, hsA, lgA]); omega)]; exact v5 s hs
  · by_cases e : s = i
    · subst e; rw [up_k (by omega)]; exact v6 s hs
    · rw [up_a (by (try simp only [stA, hsA, lgA]); omega)]; exact v6 s hs
  · rw [up_a (by (try simp only [stA, hsA, lgA]); omega)]; exact v7 s hs
theorem RM.ph0 (h : RM τ M0 M r ρ ν) {i : Nat} {x : Int64} (hi : i < 6) : RM τ M0 (up M (hsA r i) 0 (.long x)) r ρ (u2l ν 1 i x) := by
  obtain ⟨h1, ⟨p1, p2, p3, p4, p5, p6⟩, ⟨v1, v2, v3, v4, v5, v6, v7⟩, h4⟩ := h
  refine ⟨h1, ⟨?_, ?_, ?_, fun s hs => ?_, fun s hs => ?_, fun s hs => ?_⟩, ⟨fun k a b => ?_, fun s k hs a b => ?_, fun s k hs a b => ?_, fun s k hs a b => ?_, fun s hs => ?_, fun s hs => ?_, fun s hs => ?_⟩, h4.up (by (try simp only [stA, hsA, lgA]); omega)⟩
  · rw [up_a (by (try simp only [stA, hsA, lgA]); omega)]; exact p1
  · rw [up_a (by (try simp only [stA, hsA, lgA]); omega)]; exact p2
  · rw [up_a (by (try simp only [stA, hsA, lgA]); omega)]; exact p3
  · rw [up_a (by (try simp only [stA, hsA, lgA]); omega)]; exact p4 s hs
  · rw [up_a (by (try simp only [stA, hsA, lgA]); omega)]; exact p5 s hs
  · rw [up_a (by (try simp only [stA, hsA, lgA]); omega)]; exact p6 s hs
  · rw [up_a (by (try simp only [stA, hsA, lgA]); omega)]; exact v1 k a b
  · rw [up_a (by (try simp only [stA, hsA, lgA]); omega)]; exact v2 s k hs a b
  · by_cases e : s = i
    · subst e; rw [up_k (by omega)]; exact v3 s k hs a b
    · rw [up_a (by (try simp only [stA, hsA, lgA]); omega)]; exact v3 s k hs a b
  · rw [up_a (by (try simp only [stA, hsA, lgA]); omega)]; exact v4 s k hs a b
  · rw [up_a (by (try simp only [stA, hsA, lgA]); omega)]; rw [u2l_f (by omega)]; exact v5 s hs
  · by_cases e : s = i
    · subst e; rw [up_s, u2l_s]
    · rw [up_a (by (try simp only [stA, hsA, lgA]); omega)]; rw [u2l_i e]; exact v6 s hs
  · rw [up_a (by (try simp only [stA, hsA, lgA]); omega)]; rw [u2l_f (by omega)]; exact v7 s hs
theorem RM.pl (h : RM τ M0 M r ρ ν) {i k0 : Nat} {x : Int32} (hi : i < 20) (hk : 1 ≤ k0 ∧ k0 < 5) : RM τ M0 (up M (lgA r i) k0 (.int x)) r (u2 ρ (30 + k0) i x) ν := by
  obtain ⟨h1, ⟨p1, p2, p3, p4, p5, p6⟩, ⟨v1, v2, v3, v4, v5, v6, v7⟩, h4⟩ := h
  refine ⟨h1, ⟨?_, ?_, ?_, fun s hs => ?_, fun s hs => ?_, fun s hs => ?_⟩, ⟨fun k a b => ?_, fun s k hs a b => ?_, fun s k hs a b => ?_, fun s k hs a b => ?_, fun s hs => ?_, fun s hs => ?_, fun s hs => ?_⟩, h4.up (by (try simp only [stA, hsA, lgA]); omega)⟩
  · rw [up_a (by (try simp only [stA, hsA, lgA]); omega)]; exact p1
  · rw [up_a (by (try simp only [stA, hsA, lgA]); omega)]; exact p2
  · rw [up_a (by (try simp only [stA, hsA, lgA]); omega)]; exact p3
  · rw [up_a (by (try simp only [stA, hsA, lgA]); omega)]; exact p4 s hs
  · rw [up_a (by (try simp only [stA, hsA, lgA]); omega)]; exact p5 s hs
  · rw [up_a (by (try simp only [stA, hsA, lgA]); omega)]; exact p6 s hs
  · rw [up_a (by (try simp only [stA, hsA, lgA]); omega)]; rw [u2_f (by omega)]; exact v1 k a b
  · rw [up_a (by (try simp only [stA, hsA, lgA]); omega)]; rw [u2_f (by omega)]; exact v2 s k hs a b
  · rw [up_a (by (try simp only [stA, hsA, lgA]); omega)]; rw [u2_f (by omega)]; exact v3 s k hs a b
  · by_cases e : s = i
    · subst e
      by_cases e2 : k = k0
      · subst e2; rw [up_s, u2_s]
      · rw [up_k e2, u2_f (by omega)]; exact v4 s k hs a b
    · rw [up_a (by (try simp only [stA, hsA, lgA]); omega)]; rw [u2_i e]; exact v4 s k hs a b
  · rw [up_a (by (try simp only [stA, hsA, lgA]); omega)]; exact v5 s hs
  · rw [up_a (by (try simp only [stA, hsA, lgA]); omega)]; exact v6 s hs
  · by_cases e : s = i
    · subst e; rw [up_k (by omega)]; exact v7 s hs
    · rw [up_a (by (try simp only [stA, hsA, lgA]); omega)]; exact v7 s hs
theorem RM.pl0 (h : RM τ M0 M r ρ ν) {i : Nat} {x : Int64} (hi : i < 20) : RM τ M0 (up M (lgA r i) 0 (.long x)) r ρ (u2l ν 3 i x) := by
  obtain ⟨h1, ⟨p1, p2, p3, p4, p5, p6⟩, ⟨v1, v2, v3, v4, v5, v6, v7⟩, h4⟩ := h
  refine ⟨h1, ⟨?_, ?_, ?_, fun s hs => ?_, fun s hs => ?_, fun s hs => ?_⟩, ⟨fun k a b => ?_, fun s k hs a b => ?_, fun s k hs a b => ?_, fun s k hs a b => ?_, fun s hs => ?_, fun s hs => ?_, fun s hs => ?_⟩, h4.up (by (try simp only [stA, hsA, lgA]); omega)⟩
  · rw [up_a (by (try simp only [stA, hsA, lgA]); omega)]; exact p1
  · rw [up_a (by (try simp only [stA, hsA, lgA]); omega)]; exact p2
  · rw [up_a (by (try simp only [stA, hsA, lgA]); omega)]; exact p3
  · rw [up_a (by (try simp only [stA, hsA, lgA]); omega)]; exact p4 s hs
  · rw [up_a (by (try simp only [stA, hsA, lgA]); omega)]; exact p5 s hs
  · rw [up_a (by (try simp only [stA, hsA, lgA]); omega)]; exact p6 s hs
  · rw [up_a (by (try simp only [stA, hsA, lgA]); omega)]; exact v1 k a b
  · rw [up_a (by (try simp only [stA, hsA, lgA]); omega)]; exact v2 s k hs a b
  · rw [up_a (by (try simp only [stA, hsA, lgA]); omega)]; exact v3 s k hs a b
  · by_cases e : s = i
    · subst e; rw [up_k (by omega)]; exact v4 s k hs a b
    · rw [up_a (by (try simp only [stA, hsA, lgA]); omega)]; exact v4 s k hs a b
  · rw [up_a (by (try simp only [stA, hsA, lgA]); omega)]; rw [u2l_f (by omega)]; exact v5 s hs
  · rw [up_a (by (try simp only [stA, hsA, lgA]); omega)]; rw [u2l_f (by omega)]; exact v6 s hs
  · by_cases e : s = i
    · subst e; rw [up_s, u2l_s]
    · rw [up_a (by (try simp only [stA, hsA, lgA]); omega)]; rw [u2l_i e]; exact v7 s hs
/-- a sum of the first n -/
def sm (f : Nat → Int32) : Nat → Int32
  | 0 => 0
  | n + 1 => sm f n + f n
theorem sm_cong {f g : Nat → Int32} : ∀ {n : Nat}, (∀ k, k < n → f k = g k) → sm f n = sm g n
  | 0, _ => rfl
  | n + 1, h => by rw [sm, sm, sm_cong (fun k hk => h k (by omega)), h n (by omega)]
def wOf (c : Nat) (ρ : RH) (st : Int32) : Int32 := sm (fun l => if ρ 32 l = st then ρ 31 l else 0) c
def nOf (c : Nat) (ρ : RH) (st : Int32) : Int32 := sm (fun l => if ρ 32 l = st then 1 else 0) c
def ldOf (c : Nat) (ρ : RH) (h : Int32) : Int32 := sm (fun l => if ρ 32 l = 1 ∧ ρ 33 l = h then ρ 31 l else 0) c
def flOf (c : Nat) (ρ : RH) (s : Int32) : Int32 := sm (fun l => if ρ 32 l = 2 ∧ ρ 33 l = s then 1 else 0) c
def hsOn (b : Nat) (ρ : RH) (p : Int32) : Int32 := sm (fun h => if ρ 15 h = p then 1 else 0) b
def lkAll (b : Nat) (ρ : RH) : Int32 := sm (fun h => ρ 12 h) b
theorem inc1 (k : Nat) : nI k + Int32.ofInt 1 = nI (k + 1) := nI_1 k
theorem le_out {x : Int32} {c k : Nat} (hx : x = nI c) (h : x ≤ nI k) (hc : c < 2 ^ 31 := by omega) (hk : k < 2 ^ 31 := by omega) : c ≤ k := (nI_leI hc hk).mp (hx ▸ h)
theorem lt_in {x : Int32} {c k : Nat} (hx : x = nI c) (h : ¬ x ≤ nI k) (hc : c < 2 ^ 31 := by omega) (hk : k < 2 ^ 31 := by omega) : k < c := Nat.lt_of_not_le fun q => h (hx ▸ (nI_leI hc hk).mpr q)
/-- whether a number is a place below c -/
def hasI (x c : Int32) : Int32 := if 0 ≤ x ∧ x < c then 1 else 0
theorem hasI_t {x c : Int32} {j n : Nat} (hx : x = nI j) (hc : c = nI n) (h : j < n) (hn : n < 2 ^ 31 := by omega) : hasI x c = 1 := by
  subst hx; subst hc
  unfold hasI
  rw [if_pos ⟨nI_pos' (by omega), nI_lt h hn⟩]
theorem hasI_f {x c : Int32} (h : x < 0) : hasI x c = 0 := by
  unfold hasI
  rw [if_neg (fun q => Int32.not_lt.mpr q.1 h)]
theorem hasI_0a {x c : Int32} (h : x < 0) : 0 = hasI x c := (hasI_f h).symm
theorem hasI_0b {x c : Int32} (h : c ≤ x) : 0 = hasI x c := by
  unfold hasI
  rw [if_neg (fun q => Int32.not_lt.mpr h q.2)]
theorem hasI_1 {x c : Int32} (h : ¬ x < 0) (h2 : ¬ c ≤ x) : 1 = hasI x c := by
  unfold hasI
  rw [if_pos ⟨Int32.not_lt.mp h, Int32.not_le.mp h2⟩]
theorem one_ne : ¬ (1 : Int32) = 0 := by decide
end ROAD
