/-! the same, where the counts are told and nothing is said of what lies behind them -/
def LMb (r a b c : Nat) (ρ' : RH) (ν' : NU) (ρ : RH) (ν : NU) : Prop := ρ' 3 0 = nI a ∧ ρ' 4 0 = nI b ∧ ρ' 5 0 = nI c ∧ (∀ f, 6 ≤ f → f < 9 → ρ' f 0 = ρ f 0) ∧ (∀ f s, s < a → 41 ≤ f → f < 44 → ρ' f s = ρ f s) ∧ (∀ f h, h < b → 11 ≤ f → f < 21 → ρ' f h = ρ f h) ∧ (∀ f l, l < c → 31 ≤ f → f < 35 → ρ' f l = ρ f l) ∧ (∀ s, s < a → ν' 4 s = ν 4 s) ∧ (∀ h, h < b → ν' 1 h = ν 1 h) ∧ (∀ l, l < c → ν' 3 l = ν 3 l)
def LM (τ : TY) (M0 M : ME) (r a b c : Nat) (ρ : RH) (ν : NU) : Prop := (a ≤ 8 ∧ b ≤ 6 ∧ c ≤ 20) ∧ ∃ ρ' ν', RM τ M0 M r ρ' ν' ∧ LMb r a b c ρ' ν' ρ ν
section LOOSE
variable {τ : TY} {M0 M M' : ME} {r a b c : Nat} {ρ : RH} {ν : NU}
theorem LM.ok (h : LM τ M0 M r a b c ρ ν) : a ≤ 8 ∧ b ≤ 6 ∧ c ≤ 20 := h.1
theorem LM.rf (h : LM τ M0 M r a b c ρ ν) : LM τ M M r a b c ρ ν := ⟨h.1, let ⟨x, y, h1, h2⟩ := h.2; ⟨x, y, h1.rf, h2⟩⟩
theorem LM.base {M1 : ME} (h : LM τ M1 M r a b c ρ ν) (h2 : Fr r (r + 38) M0 M1) : LM τ M0 M r a b c ρ ν := ⟨h.1, let ⟨x, y, h1, h3⟩ := h.2; ⟨x, y, h1.base h2, h3⟩⟩
theorem LM.fr (h : LM τ M0 M r a b c ρ ν) (hf : ∀ b, r ≤ b → b < r + 38 → M' b = M b) : LM τ M' M' r a b c ρ ν := ⟨h.1, let ⟨x, y, h1, h3⟩ := h.2; ⟨x, y, h1.fr hf, h3⟩⟩
theorem LM.tau {τ' : TY} (h : LM τ M0 M r a b c ρ ν) (hf : ∀ b, r ≤ b → b < r + 38 → τ' b = τ b) : LM τ' M0 M r a b c ρ ν := ⟨h.1, let ⟨x, y, h1, h3⟩ := h.2; ⟨x, y, h1.tau hf, h3⟩⟩
theorem LM.mv {M1 M2 : ME} (h : LM τ M0 M2 r a b c ρ ν) (e : M1 = M2) : LM τ M0 M1 r a b c ρ ν := e ▸ h
theorem LM.frU {M1 : ME} {q k : Nat} {v : Value} (h : LM τ M0 M r a b c ρ ν) (e : M1 = up M q k v) (hd : q < r ∨ r + 38 ≤ q) : LM τ M1 M1 r a b c ρ ν := h.fr (fun b h1 h2 => by rw [e]; exact up_a (by omega))
theorem LM.nx {M1 : ME} {lo hi : Nat} (h : LM τ M0 M r a b c ρ ν) (e : Fr lo hi M M1) (hd : hi ≤ r ∨ r + 38 ≤ lo) : LM τ M1 M1 r a b c ρ ν := h.fr (fun b h1 h2 => e b (by omega))
theorem LM.cg {ρ' : RH} {ν' : NU} (h : LM τ M0 M r a b c ρ ν) (e : ρ = ρ') (e2 : ν = ν') : LM τ M0 M r a b c ρ' ν' := e ▸ e2 ▸ h
theorem LM.frame (h : LM τ M0 M r a b c ρ ν) : Fr r (r + 38) M0 M := let ⟨x, y, h1, h3⟩ := h.2; h1.2.2.2
/-- an exact picture is one -/
theorem RM.lm (h : RM τ M0 M r ρ ν) (hk : a ≤ 8 ∧ b ≤ 6 ∧ c ≤ 20) (h3 : ρ 3 0 = nI a) (h4 : ρ 4 0 = nI b) (h5 : ρ 5 0 = nI c) : LM τ M0 M r a b c ρ ν := ⟨hk, ρ, ν, h, h3, h4, h5, fun _ _ _ => rfl, fun _ _ _ _ _ => rfl, fun _ _ _ _ _ => rfl, fun _ _ _ _ _ => rfl, fun _ _ => rfl, fun _ _ => rfl, fun _ _ => rfl⟩
theorem LM.t (h : LM τ M0 M r a b c ρ ν) : τ r = (5, 0) := let ⟨_, _, h1, _⟩ := h.2; h1.t
theorem LM.tS (h : LM τ M0 M r a b c ρ ν) : τ (r + 1) = (100 + 6, 8) := let ⟨_, _, h1, _⟩ := h.2; h1.tS
theorem LM.tH (h : LM τ M0 M r a b c ρ ν) : τ (r + 10) = (100 + 3, 6) := let ⟨_, _, h1, _⟩ := h.2; h1.tH
theorem LM.tL (h : LM τ M0 M r a b c ρ ν) : τ (r + 17) = (100 + 4, 20) := let ⟨_, _, h1, _⟩ := h.2; h1.tL
theorem LM.r0 (h : LM τ M0 M r a b c ρ ν) : M r 0 = .ref (r + 1) := let ⟨_, _, h1, _⟩ := h.2; h1.r0
theorem LM.r1 (h : LM τ M0 M r a b c ρ ν) : M r 1 = .ref (r + 10) := let ⟨_, _, h1, _⟩ := h.2; h1.r1
theorem LM.r2 (h : LM τ M0 M r a b c ρ ν) : M r 2 = .ref (r + 17) := let ⟨_, _, h1, _⟩ := h.2; h1.r2
theorem LM.r3 (h : LM τ M0 M r a b c ρ ν) : M r 3 = .int (nI a) := let ⟨_, _, h1, h2⟩ := h.2; by rw [h1.r3, h2.1]
theorem LM.r4 (h : LM τ M0 M r a b c ρ ν) : M r 4 = .int (nI b) := let ⟨_, _, h1, h2⟩ := h.2; by rw [h1.r4, h2.2.1]
theorem LM.r5 (h : LM τ M0 M r a b c ρ ν) : M r 5 = .int (nI c) := let ⟨_, _, h1, h2⟩ := h.2; by rw [h1.r5, h2.2.2.1]
theorem LM.r6 (h : LM τ M0 M r a b c ρ ν) : M r 6 = .int (ρ 6 0) := let ⟨_, _, h1, h2⟩ := h.2; by rw [h1.r6, h2.2.2.2.1 6 (by omega) (by omega)]
theorem LM.r7 (h : LM τ M0 M r a b c ρ ν) : M r 7 = .int (ρ 7 0) := let ⟨_, _, h1, h2⟩ := h.2; by rw [h1.r7, h2.2.2.2.1 7 (by omega) (by omega)]
theorem LM.r8 (h : LM τ M0 M r a b c ρ ν) : M r 8 = .int (ρ 8 0) := let ⟨_, _, h1, h2⟩ := h.2; by rw [h1.r8, h2.2.2.2.1 8 (by omega) (by omega)]
theorem LM.pr (h : LM τ M0 M r a b c ρ ν) {k0 : Nat} {x : Int32} (hk : 6 ≤ k0 ∧ k0 < 9) : LM τ M0 (up M r k0 (.int x)) r a b c (u2 ρ k0 0 x) ν := by
  obtain ⟨hb, ρ', ν', h1, h3, h4, h5, h6, h7, h8, h9, h10⟩ := h
  refine ⟨hb, u2 ρ' k0 0 x, ν', h1.pr (by omega), by rw [u2_f (by omega)]; exact h3, by rw [u2_f (by omega)]; exact h4, by rw [u2_f (by omega)]; exact h5, fun f p q => ?_, fun f s hs p q => ?_, fun f s hs p q => ?_, fun f s hs p q => ?_, h10⟩
  · simp only [u2]; split
    · rfl
    · exact h6 f p q
  · rw [u2_f (by omega), u2_f (by omega)]; exact h7 f s hs p q
  · rw [u2_f (by omega), u2_f (by omega)]; exact h8 f s hs p q
  · rw [u2_f (by omega), u2_f (by omega)]; exact h9 f s hs p q
theorem LM.S (h : LM τ M0 M r a b c ρ ν) {s : Nat} (hs : s < a) : M (r + 1) s = .ref (stA r s) := let ⟨_, _, h1, _⟩ := h.2; h1.S (by have := h.1; omega)
theorem LM.ts (h : LM τ M0 M r a b c ρ ν) {s : Nat} (hs : s < a) : τ (stA r s) = (6, 0) := let ⟨_, _, h1, _⟩ := h.2; h1.ts (by have := h.1; omega)
theorem LM.s0 (h : LM τ M0 M r a b c ρ ν) {s : Nat} (hs : s < a) : M (stA r s) 0 = .long (ν 4 s) := let ⟨_, _, h1, h2⟩ := h.2; by rw [h1.s0 (by have := h.1; omega), h2.2.2.2.2.2.2.2.1 s hs]
theorem LM.s1 (h : LM τ M0 M r a b c ρ ν) {s : Nat} (hs : s < a) : M (stA r s) 1 = .int (ρ 41 s) := let ⟨_, _, h1, h2⟩ := h.2; by rw [h1.s1 (by have := h.1; omega), h2.2.2.2.2.1 41 s hs (by omega) (by omega)]
theorem LM.s2 (h : LM τ M0 M r a b c ρ ν) {s : Nat} (hs : s < a) : M (stA r s) 2 = .int (ρ 42 s) := let ⟨_, _, h1, h2⟩ := h.2; by rw [h1.s2 (by have := h.1; omega), h2.2.2.2.2.1 42 s hs (by omega) (by omega)]
theorem LM.s3 (h : LM τ M0 M r a b c ρ ν) {s : Nat} (hs : s < a) : M (stA r s) 3 = .int (ρ 43 s) := let ⟨_, _, h1, h2⟩ := h.2; by rw [h1.s3 (by have := h.1; omega), h2.2.2.2.2.1 43 s hs (by omega) (by omega)]
theorem LM.ps (h : LM τ M0 M r a b c ρ ν) {i k0 : Nat} {x : Int32} (hi : i < a) (hk : 1 ≤ k0 ∧ k0 < 4) : LM τ M0 (up M (stA r i) k0 (.int x)) r a b c (u2 ρ (40 + k0) i x) ν := by
  obtain ⟨hb, ρ', ν', h1, h3, h4, h5, h6, h7, h8, h9, h10⟩ := h
  refine ⟨hb, u2 ρ' (40 + k0) i x, ν', h1.ps (by omega) hk, by rw [u2_f (by omega)]; exact h3, by rw [u2_f (by omega)]; exact h4, by rw [u2_f (by omega)]; exact h5, fun f p q => ?_, fun f s hs p q => ?_, fun f s hs p q => ?_, fun f s hs p q => ?_, h10⟩
  · rw [u2_f (by omega), u2_f (by omega)]; exact h6 f p q
  · simp only [u2]; split
    · rfl
    · exact h7 f s hs p q
  · rw [u2_f (by omega), u2_f (by omega)]; exact h8 f s hs p q
  · rw [u2_f (by omega), u2_f (by omega)]; exact h9 f s hs p q
theorem LM.H (h : LM τ M0 M r a b c ρ ν) {s : Nat} (hs : s < b) : M (r + 10) s = .ref (hsA r s) := let ⟨_, _, h1, _⟩ := h.2; h1.H (by have := h.1; omega)
theorem LM.th (h : LM τ M0 M r a b c ρ ν) {s : Nat} (hs : s < b) : τ (hsA r s) = (0, 0) := let ⟨_, _, h1, _⟩ := h.2; h1.th (by have := h.1; omega)
theorem LM.h0 (h : LM τ M0 M r a b c ρ ν) {s : Nat} (hs : s < b) : M (hsA r s) 0 = .long (ν 1 s) := let ⟨_, _, h1, h2⟩ := h.2; by rw [h1.h0 (by have := h.1; omega), h2.2.2.2.2.2.2.2.2.1 s hs]
theorem LM.h1 (h : LM τ M0 M r a b c ρ ν) {s : Nat} (hs : s < b) : M (hsA r s) 1 = .int (ρ 11 s) := let ⟨_, _, h1, h2⟩ := h.2; by rw [h1.h1 (by have := h.1; omega), h2.2.2.2.2.2.1 11 s hs (by omega) (by omega)]
theorem LM.h2 (h : LM τ M0 M r a b c ρ ν) {s : Nat} (hs : s < b) : M (hsA r s) 2 = .int (ρ 12 s) := let ⟨_, _, h1, h2⟩ := h.2; by rw [h1.h2 (by have := h.1; omega), h2.2.2.2.2.2.1 12 s hs (by omega) (by omega)]
theorem LM.h3 (h : LM τ M0 M r a b c ρ ν) {s : Nat} (hs : s < b) : M (hsA r s) 3 = .int (ρ 13 s) := let ⟨_, _, h1, h2⟩ := h.2; by rw [h1.h3 (by have := h.1; omega), h2.2.2.2.2.2.1 13 s hs (by omega) (by omega)]
theorem LM.h4 (h : LM τ M0 M r a b c ρ ν) {s : Nat} (hs : s < b) : M (hsA r s) 4 = .int (ρ 14 s) := let ⟨_, _, h1, h2⟩ := h.2; by rw [h1.h4 (by have := h.1; omega), h2.2.2.2.2.2.1 14 s hs (by omega) (by omega)]
theorem LM.h5 (h : LM τ M0 M r a b c ρ ν) {s : Nat} (hs : s < b) : M (hsA r s) 5 = .int (ρ 15 s) := let ⟨_, _, h1, h2⟩ := h.2; by rw [h1.h5 (by have := h.1; omega), h2.2.2.2.2.2.1 15 s hs (by omega) (by omega)]
theorem LM.h6 (h : LM τ M0 M r a b c ρ ν) {s : Nat} (hs : s < b) : M (hsA r s) 6 = .int (ρ 16 s) := let ⟨_, _, h1, h2⟩ := h.2; by rw [h1.h6 (by have := h.1; omega), h2.2.2.2.2.2.1 16 s hs (by omega) (by omega)]
theorem LM.h7 (h : LM τ M0 M r a b c ρ ν) {s : Nat} (hs : s < b) : M (hsA r s) 7 = .int (ρ 17 s) := let ⟨_, _, h1, h2⟩ := h.2; by rw [h1.h7 (by have := h.1; omega), h2.2.2.2.2.2.1 17 s hs (by omega) (by omega)]
theorem LM.h8 (h : LM τ M0 M r a b c ρ ν) {s : Nat} (hs : s < b) : M (hsA r s) 8 = .int (ρ 18 s) := let ⟨_, _, h1, h2⟩ := h.2; by rw [h1.h8 (by have := h.1; omega), h2.2.2.2.2.2.1 18 s hs (by omega) (by omega)]
theorem LM.h9 (h : LM τ M0 M r a b c ρ ν) {s : Nat} (hs : s < b) : M (hsA r s) 9 = .int (ρ 19 s) := let ⟨_, _, h1, h2⟩ := h.2; by rw [h1.h9 (by have := h.1; omega), h2.2.2.2.2.2.1 19 s hs (by omega) (by omega)]
theorem LM.h10 (h : LM τ M0 M r a b c ρ ν) {s : Nat} (hs : s < b) : M (hsA r s) 10 = .int (ρ 20 s) := let ⟨_, _, h1, h2⟩ := h.2; by rw [h1.h10 (by have := h.1; omega), h2.2.2.2.2.2.1 20 s hs (by omega) (by omega)]
theorem LM.ph (h : LM τ M0 M r a b c ρ ν) {i k0 : Nat} {x : Int32} (hi : i < b) (hk : 1 ≤ k0 ∧ k0 < 11) : LM τ M0 (up M (hsA r i) k0 (.int x)) r a b c (u2 ρ (10 + k0) i x) ν := by
  obtain ⟨hb, ρ', ν', h1, h3, h4, h5, h6, h7, h8, h9, h10⟩ := h
  refine ⟨hb, u2 ρ' (10 + k0) i x, ν', h1.ph (by omega) hk, by rw [u2_f (by omega)]; exact h3, by rw [u2_f (by omega)]; exact h4, by rw [u2_f (by omega)]; exact h5, fun f p q => ?_, fun f s hs p q => ?_, fun f s hs p q => ?_, fun f s hs p q => ?_, h10⟩
  · rw [u2_f (by omega), u2_f (by omega)]; exact h6 f p q
  · rw [u2_f (by omega), u2_f (by omega)]; exact h7 f s hs p q
  · simp only [u2]; split
    · rfl
    · exact h8 f s hs p q
  · rw [u2_f (by omega), u2_f (by omega)]; exact h9 f s hs p q
theorem LM.L (h : LM τ M0 M r a b c ρ ν) {s : Nat} (hs : s < c) : M (r + 17) s = .ref (lgA r s) := let ⟨_, _, h1, _⟩ := h.2; h1.L (by have := h.1; omega)
theorem LM.tl (h : LM τ M0 M r a b c ρ ν) {s : Nat} (hs : s < c) : τ (lgA r s) = (1, 0) := let ⟨_, _, h1, _⟩ := h.2; h1.tl (by have := h.1; omega)
theorem LM.l0 (h : LM τ M0 M r a b c ρ ν) {s : Nat} (hs : s < c) : M (lgA r s) 0 = .long (ν 3 s) := let ⟨_, _, h1, h2⟩ := h.2; by rw [h1.l0 (by have := h.1; omega), h2.2.2.2.2.2.2.2.2.2 s hs]
theorem LM.l1 (h : LM τ M0 M r a b c ρ ν) {s : Nat} (hs : s < c) : M (lgA r s) 1 = .int (ρ 31 s) := let ⟨_, _, h1, h2⟩ := h.2; by rw [h1.l1 (by have := h.1; omega), h2.2.2.2.2.2.2.1 31 s hs (by omega) (by omega)]
theorem LM.l2 (h : LM τ M0 M r a b c ρ ν) {s : Nat} (hs : s < c) : M (lgA r s) 2 = .int (ρ 32 s) := let ⟨_, _, h1, h2⟩ := h.2; by rw [h1.l2 (by have := h.1; omega), h2.2.2.2.2.2.2.1 32 s hs (by omega) (by omega)]
theorem LM.l3 (h : LM τ M0 M r a b c ρ ν) {s : Nat} (hs : s < c) : M (lgA r s) 3 = .int (ρ 33 s) := let ⟨_, _, h1, h2⟩ := h.2; by rw [h1.l3 (by have := h.1; omega), h2.2.2.2.2.2.2.1 33 s hs (by omega) (by omega)]
theorem LM.l4 (h : LM τ M0 M r a b c ρ ν) {s : Nat} (hs : s < c) : M (lgA r s) 4 = .int (ρ 34 s) := let ⟨_, _, h1, h2⟩ := h.2; by rw [h1.l4 (by have := h.1; omega), h2.2.2.2.2.2.2.1 34 s hs (by omega) (by omega)]
theorem LM.pl (h : LM τ M0 M r a b c ρ ν) {i k0 : Nat} {x : Int32} (hi : i < c) (hk : 1 ≤ k0 ∧ k0 < 5) : LM τ M0 (up M (lgA r i) k0 (.int x)) r a b c (u2 ρ (30 + k0) i x) ν := by
  obtain ⟨hb, ρ', ν', h1, h3, h4, h5, h6, h7, h8, h9, h10⟩ := h
  refine ⟨hb, u2 ρ' (30 + k0) i x, ν', h1.pl (by omega) hk, by rw [u2_f (by omega)]; exact h3, by rw [u2_f (by omega)]; exact h4, by rw [u2_f (by omega)]; exact h5, fun f p q => ?_, fun f s hs p q => ?_, fun f s hs p q => ?_, fun f s hs p q => ?_, h10⟩
  · rw [u2_f (by omega), u2_f (by omega)]; exact h6 f p q
  · rw [u2_f (by omega), u2_f (by omega)]; exact h7 f s hs p q
  · rw [u2_f (by omega), u2_f (by omega)]; exact h8 f s hs p q
  · simp only [u2]; split
    · rfl
    · exact h9 f s hs p q
end LOOSE
