/-- the opcodes and widths of the model's code -/
def mkF (o : Nat) : Nat := if o = 44 then 30 else if o = 47 then 31 else if 34 ≤ o ∧ o ≤ 42 then o - 2 else o
def wdF (o : Nat) : Nat := if o = 44 ∨ o = 20 ∨ o = 21 ∨ o = 6 ∨ o = 3 ∨ o = 22 then 2 else 1
def psF (σ : Nat → Nat) : Nat → Nat
  | 0 => 0
  | i + 1 => psF σ i + wdF (σ i)
theorem ps_mono {σ : Nat → Nat} {m n : Nat} (h : m < n) : psF σ m < psF σ n := by
  induction n with
  | zero => omega
  | succ n ih =>
    have h2 : wdF (σ n) = 1 ∨ wdF (σ n) = 2 := by unfold wdF; split <;> simp
    show psF σ m < psF σ n + wdF (σ n)
    by_cases e : m = n
    · subst e; omega
    · have := ih (by omega); omega
section WMS
variable {τ : TY} {M M1 : ME} {m y s a b c hc wc sn : Nat} {ρ ρ' π : RH} {σ : Nat → Nat}
end WMS
