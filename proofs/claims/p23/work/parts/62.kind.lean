section MK
variable {B : Nat → Nat} {p ln k : Nat}
theorem rn_in {P : Nat → Bool} {j : Nat} : ∀ n, ln - p ≤ n → p + j < rn P B ln p → P (B (p + j)) = true := fun n => by
  induction n generalizing p j with
  | zero =>
    intro h q
    rw [rn_n (fun z => by omega)] at q
    omega
  | succ n ih =>
    intro h q
    by_cases c : p < ln ∧ P (B p) = true
    · cases j with
      | zero => exact c.2
      | succ j =>
        rw [rn_y c.1 c.2] at q
        have := ih (p := p + 1) (j := j) (by omega) (by omega)
        rw [show p + (j + 1) = p + 1 + j by omega]; exact this
    · rw [rn_n c] at q; omega
end MK
