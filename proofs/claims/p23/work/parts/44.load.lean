/-- a plan that the model can carry out -/
def PmOK (a b c hc wc sn : Nat) (σ : Nat → Nat) (π : RH) : Prop := (∀ i, i < hc → ∃ f m t, π 52 i = nI f ∧ π 53 i = nI m ∧ π 54 i = nI t ∧ m ≤ t ∧ t ≤ sn ∧ SgOK a b σ (π 70) f m ∧ (m < t → SgOK a b σ (π 70) m t)) ∧ (∀ i, i < wc → ∃ f t, π 57 i = nI f ∧ π 59 i = nI t ∧ t ≤ sn ∧ SgOK a b σ (π 70) f t ∧ ∀ ρ, b01 (vxF c ρ σ (π 70) (π 57 i) (π 59 i)))
