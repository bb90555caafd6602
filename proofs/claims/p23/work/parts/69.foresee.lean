def fsF (a b c hc wc : Nat) (σ : Nat → Nat) (π ρ : RH) (j i : Nat) : Int32 := match i with
  | 0 => wOf c (gbC a b c hc wc σ π ρ j) 3 - wOf c ρ 3
  | 1 => nOf c (gbC a b c hc wc σ π ρ j) 2
  | 2 => (gbC a b c hc wc σ π ρ j) 8 0 - ρ 8 0
  | _ => wOf c (gbC a b c hc wc σ π ρ j) 0
