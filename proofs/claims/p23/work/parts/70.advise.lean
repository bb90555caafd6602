def wk (k : Nat) : Int32 := nI k + -3
theorem wk_3 : ∀ k, k < 8 → (3 < wk k ↔ k = 7) := by decide
theorem wk_1 : ∀ k, k < 8 → wk k + Int32.ofInt 1 = wk (k + 1) := by decide
def adI (a b c hc wc : Nat) (σ : Nat → Nat) (π ρ : RH) (hs k : Nat) : Int32 := wOf c (gbC a b c hc wc σ π (u2 ρ 7 0 (wk k)) hs) 3
def adS (a b c hc wc : Nat) (σ : Nat → Nat) (π ρ : RH) (hs : Nat) : Nat → Int32 × Int32
  | 0 => (-3, -1)
  | k + 1 => if (adS a b c hc wc σ π ρ hs k).2 < adI a b c hc wc σ π ρ hs k then (wk k, adI a b c hc wc σ π ρ hs k) else adS a b c hc wc σ π ρ hs k
def chI (a b c hc wc : Nat) (σ : Nat → Nat) (π ρ : RH) (hs h : Nat) : Int32 := wOf c (gbC a b c hc wc σ π (u2 ρ 13 h (ρ 13 h + 10)) hs) 3
def chS (a b c hc wc : Nat) (σ : Nat → Nat) (π ρ : RH) (hs : Nat) : Nat → Int32 × Int32
  | 0 => (-1, wOf c (gbC a b c hc wc σ π ρ hs) 3)
  | k + 1 => if (chS a b c hc wc σ π ρ hs k).2 < chI a b c hc wc σ π ρ hs k then (nI k, chI a b c hc wc σ π ρ hs k) else chS a b c hc wc σ π ρ hs k
