def dgF (d : Int64) (f : Nat → Int32) : Nat → Int64
  | 0 => d
  | k + 1 => dgF d f k * 31 + (f k).toInt64
def dgN (d : Int64) (g : Nat → Nat → Int32) (w : Nat) : Nat → Int64
  | 0 => d
  | k + 1 => dgF (dgN d g w k) (g k) w
def dgW (a b c n8 : Nat) (ρ : RH) : Int64 := dgN (dgN (dgN (dgF 797 (cntF a b c n8 ρ) 13) (stF b c ρ) 5 a) (hsF c ρ) 10 b) (lgF ρ) 4 c
