section BF
variable {B : Nat → Nat} {ln p : Nat}
end BF
def syB (b : Nat) : Bool := [40, 41, 91, 93, 59, 44, 43, 45, 42, 47, 60, 62, 61].contains b
