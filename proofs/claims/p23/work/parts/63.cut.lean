theorem tkK_48 {B : Nat → Nat} {ln p : Nat} : tkK B ln p < 48 := by
  unfold tkK
  split
  · exact kwF_48
  · split
    · decide
    · exact se_48 _
section CUT
variable {B : Nat → Nat} {ln k : Nat} {ω ω0 : RH} {x v : Int32}
end CUT
