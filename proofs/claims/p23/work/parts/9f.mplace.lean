def nmB (o : Nat) : Bool := [20, 21, 6, 3, 22].contains o
