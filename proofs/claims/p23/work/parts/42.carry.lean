def iiF (v x z : Int32) : Int32 := if x ≤ v ∧ v ≤ z then 1 else 0
theorem ii_1 {v x z : Int32} (h : x ≤ v) (h2 : v ≤ z) : iiF v x z = 1 := if_pos ⟨h, h2⟩
