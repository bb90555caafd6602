theorem LSr.le {K : Nat → Nat} {vv : Nat → Int32} {q q' : PQ} {β β' : RH} (h : LSr K vv q β q' β') {τ : TY} {M : ME} {m y z s1 s2 n8 lt : Nat} {B : Nat → Nat} {ω0 w0 : RH} (hP : MLn τ M m y z s1 s2 n8 B ω0 w0 lt q'.2 β') : q'.2.1 ≤ lt ∧ q'.2.2.1 ≤ q'.2.1 := by
  obtain ⟨_, ⟨_, _, _, _, _, _, _, _, hn, ht, _⟩, _⟩ := hP
  exact ⟨ht, by omega⟩
