def EXT (s s' : PS) : Prop := s.2.1 ≤ s'.2.1 ∧ ∀ i, i < s.2.1 → s'.2.2.1 i = s.2.2.1 i
section EXS
variable {K : Nat → Nat} {s s' s'' s4 : PS} {x y zz : Int32} {w w1 w0 wb wd β : RH} {h v p f i : Nat}
theorem EXT.rf (s : PS) : EXT s s := ⟨Nat.le_refl _, fun _ _ => rfl⟩
theorem EXT.tr (a : EXT s s') (b : EXT s' s'') : EXT s s'' := ⟨Nat.le_trans a.1 b.1, fun i hi => (b.2 i (Nat.lt_of_lt_of_le hi a.1)).trans (a.2 i hi)⟩
theorem PSM.ext (a : PSM K s s') : EXT s s' := ⟨a.2.1, fun i hi => (a.2.2.1 i hi).1⟩
theorem PSX.ext (a : PSX s s') : EXT s s' := ⟨by rw [a.2.1]; exact Nat.le_refl _, fun i _ => by rw [a.2.2.1]⟩
end EXS
