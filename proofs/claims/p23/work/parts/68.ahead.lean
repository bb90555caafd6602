section TCONS
variable {l : Launch} {D : va_G} {cA : Nat → ClassId} {n0 : Nat} {XW : State → Heap → Prop} {nm : MI} {d bk bn sz : Nat} {τ : TY} {M : ME} {Q Q' : QT} {QX : QXT} {ls st : List Value} {pc : Nat}
theorem T_cons (h : ∀ v sz' τ' M', Q v sz' τ' M' → Q' v sz' τ' M') (k : T l D cA n0 XW nm d bk bn sz τ M pc ls st Q QX) : T l D cA n0 XW nm d bk bn sz τ M pc ls st Q' QX := by
  intro p e R s m args below meth c H locs cells slots mc ms la X Y hR hS g1 g2 hL r1 r2 r3
  exact k p e R s m args below meth c H locs cells slots mc ms la X Y hR hS g1 g2 hL (fun v sz' τ' M' H' locs' c' s' pc' la' hq => r1 v sz' τ' M' H' locs' c' s' pc' la' (h _ _ _ _ hq)) r2 r3
end TCONS
def arG (a b c hc wc : Nat) (σ : Nat → Nat) (π ρ : RH) (j : Nat) : Nat → Nat → Int32
  | _, 0 => -1
  | h, n + 1 => if (gbC a b c hc wc σ π ρ h) 32 j = 3 then nI h else arG a b c hc wc σ π ρ j (h + 1) n
def brG (a b c hc wc : Nat) (σ : Nat → Nat) (π ρ : RH) (j : Nat) : Nat → Nat → Int32
  | _, 0 => -1
  | h, n + 1 => if (gbC a b c hc wc σ π ρ h) 12 j < ρ 12 j then nI h else brG a b c hc wc σ π ρ j (h + 1) n
section AR
variable {a b c hc wc j k : Nat} {σ : Nat → Nat} {π ρ : RH}
theorem arG_y (hk : k < 201) (h : (gbC a b c hc wc σ π ρ k) 32 j = 3) : arG a b c hc wc σ π ρ j k (201 - k) = nI k := by
  rw [show 201 - k = 201 - (k + 1) + 1 by omega, arG, if_pos h]
theorem arG_n (hk : k < 201) (h : ¬ (gbC a b c hc wc σ π ρ k) 32 j = 3) : arG a b c hc wc σ π ρ j k (201 - k) = arG a b c hc wc σ π ρ j (k + 1) (201 - (k + 1)) := by
  rw [show 201 - k = 201 - (k + 1) + 1 by omega, arG, if_neg h]
theorem arG_0 (hk : 201 ≤ k) : arG a b c hc wc σ π ρ j k (201 - k) = -1 := by
  rw [show 201 - k = 0 by omega]; rfl
theorem brG_y (hk : k < 201) (h : (gbC a b c hc wc σ π ρ k) 12 j < ρ 12 j) : brG a b c hc wc σ π ρ j k (201 - k) = nI k := by
  rw [show 201 - k = 201 - (k + 1) + 1 by omega, brG, if_pos h]
theorem brG_n (hk : k < 201) (h : ¬ (gbC a b c hc wc σ π ρ k) 12 j < ρ 12 j) : brG a b c hc wc σ π ρ j k (201 - k) = brG a b c hc wc σ π ρ j (k + 1) (201 - (k + 1)) := by
  rw [show 201 - k = 201 - (k + 1) + 1 by omega, brG, if_neg h]
theorem brG_0 (hk : 201 ≤ k) : brG a b c hc wc σ π ρ j k (201 - k) = -1 := by
  rw [show 201 - k = 0 by omega]; rfl
theorem ii_1n {x : Int32} {n : Nat} (hn : n ≤ 1000) (h : ¬ iiF x 1 (nI n) = 0) : ∃ j, 1 ≤ j ∧ j ≤ n ∧ x = nI j := by
  have h2 : 1 ≤ x ∧ x ≤ nI n := Decidable.byContradiction fun q => h (if_neg q)
  obtain ⟨j, hj, rfl⟩ := nI_of2 (nI_toInt (by omega)) (Int32.not_lt.mpr (Int32.le_trans (by decide) h2.1)) h2.2
  exact ⟨j, (nI_leI (a := 1) (by omega) (by omega)).mp h2.1, hj, rfl⟩
end AR
