/-! what holds of a road between two hours -/
theorem sm_n {f : Nat → Int32} {N : Nat} (h : ∀ k, ∃ s, s ≤ N ∧ f k = nI s) : ∀ c, ∃ s, s ≤ N * c ∧ sm f c = nI s
  | 0 => ⟨0, Nat.le_refl _, rfl⟩
  | c + 1 => by
    obtain ⟨s, h1, h2⟩ := sm_n h c
    obtain ⟨u, g1, g2⟩ := h c
    exact ⟨s + u, by rw [Nat.mul_succ]; omega, by rw [sm, h2, g2, nI_add]⟩
theorem sm_n' {f : Nat → Int32} {N c : Nat} (h : ∀ k, k < c → ∃ s, s ≤ N ∧ f k = nI s) : ∃ s, s ≤ N * c ∧ sm f c = nI s := by
  obtain ⟨s, h1, h2⟩ := sm_n (f := fun k => if k < c then f k else 0) (N := N) (fun k => by
    by_cases e : k < c
    · rw [if_pos e]; exact h k e
    · rw [if_neg e]; exact ⟨0, Nat.zero_le _, rfl⟩) c
  exact ⟨s, h1, (sm_cong (fun k hk => (if_pos hk).symm)).trans h2⟩
theorem w_n {x : Int32} (h1 : 1 ≤ x) (h2 : x ≤ 60) : ∃ s, (1 ≤ s ∧ s ≤ 60) ∧ x = nI s := by
  have h1' := Int32.le_iff_toInt_le.mp h1
  have h2' := Int32.le_iff_toInt_le.mp h2
  have e1 : (1 : Int32).toInt = 1 := rfl
  have e2 : (60 : Int32).toInt = 60 := rfl
  rw [e1] at h1'
  rw [e2] at h2'
  refine ⟨x.toInt.toNat, by omega, ?_⟩
  apply Int32.toInt_inj.mp
  rw [nI_toInt (by omega)]; omega
theorem r_n {x : Int32} (h1 : 0 ≤ x) (h2 : x ≤ 60) : ∃ s, s ≤ 60 ∧ x = nI s := by
  have h1' := Int32.le_iff_toInt_le.mp h1
  have h2' := Int32.le_iff_toInt_le.mp h2
  have e1 : (0 : Int32).toInt = 0 := rfl
  have e2 : (60 : Int32).toInt = 60 := rfl
  rw [e1] at h1'
  rw [e2] at h2'
  refine ⟨x.toInt.toNat, by omega, ?_⟩
  apply Int32.toInt_inj.mp
  rw [nI_toInt (by omega)]; omega
abbrev OWN (ρ : RH) (h l : Nat) : Prop := ρ 32 l = 1 ∧ ρ 33 l = nI h
def SH (a : Nat) (ρ : RH) (h : Nat) : Prop := (ρ 15 h = -1 ∧ ρ 16 h = 0 ∧ ρ 17 h = 0) ∨ ∃ t u L, t < a ∧ ρ 15 h = nI t ∧ b01 (ρ 16 h) ∧ ρ 17 h = nI u ∧ ρ 41 t = nI L ∧ u < L ∧ L ≤ 9
def LGi (a b : Nat) (ρ : RH) (l : Nat) : Prop := (ρ 32 l = 0 ∧ ρ 33 l = -1 ∧ ρ 34 l = -1) ∨ (∃ h, h < b ∧ ρ 32 l = 1 ∧ ρ 33 l = nI h ∧ ρ 34 l = -1) ∨ (∃ t, t < a ∧ ρ 32 l = 2 ∧ ρ 33 l = nI t ∧ ρ 34 l = -1) ∨ (ρ 32 l = 3 ∧ ρ 33 l = -1 ∧ ∃ k, k ≤ 100 ∧ ρ 34 l = nI k)
def SR (a : Nat) (ρ : RH) : Prop := ∀ t, t < a → ∃ L s f, (1 ≤ L ∧ L ≤ 9 ∧ s < 19 ∧ f ≤ 9) ∧ ρ 41 t = nI L ∧ ρ 42 t = nI s - 9 ∧ ρ 43 t = nI f
def SB2 (ρ : RH) (h : Nat) : Prop := (∃ k, k ≤ 9 ∧ ρ 12 h = nI k ∧ (ρ 16 h = 1 → 1 ≤ k)) ∧ (∃ k, 1 ≤ k ∧ k ≤ 99 ∧ ρ 11 h = nI k) ∧ ∃ k, 1 ≤ k ∧ k ≤ 99 ∧ ρ 13 h = nI k
def SI (a b c : Nat) (ρ : RH) : Prop := ((1 ≤ a ∧ a ≤ 6) ∧ b ≤ 5 ∧ c ≤ 14) ∧ (∀ h, h < b → SH a ρ h ∧ (ρ 16 h = 1 ↔ ∃ l, l < c ∧ OWN ρ h l) ∧ SB2 ρ h) ∧ (∀ l, l < c → LGi a b ρ l) ∧ SR a ρ ∧ (∃ r, r ≤ 100 ∧ ρ 6 0 = nI r) ∧ RI a b c ρ
section SIS
variable {a b c : Nat} {ρ : RH}
theorem SI.ld (h : SI a b c ρ) (x : Int32) : ∃ s, s ≤ 60 * c ∧ ldOf c ρ x = nI s := sm_n' (fun l hl => by
  show ∃ s, s ≤ 60 ∧ (if ρ 32 l = 1 ∧ ρ 33 l = x then ρ 31 l else 0) = nI s
  split
  · obtain ⟨w1, w2⟩ := h.2.2.2.2.2.2 l hl
    obtain ⟨s, g1, g2⟩ := w_n w1 w2
    exact ⟨s, g1.2, g2⟩
  · exact ⟨0, Nat.zero_le _, rfl⟩)
theorem max0 {x y : Nat} (hx : x < 2 ^ 30) (hy : y < 2 ^ 30) : maxI 0 (nI x - nI y) = nI (x - y) := by
  have e : (nI x - nI y).toInt = (x : Int) - y := by
    have := i32_sub (x := nI x) (y := nI y) (by rw [nI_toInt (by omega), nI_toInt (by omega)]; omega) (by rw [nI_toInt (by omega), nI_toInt (by omega)]; omega)
    rw [this, nI_toInt (by omega), nI_toInt (by omega)]
  unfold maxI
  apply Int32.toInt_inj.mp
  by_cases q : (0 : Int32) < nI x - nI y
  · have q' := Int32.lt_iff_toInt_lt.mp q
    rw [e, show (0 : Int32).toInt = 0 from rfl] at q'
    rw [if_pos q, e, nI_toInt (by omega)]; omega
  · have q' : ¬ (0 : Int32).toInt < (nI x - nI y).toInt := fun z => q (Int32.lt_iff_toInt_lt.mpr z)
    rw [e, show (0 : Int32).toInt = 0 from rfl] at q'
    rw [if_neg q, nI_toInt (by omega), show (0 : Int32).toInt = 0 from rfl]; omega
theorem s10 : ∀ s, s < 19 → (10 : Int32) + (nI s - 9) = nI (s + 1) := by decide
/-- what a horse needs is a number -/
theorem SI.nd (h : SI a b c ρ) {t : Nat} (ht : t < a) (x : Int32) : ∃ N, N ≤ 1600 ∧ needF c ρ x t = nI N := by
  obtain ⟨s, h1, h2⟩ := h.ld x
  obtain ⟨L, k, f, ⟨l1, l2, l3, l4⟩, e1, e2, e3⟩ := h.2.2.2.1 t ht
  have hc := h.1.2.2
  have hm : s * (k + 1) ≤ 840 * 19 := Nat.mul_le_mul (by omega) (by omega)
  refine ⟨s * (k + 1) / 10 - f, by omega, ?_⟩
  unfold needF
  rw [h2, e2, e3, s10 k l3, show nI s * nI (k + 1) = nI (s * (k + 1)) from nI_mul s (k + 1), show nI (s * (k + 1)) / 10 = nI (s * (k + 1) / 10) from nI_div (b := 10) (by omega) (by decide)]
  exact max0 (by omega) (by omega)
theorem SI.nd2 (h : SI a b c ρ) {t : Nat} (ht : t < a) (j : Nat) : ∃ N, N ≤ 1600 ∧ ndF c ρ j t = nI N ∧ (ρ 16 j = 0 → N = 0) := by
  unfold ndF
  split
  · exact ⟨0, by omega, rfl, fun _ => rfl⟩
  · rename_i q
    obtain ⟨N, h1, h2⟩ := h.nd ht (nI j)
    exact ⟨N, h1, h2, fun z => absurd z q⟩
theorem tr4 : ∀ k, k ≤ 60 → maxI 0 (minI (nI k + -4) 60) = nI (k - 4) ∧ maxI 0 (minI (nI k + -2) 60) = nI (k - 2) ∧ maxI 0 (minI (nI k + -1) 60) = nI (k - 1) := by decide
theorem trN {k m : Nat} (hk : k ≤ 60) (hm : m ≤ 1000) : maxI 0 (minI (nI k + nI m) 60) = nI (min (k + m) 60) := by
  rw [nI_add]
  have e : minI (nI (k + m)) 60 = nI (min (k + m) 60) := by
    unfold minI
    by_cases q : nI (k + m) < 60
    · have := (nI_ltI (a := k + m) (b := 60) (by omega) (by decide)).mp q
      rw [if_pos q, Nat.min_eq_left (by omega)]
    · have : ¬ k + m < 60 := fun z => q ((nI_ltI (a := k + m) (b := 60) (by omega) (by decide)).mpr z)
      rw [if_neg q, Nat.min_eq_right (by omega)]; rfl
  rw [e]
  have := max0 (x := min (k + m) 60) (y := 0) (by omega) (by decide)
  rw [show nI (min (k + m) 60) - nI 0 = nI (min (k + m) 60) from Int32.sub_zero _] at this
  exact this
theorem ld_z {j : Nat} (h : ∀ l, l < c → ¬ OWN ρ j l) {x : Int32} (hx : x = nI j) : ldOf c ρ x = 0 := by
  subst hx
  have : ∀ n, n ≤ c → sm (fun l => if ρ 32 l = 1 ∧ ρ 33 l = nI j then ρ 31 l else 0) n = 0 := by
    intro n
    induction n with
    | zero => intro _; rfl
    | succ n ih => intro hn; rw [sm, ih (by omega), if_neg (show ¬ (ρ 32 n = 1 ∧ ρ 33 n = nI j) from h n (by omega))]; rfl
  exact this c (Nat.le_refl _)
theorem SI.ld0 (h : SI a b c ρ) {j : Nat} (hj : j < b) : (ρ 16 j = 0 → ldOf c ρ (nI j) = 0) ∧ (ρ 16 j = 1 → 0 < ldOf c ρ (nI j)) := by
  obtain ⟨-, h2, -⟩ := h.2.1 j hj
  refine ⟨fun e => ld_z (fun l hl q => ?_) rfl, fun e => ?_⟩
  · have := h2.mpr ⟨l, hl, q⟩
    rw [e] at this; exact absurd this (by decide)
  · obtain ⟨l, hl, o1, o2⟩ := h2.mp e
    -- the sum holds a positive part
    have key : ∀ n, n ≤ c → ∃ s, s ≤ 60 * n ∧ (l < n → 1 ≤ s) ∧ sm (fun l => if ρ 32 l = 1 ∧ ρ 33 l = nI j then ρ 31 l else 0) n = nI s := by
      intro n
      induction n with
      | zero => intro _; exact ⟨0, by omega, fun z => absurd z (Nat.not_lt_zero _), rfl⟩
      | succ n ih =>
        intro hn
        obtain ⟨s, g1, g2, g3⟩ := ih (by omega)
        obtain ⟨w1, w2⟩ := h.2.2.2.2.2.2 n (by omega)
        obtain ⟨u, u1, u2'⟩ := w_n w1 w2
        rw [sm, g3]
        by_cases q : ρ 32 n = 1 ∧ ρ 33 n = nI j
        · rw [if_pos q, u2', nI_add]; exact ⟨s + u, by omega, fun _ => by omega, rfl⟩
        · rw [if_neg q]
          refine ⟨s, by omega, fun z => ?_, Int32.add_zero _⟩
          by_cases e2 : l = n
          · subst e2; exact absurd ⟨o1, o2⟩ q
          · exact g2 (by omega)
    obtain ⟨s, g1, g2, g3⟩ := key c (Nat.le_refl _)
    have hc := h.1.2.2
    show 0 < sm _ c
    rw [g3]
    exact (nI_ltI (a := 0) (b := s) (by decide) (by omega)).mpr (g2 hl)
end SIS
