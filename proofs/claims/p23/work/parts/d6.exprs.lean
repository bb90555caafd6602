/-! sums and tests read: the rules where all goes well -/
section PRW
variable {K : Nat → Nat} {vv : Nat → Int32} {d : Nat} {s s1 s2 : PS} {q2 : PQ}
theorem kE {j m : Nat} {P : Nat → Prop} (h : K j = m) (hp : P m) : P (K j) := by rw [h]; exact hp
theorem PR.two' (g0 : K s.1 = 26 ∨ K s.1 = 27) (g1 : K (s.1 + 1) = 28) (g2 : d < 8) (g3 : PR K vv 3 (d + 1) (true, adv s 2) (true, s1)) (k1 : K s1.1 = 33) (g4 : PR K vv 3 (d + 1) (true, adv s1 1) (true, s2)) (k2 : K s2.1 = 29) : PR K vv 0 d (true, s) (true, stp (adv s2 1) (K s.1) 0) := by
  have := PR.two (q := (true, s1)) (q2 := (true, s2)) g0 g1 g2 g3 (by rw [tkQ_y (q := (true, s1)) rfl k1]; exact g4)
  rw [tkQ_y (q := (true, s2)) rfl k2] at this
  exact this
theorem PR.prl' (g0 : K s.1 = 36 ∨ K s.1 = 37) (g1 : PR K vv 0 d (true, adv s 1) (true, s1)) (g2 : PR K vv 2 d (true, stp s1 (K s.1) 0) q2) : PR K vv 2 d (true, s) q2 := PR.prl g0 g1 g2
theorem PR.sul' (g0 : K s.1 = 34 ∨ K s.1 = 35) (g1 : PR K vv 1 d (true, adv s 1) (true, s1)) (g2 : PR K vv 4 d (true, stp s1 (K s.1) 0) q2) : PR K vv 4 d (true, s) q2 := PR.sul g0 g1 g2
theorem PR.btl' (g0 : K s.1 = 24) (g1 : PR K vv 5 d (true, adv s 1) (true, s1)) (g2 : PR K vv 7 d (true, stp s1 24 0) q2) : PR K vv 7 d (true, s) q2 := PR.btl g0 g1 g2
theorem PR.tsl' (g0 : K s.1 = 25) (g1 : PR K vv 6 d (true, adv s 1) (true, s1)) (g2 : PR K vv 9 d (true, stp s1 25 0) q2) : PR K vv 9 d (true, s) q2 := PR.tsl g0 g1 g2
theorem PR.nt' (g0 : K s.1 = 23) (g1 : d < 8) (g2 : PR K vv 5 (d + 1) (true, adv s 1) (true, s1)) : PR K vv 5 d (true, s) (true, stp s1 23 0) := PR.nt g0 g1 g2
theorem PR.brk' (g0 : K s.1 = 30) (g1 : d < 8) (g2 : PR K vv 8 (d + 1) (true, adv s 1) (true, s1)) (k : K s1.1 = 31) : PR K vv 5 d (true, s) (true, adv s1 1) := by
  have := PR.brk (q := (true, s1)) g0 g1 g2
  rw [tkQ_y (q := (true, s1)) rfl k] at this
  exact this
theorem PR.cmp' (g0 : ¬ K s.1 = 23) (g1 : ¬ K s.1 = 30) (g2 : PR K vv 3 d (true, s) (true, s1)) (k : 38 ≤ K s1.1 ∧ K s1.1 ≤ 42) (g3 : PR K vv 3 d (true, adv s1 1) (true, s2)) : PR K vv 5 d (true, s) (true, stp s2 (K s1.1) 0) :=
  PR.cmp (q := (true, s1)) (q2 := (true, s2)) g0 g1 g2 (by rw [tcQ_y (q := (true, s1)) rfl k]; exact g3)
end PRW
/-! a stack of values; the top first -/
def EVs (κ : Nat → Int32) : List Int32 → Prop
  | [] => True
  | v :: r => κ r.length = v ∧ EVs κ r
def EV (c : Nat) (ρ : RH) (σ : Nat → Nat) (w : Nat → Int32) (f n : Nat) (vs : List Int32) : Prop := (evF c ρ σ w f (fun _ => 0) n).2 = vs.length ∧ EVs (evF c ρ σ w f (fun _ => 0) n).1 vs
section EVX
variable {c : Nat} {ρ : RH} {σ : Nat → Nat} {w : Nat → Int32} {f n o : Nat} {vs : List Int32} {x y : Int32}
theorem EVs.up {κ : Nat → Int32} {k : Nat} {v : Int32} : ∀ vs : List Int32, EVs κ vs → vs.length ≤ k → EVs (uI κ k v) vs
  | [], _, _ => trivial
  | u :: r, h, hk => ⟨by rw [uI_i (by simp only [List.length_cons] at hk; omega)]; exact h.1, EVs.up r h.2 (by simp only [List.length_cons] at hk; omega)⟩
theorem EV.nil : EV c ρ σ w f 0 [] := ⟨rfl, trivial⟩
theorem EV.push (h : EV c ρ σ w f n vs) (hs : σ (f + n) = o) (ho : tkN o = 0) (hw : fdV c ρ o (w (f + n)) = x) : EV c ρ σ w f (n + 1) (x :: vs) := by
  obtain ⟨h1, h2⟩ := h
  unfold EV
  rw [evF]
  unfold stpF
  rw [hs, ho, if_pos rfl, hw, h1, Nat.sub_zero]
  exact ⟨rfl, uI_s _ _ _, EVs.up _ h2 (Nat.le_refl _)⟩
theorem EV.bin (h : EV c ρ σ w f n (y :: x :: vs)) (hs : σ (f + n) = o) (ho : tkN o = 2) : EV c ρ σ w f (n + 1) (jnF o x y :: vs) := by
  obtain ⟨h1, h2, h3, h4⟩ := h
  unfold EV
  rw [evF]
  unfold stpF
  rw [hs, ho, if_neg (by decide), h1, show (y :: x :: vs).length - 2 = vs.length from rfl, h3, show vs.length + 1 = (x :: vs).length from rfl, h2]
  exact ⟨rfl, uI_s _ _ _, EVs.up _ h4 (Nat.le_refl _)⟩
theorem EV.not (h : EV c ρ σ w f n (x :: vs)) (hs : σ (f + n) = 23) : EV c ρ σ w f (n + 1) ((1 - x) :: vs) := by
  obtain ⟨h1, h3, h4⟩ := h
  unfold EV
  rw [evF]
  unfold stpF
  rw [hs, show tkN 23 = 1 from rfl, if_neg (by decide), h1, show (x :: vs).length - 1 = vs.length from rfl, h3]
  exact ⟨rfl, uI_s _ _ _, EVs.up _ h4 (Nat.le_refl _)⟩
theorem EV.fin (h : EV c ρ σ w f n [x]) : vlF c ρ σ w f (f + n) = x := by
  unfold vlF
  rw [Nat.add_sub_cancel_left]
  exact h.2.1
end EVX
theorem rs_44 {V : Nat → Int64} {rl : Nat → Int32} {x : Int32} : rsF V rl 44 x = x := rfl
theorem rs_h {V : Nat → Int64} {rl : Nat → Int32} {o T n : Nat} (ho : o = 20 ∨ o = 21 ∨ o = 6) (hT : T < 2 ^ 30) (h : tdR V rl 2 (V T) T = nI n) : rsF V rl o (nI T) = nI n := by
  unfold rsF; rw [if_pos ho, nI_cl hT]; exact h
theorem rs_s {V : Nat → Int64} {rl : Nat → Int32} {o T n : Nat} (ho : o = 3 ∨ o = 22) (hT : T < 2 ^ 30) (h : tdR V rl 1 (V T) T = nI n) : rsF V rl o (nI T) = nI n := by
  unfold rsF; rw [if_neg (by omega), if_pos ho, nI_cl hT]; exact h
/-- what an expression's reading leaves: m steps from n on, roles, and what the steps come to -/
def XR (V : Nat → Int64) (S : Nat → Int32) (t l n m : Nat) (o o' : Nat → Nat) (x x' r r' : Nat → Int32) (a b c h w : Nat) (D : RH) (sem : (Nat → Nat) → (Nat → Int32) → Prop) : Prop :=
  (1 ≤ m ∧ m ≤ 12) ∧ (∀ i, i < n → o' i = o i ∧ x' i = x i) ∧ (∀ i, t + l ≤ i → r' i = 0) ∧ (∀ i, i < t → r' i = r i) ∧ TI V S r' (t + l) a b c h w D ∧
  ∀ rF σ g, (∀ i, i < t + l → rF i = r' i) → (∀ j, n ≤ j → j < n + m → σ j = o' j ∧ g j = rsF V rF (o' j) (x' j)) → sem σ g
theorem kNx {K : Nat → Nat} {j : Nat} {P : Nat → Prop} (h1 : P 32) (h2 : P 13) (h : K j = 32 ∨ K j = 13) : P (K j) := by rcases h with e | e <;> rw [e] <;> assumption
theorem b_or {P Q : Prop} [Decidable P] [Decidable Q] : ((if P then (1 : Int32) else 0) ||| (if Q then 1 else 0)) = if P ∨ Q then 1 else 0 := by
  by_cases p : P <;> by_cases q : Q <;> simp [p, q]
theorem b_and {P Q : Prop} [Decidable P] [Decidable Q] : ((if P then (1 : Int32) else 0) &&& (if Q then 1 else 0)) = if P ∧ Q then 1 else 0 := by
  by_cases p : P <;> by_cases q : Q <;> simp [p, q]
theorem b_not {P : Prop} [Decidable P] : 1 - (if P then (1 : Int32) else 0) = if ¬ P then 1 else 0 := by
  by_cases p : P <;> simp [p]
theorem b_z {P : Prop} [Decidable P] : (if P then (1 : Int32) else 0) = 0 ↔ ¬ P := by
  by_cases p : P <;> simp [p]
theorem b_y {P : Prop} [Decidable P] : (if P then (0 : Int32) else 1) = 0 ↔ P := by
  by_cases p : P <;> simp [p]
section TSV
variable {cn : Nat → Nat} (ρ : RH) (n v : Nat)
theorem ts0_v (hn : n < 99) : (if nI n < ρ 6 0 then (1 : Int32) else 0) = 0 ↔ hlF cn ρ 0 n v = 0 := by
  show _ ↔ (if ρ 6 0 ≤ nI n then (0 : Int32) else 1) = 0
  rw [b_z, b_y, Int32.not_lt]
theorem ts1_v (hn : n < 99) : (if nI (n % 20) ≤ ρ 18 (v % cn 4) then (1 : Int32) else 0) = 0 ↔ hlF cn ρ 1 n v = 0 := by
  show _ ↔ (if ρ 18 (v % cn 4) < nI n - nI n / 20 * 20 then (0 : Int32) else 1) = 0
  rw [b_z, b_y, show nI n - nI n / 20 * 20 = nI (n % 20) from nI_mod (b := 20) (by omega) (by decide), Int32.not_le]
theorem ts2_v (hn : n < 99) : ((if wOf (cn 5) ρ 0 < nI n * nI 3 then (1 : Int32) else 0) &&& (1 - (if nI n < wOf (cn 5) ρ 3 then (1 : Int32) else 0))) = 0 ↔ hlF cn ρ 2 n v = 0 := by
  show _ ↔ (if wOf (cn 5) ρ 0 < nI n * 3 ∧ wOf (cn 5) ρ 3 ≤ nI n then (1 : Int32) else 0) = 0
  rw [b_not, b_and, b_z, b_z, Int32.not_lt]
  exact Iff.rfl
theorem ts3_v (hn : n < 99) : ((if nI 0 < flOf (cn 5) ρ (nI (v % cn 3)) then (1 : Int32) else 0) ||| (if ρ 43 (v % cn 3) / nI 2 * nI 2 = ρ 43 (v % cn 3) then (1 : Int32) else 0)) = 0 ↔ hlF cn ρ 3 n v = 0 := by
  show _ ↔ (if 0 < flOf (cn 5) ρ (nI (v % cn 3)) ∨ ρ 43 (v % cn 3) - ρ 43 (v % cn 3) / 2 * 2 = 0 then (1 : Int32) else 0) = 0
  rw [b_or, b_z, b_z]
  refine not_congr (or_congr Iff.rfl ?_)
  show ρ 43 (v % cn 3) / 2 * 2 = ρ 43 (v % cn 3) ↔ _
  exact ⟨fun e => by rw [e]; exact Int32.sub_self _, fun e => by
    have h := Int32.sub_add_cancel (ρ 43 (v % cn 3)) (ρ 43 (v % cn 3) / 2 * 2)
    rw [e, Int32.zero_add] at h
    exact h⟩
theorem ts4_v (hn : n < 99) : (if nI n < ldOf (cn 5) ρ (nI (v % cn 4)) then (1 : Int32) else 0) = 0 ↔ hlF cn ρ 4 n v = 0 := by
  show _ ↔ (if ldOf (cn 5) ρ (nI (v % cn 4)) ≤ nI n then (0 : Int32) else 1) = 0
  rw [b_z, b_y, Int32.not_lt]
theorem ts5_v (hn : n < 99) : (1 - ((if ρ 12 (v % cn 4) < nI (n % 9) then (1 : Int32) else 0) ||| (if nI (n % 3) < ρ 7 0 then (1 : Int32) else 0))) = 0 ↔ hlF cn ρ 5 n v = 0 := by
  show _ ↔ (if ¬ ρ 12 (v % cn 4) < nI n - nI n / 9 * 9 ∧ ¬ nI n - nI n / 3 * 3 < ρ 7 0 then (1 : Int32) else 0) = 0
  rw [show nI n - nI n / 9 * 9 = nI (n % 9) from nI_mod (b := 9) (by omega) (by decide), show nI n - nI n / 3 * 3 = nI (n % 3) from nI_mod (b := 3) (by omega) (by decide), b_or, b_not, b_z, b_z, not_or]
theorem ts6_v (hn : n < 99) : (if nI n < maxI (ρ 18 (v % cn 4)) (ldOf (cn 5) ρ (nI (n % cn 4))) - nI 1 then (1 : Int32) else 0) = 0 ↔ hlF cn ρ 6 n v = 0 := by
  show _ ↔ (if maxI (ρ 18 (v % cn 4)) (ldOf (cn 5) ρ (nI (n % cn 4))) - 1 ≤ nI n then (0 : Int32) else 1) = 0
  rw [b_z, b_y, Int32.not_lt]
  exact Iff.rfl
end TSV
theorem sm_0 {K : Nat → Nat} {V : Nat → Int64} {S : Nat → Int32} {vv : Nat → Int32} (hvv : ∀ t, vv t = (V t).toInt32) {t n : Nat} (htn : t < 1000 ∧ n < 1000) {o : Nat → Nat} {x r : Nat → Int32} {nh nt c h w : Nat} {D : RH} (hz : ∀ i, t ≤ i → r i = 0) (hT : TI V S r t nt nh c h w D) {nn v : Nat} (hn : nn < 99) (hv : v < 10) (hh0 : 1 ≤ nh ∧ nh ≤ 5) (ht0 : 1 ≤ nt ∧ nt ≤ 6) {w9 : List Nat} (hA : AtL K V t (smP 0 nn v nt nh w9)) (hnx : K (t + (smP 0 nn v nt nh w9).length) = 32 ∨ K (t + (smP 0 nn v nt nh w9).length) = 13) {cn : Nat → Nat} (hc3 : cn 3 = nt) (hc4 : cn 4 = nh) : ∃ m o' x' r', PR K vv 3 0 (true, (t, n, o, x, r)) (true, (t + (smP 0 nn v nt nh w9).length, n + m, o', x', r')) ∧ XR V S t (smP 0 nn v nt nh w9).length n m o o' x x' r r' nt nh c h w D (fun σ g => ∀ ρ, vlF (cn 5) ρ σ g n (n + m) = smF cn ρ 0 nn v) := by
  have m4 : v % nh < nh := Nat.mod_lt _ (by omega)
  have m3 : v % nt < nt := Nat.mod_lt _ (by omega)
  have m5 : nn % nh < nh := Nat.mod_lt _ (by omega)
  have m6 : nn % 20 < 20 := Nat.mod_lt _ (by decide)
  have m7 : nn % 9 < 9 := Nat.mod_lt _ (by decide)
  have m8 : nn % 3 < 3 := Nat.mod_lt _ (by decide)
  change K (t + 1) = 32 ∨ K (t + 1) = 13 at hnx
  obtain ⟨⟨k0, v0⟩, -⟩ := hA
  replace k0 : K (t) = 44 := k0
  replace v0 : V (t) = Int64.ofNat (nn) := v0 (wn_n _ _ (by omega))
  refine ⟨1, u1 (o) (n) 44, uI (x) (n) (vv (t)), r, (PR.sum (PR.prd (PR.num k0) (PR.pre (kNx (P := fun z => ¬ (z = 36 ∨ z = 37)) (by decide) (by decide) hnx))) (PR.sue (kNx (P := fun z => ¬ (z = 34 ∨ z = 35)) (by decide) (by decide) hnx))), ⟨by decide, by decide⟩, fun i hi => ⟨?_, ?_⟩, fun i hi => ?_, fun i hi => ?_, ?_, fun rF σ g hrF hst ρ => ?_⟩
  · unfold u1; rw [if_neg (by omega)]
  · unfold uI; rw [if_neg (by omega)]
  · change t + 1 ≤ i at hi
    exact hz i (by omega)
  · rfl
  · show TI V S (r) (t + 1) nt nh c h w D
    generalize hR : r = R
    have hlo : ∀ j, j < t → R j = r j := fun j hj => by rw [← hR]
    have r0 : R (t) = 0 := by rw [← hR]; exact hz _ (by omega)
    have h0 := hT.cc hlo
    have h1 := h0.t0 r0
    exact h1
  · change ∀ i, i < t + 1 → rF i = (r) i at hrF
    generalize hR : r = R at hrF
    have hlo : ∀ j, j < t → R j = r j := fun j hj => by rw [← hR]
    have r0 : R (t) = 0 := by rw [← hR]; exact hz _ (by omega)
    have h0 := hT.cc hlo
    have h1 := h0.t0 r0
    have s0 := (hst (n) (by omega) (by omega)).1
    have w0 := (hst (n) (by omega) (by omega)).2
    have eo0 : (u1 (o) (n) 44) (n) = 44 := by unfold u1; rw [if_pos rfl]
    rw [eo0] at s0 w0
    have ex0 : (uI (x) (n) (vv (t))) (n) = (vv (t)) := by unfold uI; rw [if_pos rfl]
    rw [ex0] at w0
    replace w0 : g (n) = nI (nn) := w0.trans (rs_44.trans ((hvv _).trans (by rw [v0]; exact tN (by omega))))
    have e0 := EV.nil (c := cn 5) (ρ := ρ) (σ := σ) (w := g) (f := n)
    have e1 := e0.push s0 rfl (show fdV (cn 5) ρ 44 (g (n)) = nI (nn) from w0)
    have ef := EV.fin e1
    subst hc3 hc4
    exact ef
theorem sm_1 {K : Nat → Nat} {V : Nat → Int64} {S : Nat → Int32} {vv : Nat → Int32} (hvv : ∀ t, vv t = (V t).toInt32) {t n : Nat} (htn : t < 1000 ∧ n < 1000) {o : Nat → Nat} {x r : Nat → Int32} {nh nt c h w : Nat} {D : RH} (hz : ∀ i, t ≤ i → r i = 0) (hT : TI V S r t nt nh c h w D) {nn v : Nat} (hn : nn < 99) (hv : v < 10) (hh0 : 1 ≤ nh ∧ nh ≤ 5) (ht0 : 1 ≤ nt ∧ nt ≤ 6) {w9 : List Nat} (hA : AtL K V t (smP 1 nn v nt nh w9)) (hnx : K (t + (smP 1 nn v nt nh w9).length) = 32 ∨ K (t + (smP 1 nn v nt nh w9).length) = 13) {cn : Nat → Nat} (hc3 : cn 3 = nt) (hc4 : cn 4 = nh) : ∃ m o' x' r', PR K vv 3 0 (true, (t, n, o, x, r)) (true, (t + (smP 1 nn v nt nh w9).length, n + m, o', x', r')) ∧ XR V S t (smP 1 nn v nt nh w9).length n m o o' x x' r r' nt nh c h w D (fun σ g => ∀ ρ, vlF (cn 5) ρ σ g n (n + m) = smF cn ρ 1 nn v) := by
  have m4 : v % nh < nh := Nat.mod_lt _ (by omega)
  have m3 : v % nt < nt := Nat.mod_lt _ (by omega)
  have m5 : nn % nh < nh := Nat.mod_lt _ (by omega)
  have m6 : nn % 20 < 20 := Nat.mod_lt _ (by decide)
  have m7 : nn % 9 < 9 := Nat.mod_lt _ (by decide)
  have m8 : nn % 3 < 3 := Nat.mod_lt _ (by decide)
  change K (t + 8) = 32 ∨ K (t + 8) = 13 at hnx
  obtain ⟨⟨k0, v0⟩, ⟨k1, v1⟩, ⟨k2, v2⟩, ⟨k3, v3⟩, ⟨k4, v4⟩, ⟨k5, v5⟩, ⟨k6, v6⟩, ⟨k7, v7⟩, -⟩ := hA
  replace k0 : K (t) = 26 := k0
  replace k1 : K (t + 1) = 28 := k1
  replace k2 : K (t + 1 + 1) = 18 := k2
  replace k3 : K (t + 1 + 1 + 1) = 37 := k3
  replace k4 : K (t + 1 + 1 + 1 + 1) = 44 := k4
  replace v4 : V (t + 1 + 1 + 1 + 1) = Int64.ofNat (2) := v4 (wn_n _ _ (by omega))
  replace k5 : K (t + 1 + 1 + 1 + 1 + 1) = 33 := k5
  replace k6 : K (t + 1 + 1 + 1 + 1 + 1 + 1) = 44 := k6
  replace v6 : V (t + 1 + 1 + 1 + 1 + 1 + 1) = Int64.ofNat (nn) := v6 (wn_n _ _ (by omega))
  replace k7 : K (t + 1 + 1 + 1 + 1 + 1 + 1 + 1) = 29 := k7
  refine ⟨5, u1 (u1 (u1 (u1 (u1 (o) (n) (K (t + 1 + 1))) (n + 1) 44) (n + 1 + 1) (K (t + 1 + 1 + 1))) (n + 1 + 1 + 1) 44) (n + 1 + 1 + 1 + 1) (K (t)), uI (uI (uI (uI (uI (x) (n) 0) (n + 1) (vv (t + 1 + 1 + 1 + 1))) (n + 1 + 1) 0) (n + 1 + 1 + 1) (vv (t + 1 + 1 + 1 + 1 + 1 + 1))) (n + 1 + 1 + 1 + 1) 0, r, (PR.sum (PR.prd (PR.two' (kE (P := fun z => z = 26 ∨ z = 27) k0 (by decide)) k1 (by decide) (PR.sum (PR.prd (PR.wrd (kE (P := fun z => 16 ≤ z ∧ z ≤ 19) k2 (by decide))) (PR.prl' (kE (P := fun z => z = 36 ∨ z = 37) k3 (by decide)) (PR.num k4) (PR.pre (kE (P := fun z => ¬ (z = 36 ∨ z = 37)) k5 (by decide))))) (PR.sue (kE (P := fun z => ¬ (z = 34 ∨ z = 35)) k5 (by decide)))) k5 (PR.sum (PR.prd (PR.num k6) (PR.pre (kE (P := fun z => ¬ (z = 36 ∨ z = 37)) k7 (by decide)))) (PR.sue (kE (P := fun z => ¬ (z = 34 ∨ z = 35)) k7 (by decide)))) k7) (PR.pre (kNx (P := fun z => ¬ (z = 36 ∨ z = 37)) (by decide) (by decide) hnx))) (PR.sue (kNx (P := fun z => ¬ (z = 34 ∨ z = 35)) (by decide) (by decide) hnx))), ⟨by decide, by decide⟩, fun i hi => ⟨?_, ?_⟩, fun i hi => ?_, fun i hi => ?_, ?_, fun rF σ g hrF hst ρ => ?_⟩
  · unfold u1; rw [if_neg (by omega), if_neg (by omega), if_neg (by omega), if_neg (by omega), if_neg (by omega)]
  · unfold uI; rw [if_neg (by omega), if_neg (by omega), if_neg (by omega), if_neg (by omega), if_neg (by omega)]
  · change t + 8 ≤ i at hi
    exact hz i (by omega)
  · rfl
  · show TI V S (r) (t + 8) nt nh c h w D
    generalize hR : r = R
    have hlo : ∀ j, j < t → R j = r j := fun j hj => by rw [← hR]
    have r0 : R (t) = 0 := by rw [← hR]; exact hz _ (by omega)
    have r1 : R (t + 1) = 0 := by rw [← hR]; exact hz _ (by omega)
    have r2 : R (t + 1 + 1) = 0 := by rw [← hR]; exact hz _ (by omega)
    have r3 : R (t + 1 + 1 + 1) = 0 := by rw [← hR]; exact hz _ (by omega)
    have r4 : R (t + 1 + 1 + 1 + 1) = 0 := by rw [← hR]; exact hz _ (by omega)
    have r5 : R (t + 1 + 1 + 1 + 1 + 1) = 0 := by rw [← hR]; exact hz _ (by omega)
    have r6 : R (t + 1 + 1 + 1 + 1 + 1 + 1) = 0 := by rw [← hR]; exact hz _ (by omega)
    have r7 : R (t + 1 + 1 + 1 + 1 + 1 + 1 + 1) = 0 := by rw [← hR]; exact hz _ (by omega)
    have h0 := hT.cc hlo
    have h1 := h0.t0 r0
    have h2 := h1.t0 r1
    have h3 := h2.t0 r2
    have h4 := h3.t0 r3
    have h5 := h4.t0 r4
    have h6 := h5.t0 r5
    have h7 := h6.t0 r6
    have h8 := h7.t0 r7
    exact h8
  · change ∀ i, i < t + 8 → rF i = (r) i at hrF
    generalize hR : r = R at hrF
    have hlo : ∀ j, j < t → R j = r j := fun j hj => by rw [← hR]
    have r0 : R (t) = 0 := by rw [← hR]; exact hz _ (by omega)
    have r1 : R (t + 1) = 0 := by rw [← hR]; exact hz _ (by omega)
    have r2 : R (t + 1 + 1) = 0 := by rw [← hR]; exact hz _ (by omega)
    have r3 : R (t + 1 + 1 + 1) = 0 := by rw [← hR]; exact hz _ (by omega)
    have r4 : R (t + 1 + 1 + 1 + 1) = 0 := by rw [← hR]; exact hz _ (by omega)
    have r5 : R (t + 1 + 1 + 1 + 1 + 1) = 0 := by rw [← hR]; exact hz _ (by omega)
    have r6 : R (t + 1 + 1 + 1 + 1 + 1 + 1) = 0 := by rw [← hR]; exact hz _ (by omega)
    have r7 : R (t + 1 + 1 + 1 + 1 + 1 + 1 + 1) = 0 := by rw [← hR]; exact hz _ (by omega)
    have h0 := hT.cc hlo
    have h1 := h0.t0 r0
    have h2 := h1.t0 r1
    have h3 := h2.t0 r2
    have h4 := h3.t0 r3
    have h5 := h4.t0 r4
    have h6 := h5.t0 r5
    have h7 := h6.t0 r6
    have h8 := h7.t0 r7
    have s0 := (hst (n) (by omega) (by omega)).1
    have w0 := (hst (n) (by omega) (by omega)).2
    have eo0 : (u1 (u1 (u1 (u1 (u1 (o) (n) (K (t + 1 + 1))) (n + 1) 44) (n + 1 + 1) (K (t + 1 + 1 + 1))) (n + 1 + 1 + 1) 44) (n + 1 + 1 + 1 + 1) (K (t))) (n) = 18 := by unfold u1; rw [if_neg (by omega), if_neg (by omega), if_neg (by omega), if_neg (by omega), if_pos rfl]; exact k2
    rw [eo0] at s0 w0
    have s1 := (hst (n + 1) (by omega) (by omega)).1
    have w1 := (hst (n + 1) (by omega) (by omega)).2
    have eo1 : (u1 (u1 (u1 (u1 (u1 (o) (n) (K (t + 1 + 1))) (n + 1) 44) (n + 1 + 1) (K (t + 1 + 1 + 1))) (n + 1 + 1 + 1) 44) (n + 1 + 1 + 1 + 1) (K (t))) (n + 1) = 44 := by unfold u1; rw [if_neg (by omega), if_neg (by omega), if_neg (by omega), if_pos rfl]
    rw [eo1] at s1 w1
    have ex1 : (uI (uI (uI (uI (uI (x) (n) 0) (n + 1) (vv (t + 1 + 1 + 1 + 1))) (n + 1 + 1) 0) (n + 1 + 1 + 1) (vv (t + 1 + 1 + 1 + 1 + 1 + 1))) (n + 1 + 1 + 1 + 1) 0) (n + 1) = (vv (t + 1 + 1 + 1 + 1)) := by unfold uI; rw [if_neg (by omega), if_neg (by omega), if_neg (by omega), if_pos rfl]
    rw [ex1] at w1
    replace w1 : g (n + 1) = nI (2) := w1.trans (rs_44.trans ((hvv _).trans (by rw [v4]; exact tN (by omega))))
    have s2 := (hst (n + 1 + 1) (by omega) (by omega)).1
    have w2 := (hst (n + 1 + 1) (by omega) (by omega)).2
    have eo2 : (u1 (u1 (u1 (u1 (u1 (o) (n) (K (t + 1 + 1))) (n + 1) 44) (n + 1 + 1) (K (t + 1 + 1 + 1))) (n + 1 + 1 + 1) 44) (n + 1 + 1 + 1 + 1) (K (t))) (n + 1 + 1) = 37 := by unfold u1; rw [if_neg (by omega), if_neg (by omega), if_pos rfl]; exact k3
    rw [eo2] at s2 w2
    have s3 := (hst (n + 1 + 1 + 1) (by omega) (by omega)).1
    have w3 := (hst (n + 1 + 1 + 1) (by omega) (by omega)).2
    have eo3 : (u1 (u1 (u1 (u1 (u1 (o) (n) (K (t + 1 + 1))) (n + 1) 44) (n + 1 + 1) (K (t + 1 + 1 + 1))) (n + 1 + 1 + 1) 44) (n + 1 + 1 + 1 + 1) (K (t))) (n + 1 + 1 + 1) = 44 := by unfold u1; rw [if_neg (by omega), if_pos rfl]
    rw [eo3] at s3 w3
    have ex3 : (uI (uI (uI (uI (uI (x) (n) 0) (n + 1) (vv (t + 1 + 1 + 1 + 1))) (n + 1 + 1) 0) (n + 1 + 1 + 1) (vv (t + 1 + 1 + 1 + 1 + 1 + 1))) (n + 1 + 1 + 1 + 1) 0) (n + 1 + 1 + 1) = (vv (t + 1 + 1 + 1 + 1 + 1 + 1)) := by unfold uI; rw [if_neg (by omega), if_pos rfl]
    rw [ex3] at w3
    replace w3 : g (n + 1 + 1 + 1) = nI (nn) := w3.trans (rs_44.trans ((hvv _).trans (by rw [v6]; exact tN (by omega))))
    have s4 := (hst (n + 1 + 1 + 1 + 1) (by omega) (by omega)).1
    have w4 := (hst (n + 1 + 1 + 1 + 1) (by omega) (by omega)).2
    have eo4 : (u1 (u1 (u1 (u1 (u1 (o) (n) (K (t + 1 + 1))) (n + 1) 44) (n + 1 + 1) (K (t + 1 + 1 + 1))) (n + 1 + 1 + 1) 44) (n + 1 + 1 + 1 + 1) (K (t))) (n + 1 + 1 + 1 + 1) = 26 := by unfold u1; rw [if_pos rfl]; exact k0
    rw [eo4] at s4 w4
    have e0 := EV.nil (c := cn 5) (ρ := ρ) (σ := σ) (w := g) (f := n)
    have e1 := e0.push s0 rfl (show fdV (cn 5) ρ 18 (g (n)) = wOf (cn 5) ρ 0 from rfl)
    have e2 := e1.push s1 rfl (show fdV (cn 5) ρ 44 (g (n + 1)) = nI (2) from w1)
    have e3 := e2.bin s2 rfl
    have e4 := e3.push s3 rfl (show fdV (cn 5) ρ 44 (g (n + 1 + 1 + 1)) = nI (nn) from w3)
    have e5 := e4.bin s4 rfl
    have ef := EV.fin e5
    subst hc3 hc4
    exact ef
theorem sm_2 {K : Nat → Nat} {V : Nat → Int64} {S : Nat → Int32} {vv : Nat → Int32} (hvv : ∀ t, vv t = (V t).toInt32) {t n : Nat} (htn : t < 1000 ∧ n < 1000) {o : Nat → Nat} {x r : Nat → Int32} {nh nt c h w : Nat} {D : RH} (hz : ∀ i, t ≤ i → r i = 0) (hT : TI V S r t nt nh c h w D) {nn v : Nat} (hn : nn < 99) (hv : v < 10) (hh0 : 1 ≤ nh ∧ nh ≤ 5) (ht0 : 1 ≤ nt ∧ nt ≤ 6) {w9 : List Nat} (hA : AtL K V t (smP 2 nn v nt nh w9)) (hnx : K (t + (smP 2 nn v nt nh w9).length) = 32 ∨ K (t + (smP 2 nn v nt nh w9).length) = 13) {cn : Nat → Nat} (hc3 : cn 3 = nt) (hc4 : cn 4 = nh) : ∃ m o' x' r', PR K vv 3 0 (true, (t, n, o, x, r)) (true, (t + (smP 2 nn v nt nh w9).length, n + m, o', x', r')) ∧ XR V S t (smP 2 nn v nt nh w9).length n m o o' x x' r r' nt nh c h w D (fun σ g => ∀ ρ, vlF (cn 5) ρ σ g n (n + m) = smF cn ρ 2 nn v) := by
  have m4 : v % nh < nh := Nat.mod_lt _ (by omega)
  have m3 : v % nt < nt := Nat.mod_lt _ (by omega)
  have m5 : nn % nh < nh := Nat.mod_lt _ (by omega)
  have m6 : nn % 20 < 20 := Nat.mod_lt _ (by decide)
  have m7 : nn % 9 < 9 := Nat.mod_lt _ (by decide)
  have m8 : nn % 3 < 3 := Nat.mod_lt _ (by decide)
  change K (t + 4) = 32 ∨ K (t + 4) = 13 at hnx
  obtain ⟨⟨k0, v0⟩, ⟨k1, v1⟩, ⟨k2, v2⟩, ⟨k3, v3⟩, -⟩ := hA
  replace k0 : K (t) = 44 := k0
  replace v0 : V (t) = Int64.ofNat (nn) := v0 (wn_n _ _ (by omega))
  replace k1 : K (t + 1) = 35 := k1
  replace k2 : K (t + 1 + 1) = 20 := k2
  replace k3 : K (t + 1 + 1 + 1) = 43 := k3
  replace v3 : V (t + 1 + 1 + 1) = nmV 104 (v % nh) := v3 (wn_a _ _ _ rfl)
  refine ⟨3, u1 (u1 (u1 (o) (n) 44) (n + 1) (K (t + 1 + 1))) (n + 1 + 1) (K (t + 1)), uI (uI (uI (x) (n) (vv (t))) (n + 1) (nI (t + 1 + 1 + 1))) (n + 1 + 1) 0, uI (r) (t + 1 + 1 + 1) 17, (PR.sum (PR.prd (PR.num k0) (PR.pre (kE (P := fun z => ¬ (z = 36 ∨ z = 37)) k1 (by decide)))) (PR.sul' (kE (P := fun z => z = 34 ∨ z = 35) k1 (by decide)) (PR.prd (PR.hrs (kE (P := fun z => z = 20 ∨ z = 21 ∨ z = 6) k2 (by decide)) k3) (PR.pre (kNx (P := fun z => ¬ (z = 36 ∨ z = 37)) (by decide) (by decide) hnx))) (PR.sue (kNx (P := fun z => ¬ (z = 34 ∨ z = 35)) (by decide) (by decide) hnx)))), ⟨by decide, by decide⟩, fun i hi => ⟨?_, ?_⟩, fun i hi => ?_, fun i hi => ?_, ?_, fun rF σ g hrF hst ρ => ?_⟩
  · unfold u1; rw [if_neg (by omega), if_neg (by omega), if_neg (by omega)]
  · unfold uI; rw [if_neg (by omega), if_neg (by omega), if_neg (by omega)]
  · change t + 4 ≤ i at hi
    unfold uI; rw [if_neg (by omega)]; exact hz i (by omega)
  · unfold uI; rw [if_neg (by omega)]
  · show TI V S (uI (r) (t + 1 + 1 + 1) 17) (t + 4) nt nh c h w D
    generalize hR : uI (r) (t + 1 + 1 + 1) 17 = R
    have hlo : ∀ j, j < t → R j = r j := fun j hj => by rw [← hR]; unfold uI; rw [if_neg (by omega)]
    have r0 : R (t) = 0 := by rw [← hR]; unfold uI; rw [if_neg (by omega)]; exact hz _ (by omega)
    have r1 : R (t + 1) = 0 := by rw [← hR]; unfold uI; rw [if_neg (by omega)]; exact hz _ (by omega)
    have r2 : R (t + 1 + 1) = 0 := by rw [← hR]; unfold uI; rw [if_neg (by omega)]; exact hz _ (by omega)
    have r3 : R (t + 1 + 1 + 1) = 17 := by rw [← hR]; unfold uI; rw [if_pos rfl]
    have h0 := hT.cc hlo
    have h1 := h0.t0 r0
    have h2 := h1.t0 r1
    have h3 := h2.t0 r2
    have h4 := h3.t17 r3 v3 (by omega) (by omega)
    exact h4
  · change ∀ i, i < t + 4 → rF i = (uI (r) (t + 1 + 1 + 1) 17) i at hrF
    generalize hR : uI (r) (t + 1 + 1 + 1) 17 = R at hrF
    have hlo : ∀ j, j < t → R j = r j := fun j hj => by rw [← hR]; unfold uI; rw [if_neg (by omega)]
    have r0 : R (t) = 0 := by rw [← hR]; unfold uI; rw [if_neg (by omega)]; exact hz _ (by omega)
    have r1 : R (t + 1) = 0 := by rw [← hR]; unfold uI; rw [if_neg (by omega)]; exact hz _ (by omega)
    have r2 : R (t + 1 + 1) = 0 := by rw [← hR]; unfold uI; rw [if_neg (by omega)]; exact hz _ (by omega)
    have r3 : R (t + 1 + 1 + 1) = 17 := by rw [← hR]; unfold uI; rw [if_pos rfl]
    have h0 := hT.cc hlo
    have h1 := h0.t0 r0
    have h2 := h1.t0 r1
    have h3 := h2.t0 r2
    have h4 := h3.t17 r3 v3 (by omega) (by omega)
    have s0 := (hst (n) (by omega) (by omega)).1
    have w0 := (hst (n) (by omega) (by omega)).2
    have eo0 : (u1 (u1 (u1 (o) (n) 44) (n + 1) (K (t + 1 + 1))) (n + 1 + 1) (K (t + 1))) (n) = 44 := by unfold u1; rw [if_neg (by omega), if_neg (by omega), if_pos rfl]
    rw [eo0] at s0 w0
    have ex0 : (uI (uI (uI (x) (n) (vv (t))) (n + 1) (nI (t + 1 + 1 + 1))) (n + 1 + 1) 0) (n) = (vv (t)) := by unfold uI; rw [if_neg (by omega), if_neg (by omega), if_pos rfl]
    rw [ex0] at w0
    replace w0 : g (n) = nI (nn) := w0.trans (rs_44.trans ((hvv _).trans (by rw [v0]; exact tN (by omega))))
    have s1 := (hst (n + 1) (by omega) (by omega)).1
    have w1 := (hst (n + 1) (by omega) (by omega)).2
    have eo1 : (u1 (u1 (u1 (o) (n) 44) (n + 1) (K (t + 1 + 1))) (n + 1 + 1) (K (t + 1))) (n + 1) = 20 := by unfold u1; rw [if_neg (by omega), if_pos rfl]; exact k2
    rw [eo1] at s1 w1
    have ex1 : (uI (uI (uI (x) (n) (vv (t))) (n + 1) (nI (t + 1 + 1 + 1))) (n + 1 + 1) 0) (n + 1) = (nI (t + 1 + 1 + 1)) := by unfold uI; rw [if_neg (by omega), if_pos rfl]
    rw [ex1] at w1
    replace w1 : g (n + 1) = nI (v % nh) := w1.trans (rs_h (by decide) (by omega) (by rw [v3, tdR_c (fun i hi => hrF i (by omega))]; exact h3.2.1.2.1.fd (by omega) (by omega)))
    have s2 := (hst (n + 1 + 1) (by omega) (by omega)).1
    have w2 := (hst (n + 1 + 1) (by omega) (by omega)).2
    have eo2 : (u1 (u1 (u1 (o) (n) 44) (n + 1) (K (t + 1 + 1))) (n + 1 + 1) (K (t + 1))) (n + 1 + 1) = 35 := by unfold u1; rw [if_pos rfl]; exact k1
    rw [eo2] at s2 w2
    have e0 := EV.nil (c := cn 5) (ρ := ρ) (σ := σ) (w := g) (f := n)
    have e1 := e0.push s0 rfl (show fdV (cn 5) ρ 44 (g (n)) = nI (nn) from w0)
    have e2 := e1.push s1 rfl (show fdV (cn 5) ρ 20 (g (n + 1)) = ρ 18 (v % nh) from (congrArg (fun z : Int32 => ρ 18 z.toNatClampNeg) w1).trans (congrArg (ρ 18) (nI_cl (by omega))))
    have e3 := e2.bin s2 rfl
    have ef := EV.fin e3
    subst hc3 hc4
    exact ef
theorem sm_3 {K : Nat → Nat} {V : Nat → Int64} {S : Nat → Int32} {vv : Nat → Int32} (hvv : ∀ t, vv t = (V t).toInt32) {t n : Nat} (htn : t < 1000 ∧ n < 1000) {o : Nat → Nat} {x r : Nat → Int32} {nh nt c h w : Nat} {D : RH} (hz : ∀ i, t ≤ i → r i = 0) (hT : TI V S r t nt nh c h w D) {nn v : Nat} (hn : nn < 99) (hv : v < 10) (hh0 : 1 ≤ nh ∧ nh ≤ 5) (ht0 : 1 ≤ nt ∧ nt ≤ 6) {w9 : List Nat} (hA : AtL K V t (smP 3 nn v nt nh w9)) (hnx : K (t + (smP 3 nn v nt nh w9).length) = 32 ∨ K (t + (smP 3 nn v nt nh w9).length) = 13) {cn : Nat → Nat} (hc3 : cn 3 = nt) (hc4 : cn 4 = nh) : ∃ m o' x' r', PR K vv 3 0 (true, (t, n, o, x, r)) (true, (t + (smP 3 nn v nt nh w9).length, n + m, o', x', r')) ∧ XR V S t (smP 3 nn v nt nh w9).length n m o o' x x' r r' nt nh c h w D (fun σ g => ∀ ρ, vlF (cn 5) ρ σ g n (n + m) = smF cn ρ 3 nn v) := by
  have m4 : v % nh < nh := Nat.mod_lt _ (by omega)
  have m3 : v % nt < nt := Nat.mod_lt _ (by omega)
  have m5 : nn % nh < nh := Nat.mod_lt _ (by omega)
  have m6 : nn % 20 < 20 := Nat.mod_lt _ (by decide)
  have m7 : nn % 9 < 9 := Nat.mod_lt _ (by decide)
  have m8 : nn % 3 < 3 := Nat.mod_lt _ (by decide)
  change K (t + 9) = 32 ∨ K (t + 9) = 13 at hnx
  obtain ⟨⟨k0, v0⟩, ⟨k1, v1⟩, ⟨k2, v2⟩, ⟨k3, v3⟩, ⟨k4, v4⟩, ⟨k5, v5⟩, ⟨k6, v6⟩, ⟨k7, v7⟩, ⟨k8, v8⟩, -⟩ := hA
  replace k0 : K (t) = 6 := k0
  replace k1 : K (t + 1) = 43 := k1
  replace v1 : V (t + 1) = nmV 104 (v % nh) := v1 (wn_a _ _ _ rfl)
  replace k2 : K (t + 1 + 1) = 36 := k2
  replace k3 : K (t + 1 + 1 + 1) = 44 := k3
  replace v3 : V (t + 1 + 1 + 1) = Int64.ofNat (nn) := v3 (wn_n _ _ (by omega))
  replace k4 : K (t + 1 + 1 + 1 + 1) = 37 := k4
  replace k5 : K (t + 1 + 1 + 1 + 1 + 1) = 44 := k5
  replace v5 : V (t + 1 + 1 + 1 + 1 + 1) = Int64.ofNat (9) := v5 (wn_n _ _ (by omega))
  replace k6 : K (t + 1 + 1 + 1 + 1 + 1 + 1) = 34 := k6
  replace k7 : K (t + 1 + 1 + 1 + 1 + 1 + 1 + 1) = 3 := k7
  replace k8 : K (t + 1 + 1 + 1 + 1 + 1 + 1 + 1 + 1) = 43 := k8
  replace v8 : V (t + 1 + 1 + 1 + 1 + 1 + 1 + 1 + 1) = nmV 115 (v % nt) := v8 (wn_a _ _ _ rfl)
  refine ⟨7, u1 (u1 (u1 (u1 (u1 (u1 (u1 (o) (n) (K (t))) (n + 1) 44) (n + 1 + 1) (K (t + 1 + 1))) (n + 1 + 1 + 1) 44) (n + 1 + 1 + 1 + 1) (K (t + 1 + 1 + 1 + 1))) (n + 1 + 1 + 1 + 1 + 1) (K (t + 1 + 1 + 1 + 1 + 1 + 1 + 1))) (n + 1 + 1 + 1 + 1 + 1 + 1) (K (t + 1 + 1 + 1 + 1 + 1 + 1)), uI (uI (uI (uI (uI (uI (uI (x) (n) (nI (t + 1))) (n + 1) (vv (t + 1 + 1 + 1))) (n + 1 + 1) 0) (n + 1 + 1 + 1) (vv (t + 1 + 1 + 1 + 1 + 1))) (n + 1 + 1 + 1 + 1) 0) (n + 1 + 1 + 1 + 1 + 1) (nI (t + 1 + 1 + 1 + 1 + 1 + 1 + 1 + 1))) (n + 1 + 1 + 1 + 1 + 1 + 1) 0, uI (uI (r) (t + 1) 17) (t + 1 + 1 + 1 + 1 + 1 + 1 + 1 + 1) 18, (PR.sum (PR.prd (PR.hrs (kE (P := fun z => z = 20 ∨ z = 21 ∨ z = 6) k0 (by decide)) k1) (PR.prl' (kE (P := fun z => z = 36 ∨ z = 37) k2 (by decide)) (PR.num k3) (PR.prl' (kE (P := fun z => z = 36 ∨ z = 37) k4 (by decide)) (PR.num k5) (PR.pre (kE (P := fun z => ¬ (z = 36 ∨ z = 37)) k6 (by decide)))))) (PR.sul' (kE (P := fun z => z = 34 ∨ z = 35) k6 (by decide)) (PR.prd (PR.str (kE (P := fun z => z = 3 ∨ z = 22) k7 (by decide)) k8) (PR.pre (kNx (P := fun z => ¬ (z = 36 ∨ z = 37)) (by decide) (by decide) hnx))) (PR.sue (kNx (P := fun z => ¬ (z = 34 ∨ z = 35)) (by decide) (by decide) hnx)))), ⟨by decide, by decide⟩, fun i hi => ⟨?_, ?_⟩, fun i hi => ?_, fun i hi => ?_, ?_, fun rF σ g hrF hst ρ => ?_⟩
  · unfold u1; rw [if_neg (by omega), if_neg (by omega), if_neg (by omega), if_neg (by omega), if_neg (by omega), if_neg (by omega), if_neg (by omega)]
  · unfold uI; rw [if_neg (by omega), if_neg (by omega), if_neg (by omega), if_neg (by omega), if_neg (by omega), if_neg (by omega), if_neg (by omega)]
  · change t + 9 ≤ i at hi
    unfold uI; rw [if_neg (by omega), if_neg (by omega)]; exact hz i (by omega)
  · unfold uI; rw [if_neg (by omega), if_neg (by omega)]
  · show TI V S (uI (uI (r) (t + 1) 17) (t + 1 + 1 + 1 + 1 + 1 + 1 + 1 + 1) 18) (t + 9) nt nh c h w D
    generalize hR : uI (uI (r) (t + 1) 17) (t + 1 + 1 + 1 + 1 + 1 + 1 + 1 + 1) 18 = R
    have hlo : ∀ j, j < t → R j = r j := fun j hj => by rw [← hR]; unfold uI; rw [if_neg (by omega), if_neg (by omega)]
    have r0 : R (t) = 0 := by rw [← hR]; unfold uI; rw [if_neg (by omega), if_neg (by omega)]; exact hz _ (by omega)
    have r1 : R (t + 1) = 17 := by rw [← hR]; unfold uI; rw [if_neg (by omega), if_pos rfl]
    have r2 : R (t + 1 + 1) = 0 := by rw [← hR]; unfold uI; rw [if_neg (by omega), if_neg (by omega)]; exact hz _ (by omega)
    have r3 : R (t + 1 + 1 + 1) = 0 := by rw [← hR]; unfold uI; rw [if_neg (by omega), if_neg (by omega)]; exact hz _ (by omega)
    have r4 : R (t + 1 + 1 + 1 + 1) = 0 := by rw [← hR]; unfold uI; rw [if_neg (by omega), if_neg (by omega)]; exact hz _ (by omega)
    have r5 : R (t + 1 + 1 + 1 + 1 + 1) = 0 := by rw [← hR]; unfold uI; rw [if_neg (by omega), if_neg (by omega)]; exact hz _ (by omega)
    have r6 : R (t + 1 + 1 + 1 + 1 + 1 + 1) = 0 := by rw [← hR]; unfold uI; rw [if_neg (by omega), if_neg (by omega)]; exact hz _ (by omega)
    have r7 : R (t + 1 + 1 + 1 + 1 + 1 + 1 + 1) = 0 := by rw [← hR]; unfold uI; rw [if_neg (by omega), if_neg (by omega)]; exact hz _ (by omega)
    have r8 : R (t + 1 + 1 + 1 + 1 + 1 + 1 + 1 + 1) = 18 := by rw [← hR]; unfold uI; rw [if_pos rfl]
    have h0 := hT.cc hlo
    have h1 := h0.t0 r0
    have h2 := h1.t17 r1 v1 (by omega) (by omega)
    have h3 := h2.t0 r2
    have h4 := h3.t0 r3
    have h5 := h4.t0 r4
    have h6 := h5.t0 r5
    have h7 := h6.t0 r6
    have h8 := h7.t0 r7
    have h9 := h8.t18 r8 v8 (by omega) (by omega)
    exact h9
  · change ∀ i, i < t + 9 → rF i = (uI (uI (r) (t + 1) 17) (t + 1 + 1 + 1 + 1 + 1 + 1 + 1 + 1) 18) i at hrF
    generalize hR : uI (uI (r) (t + 1) 17) (t + 1 + 1 + 1 + 1 + 1 + 1 + 1 + 1) 18 = R at hrF
    have hlo : ∀ j, j < t → R j = r j := fun j hj => by rw [← hR]; unfold uI; rw [if_neg (by omega), if_neg (by omega)]
    have r0 : R (t) = 0 := by rw [← hR]; unfold uI; rw [if_neg (by omega), if_neg (by omega)]; exact hz _ (by omega)
    have r1 : R (t + 1) = 17 := by rw [← hR]; unfold uI; rw [if_neg (by omega), if_pos rfl]
    have r2 : R (t + 1 + 1) = 0 := by rw [← hR]; unfold uI; rw [if_neg (by omega), if_neg (by omega)]; exact hz _ (by omega)
    have r3 : R (t + 1 + 1 + 1) = 0 := by rw [← hR]; unfold uI; rw [if_neg (by omega), if_neg (by omega)]; exact hz _ (by omega)
    have r4 : R (t + 1 + 1 + 1 + 1) = 0 := by rw [← hR]; unfold uI; rw [if_neg (by omega), if_neg (by omega)]; exact hz _ (by omega)
    have r5 : R (t + 1 + 1 + 1 + 1 + 1) = 0 := by rw [← hR]; unfold uI; rw [if_neg (by omega), if_neg (by omega)]; exact hz _ (by omega)
    have r6 : R (t + 1 + 1 + 1 + 1 + 1 + 1) = 0 := by rw [← hR]; unfold uI; rw [if_neg (by omega), if_neg (by omega)]; exact hz _ (by omega)
    have r7 : R (t + 1 + 1 + 1 + 1 + 1 + 1 + 1) = 0 := by rw [← hR]; unfold uI; rw [if_neg (by omega), if_neg (by omega)]; exact hz _ (by omega)
    have r8 : R (t + 1 + 1 + 1 + 1 + 1 + 1 + 1 + 1) = 18 := by rw [← hR]; unfold uI; rw [if_pos rfl]
    have h0 := hT.cc hlo
    have h1 := h0.t0 r0
    have h2 := h1.t17 r1 v1 (by omega) (by omega)
    have h3 := h2.t0 r2
    have h4 := h3.t0 r3
    have h5 := h4.t0 r4
    have h6 := h5.t0 r5
    have h7 := h6.t0 r6
    have h8 := h7.t0 r7
    have h9 := h8.t18 r8 v8 (by omega) (by omega)
    have s0 := (hst (n) (by omega) (by omega)).1
    have w0 := (hst (n) (by omega) (by omega)).2
    have eo0 : (u1 (u1 (u1 (u1 (u1 (u1 (u1 (o) (n) (K (t))) (n + 1) 44) (n + 1 + 1) (K (t + 1 + 1))) (n + 1 + 1 + 1) 44) (n + 1 + 1 + 1 + 1) (K (t + 1 + 1 + 1 + 1))) (n + 1 + 1 + 1 + 1 + 1) (K (t + 1 + 1 + 1 + 1 + 1 + 1 + 1))) (n + 1 + 1 + 1 + 1 + 1 + 1) (K (t + 1 + 1 + 1 + 1 + 1 + 1))) (n) = 6 := by unfold u1; rw [if_neg (by omega), if_neg (by omega), if_neg (by omega), if_neg (by omega), if_neg (by omega), if_neg (by omega), if_pos rfl]; exact k0
    rw [eo0] at s0 w0
    have ex0 : (uI (uI (uI (uI (uI (uI (uI (x) (n) (nI (t + 1))) (n + 1) (vv (t + 1 + 1 + 1))) (n + 1 + 1) 0) (n + 1 + 1 + 1) (vv (t + 1 + 1 + 1 + 1 + 1))) (n + 1 + 1 + 1 + 1) 0) (n + 1 + 1 + 1 + 1 + 1) (nI (t + 1 + 1 + 1 + 1 + 1 + 1 + 1 + 1))) (n + 1 + 1 + 1 + 1 + 1 + 1) 0) (n) = (nI (t + 1)) := by unfold uI; rw [if_neg (by omega), if_neg (by omega), if_neg (by omega), if_neg (by omega), if_neg (by omega), if_neg (by omega), if_pos rfl]
    rw [ex0] at w0
    replace w0 : g (n) = nI (v % nh) := w0.trans (rs_h (by decide) (by omega) (by rw [v1, tdR_c (fun i hi => hrF i (by omega))]; exact h1.2.1.2.1.fd (by omega) (by omega)))
    have s1 := (hst (n + 1) (by omega) (by omega)).1
    have w1 := (hst (n + 1) (by omega) (by omega)).2
    have eo1 : (u1 (u1 (u1 (u1 (u1 (u1 (u1 (o) (n) (K (t))) (n + 1) 44) (n + 1 + 1) (K (t + 1 + 1))) (n + 1 + 1 + 1) 44) (n + 1 + 1 + 1 + 1) (K (t + 1 + 1 + 1 + 1))) (n + 1 + 1 + 1 + 1 + 1) (K (t + 1 + 1 + 1 + 1 + 1 + 1 + 1))) (n + 1 + 1 + 1 + 1 + 1 + 1) (K (t + 1 + 1 + 1 + 1 + 1 + 1))) (n + 1) = 44 := by unfold u1; rw [if_neg (by omega), if_neg (by omega), if_neg (by omega), if_neg (by omega), if_neg (by omega), if_pos rfl]
    rw [eo1] at s1 w1
    have ex1 : (uI (uI (uI (uI (uI (uI (uI (x) (n) (nI (t + 1))) (n + 1) (vv (t + 1 + 1 + 1))) (n + 1 + 1) 0) (n + 1 + 1 + 1) (vv (t + 1 + 1 + 1 + 1 + 1))) (n + 1 + 1 + 1 + 1) 0) (n + 1 + 1 + 1 + 1 + 1) (nI (t + 1 + 1 + 1 + 1 + 1 + 1 + 1 + 1))) (n + 1 + 1 + 1 + 1 + 1 + 1) 0) (n + 1) = (vv (t + 1 + 1 + 1)) := by unfold uI; rw [if_neg (by omega), if_neg (by omega), if_neg (by omega), if_neg (by omega), if_neg (by omega), if_pos rfl]
    rw [ex1] at w1
    replace w1 : g (n + 1) = nI (nn) := w1.trans (rs_44.trans ((hvv _).trans (by rw [v3]; exact tN (by omega))))
    have s2 := (hst (n + 1 + 1) (by omega) (by omega)).1
    have w2 := (hst (n + 1 + 1) (by omega) (by omega)).2
    have eo2 : (u1 (u1 (u1 (u1 (u1 (u1 (u1 (o) (n) (K (t))) (n + 1) 44) (n + 1 + 1) (K (t + 1 + 1))) (n + 1 + 1 + 1) 44) (n + 1 + 1 + 1 + 1) (K (t + 1 + 1 + 1 + 1))) (n + 1 + 1 + 1 + 1 + 1) (K (t + 1 + 1 + 1 + 1 + 1 + 1 + 1))) (n + 1 + 1 + 1 + 1 + 1 + 1) (K (t + 1 + 1 + 1 + 1 + 1 + 1))) (n + 1 + 1) = 36 := by unfold u1; rw [if_neg (by omega), if_neg (by omega), if_neg (by omega), if_neg (by omega), if_pos rfl]; exact k2
    rw [eo2] at s2 w2
    have s3 := (hst (n + 1 + 1 + 1) (by omega) (by omega)).1
    have w3 := (hst (n + 1 + 1 + 1) (by omega) (by omega)).2
    have eo3 : (u1 (u1 (u1 (u1 (u1 (u1 (u1 (o) (n) (K (t))) (n + 1) 44) (n + 1 + 1) (K (t + 1 + 1))) (n + 1 + 1 + 1) 44) (n + 1 + 1 + 1 + 1) (K (t + 1 + 1 + 1 + 1))) (n + 1 + 1 + 1 + 1 + 1) (K (t + 1 + 1 + 1 + 1 + 1 + 1 + 1))) (n + 1 + 1 + 1 + 1 + 1 + 1) (K (t + 1 + 1 + 1 + 1 + 1 + 1))) (n + 1 + 1 + 1) = 44 := by unfold u1; rw [if_neg (by omega), if_neg (by omega), if_neg (by omega), if_pos rfl]
    rw [eo3] at s3 w3
    have ex3 : (uI (uI (uI (uI (uI (uI (uI (x) (n) (nI (t + 1))) (n + 1) (vv (t + 1 + 1 + 1))) (n + 1 + 1) 0) (n + 1 + 1 + 1) (vv (t + 1 + 1 + 1 + 1 + 1))) (n + 1 + 1 + 1 + 1) 0) (n + 1 + 1 + 1 + 1 + 1) (nI (t + 1 + 1 + 1 + 1 + 1 + 1 + 1 + 1))) (n + 1 + 1 + 1 + 1 + 1 + 1) 0) (n + 1 + 1 + 1) = (vv (t + 1 + 1 + 1 + 1 + 1)) := by unfold uI; rw [if_neg (by omega), if_neg (by omega), if_neg (by omega), if_pos rfl]
    rw [ex3] at w3
    replace w3 : g (n + 1 + 1 + 1) = nI (9) := w3.trans (rs_44.trans ((hvv _).trans (by rw [v5]; exact tN (by omega))))
    have s4 := (hst (n + 1 + 1 + 1 + 1) (by omega) (by omega)).1
    have w4 := (hst (n + 1 + 1 + 1 + 1) (by omega) (by omega)).2
    have eo4 : (u1 (u1 (u1 (u1 (u1 (u1 (u1 (o) (n) (K (t))) (n + 1) 44) (n + 1 + 1) (K (t + 1 + 1))) (n + 1 + 1 + 1) 44) (n + 1 + 1 + 1 + 1) (K (t + 1 + 1 + 1 + 1))) (n + 1 + 1 + 1 + 1 + 1) (K (t + 1 + 1 + 1 + 1 + 1 + 1 + 1))) (n + 1 + 1 + 1 + 1 + 1 + 1) (K (t + 1 + 1 + 1 + 1 + 1 + 1))) (n + 1 + 1 + 1 + 1) = 37 := by unfold u1; rw [if_neg (by omega), if_neg (by omega), if_pos rfl]; exact k4
    rw [eo4] at s4 w4
    have s5 := (hst (n + 1 + 1 + 1 + 1 + 1) (by omega) (by omega)).1
    have w5 := (hst (n + 1 + 1 + 1 + 1 + 1) (by omega) (by omega)).2
    have eo5 : (u1 (u1 (u1 (u1 (u1 (u1 (u1 (o) (n) (K (t))) (n + 1) 44) (n + 1 + 1) (K (t + 1 + 1))) (n + 1 + 1 + 1) 44) (n + 1 + 1 + 1 + 1) (K (t + 1 + 1 + 1 + 1))) (n + 1 + 1 + 1 + 1 + 1) (K (t + 1 + 1 + 1 + 1 + 1 + 1 + 1))) (n + 1 + 1 + 1 + 1 + 1 + 1) (K (t + 1 + 1 + 1 + 1 + 1 + 1))) (n + 1 + 1 + 1 + 1 + 1) = 3 := by unfold u1; rw [if_neg (by omega), if_pos rfl]; exact k7
    rw [eo5] at s5 w5
    have ex5 : (uI (uI (uI (uI (uI (uI (uI (x) (n) (nI (t + 1))) (n + 1) (vv (t + 1 + 1 + 1))) (n + 1 + 1) 0) (n + 1 + 1 + 1) (vv (t + 1 + 1 + 1 + 1 + 1))) (n + 1 + 1 + 1 + 1) 0) (n + 1 + 1 + 1 + 1 + 1) (nI (t + 1 + 1 + 1 + 1 + 1 + 1 + 1 + 1))) (n + 1 + 1 + 1 + 1 + 1 + 1) 0) (n + 1 + 1 + 1 + 1 + 1) = (nI (t + 1 + 1 + 1 + 1 + 1 + 1 + 1 + 1)) := by unfold uI; rw [if_neg (by omega), if_pos rfl]
    rw [ex5] at w5
    replace w5 : g (n + 1 + 1 + 1 + 1 + 1) = nI (v % nt) := w5.trans (rs_s (by decide) (by omega) (by rw [v8, tdR_c (fun i hi => hrF i (by omega))]; exact h8.2.1.1.fd (by omega) (by omega)))
    have s6 := (hst (n + 1 + 1 + 1 + 1 + 1 + 1) (by omega) (by omega)).1
    have w6 := (hst (n + 1 + 1 + 1 + 1 + 1 + 1) (by omega) (by omega)).2
    have eo6 : (u1 (u1 (u1 (u1 (u1 (u1 (u1 (o) (n) (K (t))) (n + 1) 44) (n + 1 + 1) (K (t + 1 + 1))) (n + 1 + 1 + 1) 44) (n + 1 + 1 + 1 + 1) (K (t + 1 + 1 + 1 + 1))) (n + 1 + 1 + 1 + 1 + 1) (K (t + 1 + 1 + 1 + 1 + 1 + 1 + 1))) (n + 1 + 1 + 1 + 1 + 1 + 1) (K (t + 1 + 1 + 1 + 1 + 1 + 1))) (n + 1 + 1 + 1 + 1 + 1 + 1) = 34 := by unfold u1; rw [if_pos rfl]; exact k6
    rw [eo6] at s6 w6
    have e0 := EV.nil (c := cn 5) (ρ := ρ) (σ := σ) (w := g) (f := n)
    have e1 := e0.push s0 rfl (show fdV (cn 5) ρ 6 (g (n)) = ρ 12 (v % nh) from (congrArg (fun z : Int32 => ρ 12 z.toNatClampNeg) w0).trans (congrArg (ρ 12) (nI_cl (by omega))))
    have e2 := e1.push s1 rfl (show fdV (cn 5) ρ 44 (g (n + 1)) = nI (nn) from w1)
    have e3 := e2.bin s2 rfl
    have e4 := e3.push s3 rfl (show fdV (cn 5) ρ 44 (g (n + 1 + 1 + 1)) = nI (9) from w3)
    have e5 := e4.bin s4 rfl
    have e6 := e5.push s5 rfl (show fdV (cn 5) ρ 3 (g (n + 1 + 1 + 1 + 1 + 1)) = ρ 43 (v % nt) from (congrArg (fun z : Int32 => ρ 43 z.toNatClampNeg) w5).trans (congrArg (ρ 43) (nI_cl (by omega))))
    have e7 := e6.bin s6 rfl
    have ef := EV.fin e7
    subst hc3 hc4
    exact ef
theorem sm_4 {K : Nat → Nat} {V : Nat → Int64} {S : Nat → Int32} {vv : Nat → Int32} (hvv : ∀ t, vv t = (V t).toInt32) {t n : Nat} (htn : t < 1000 ∧ n < 1000) {o : Nat → Nat} {x r : Nat → Int32} {nh nt c h w : Nat} {D : RH} (hz : ∀ i, t ≤ i → r i = 0) (hT : TI V S r t nt nh c h w D) {nn v : Nat} (hn : nn < 99) (hv : v < 10) (hh0 : 1 ≤ nh ∧ nh ≤ 5) (ht0 : 1 ≤ nt ∧ nt ≤ 6) {w9 : List Nat} (hA : AtL K V t (smP 4 nn v nt nh w9)) (hnx : K (t + (smP 4 nn v nt nh w9).length) = 32 ∨ K (t + (smP 4 nn v nt nh w9).length) = 13) {cn : Nat → Nat} (hc3 : cn 3 = nt) (hc4 : cn 4 = nh) : ∃ m o' x' r', PR K vv 3 0 (true, (t, n, o, x, r)) (true, (t + (smP 4 nn v nt nh w9).length, n + m, o', x', r')) ∧ XR V S t (smP 4 nn v nt nh w9).length n m o o' x x' r r' nt nh c h w D (fun σ g => ∀ ρ, vlF (cn 5) ρ σ g n (n + m) = smF cn ρ 4 nn v) := by
  have m4 : v % nh < nh := Nat.mod_lt _ (by omega)
  have m3 : v % nt < nt := Nat.mod_lt _ (by omega)
  have m5 : nn % nh < nh := Nat.mod_lt _ (by omega)
  have m6 : nn % 20 < 20 := Nat.mod_lt _ (by decide)
  have m7 : nn % 9 < 9 := Nat.mod_lt _ (by decide)
  have m8 : nn % 3 < 3 := Nat.mod_lt _ (by decide)
  change K (t + 9) = 32 ∨ K (t + 9) = 13 at hnx
  obtain ⟨⟨k0, v0⟩, ⟨k1, v1⟩, ⟨k2, v2⟩, ⟨k3, v3⟩, ⟨k4, v4⟩, ⟨k5, v5⟩, ⟨k6, v6⟩, ⟨k7, v7⟩, ⟨k8, v8⟩, -⟩ := hA
  replace k0 : K (t) = 44 := k0
  replace v0 : V (t) = Int64.ofNat (nn) := v0 (wn_n _ _ (by omega))
  replace k1 : K (t + 1) = 34 := k1
  replace k2 : K (t + 1 + 1) = 17 := k2
  replace k3 : K (t + 1 + 1 + 1) = 36 := k3
  replace k4 : K (t + 1 + 1 + 1 + 1) = 44 := k4
  replace v4 : V (t + 1 + 1 + 1 + 1) = Int64.ofNat (5) := v4 (wn_n _ _ (by omega))
  replace k5 : K (t + 1 + 1 + 1 + 1 + 1) = 35 := k5
  replace k6 : K (t + 1 + 1 + 1 + 1 + 1 + 1) = 16 := k6
  replace k7 : K (t + 1 + 1 + 1 + 1 + 1 + 1 + 1) = 37 := k7
  replace k8 : K (t + 1 + 1 + 1 + 1 + 1 + 1 + 1 + 1) = 44 := k8
  replace v8 : V (t + 1 + 1 + 1 + 1 + 1 + 1 + 1 + 1) = Int64.ofNat (10) := v8 (wn_n _ _ (by omega))
  refine ⟨9, u1 (u1 (u1 (u1 (u1 (u1 (u1 (u1 (u1 (o) (n) 44) (n + 1) (K (t + 1 + 1))) (n + 1 + 1) 44) (n + 1 + 1 + 1) (K (t + 1 + 1 + 1))) (n + 1 + 1 + 1 + 1) (K (t + 1))) (n + 1 + 1 + 1 + 1 + 1) (K (t + 1 + 1 + 1 + 1 + 1 + 1))) (n + 1 + 1 + 1 + 1 + 1 + 1) 44) (n + 1 + 1 + 1 + 1 + 1 + 1 + 1) (K (t + 1 + 1 + 1 + 1 + 1 + 1 + 1))) (n + 1 + 1 + 1 + 1 + 1 + 1 + 1 + 1) (K (t + 1 + 1 + 1 + 1 + 1)), uI (uI (uI (uI (uI (uI (uI (uI (uI (x) (n) (vv (t))) (n + 1) 0) (n + 1 + 1) (vv (t + 1 + 1 + 1 + 1))) (n + 1 + 1 + 1) 0) (n + 1 + 1 + 1 + 1) 0) (n + 1 + 1 + 1 + 1 + 1) 0) (n + 1 + 1 + 1 + 1 + 1 + 1) (vv (t + 1 + 1 + 1 + 1 + 1 + 1 + 1 + 1))) (n + 1 + 1 + 1 + 1 + 1 + 1 + 1) 0) (n + 1 + 1 + 1 + 1 + 1 + 1 + 1 + 1) 0, r, (PR.sum (PR.prd (PR.num k0) (PR.pre (kE (P := fun z => ¬ (z = 36 ∨ z = 37)) k1 (by decide)))) (PR.sul' (kE (P := fun z => z = 34 ∨ z = 35) k1 (by decide)) (PR.prd (PR.wrd (kE (P := fun z => 16 ≤ z ∧ z ≤ 19) k2 (by decide))) (PR.prl' (kE (P := fun z => z = 36 ∨ z = 37) k3 (by decide)) (PR.num k4) (PR.pre (kE (P := fun z => ¬ (z = 36 ∨ z = 37)) k5 (by decide))))) (PR.sul' (kE (P := fun z => z = 34 ∨ z = 35) k5 (by decide)) (PR.prd (PR.wrd (kE (P := fun z => 16 ≤ z ∧ z ≤ 19) k6 (by decide))) (PR.prl' (kE (P := fun z => z = 36 ∨ z = 37) k7 (by decide)) (PR.num k8) (PR.pre (kNx (P := fun z => ¬ (z = 36 ∨ z = 37)) (by decide) (by decide) hnx)))) (PR.sue (kNx (P := fun z => ¬ (z = 34 ∨ z = 35)) (by decide) (by decide) hnx))))), ⟨by decide, by decide⟩, fun i hi => ⟨?_, ?_⟩, fun i hi => ?_, fun i hi => ?_, ?_, fun rF σ g hrF hst ρ => ?_⟩
  · unfold u1; rw [if_neg (by omega), if_neg (by omega), if_neg (by omega), if_neg (by omega), if_neg (by omega), if_neg (by omega), if_neg (by omega), if_neg (by omega), if_neg (by omega)]
  · unfold uI; rw [if_neg (by omega), if_neg (by omega), if_neg (by omega), if_neg (by omega), if_neg (by omega), if_neg (by omega), if_neg (by omega), if_neg (by omega), if_neg (by omega)]
  · change t + 9 ≤ i at hi
    exact hz i (by omega)
  · rfl
  · show TI V S (r) (t + 9) nt nh c h w D
    generalize hR : r = R
    have hlo : ∀ j, j < t → R j = r j := fun j hj => by rw [← hR]
    have r0 : R (t) = 0 := by rw [← hR]; exact hz _ (by omega)
    have r1 : R (t + 1) = 0 := by rw [← hR]; exact hz _ (by omega)
    have r2 : R (t + 1 + 1) = 0 := by rw [← hR]; exact hz _ (by omega)
    have r3 : R (t + 1 + 1 + 1) = 0 := by rw [← hR]; exact hz _ (by omega)
    have r4 : R (t + 1 + 1 + 1 + 1) = 0 := by rw [← hR]; exact hz _ (by omega)
    have r5 : R (t + 1 + 1 + 1 + 1 + 1) = 0 := by rw [← hR]; exact hz _ (by omega)
    have r6 : R (t + 1 + 1 + 1 + 1 + 1 + 1) = 0 := by rw [← hR]; exact hz _ (by omega)
    have r7 : R (t + 1 + 1 + 1 + 1 + 1 + 1 + 1) = 0 := by rw [← hR]; exact hz _ (by omega)
    have r8 : R (t + 1 + 1 + 1 + 1 + 1 + 1 + 1 + 1) = 0 := by rw [← hR]; exact hz _ (by omega)
    have h0 := hT.cc hlo
    have h1 := h0.t0 r0
    have h2 := h1.t0 r1
    have h3 := h2.t0 r2
    have h4 := h3.t0 r3
    have h5 := h4.t0 r4
    have h6 := h5.t0 r5
    have h7 := h6.t0 r6
    have h8 := h7.t0 r7
    have h9 := h8.t0 r8
    exact h9
  · change ∀ i, i < t + 9 → rF i = (r) i at hrF
    generalize hR : r = R at hrF
    have hlo : ∀ j, j < t → R j = r j := fun j hj => by rw [← hR]
    have r0 : R (t) = 0 := by rw [← hR]; exact hz _ (by omega)
    have r1 : R (t + 1) = 0 := by rw [← hR]; exact hz _ (by omega)
    have r2 : R (t + 1 + 1) = 0 := by rw [← hR]; exact hz _ (by omega)
    have r3 : R (t + 1 + 1 + 1) = 0 := by rw [← hR]; exact hz _ (by omega)
    have r4 : R (t + 1 + 1 + 1 + 1) = 0 := by rw [← hR]; exact hz _ (by omega)
    have r5 : R (t + 1 + 1 + 1 + 1 + 1) = 0 := by rw [← hR]; exact hz _ (by omega)
    have r6 : R (t + 1 + 1 + 1 + 1 + 1 + 1) = 0 := by rw [← hR]; exact hz _ (by omega)
    have r7 : R (t + 1 + 1 + 1 + 1 + 1 + 1 + 1) = 0 := by rw [← hR]; exact hz _ (by omega)
    have r8 : R (t + 1 + 1 + 1 + 1 + 1 + 1 + 1 + 1) = 0 := by rw [← hR]; exact hz _ (by omega)
    have h0 := hT.cc hlo
    have h1 := h0.t0 r0
    have h2 := h1.t0 r1
    have h3 := h2.t0 r2
    have h4 := h3.t0 r3
    have h5 := h4.t0 r4
    have h6 := h5.t0 r5
    have h7 := h6.t0 r6
    have h8 := h7.t0 r7
    have h9 := h8.t0 r8
    have s0 := (hst (n) (by omega) (by omega)).1
    have w0 := (hst (n) (by omega) (by omega)).2
    have eo0 : (u1 (u1 (u1 (u1 (u1 (u1 (u1 (u1 (u1 (o) (n) 44) (n + 1) (K (t + 1 + 1))) (n + 1 + 1) 44) (n + 1 + 1 + 1) (K (t + 1 + 1 + 1))) (n + 1 + 1 + 1 + 1) (K (t + 1))) (n + 1 + 1 + 1 + 1 + 1) (K (t + 1 + 1 + 1 + 1 + 1 + 1))) (n + 1 + 1 + 1 + 1 + 1 + 1) 44) (n + 1 + 1 + 1 + 1 + 1 + 1 + 1) (K (t + 1 + 1 + 1 + 1 + 1 + 1 + 1))) (n + 1 + 1 + 1 + 1 + 1 + 1 + 1 + 1) (K (t + 1 + 1 + 1 + 1 + 1))) (n) = 44 := by unfold u1; rw [if_neg (by omega), if_neg (by omega), if_neg (by omega), if_neg (by omega), if_neg (by omega), if_neg (by omega), if_neg (by omega), if_neg (by omega), if_pos rfl]
    rw [eo0] at s0 w0
    have ex0 : (uI (uI (uI (uI (uI (uI (uI (uI (uI (x) (n) (vv (t))) (n + 1) 0) (n + 1 + 1) (vv (t + 1 + 1 + 1 + 1))) (n + 1 + 1 + 1) 0) (n + 1 + 1 + 1 + 1) 0) (n + 1 + 1 + 1 + 1 + 1) 0) (n + 1 + 1 + 1 + 1 + 1 + 1) (vv (t + 1 + 1 + 1 + 1 + 1 + 1 + 1 + 1))) (n + 1 + 1 + 1 + 1 + 1 + 1 + 1) 0) (n + 1 + 1 + 1 + 1 + 1 + 1 + 1 + 1) 0) (n) = (vv (t)) := by unfold uI; rw [if_neg (by omega), if_neg (by omega), if_neg (by omega), if_neg (by omega), if_neg (by omega), if_neg (by omega), if_neg (by omega), if_neg (by omega), if_pos rfl]
    rw [ex0] at w0
    replace w0 : g (n) = nI (nn) := w0.trans (rs_44.trans ((hvv _).trans (by rw [v0]; exact tN (by omega))))
    have s1 := (hst (n + 1) (by omega) (by omega)).1
    have w1 := (hst (n + 1) (by omega) (by omega)).2
    have eo1 : (u1 (u1 (u1 (u1 (u1 (u1 (u1 (u1 (u1 (o) (n) 44) (n + 1) (K (t + 1 + 1))) (n + 1 + 1) 44) (n + 1 + 1 + 1) (K (t + 1 + 1 + 1))) (n + 1 + 1 + 1 + 1) (K (t + 1))) (n + 1 + 1 + 1 + 1 + 1) (K (t + 1 + 1 + 1 + 1 + 1 + 1))) (n + 1 + 1 + 1 + 1 + 1 + 1) 44) (n + 1 + 1 + 1 + 1 + 1 + 1 + 1) (K (t + 1 + 1 + 1 + 1 + 1 + 1 + 1))) (n + 1 + 1 + 1 + 1 + 1 + 1 + 1 + 1) (K (t + 1 + 1 + 1 + 1 + 1))) (n + 1) = 17 := by unfold u1; rw [if_neg (by omega), if_neg (by omega), if_neg (by omega), if_neg (by omega), if_neg (by omega), if_neg (by omega), if_neg (by omega), if_pos rfl]; exact k2
    rw [eo1] at s1 w1
    have s2 := (hst (n + 1 + 1) (by omega) (by omega)).1
    have w2 := (hst (n + 1 + 1) (by omega) (by omega)).2
    have eo2 : (u1 (u1 (u1 (u1 (u1 (u1 (u1 (u1 (u1 (o) (n) 44) (n + 1) (K (t + 1 + 1))) (n + 1 + 1) 44) (n + 1 + 1 + 1) (K (t + 1 + 1 + 1))) (n + 1 + 1 + 1 + 1) (K (t + 1))) (n + 1 + 1 + 1 + 1 + 1) (K (t + 1 + 1 + 1 + 1 + 1 + 1))) (n + 1 + 1 + 1 + 1 + 1 + 1) 44) (n + 1 + 1 + 1 + 1 + 1 + 1 + 1) (K (t + 1 + 1 + 1 + 1 + 1 + 1 + 1))) (n + 1 + 1 + 1 + 1 + 1 + 1 + 1 + 1) (K (t + 1 + 1 + 1 + 1 + 1))) (n + 1 + 1) = 44 := by unfold u1; rw [if_neg (by omega), if_neg (by omega), if_neg (by omega), if_neg (by omega), if_neg (by omega), if_neg (by omega), if_pos rfl]
    rw [eo2] at s2 w2
    have ex2 : (uI (uI (uI (uI (uI (uI (uI (uI (uI (x) (n) (vv (t))) (n + 1) 0) (n + 1 + 1) (vv (t + 1 + 1 + 1 + 1))) (n + 1 + 1 + 1) 0) (n + 1 + 1 + 1 + 1) 0) (n + 1 + 1 + 1 + 1 + 1) 0) (n + 1 + 1 + 1 + 1 + 1 + 1) (vv (t + 1 + 1 + 1 + 1 + 1 + 1 + 1 + 1))) (n + 1 + 1 + 1 + 1 + 1 + 1 + 1) 0) (n + 1 + 1 + 1 + 1 + 1 + 1 + 1 + 1) 0) (n + 1 + 1) = (vv (t + 1 + 1 + 1 + 1)) := by unfold uI; rw [if_neg (by omega), if_neg (by omega), if_neg (by omega), if_neg (by omega), if_neg (by omega), if_neg (by omega), if_pos rfl]
    rw [ex2] at w2
    replace w2 : g (n + 1 + 1) = nI (5) := w2.trans (rs_44.trans ((hvv _).trans (by rw [v4]; exact tN (by omega))))
    have s3 := (hst (n + 1 + 1 + 1) (by omega) (by omega)).1
    have w3 := (hst (n + 1 + 1 + 1) (by omega) (by omega)).2
    have eo3 : (u1 (u1 (u1 (u1 (u1 (u1 (u1 (u1 (u1 (o) (n) 44) (n + 1) (K (t + 1 + 1))) (n + 1 + 1) 44) (n + 1 + 1 + 1) (K (t + 1 + 1 + 1))) (n + 1 + 1 + 1 + 1) (K (t + 1))) (n + 1 + 1 + 1 + 1 + 1) (K (t + 1 + 1 + 1 + 1 + 1 + 1))) (n + 1 + 1 + 1 + 1 + 1 + 1) 44) (n + 1 + 1 + 1 + 1 + 1 + 1 + 1) (K (t + 1 + 1 + 1 + 1 + 1 + 1 + 1))) (n + 1 + 1 + 1 + 1 + 1 + 1 + 1 + 1) (K (t + 1 + 1 + 1 + 1 + 1))) (n + 1 + 1 + 1) = 36 := by unfold u1; rw [if_neg (by omega), if_neg (by omega), if_neg (by omega), if_neg (by omega), if_neg (by omega), if_pos rfl]; exact k3
    rw [eo3] at s3 w3
    have s4 := (hst (n + 1 + 1 + 1 + 1) (by omega) (by omega)).1
    have w4 := (hst (n + 1 + 1 + 1 + 1) (by omega) (by omega)).2
    have eo4 : (u1 (u1 (u1 (u1 (u1 (u1 (u1 (u1 (u1 (o) (n) 44) (n + 1) (K (t + 1 + 1))) (n + 1 + 1) 44) (n + 1 + 1 + 1) (K (t + 1 + 1 + 1))) (n + 1 + 1 + 1 + 1) (K (t + 1))) (n + 1 + 1 + 1 + 1 + 1) (K (t + 1 + 1 + 1 + 1 + 1 + 1))) (n + 1 + 1 + 1 + 1 + 1 + 1) 44) (n + 1 + 1 + 1 + 1 + 1 + 1 + 1) (K (t + 1 + 1 + 1 + 1 + 1 + 1 + 1))) (n + 1 + 1 + 1 + 1 + 1 + 1 + 1 + 1) (K (t + 1 + 1 + 1 + 1 + 1))) (n + 1 + 1 + 1 + 1) = 34 := by unfold u1; rw [if_neg (by omega), if_neg (by omega), if_neg (by omega), if_neg (by omega), if_pos rfl]; exact k1
    rw [eo4] at s4 w4
    have s5 := (hst (n + 1 + 1 + 1 + 1 + 1) (by omega) (by omega)).1
    have w5 := (hst (n + 1 + 1 + 1 + 1 + 1) (by omega) (by omega)).2
    have eo5 : (u1 (u1 (u1 (u1 (u1 (u1 (u1 (u1 (u1 (o) (n) 44) (n + 1) (K (t + 1 + 1))) (n + 1 + 1) 44) (n + 1 + 1 + 1) (K (t + 1 + 1 + 1))) (n + 1 + 1 + 1 + 1) (K (t + 1))) (n + 1 + 1 + 1 + 1 + 1) (K (t + 1 + 1 + 1 + 1 + 1 + 1))) (n + 1 + 1 + 1 + 1 + 1 + 1) 44) (n + 1 + 1 + 1 + 1 + 1 + 1 + 1) (K (t + 1 + 1 + 1 + 1 + 1 + 1 + 1))) (n + 1 + 1 + 1 + 1 + 1 + 1 + 1 + 1) (K (t + 1 + 1 + 1 + 1 + 1))) (n + 1 + 1 + 1 + 1 + 1) = 16 := by unfold u1; rw [if_neg (by omega), if_neg (by omega), if_neg (by omega), if_pos rfl]; exact k6
    rw [eo5] at s5 w5
    have s6 := (hst (n + 1 + 1 + 1 + 1 + 1 + 1) (by omega) (by omega)).1
    have w6 := (hst (n + 1 + 1 + 1 + 1 + 1 + 1) (by omega) (by omega)).2
    have eo6 : (u1 (u1 (u1 (u1 (u1 (u1 (u1 (u1 (u1 (o) (n) 44) (n + 1) (K (t + 1 + 1))) (n + 1 + 1) 44) (n + 1 + 1 + 1) (K (t + 1 + 1 + 1))) (n + 1 + 1 + 1 + 1) (K (t + 1))) (n + 1 + 1 + 1 + 1 + 1) (K (t + 1 + 1 + 1 + 1 + 1 + 1))) (n + 1 + 1 + 1 + 1 + 1 + 1) 44) (n + 1 + 1 + 1 + 1 + 1 + 1 + 1) (K (t + 1 + 1 + 1 + 1 + 1 + 1 + 1))) (n + 1 + 1 + 1 + 1 + 1 + 1 + 1 + 1) (K (t + 1 + 1 + 1 + 1 + 1))) (n + 1 + 1 + 1 + 1 + 1 + 1) = 44 := by unfold u1; rw [if_neg (by omega), if_neg (by omega), if_pos rfl]
    rw [eo6] at s6 w6
    have ex6 : (uI (uI (uI (uI (uI (uI (uI (uI (uI (x) (n) (vv (t))) (n + 1) 0) (n + 1 + 1) (vv (t + 1 + 1 + 1 + 1))) (n + 1 + 1 + 1) 0) (n + 1 + 1 + 1 + 1) 0) (n + 1 + 1 + 1 + 1 + 1) 0) (n + 1 + 1 + 1 + 1 + 1 + 1) (vv (t + 1 + 1 + 1 + 1 + 1 + 1 + 1 + 1))) (n + 1 + 1 + 1 + 1 + 1 + 1 + 1) 0) (n + 1 + 1 + 1 + 1 + 1 + 1 + 1 + 1) 0) (n + 1 + 1 + 1 + 1 + 1 + 1) = (vv (t + 1 + 1 + 1 + 1 + 1 + 1 + 1 + 1)) := by unfold uI; rw [if_neg (by omega), if_neg (by omega), if_pos rfl]
    rw [ex6] at w6
    replace w6 : g (n + 1 + 1 + 1 + 1 + 1 + 1) = nI (10) := w6.trans (rs_44.trans ((hvv _).trans (by rw [v8]; exact tN (by omega))))
    have s7 := (hst (n + 1 + 1 + 1 + 1 + 1 + 1 + 1) (by omega) (by omega)).1
    have w7 := (hst (n + 1 + 1 + 1 + 1 + 1 + 1 + 1) (by omega) (by omega)).2
    have eo7 : (u1 (u1 (u1 (u1 (u1 (u1 (u1 (u1 (u1 (o) (n) 44) (n + 1) (K (t + 1 + 1))) (n + 1 + 1) 44) (n + 1 + 1 + 1) (K (t + 1 + 1 + 1))) (n + 1 + 1 + 1 + 1) (K (t + 1))) (n + 1 + 1 + 1 + 1 + 1) (K (t + 1 + 1 + 1 + 1 + 1 + 1))) (n + 1 + 1 + 1 + 1 + 1 + 1) 44) (n + 1 + 1 + 1 + 1 + 1 + 1 + 1) (K (t + 1 + 1 + 1 + 1 + 1 + 1 + 1))) (n + 1 + 1 + 1 + 1 + 1 + 1 + 1 + 1) (K (t + 1 + 1 + 1 + 1 + 1))) (n + 1 + 1 + 1 + 1 + 1 + 1 + 1) = 37 := by unfold u1; rw [if_neg (by omega), if_pos rfl]; exact k7
    rw [eo7] at s7 w7
    have s8 := (hst (n + 1 + 1 + 1 + 1 + 1 + 1 + 1 + 1) (by omega) (by omega)).1
    have w8 := (hst (n + 1 + 1 + 1 + 1 + 1 + 1 + 1 + 1) (by omega) (by omega)).2
    have eo8 : (u1 (u1 (u1 (u1 (u1 (u1 (u1 (u1 (u1 (o) (n) 44) (n + 1) (K (t + 1 + 1))) (n + 1 + 1) 44) (n + 1 + 1 + 1) (K (t + 1 + 1 + 1))) (n + 1 + 1 + 1 + 1) (K (t + 1))) (n + 1 + 1 + 1 + 1 + 1) (K (t + 1 + 1 + 1 + 1 + 1 + 1))) (n + 1 + 1 + 1 + 1 + 1 + 1) 44) (n + 1 + 1 + 1 + 1 + 1 + 1 + 1) (K (t + 1 + 1 + 1 + 1 + 1 + 1 + 1))) (n + 1 + 1 + 1 + 1 + 1 + 1 + 1 + 1) (K (t + 1 + 1 + 1 + 1 + 1))) (n + 1 + 1 + 1 + 1 + 1 + 1 + 1 + 1) = 35 := by unfold u1; rw [if_pos rfl]; exact k5
    rw [eo8] at s8 w8
    have e0 := EV.nil (c := cn 5) (ρ := ρ) (σ := σ) (w := g) (f := n)
    have e1 := e0.push s0 rfl (show fdV (cn 5) ρ 44 (g (n)) = nI (nn) from w0)
    have e2 := e1.push s1 rfl (show fdV (cn 5) ρ 17 (g (n + 1)) = ρ 7 0 from rfl)
    have e3 := e2.push s2 rfl (show fdV (cn 5) ρ 44 (g (n + 1 + 1)) = nI (5) from w2)
    have e4 := e3.bin s3 rfl
    have e5 := e4.bin s4 rfl
    have e6 := e5.push s5 rfl (show fdV (cn 5) ρ 16 (g (n + 1 + 1 + 1 + 1 + 1)) = ρ 6 0 from rfl)
    have e7 := e6.push s6 rfl (show fdV (cn 5) ρ 44 (g (n + 1 + 1 + 1 + 1 + 1 + 1)) = nI (10) from w6)
    have e8 := e7.bin s7 rfl
    have e9 := e8.bin s8 rfl
    have ef := EV.fin e9
    subst hc3 hc4
    exact ef
theorem sm_5 {K : Nat → Nat} {V : Nat → Int64} {S : Nat → Int32} {vv : Nat → Int32} (hvv : ∀ t, vv t = (V t).toInt32) {t n : Nat} (htn : t < 1000 ∧ n < 1000) {o : Nat → Nat} {x r : Nat → Int32} {nh nt c h w : Nat} {D : RH} (hz : ∀ i, t ≤ i → r i = 0) (hT : TI V S r t nt nh c h w D) {nn v : Nat} (hn : nn < 99) (hv : v < 10) (hh0 : 1 ≤ nh ∧ nh ≤ 5) (ht0 : 1 ≤ nt ∧ nt ≤ 6) {w9 : List Nat} (hA : AtL K V t (smP 5 nn v nt nh w9)) (hnx : K (t + (smP 5 nn v nt nh w9).length) = 32 ∨ K (t + (smP 5 nn v nt nh w9).length) = 13) {cn : Nat → Nat} (hc3 : cn 3 = nt) (hc4 : cn 4 = nh) : ∃ m o' x' r', PR K vv 3 0 (true, (t, n, o, x, r)) (true, (t + (smP 5 nn v nt nh w9).length, n + m, o', x', r')) ∧ XR V S t (smP 5 nn v nt nh w9).length n m o o' x x' r r' nt nh c h w D (fun σ g => ∀ ρ, vlF (cn 5) ρ σ g n (n + m) = smF cn ρ 5 nn v) := by
  have m4 : v % nh < nh := Nat.mod_lt _ (by omega)
  have m3 : v % nt < nt := Nat.mod_lt _ (by omega)
  have m5 : nn % nh < nh := Nat.mod_lt _ (by omega)
  have m6 : nn % 20 < 20 := Nat.mod_lt _ (by decide)
  have m7 : nn % 9 < 9 := Nat.mod_lt _ (by decide)
  have m8 : nn % 3 < 3 := Nat.mod_lt _ (by decide)
  change K (t + 9) = 32 ∨ K (t + 9) = 13 at hnx
  obtain ⟨⟨k0, v0⟩, ⟨k1, v1⟩, ⟨k2, v2⟩, ⟨k3, v3⟩, ⟨k4, v4⟩, ⟨k5, v5⟩, ⟨k6, v6⟩, ⟨k7, v7⟩, ⟨k8, v8⟩, -⟩ := hA
  replace k0 : K (t) = 27 := k0
  replace k1 : K (t + 1) = 28 := k1
  replace k2 : K (t + 1 + 1) = 19 := k2
  replace k3 : K (t + 1 + 1 + 1) = 33 := k3
  replace k4 : K (t + 1 + 1 + 1 + 1) = 44 := k4
  replace v4 : V (t + 1 + 1 + 1 + 1) = Int64.ofNat (nn) := v4 (wn_n _ _ (by omega))
  replace k5 : K (t + 1 + 1 + 1 + 1 + 1) = 29 := k5
  replace k6 : K (t + 1 + 1 + 1 + 1 + 1 + 1) = 35 := k6
  replace k7 : K (t + 1 + 1 + 1 + 1 + 1 + 1 + 1) = 21 := k7
  replace k8 : K (t + 1 + 1 + 1 + 1 + 1 + 1 + 1 + 1) = 43 := k8
  replace v8 : V (t + 1 + 1 + 1 + 1 + 1 + 1 + 1 + 1) = nmV 104 (v % nh) := v8 (wn_a _ _ _ rfl)
  refine ⟨5, u1 (u1 (u1 (u1 (u1 (o) (n) (K (t + 1 + 1))) (n + 1) 44) (n + 1 + 1) (K (t))) (n + 1 + 1 + 1) (K (t + 1 + 1 + 1 + 1 + 1 + 1 + 1))) (n + 1 + 1 + 1 + 1) (K (t + 1 + 1 + 1 + 1 + 1 + 1)), uI (uI (uI (uI (uI (x) (n) 0) (n + 1) (vv (t + 1 + 1 + 1 + 1))) (n + 1 + 1) 0) (n + 1 + 1 + 1) (nI (t + 1 + 1 + 1 + 1 + 1 + 1 + 1 + 1))) (n + 1 + 1 + 1 + 1) 0, uI (r) (t + 1 + 1 + 1 + 1 + 1 + 1 + 1 + 1) 17, (PR.sum (PR.prd (PR.two' (kE (P := fun z => z = 26 ∨ z = 27) k0 (by decide)) k1 (by decide) (PR.sum (PR.prd (PR.wrd (kE (P := fun z => 16 ≤ z ∧ z ≤ 19) k2 (by decide))) (PR.pre (kE (P := fun z => ¬ (z = 36 ∨ z = 37)) k3 (by decide)))) (PR.sue (kE (P := fun z => ¬ (z = 34 ∨ z = 35)) k3 (by decide)))) k3 (PR.sum (PR.prd (PR.num k4) (PR.pre (kE (P := fun z => ¬ (z = 36 ∨ z = 37)) k5 (by decide)))) (PR.sue (kE (P := fun z => ¬ (z = 34 ∨ z = 35)) k5 (by decide)))) k5) (PR.pre (kE (P := fun z => ¬ (z = 36 ∨ z = 37)) k6 (by decide)))) (PR.sul' (kE (P := fun z => z = 34 ∨ z = 35) k6 (by decide)) (PR.prd (PR.hrs (kE (P := fun z => z = 20 ∨ z = 21 ∨ z = 6) k7 (by decide)) k8) (PR.pre (kNx (P := fun z => ¬ (z = 36 ∨ z = 37)) (by decide) (by decide) hnx))) (PR.sue (kNx (P := fun z => ¬ (z = 34 ∨ z = 35)) (by decide) (by decide) hnx)))), ⟨by decide, by decide⟩, fun i hi => ⟨?_, ?_⟩, fun i hi => ?_, fun i hi => ?_, ?_, fun rF σ g hrF hst ρ => ?_⟩
  · unfold u1; rw [if_neg (by omega), if_neg (by omega), if_neg (by omega), if_neg (by omega), if_neg (by omega)]
  · unfold uI; rw [if_neg (by omega), if_neg (by omega), if_neg (by omega), if_neg (by omega), if_neg (by omega)]
  · change t + 9 ≤ i at hi
    unfold uI; rw [if_neg (by omega)]; exact hz i (by omega)
  · unfold uI; rw [if_neg (by omega)]
  · show TI V S (uI (r) (t + 1 + 1 + 1 + 1 + 1 + 1 + 1 + 1) 17) (t + 9) nt nh c h w D
    generalize hR : uI (r) (t + 1 + 1 + 1 + 1 + 1 + 1 + 1 + 1) 17 = R
    have hlo : ∀ j, j < t → R j = r j := fun j hj => by rw [← hR]; unfold uI; rw [if_neg (by omega)]
    have r0 : R (t) = 0 := by rw [← hR]; unfold uI; rw [if_neg (by omega)]; exact hz _ (by omega)
    have r1 : R (t + 1) = 0 := by rw [← hR]; unfold uI; rw [if_neg (by omega)]; exact hz _ (by omega)
    have r2 : R (t + 1 + 1) = 0 := by rw [← hR]; unfold uI; rw [if_neg (by omega)]; exact hz _ (by omega)
    have r3 : R (t + 1 + 1 + 1) = 0 := by rw [← hR]; unfold uI; rw [if_neg (by omega)]; exact hz _ (by omega)
    have r4 : R (t + 1 + 1 + 1 + 1) = 0 := by rw [← hR]; unfold uI; rw [if_neg (by omega)]; exact hz _ (by omega)
    have r5 : R (t + 1 + 1 + 1 + 1 + 1) = 0 := by rw [← hR]; unfold uI; rw [if_neg (by omega)]; exact hz _ (by omega)
    have r6 : R (t + 1 + 1 + 1 + 1 + 1 + 1) = 0 := by rw [← hR]; unfold uI; rw [if_neg (by omega)]; exact hz _ (by omega)
    have r7 : R (t + 1 + 1 + 1 + 1 + 1 + 1 + 1) = 0 := by rw [← hR]; unfold uI; rw [if_neg (by omega)]; exact hz _ (by omega)
    have r8 : R (t + 1 + 1 + 1 + 1 + 1 + 1 + 1 + 1) = 17 := by rw [← hR]; unfold uI; rw [if_pos rfl]
    have h0 := hT.cc hlo
    have h1 := h0.t0 r0
    have h2 := h1.t0 r1
    have h3 := h2.t0 r2
    have h4 := h3.t0 r3
    have h5 := h4.t0 r4
    have h6 := h5.t0 r5
    have h7 := h6.t0 r6
    have h8 := h7.t0 r7
    have h9 := h8.t17 r8 v8 (by omega) (by omega)
    exact h9
  · change ∀ i, i < t + 9 → rF i = (uI (r) (t + 1 + 1 + 1 + 1 + 1 + 1 + 1 + 1) 17) i at hrF
    generalize hR : uI (r) (t + 1 + 1 + 1 + 1 + 1 + 1 + 1 + 1) 17 = R at hrF
    have hlo : ∀ j, j < t → R j = r j := fun j hj => by rw [← hR]; unfold uI; rw [if_neg (by omega)]
    have r0 : R (t) = 0 := by rw [← hR]; unfold uI; rw [if_neg (by omega)]; exact hz _ (by omega)
    have r1 : R (t + 1) = 0 := by rw [← hR]; unfold uI; rw [if_neg (by omega)]; exact hz _ (by omega)
    have r2 : R (t + 1 + 1) = 0 := by rw [← hR]; unfold uI; rw [if_neg (by omega)]; exact hz _ (by omega)
    have r3 : R (t + 1 + 1 + 1) = 0 := by rw [← hR]; unfold uI; rw [if_neg (by omega)]; exact hz _ (by omega)
    have r4 : R (t + 1 + 1 + 1 + 1) = 0 := by rw [← hR]; unfold uI; rw [if_neg (by omega)]; exact hz _ (by omega)
    have r5 : R (t + 1 + 1 + 1 + 1 + 1) = 0 := by rw [← hR]; unfold uI; rw [if_neg (by omega)]; exact hz _ (by omega)
    have r6 : R (t + 1 + 1 + 1 + 1 + 1 + 1) = 0 := by rw [← hR]; unfold uI; rw [if_neg (by omega)]; exact hz _ (by omega)
    have r7 : R (t + 1 + 1 + 1 + 1 + 1 + 1 + 1) = 0 := by rw [← hR]; unfold uI; rw [if_neg (by omega)]; exact hz _ (by omega)
    have r8 : R (t + 1 + 1 + 1 + 1 + 1 + 1 + 1 + 1) = 17 := by rw [← hR]; unfold uI; rw [if_pos rfl]
    have h0 := hT.cc hlo
    have h1 := h0.t0 r0
    have h2 := h1.t0 r1
    have h3 := h2.t0 r2
    have h4 := h3.t0 r3
    have h5 := h4.t0 r4
    have h6 := h5.t0 r5
    have h7 := h6.t0 r6
    have h8 := h7.t0 r7
    have h9 := h8.t17 r8 v8 (by omega) (by omega)
    have s0 := (hst (n) (by omega) (by omega)).1
    have w0 := (hst (n) (by omega) (by omega)).2
    have eo0 : (u1 (u1 (u1 (u1 (u1 (o) (n) (K (t + 1 + 1))) (n + 1) 44) (n + 1 + 1) (K (t))) (n + 1 + 1 + 1) (K (t + 1 + 1 + 1 + 1 + 1 + 1 + 1))) (n + 1 + 1 + 1 + 1) (K (t + 1 + 1 + 1 + 1 + 1 + 1))) (n) = 19 := by unfold u1; rw [if_neg (by omega), if_neg (by omega), if_neg (by omega), if_neg (by omega), if_pos rfl]; exact k2
    rw [eo0] at s0 w0
    have s1 := (hst (n + 1) (by omega) (by omega)).1
    have w1 := (hst (n + 1) (by omega) (by omega)).2
    have eo1 : (u1 (u1 (u1 (u1 (u1 (o) (n) (K (t + 1 + 1))) (n + 1) 44) (n + 1 + 1) (K (t))) (n + 1 + 1 + 1) (K (t + 1 + 1 + 1 + 1 + 1 + 1 + 1))) (n + 1 + 1 + 1 + 1) (K (t + 1 + 1 + 1 + 1 + 1 + 1))) (n + 1) = 44 := by unfold u1; rw [if_neg (by omega), if_neg (by omega), if_neg (by omega), if_pos rfl]
    rw [eo1] at s1 w1
    have ex1 : (uI (uI (uI (uI (uI (x) (n) 0) (n + 1) (vv (t + 1 + 1 + 1 + 1))) (n + 1 + 1) 0) (n + 1 + 1 + 1) (nI (t + 1 + 1 + 1 + 1 + 1 + 1 + 1 + 1))) (n + 1 + 1 + 1 + 1) 0) (n + 1) = (vv (t + 1 + 1 + 1 + 1)) := by unfold uI; rw [if_neg (by omega), if_neg (by omega), if_neg (by omega), if_pos rfl]
    rw [ex1] at w1
    replace w1 : g (n + 1) = nI (nn) := w1.trans (rs_44.trans ((hvv _).trans (by rw [v4]; exact tN (by omega))))
    have s2 := (hst (n + 1 + 1) (by omega) (by omega)).1
    have w2 := (hst (n + 1 + 1) (by omega) (by omega)).2
    have eo2 : (u1 (u1 (u1 (u1 (u1 (o) (n) (K (t + 1 + 1))) (n + 1) 44) (n + 1 + 1) (K (t))) (n + 1 + 1 + 1) (K (t + 1 + 1 + 1 + 1 + 1 + 1 + 1))) (n + 1 + 1 + 1 + 1) (K (t + 1 + 1 + 1 + 1 + 1 + 1))) (n + 1 + 1) = 27 := by unfold u1; rw [if_neg (by omega), if_neg (by omega), if_pos rfl]; exact k0
    rw [eo2] at s2 w2
    have s3 := (hst (n + 1 + 1 + 1) (by omega) (by omega)).1
    have w3 := (hst (n + 1 + 1 + 1) (by omega) (by omega)).2
    have eo3 : (u1 (u1 (u1 (u1 (u1 (o) (n) (K (t + 1 + 1))) (n + 1) 44) (n + 1 + 1) (K (t))) (n + 1 + 1 + 1) (K (t + 1 + 1 + 1 + 1 + 1 + 1 + 1))) (n + 1 + 1 + 1 + 1) (K (t + 1 + 1 + 1 + 1 + 1 + 1))) (n + 1 + 1 + 1) = 21 := by unfold u1; rw [if_neg (by omega), if_pos rfl]; exact k7
    rw [eo3] at s3 w3
    have ex3 : (uI (uI (uI (uI (uI (x) (n) 0) (n + 1) (vv (t + 1 + 1 + 1 + 1))) (n + 1 + 1) 0) (n + 1 + 1 + 1) (nI (t + 1 + 1 + 1 + 1 + 1 + 1 + 1 + 1))) (n + 1 + 1 + 1 + 1) 0) (n + 1 + 1 + 1) = (nI (t + 1 + 1 + 1 + 1 + 1 + 1 + 1 + 1)) := by unfold uI; rw [if_neg (by omega), if_pos rfl]
    rw [ex3] at w3
    replace w3 : g (n + 1 + 1 + 1) = nI (v % nh) := w3.trans (rs_h (by decide) (by omega) (by rw [v8, tdR_c (fun i hi => hrF i (by omega))]; exact h8.2.1.2.1.fd (by omega) (by omega)))
    have s4 := (hst (n + 1 + 1 + 1 + 1) (by omega) (by omega)).1
    have w4 := (hst (n + 1 + 1 + 1 + 1) (by omega) (by omega)).2
    have eo4 : (u1 (u1 (u1 (u1 (u1 (o) (n) (K (t + 1 + 1))) (n + 1) 44) (n + 1 + 1) (K (t))) (n + 1 + 1 + 1) (K (t + 1 + 1 + 1 + 1 + 1 + 1 + 1))) (n + 1 + 1 + 1 + 1) (K (t + 1 + 1 + 1 + 1 + 1 + 1))) (n + 1 + 1 + 1 + 1) = 35 := by unfold u1; rw [if_pos rfl]; exact k6
    rw [eo4] at s4 w4
    have e0 := EV.nil (c := cn 5) (ρ := ρ) (σ := σ) (w := g) (f := n)
    have e1 := e0.push s0 rfl (show fdV (cn 5) ρ 19 (g (n)) = wOf (cn 5) ρ 3 from rfl)
    have e2 := e1.push s1 rfl (show fdV (cn 5) ρ 44 (g (n + 1)) = nI (nn) from w1)
    have e3 := e2.bin s2 rfl
    have e4 := e3.push s3 rfl (show fdV (cn 5) ρ 21 (g (n + 1 + 1 + 1)) = ldOf (cn 5) ρ (nI (v % nh)) from congrArg (ldOf (cn 5) ρ) w3)
    have e5 := e4.bin s4 rfl
    have ef := EV.fin e5
    subst hc3 hc4
    exact ef
theorem ts_0 {K : Nat → Nat} {V : Nat → Int64} {S : Nat → Int32} {vv : Nat → Int32} (hvv : ∀ t, vv t = (V t).toInt32) {t n : Nat} (htn : t < 1000 ∧ n < 1000) {o : Nat → Nat} {x r : Nat → Int32} {nh nt c h w : Nat} {D : RH} (hz : ∀ i, t ≤ i → r i = 0) (hT : TI V S r t nt nh c h w D) {nn v : Nat} (hn : nn < 99) (hv : v < 10) (hh0 : 1 ≤ nh ∧ nh ≤ 5) (ht0 : 1 ≤ nt ∧ nt ≤ 6) {w9 : List Nat} (hA : AtL K V t (tsP 0 nn v nt nh w9)) (hnx : K (t + (tsP 0 nn v nt nh w9).length) = 32 ∨ K (t + (tsP 0 nn v nt nh w9).length) = 13) {cn : Nat → Nat} (hc3 : cn 3 = nt) (hc4 : cn 4 = nh) : ∃ m o' x' r', PR K vv 8 0 (true, (t, n, o, x, r)) (true, (t + (tsP 0 nn v nt nh w9).length, n + m, o', x', r')) ∧ XR V S t (tsP 0 nn v nt nh w9).length n m o o' x x' r r' nt nh c h w D (fun σ g => ∀ ρ, (vlF (cn 5) ρ σ g n (n + m) = 0 ↔ hlF cn ρ 0 nn v = 0)) := by
  have m4 : v % nh < nh := Nat.mod_lt _ (by omega)
  have m3 : v % nt < nt := Nat.mod_lt _ (by omega)
  have m5 : nn % nh < nh := Nat.mod_lt _ (by omega)
  have m6 : nn % 20 < 20 := Nat.mod_lt _ (by decide)
  have m7 : nn % 9 < 9 := Nat.mod_lt _ (by decide)
  have m8 : nn % 3 < 3 := Nat.mod_lt _ (by decide)
  change K (t + 3) = 32 ∨ K (t + 3) = 13 at hnx
  obtain ⟨⟨k0, v0⟩, ⟨k1, v1⟩, ⟨k2, v2⟩, -⟩ := hA
  replace k0 : K (t) = 16 := k0
  replace k1 : K (t + 1) = 39 := k1
  replace k2 : K (t + 1 + 1) = 44 := k2
  replace v2 : V (t + 1 + 1) = Int64.ofNat (nn) := v2 (wn_n _ _ (by omega))
  refine ⟨3, u1 (u1 (u1 (o) (n) (K (t))) (n + 1) 44) (n + 1 + 1) (K (t + 1)), uI (uI (uI (x) (n) 0) (n + 1) (vv (t + 1 + 1))) (n + 1 + 1) 0, r, (PR.tst (PR.bth (PR.cmp' (kE (P := fun z => ¬ z = 23) k0 (by decide)) (kE (P := fun z => ¬ z = 30) k0 (by decide)) (PR.sum (PR.prd (PR.wrd (kE (P := fun z => 16 ≤ z ∧ z ≤ 19) k0 (by decide))) (PR.pre (kE (P := fun z => ¬ (z = 36 ∨ z = 37)) k1 (by decide)))) (PR.sue (kE (P := fun z => ¬ (z = 34 ∨ z = 35)) k1 (by decide)))) (kE (P := fun z => 38 ≤ z ∧ z ≤ 42) k1 (by decide)) (PR.sum (PR.prd (PR.num k2) (PR.pre (kNx (P := fun z => ¬ (z = 36 ∨ z = 37)) (by decide) (by decide) hnx))) (PR.sue (kNx (P := fun z => ¬ (z = 34 ∨ z = 35)) (by decide) (by decide) hnx)))) (PR.bte (kNx (P := fun z => ¬ z = 24) (by decide) (by decide) hnx))) (PR.tse (kNx (P := fun z => ¬ z = 25) (by decide) (by decide) hnx))), ⟨by decide, by decide⟩, fun i hi => ⟨?_, ?_⟩, fun i hi => ?_, fun i hi => ?_, ?_, fun rF σ g hrF hst ρ => ?_⟩
  · unfold u1; rw [if_neg (by omega), if_neg (by omega), if_neg (by omega)]
  · unfold uI; rw [if_neg (by omega), if_neg (by omega), if_neg (by omega)]
  · change t + 3 ≤ i at hi
    exact hz i (by omega)
  · rfl
  · show TI V S (r) (t + 3) nt nh c h w D
    generalize hR : r = R
    have hlo : ∀ j, j < t → R j = r j := fun j hj => by rw [← hR]
    have r0 : R (t) = 0 := by rw [← hR]; exact hz _ (by omega)
    have r1 : R (t + 1) = 0 := by rw [← hR]; exact hz _ (by omega)
    have r2 : R (t + 1 + 1) = 0 := by rw [← hR]; exact hz _ (by omega)
    have h0 := hT.cc hlo
    have h1 := h0.t0 r0
    have h2 := h1.t0 r1
    have h3 := h2.t0 r2
    exact h3
  · change ∀ i, i < t + 3 → rF i = (r) i at hrF
    generalize hR : r = R at hrF
    have hlo : ∀ j, j < t → R j = r j := fun j hj => by rw [← hR]
    have r0 : R (t) = 0 := by rw [← hR]; exact hz _ (by omega)
    have r1 : R (t + 1) = 0 := by rw [← hR]; exact hz _ (by omega)
    have r2 : R (t + 1 + 1) = 0 := by rw [← hR]; exact hz _ (by omega)
    have h0 := hT.cc hlo
    have h1 := h0.t0 r0
    have h2 := h1.t0 r1
    have h3 := h2.t0 r2
    have s0 := (hst (n) (by omega) (by omega)).1
    have w0 := (hst (n) (by omega) (by omega)).2
    have eo0 : (u1 (u1 (u1 (o) (n) (K (t))) (n + 1) 44) (n + 1 + 1) (K (t + 1))) (n) = 16 := by unfold u1; rw [if_neg (by omega), if_neg (by omega), if_pos rfl]; exact k0
    rw [eo0] at s0 w0
    have s1 := (hst (n + 1) (by omega) (by omega)).1
    have w1 := (hst (n + 1) (by omega) (by omega)).2
    have eo1 : (u1 (u1 (u1 (o) (n) (K (t))) (n + 1) 44) (n + 1 + 1) (K (t + 1))) (n + 1) = 44 := by unfold u1; rw [if_neg (by omega), if_pos rfl]
    rw [eo1] at s1 w1
    have ex1 : (uI (uI (uI (x) (n) 0) (n + 1) (vv (t + 1 + 1))) (n + 1 + 1) 0) (n + 1) = (vv (t + 1 + 1)) := by unfold uI; rw [if_neg (by omega), if_pos rfl]
    rw [ex1] at w1
    replace w1 : g (n + 1) = nI (nn) := w1.trans (rs_44.trans ((hvv _).trans (by rw [v2]; exact tN (by omega))))
    have s2 := (hst (n + 1 + 1) (by omega) (by omega)).1
    have w2 := (hst (n + 1 + 1) (by omega) (by omega)).2
    have eo2 : (u1 (u1 (u1 (o) (n) (K (t))) (n + 1) 44) (n + 1 + 1) (K (t + 1))) (n + 1 + 1) = 39 := by unfold u1; rw [if_pos rfl]; exact k1
    rw [eo2] at s2 w2
    have e0 := EV.nil (c := cn 5) (ρ := ρ) (σ := σ) (w := g) (f := n)
    have e1 := e0.push s0 rfl (show fdV (cn 5) ρ 16 (g (n)) = ρ 6 0 from rfl)
    have e2 := e1.push s1 rfl (show fdV (cn 5) ρ 44 (g (n + 1)) = nI (nn) from w1)
    have e3 := e2.bin s2 rfl
    have ef := EV.fin e3
    subst hc3 hc4
    show vlF (cn 5) ρ σ g n (n + 3) = 0 ↔ _
    rw [ef]
    exact ts0_v ρ nn v hn
theorem ts_1 {K : Nat → Nat} {V : Nat → Int64} {S : Nat → Int32} {vv : Nat → Int32} (hvv : ∀ t, vv t = (V t).toInt32) {t n : Nat} (htn : t < 1000 ∧ n < 1000) {o : Nat → Nat} {x r : Nat → Int32} {nh nt c h w : Nat} {D : RH} (hz : ∀ i, t ≤ i → r i = 0) (hT : TI V S r t nt nh c h w D) {nn v : Nat} (hn : nn < 99) (hv : v < 10) (hh0 : 1 ≤ nh ∧ nh ≤ 5) (ht0 : 1 ≤ nt ∧ nt ≤ 6) {w9 : List Nat} (hA : AtL K V t (tsP 1 nn v nt nh w9)) (hnx : K (t + (tsP 1 nn v nt nh w9).length) = 32 ∨ K (t + (tsP 1 nn v nt nh w9).length) = 13) {cn : Nat → Nat} (hc3 : cn 3 = nt) (hc4 : cn 4 = nh) : ∃ m o' x' r', PR K vv 8 0 (true, (t, n, o, x, r)) (true, (t + (tsP 1 nn v nt nh w9).length, n + m, o', x', r')) ∧ XR V S t (tsP 1 nn v nt nh w9).length n m o o' x x' r r' nt nh c h w D (fun σ g => ∀ ρ, (vlF (cn 5) ρ σ g n (n + m) = 0 ↔ hlF cn ρ 1 nn v = 0)) := by
  have m4 : v % nh < nh := Nat.mod_lt _ (by omega)
  have m3 : v % nt < nt := Nat.mod_lt _ (by omega)
  have m5 : nn % nh < nh := Nat.mod_lt _ (by omega)
  have m6 : nn % 20 < 20 := Nat.mod_lt _ (by decide)
  have m7 : nn % 9 < 9 := Nat.mod_lt _ (by decide)
  have m8 : nn % 3 < 3 := Nat.mod_lt _ (by decide)
  change K (t + 4) = 32 ∨ K (t + 4) = 13 at hnx
  obtain ⟨⟨k0, v0⟩, ⟨k1, v1⟩, ⟨k2, v2⟩, ⟨k3, v3⟩, -⟩ := hA
  replace k0 : K (t) = 20 := k0
  replace k1 : K (t + 1) = 43 := k1
  replace v1 : V (t + 1) = nmV 104 (v % nh) := v1 (wn_a _ _ _ rfl)
  replace k2 : K (t + 1 + 1) = 42 := k2
  replace k3 : K (t + 1 + 1 + 1) = 44 := k3
  replace v3 : V (t + 1 + 1 + 1) = Int64.ofNat (nn % 20) := v3 (wn_n _ _ (by omega))
  refine ⟨3, u1 (u1 (u1 (o) (n) (K (t))) (n + 1) 44) (n + 1 + 1) (K (t + 1 + 1)), uI (uI (uI (x) (n) (nI (t + 1))) (n + 1) (vv (t + 1 + 1 + 1))) (n + 1 + 1) 0, uI (r) (t + 1) 17, (PR.tst (PR.bth (PR.cmp' (kE (P := fun z => ¬ z = 23) k0 (by decide)) (kE (P := fun z => ¬ z = 30) k0 (by decide)) (PR.sum (PR.prd (PR.hrs (kE (P := fun z => z = 20 ∨ z = 21 ∨ z = 6) k0 (by decide)) k1) (PR.pre (kE (P := fun z => ¬ (z = 36 ∨ z = 37)) k2 (by decide)))) (PR.sue (kE (P := fun z => ¬ (z = 34 ∨ z = 35)) k2 (by decide)))) (kE (P := fun z => 38 ≤ z ∧ z ≤ 42) k2 (by decide)) (PR.sum (PR.prd (PR.num k3) (PR.pre (kNx (P := fun z => ¬ (z = 36 ∨ z = 37)) (by decide) (by decide) hnx))) (PR.sue (kNx (P := fun z => ¬ (z = 34 ∨ z = 35)) (by decide) (by decide) hnx)))) (PR.bte (kNx (P := fun z => ¬ z = 24) (by decide) (by decide) hnx))) (PR.tse (kNx (P := fun z => ¬ z = 25) (by decide) (by decide) hnx))), ⟨by decide, by decide⟩, fun i hi => ⟨?_, ?_⟩, fun i hi => ?_, fun i hi => ?_, ?_, fun rF σ g hrF hst ρ => ?_⟩
  · unfold u1; rw [if_neg (by omega), if_neg (by omega), if_neg (by omega)]
  · unfold uI; rw [if_neg (by omega), if_neg (by omega), if_neg (by omega)]
  · change t + 4 ≤ i at hi
    unfold uI; rw [if_neg (by omega)]; exact hz i (by omega)
  · unfold uI; rw [if_neg (by omega)]
  · show TI V S (uI (r) (t + 1) 17) (t + 4) nt nh c h w D
    generalize hR : uI (r) (t + 1) 17 = R
    have hlo : ∀ j, j < t → R j = r j := fun j hj => by rw [← hR]; unfold uI; rw [if_neg (by omega)]
    have r0 : R (t) = 0 := by rw [← hR]; unfold uI; rw [if_neg (by omega)]; exact hz _ (by omega)
    have r1 : R (t + 1) = 17 := by rw [← hR]; unfold uI; rw [if_pos rfl]
    have r2 : R (t + 1 + 1) = 0 := by rw [← hR]; unfold uI; rw [if_neg (by omega)]; exact hz _ (by omega)
    have r3 : R (t + 1 + 1 + 1) = 0 := by rw [← hR]; unfold uI; rw [if_neg (by omega)]; exact hz _ (by omega)
    have h0 := hT.cc hlo
    have h1 := h0.t0 r0
    have h2 := h1.t17 r1 v1 (by omega) (by omega)
    have h3 := h2.t0 r2
    have h4 := h3.t0 r3
    exact h4
  · change ∀ i, i < t + 4 → rF i = (uI (r) (t + 1) 17) i at hrF
    generalize hR : uI (r) (t + 1) 17 = R at hrF
    have hlo : ∀ j, j < t → R j = r j := fun j hj => by rw [← hR]; unfold uI; rw [if_neg (by omega)]
    have r0 : R (t) = 0 := by rw [← hR]; unfold uI; rw [if_neg (by omega)]; exact hz _ (by omega)
    have r1 : R (t + 1) = 17 := by rw [← hR]; unfold uI; rw [if_pos rfl]
    have r2 : R (t + 1 + 1) = 0 := by rw [← hR]; unfold uI; rw [if_neg (by omega)]; exact hz _ (by omega)
    have r3 : R (t + 1 + 1 + 1) = 0 := by rw [← hR]; unfold uI; rw [if_neg (by omega)]; exact hz _ (by omega)
    have h0 := hT.cc hlo
    have h1 := h0.t0 r0
    have h2 := h1.t17 r1 v1 (by omega) (by omega)
    have h3 := h2.t0 r2
    have h4 := h3.t0 r3
    have s0 := (hst (n) (by omega) (by omega)).1
    have w0 := (hst (n) (by omega) (by omega)).2
    have eo0 : (u1 (u1 (u1 (o) (n) (K (t))) (n + 1) 44) (n + 1 + 1) (K (t + 1 + 1))) (n) = 20 := by unfold u1; rw [if_neg (by omega), if_neg (by omega), if_pos rfl]; exact k0
    rw [eo0] at s0 w0
    have ex0 : (uI (uI (uI (x) (n) (nI (t + 1))) (n + 1) (vv (t + 1 + 1 + 1))) (n + 1 + 1) 0) (n) = (nI (t + 1)) := by unfold uI; rw [if_neg (by omega), if_neg (by omega), if_pos rfl]
    rw [ex0] at w0
    replace w0 : g (n) = nI (v % nh) := w0.trans (rs_h (by decide) (by omega) (by rw [v1, tdR_c (fun i hi => hrF i (by omega))]; exact h1.2.1.2.1.fd (by omega) (by omega)))
    have s1 := (hst (n + 1) (by omega) (by omega)).1
    have w1 := (hst (n + 1) (by omega) (by omega)).2
    have eo1 : (u1 (u1 (u1 (o) (n) (K (t))) (n + 1) 44) (n + 1 + 1) (K (t + 1 + 1))) (n + 1) = 44 := by unfold u1; rw [if_neg (by omega), if_pos rfl]
    rw [eo1] at s1 w1
    have ex1 : (uI (uI (uI (x) (n) (nI (t + 1))) (n + 1) (vv (t + 1 + 1 + 1))) (n + 1 + 1) 0) (n + 1) = (vv (t + 1 + 1 + 1)) := by unfold uI; rw [if_neg (by omega), if_pos rfl]
    rw [ex1] at w1
    replace w1 : g (n + 1) = nI (nn % 20) := w1.trans (rs_44.trans ((hvv _).trans (by rw [v3]; exact tN (by omega))))
    have s2 := (hst (n + 1 + 1) (by omega) (by omega)).1
    have w2 := (hst (n + 1 + 1) (by omega) (by omega)).2
    have eo2 : (u1 (u1 (u1 (o) (n) (K (t))) (n + 1) 44) (n + 1 + 1) (K (t + 1 + 1))) (n + 1 + 1) = 42 := by unfold u1; rw [if_pos rfl]; exact k2
    rw [eo2] at s2 w2
    have e0 := EV.nil (c := cn 5) (ρ := ρ) (σ := σ) (w := g) (f := n)
    have e1 := e0.push s0 rfl (show fdV (cn 5) ρ 20 (g (n)) = ρ 18 (v % nh) from (congrArg (fun z : Int32 => ρ 18 z.toNatClampNeg) w0).trans (congrArg (ρ 18) (nI_cl (by omega))))
    have e2 := e1.push s1 rfl (show fdV (cn 5) ρ 44 (g (n + 1)) = nI (nn % 20) from w1)
    have e3 := e2.bin s2 rfl
    have ef := EV.fin e3
    subst hc3 hc4
    show vlF (cn 5) ρ σ g n (n + 3) = 0 ↔ _
    rw [ef]
    exact ts1_v ρ nn v hn
theorem ts_2 {K : Nat → Nat} {V : Nat → Int64} {S : Nat → Int32} {vv : Nat → Int32} (hvv : ∀ t, vv t = (V t).toInt32) {t n : Nat} (htn : t < 1000 ∧ n < 1000) {o : Nat → Nat} {x r : Nat → Int32} {nh nt c h w : Nat} {D : RH} (hz : ∀ i, t ≤ i → r i = 0) (hT : TI V S r t nt nh c h w D) {nn v : Nat} (hn : nn < 99) (hv : v < 10) (hh0 : 1 ≤ nh ∧ nh ≤ 5) (ht0 : 1 ≤ nt ∧ nt ≤ 6) {w9 : List Nat} (hA : AtL K V t (tsP 2 nn v nt nh w9)) (hnx : K (t + (tsP 2 nn v nt nh w9).length) = 32 ∨ K (t + (tsP 2 nn v nt nh w9).length) = 13) {cn : Nat → Nat} (hc3 : cn 3 = nt) (hc4 : cn 4 = nh) : ∃ m o' x' r', PR K vv 8 0 (true, (t, n, o, x, r)) (true, (t + (tsP 2 nn v nt nh w9).length, n + m, o', x', r')) ∧ XR V S t (tsP 2 nn v nt nh w9).length n m o o' x x' r r' nt nh c h w D (fun σ g => ∀ ρ, (vlF (cn 5) ρ σ g n (n + m) = 0 ↔ hlF cn ρ 2 nn v = 0)) := by
  have m4 : v % nh < nh := Nat.mod_lt _ (by omega)
  have m3 : v % nt < nt := Nat.mod_lt _ (by omega)
  have m5 : nn % nh < nh := Nat.mod_lt _ (by omega)
  have m6 : nn % 20 < 20 := Nat.mod_lt _ (by decide)
  have m7 : nn % 9 < 9 := Nat.mod_lt _ (by decide)
  have m8 : nn % 3 < 3 := Nat.mod_lt _ (by decide)
  change K (t + 10) = 32 ∨ K (t + 10) = 13 at hnx
  obtain ⟨⟨k0, v0⟩, ⟨k1, v1⟩, ⟨k2, v2⟩, ⟨k3, v3⟩, ⟨k4, v4⟩, ⟨k5, v5⟩, ⟨k6, v6⟩, ⟨k7, v7⟩, ⟨k8, v8⟩, ⟨k9, v9⟩, -⟩ := hA
  replace k0 : K (t) = 18 := k0
  replace k1 : K (t + 1) = 38 := k1
  replace k2 : K (t + 1 + 1) = 44 := k2
  replace v2 : V (t + 1 + 1) = Int64.ofNat (nn) := v2 (wn_n _ _ (by omega))
  replace k3 : K (t + 1 + 1 + 1) = 36 := k3
  replace k4 : K (t + 1 + 1 + 1 + 1) = 44 := k4
  replace v4 : V (t + 1 + 1 + 1 + 1) = Int64.ofNat (3) := v4 (wn_n _ _ (by omega))
  replace k5 : K (t + 1 + 1 + 1 + 1 + 1) = 24 := k5
  replace k6 : K (t + 1 + 1 + 1 + 1 + 1 + 1) = 23 := k6
  replace k7 : K (t + 1 + 1 + 1 + 1 + 1 + 1 + 1) = 19 := k7
  replace k8 : K (t + 1 + 1 + 1 + 1 + 1 + 1 + 1 + 1) = 39 := k8
  replace k9 : K (t + 1 + 1 + 1 + 1 + 1 + 1 + 1 + 1 + 1) = 44 := k9
  replace v9 : V (t + 1 + 1 + 1 + 1 + 1 + 1 + 1 + 1 + 1) = Int64.ofNat (nn) := v9 (wn_n _ _ (by omega))
  refine ⟨10, u1 (u1 (u1 (u1 (u1 (u1 (u1 (u1 (u1 (u1 (o) (n) (K (t))) (n + 1) 44) (n + 1 + 1) 44) (n + 1 + 1 + 1) (K (t + 1 + 1 + 1))) (n + 1 + 1 + 1 + 1) (K (t + 1))) (n + 1 + 1 + 1 + 1 + 1) (K (t + 1 + 1 + 1 + 1 + 1 + 1 + 1))) (n + 1 + 1 + 1 + 1 + 1 + 1) 44) (n + 1 + 1 + 1 + 1 + 1 + 1 + 1) (K (t + 1 + 1 + 1 + 1 + 1 + 1 + 1 + 1))) (n + 1 + 1 + 1 + 1 + 1 + 1 + 1 + 1) 23) (n + 1 + 1 + 1 + 1 + 1 + 1 + 1 + 1 + 1) 24, uI (uI (uI (uI (uI (uI (uI (uI (uI (uI (x) (n) 0) (n + 1) (vv (t + 1 + 1))) (n + 1 + 1) (vv (t + 1 + 1 + 1 + 1))) (n + 1 + 1 + 1) 0) (n + 1 + 1 + 1 + 1) 0) (n + 1 + 1 + 1 + 1 + 1) 0) (n + 1 + 1 + 1 + 1 + 1 + 1) (vv (t + 1 + 1 + 1 + 1 + 1 + 1 + 1 + 1 + 1))) (n + 1 + 1 + 1 + 1 + 1 + 1 + 1) 0) (n + 1 + 1 + 1 + 1 + 1 + 1 + 1 + 1) 0) (n + 1 + 1 + 1 + 1 + 1 + 1 + 1 + 1 + 1) 0, r, (PR.tst (PR.bth (PR.cmp' (kE (P := fun z => ¬ z = 23) k0 (by decide)) (kE (P := fun z => ¬ z = 30) k0 (by decide)) (PR.sum (PR.prd (PR.wrd (kE (P := fun z => 16 ≤ z ∧ z ≤ 19) k0 (by decide))) (PR.pre (kE (P := fun z => ¬ (z = 36 ∨ z = 37)) k1 (by decide)))) (PR.sue (kE (P := fun z => ¬ (z = 34 ∨ z = 35)) k1 (by decide)))) (kE (P := fun z => 38 ≤ z ∧ z ≤ 42) k1 (by decide)) (PR.sum (PR.prd (PR.num k2) (PR.prl' (kE (P := fun z => z = 36 ∨ z = 37) k3 (by decide)) (PR.num k4) (PR.pre (kE (P := fun z => ¬ (z = 36 ∨ z = 37)) k5 (by decide))))) (PR.sue (kE (P := fun z => ¬ (z = 34 ∨ z = 35)) k5 (by decide))))) (PR.btl' k5 (PR.nt' k6 (by decide) (PR.cmp' (kE (P := fun z => ¬ z = 23) k7 (by decide)) (kE (P := fun z => ¬ z = 30) k7 (by decide)) (PR.sum (PR.prd (PR.wrd (kE (P := fun z => 16 ≤ z ∧ z ≤ 19) k7 (by decide))) (PR.pre (kE (P := fun z => ¬ (z = 36 ∨ z = 37)) k8 (by decide)))) (PR.sue (kE (P := fun z => ¬ (z = 34 ∨ z = 35)) k8 (by decide)))) (kE (P := fun z => 38 ≤ z ∧ z ≤ 42) k8 (by decide)) (PR.sum (PR.prd (PR.num k9) (PR.pre (kNx (P := fun z => ¬ (z = 36 ∨ z = 37)) (by decide) (by decide) hnx))) (PR.sue (kNx (P := fun z => ¬ (z = 34 ∨ z = 35)) (by decide) (by decide) hnx))))) (PR.bte (kNx (P := fun z => ¬ z = 24) (by decide) (by decide) hnx)))) (PR.tse (kNx (P := fun z => ¬ z = 25) (by decide) (by decide) hnx))), ⟨by decide, by decide⟩, fun i hi => ⟨?_, ?_⟩, fun i hi => ?_, fun i hi => ?_, ?_, fun rF σ g hrF hst ρ => ?_⟩
  · unfold u1; rw [if_neg (by omega), if_neg (by omega), if_neg (by omega), if_neg (by omega), if_neg (by omega), if_neg (by omega), if_neg (by omega), if_neg (by omega), if_neg (by omega), if_neg (by omega)]
  · unfold uI; rw [if_neg (by omega), if_neg (by omega), if_neg (by omega), if_neg (by omega), if_neg (by omega), if_neg (by omega), if_neg (by omega), if_neg (by omega), if_neg (by omega), if_neg (by omega)]
  · change t + 10 ≤ i at hi
    exact hz i (by omega)
  · rfl
  · show TI V S (r) (t + 10) nt nh c h w D
    generalize hR : r = R
    have hlo : ∀ j, j < t → R j = r j := fun j hj => by rw [← hR]
    have r0 : R (t) = 0 := by rw [← hR]; exact hz _ (by omega)
    have r1 : R (t + 1) = 0 := by rw [← hR]; exact hz _ (by omega)
    have r2 : R (t + 1 + 1) = 0 := by rw [← hR]; exact hz _ (by omega)
    have r3 : R (t + 1 + 1 + 1) = 0 := by rw [← hR]; exact hz _ (by omega)
    have r4 : R (t + 1 + 1 + 1 + 1) = 0 := by rw [← hR]; exact hz _ (by omega)
    have r5 : R (t + 1 + 1 + 1 + 1 + 1) = 0 := by rw [← hR]; exact hz _ (by omega)
    have r6 : R (t + 1 + 1 + 1 + 1 + 1 + 1) = 0 := by rw [← hR]; exact hz _ (by omega)
    have r7 : R (t + 1 + 1 + 1 + 1 + 1 + 1 + 1) = 0 := by rw [← hR]; exact hz _ (by omega)
    have r8 : R (t + 1 + 1 + 1 + 1 + 1 + 1 + 1 + 1) = 0 := by rw [← hR]; exact hz _ (by omega)
    have r9 : R (t + 1 + 1 + 1 + 1 + 1 + 1 + 1 + 1 + 1) = 0 := by rw [← hR]; exact hz _ (by omega)
    have h0 := hT.cc hlo
    have h1 := h0.t0 r0
    have h2 := h1.t0 r1
    have h3 := h2.t0 r2
    have h4 := h3.t0 r3
    have h5 := h4.t0 r4
    have h6 := h5.t0 r5
    have h7 := h6.t0 r6
    have h8 := h7.t0 r7
    have h9 := h8.t0 r8
    have h10 := h9.t0 r9
    exact h10
  · change ∀ i, i < t + 10 → rF i = (r) i at hrF
    generalize hR : r = R at hrF
    have hlo : ∀ j, j < t → R j = r j := fun j hj => by rw [← hR]
    have r0 : R (t) = 0 := by rw [← hR]; exact hz _ (by omega)
    have r1 : R (t + 1) = 0 := by rw [← hR]; exact hz _ (by omega)
    have r2 : R (t + 1 + 1) = 0 := by rw [← hR]; exact hz _ (by omega)
    have r3 : R (t + 1 + 1 + 1) = 0 := by rw [← hR]; exact hz _ (by omega)
    have r4 : R (t + 1 + 1 + 1 + 1) = 0 := by rw [← hR]; exact hz _ (by omega)
    have r5 : R (t + 1 + 1 + 1 + 1 + 1) = 0 := by rw [← hR]; exact hz _ (by omega)
    have r6 : R (t + 1 + 1 + 1 + 1 + 1 + 1) = 0 := by rw [← hR]; exact hz _ (by omega)
    have r7 : R (t + 1 + 1 + 1 + 1 + 1 + 1 + 1) = 0 := by rw [← hR]; exact hz _ (by omega)
    have r8 : R (t + 1 + 1 + 1 + 1 + 1 + 1 + 1 + 1) = 0 := by rw [← hR]; exact hz _ (by omega)
    have r9 : R (t + 1 + 1 + 1 + 1 + 1 + 1 + 1 + 1 + 1) = 0 := by rw [← hR]; exact hz _ (by omega)
    have h0 := hT.cc hlo
    have h1 := h0.t0 r0
    have h2 := h1.t0 r1
    have h3 := h2.t0 r2
    have h4 := h3.t0 r3
    have h5 := h4.t0 r4
    have h6 := h5.t0 r5
    have h7 := h6.t0 r6
    have h8 := h7.t0 r7
    have h9 := h8.t0 r8
    have h10 := h9.t0 r9
    have s0 := (hst (n) (by omega) (by omega)).1
    have w0 := (hst (n) (by omega) (by omega)).2
    have eo0 : (u1 (u1 (u1 (u1 (u1 (u1 (u1 (u1 (u1 (u1 (o) (n) (K (t))) (n + 1) 44) (n + 1 + 1) 44) (n + 1 + 1 + 1) (K (t + 1 + 1 + 1))) (n + 1 + 1 + 1 + 1) (K (t + 1))) (n + 1 + 1 + 1 + 1 + 1) (K (t + 1 + 1 + 1 + 1 + 1 + 1 + 1))) (n + 1 + 1 + 1 + 1 + 1 + 1) 44) (n + 1 + 1 + 1 + 1 + 1 + 1 + 1) (K (t + 1 + 1 + 1 + 1 + 1 + 1 + 1 + 1))) (n + 1 + 1 + 1 + 1 + 1 + 1 + 1 + 1) 23) (n + 1 + 1 + 1 + 1 + 1 + 1 + 1 + 1 + 1) 24) (n) = 18 := by unfold u1; rw [if_neg (by omega), if_neg (by omega), if_neg (by omega), if_neg (by omega), if_neg (by omega), if_neg (by omega), if_neg (by omega), if_neg (by omega), if_neg (by omega), if_pos rfl]; exact k0
    rw [eo0] at s0 w0
    have s1 := (hst (n + 1) (by omega) (by omega)).1
    have w1 := (hst (n + 1) (by omega) (by omega)).2
    have eo1 : (u1 (u1 (u1 (u1 (u1 (u1 (u1 (u1 (u1 (u1 (o) (n) (K (t))) (n + 1) 44) (n + 1 + 1) 44) (n + 1 + 1 + 1) (K (t + 1 + 1 + 1))) (n + 1 + 1 + 1 + 1) (K (t + 1))) (n + 1 + 1 + 1 + 1 + 1) (K (t + 1 + 1 + 1 + 1 + 1 + 1 + 1))) (n + 1 + 1 + 1 + 1 + 1 + 1) 44) (n + 1 + 1 + 1 + 1 + 1 + 1 + 1) (K (t + 1 + 1 + 1 + 1 + 1 + 1 + 1 + 1))) (n + 1 + 1 + 1 + 1 + 1 + 1 + 1 + 1) 23) (n + 1 + 1 + 1 + 1 + 1 + 1 + 1 + 1 + 1) 24) (n + 1) = 44 := by unfold u1; rw [if_neg (by omega), if_neg (by omega), if_neg (by omega), if_neg (by omega), if_neg (by omega), if_neg (by omega), if_neg (by omega), if_neg (by omega), if_pos rfl]
    rw [eo1] at s1 w1
    have ex1 : (uI (uI (uI (uI (uI (uI (uI (uI (uI (uI (x) (n) 0) (n + 1) (vv (t + 1 + 1))) (n + 1 + 1) (vv (t + 1 + 1 + 1 + 1))) (n + 1 + 1 + 1) 0) (n + 1 + 1 + 1 + 1) 0) (n + 1 + 1 + 1 + 1 + 1) 0) (n + 1 + 1 + 1 + 1 + 1 + 1) (vv (t + 1 + 1 + 1 + 1 + 1 + 1 + 1 + 1 + 1))) (n + 1 + 1 + 1 + 1 + 1 + 1 + 1) 0) (n + 1 + 1 + 1 + 1 + 1 + 1 + 1 + 1) 0) (n + 1 + 1 + 1 + 1 + 1 + 1 + 1 + 1 + 1) 0) (n + 1) = (vv (t + 1 + 1)) := by unfold uI; rw [if_neg (by omega), if_neg (by omega), if_neg (by omega), if_neg (by omega), if_neg (by omega), if_neg (by omega), if_neg (by omega), if_neg (by omega), if_pos rfl]
    rw [ex1] at w1
    replace w1 : g (n + 1) = nI (nn) := w1.trans (rs_44.trans ((hvv _).trans (by rw [v2]; exact tN (by omega))))
    have s2 := (hst (n + 1 + 1) (by omega) (by omega)).1
    have w2 := (hst (n + 1 + 1) (by omega) (by omega)).2
    have eo2 : (u1 (u1 (u1 (u1 (u1 (u1 (u1 (u1 (u1 (u1 (o) (n) (K (t))) (n + 1) 44) (n + 1 + 1) 44) (n + 1 + 1 + 1) (K (t + 1 + 1 + 1))) (n + 1 + 1 + 1 + 1) (K (t + 1))) (n + 1 + 1 + 1 + 1 + 1) (K (t + 1 + 1 + 1 + 1 + 1 + 1 + 1))) (n + 1 + 1 + 1 + 1 + 1 + 1) 44) (n + 1 + 1 + 1 + 1 + 1 + 1 + 1) (K (t + 1 + 1 + 1 + 1 + 1 + 1 + 1 + 1))) (n + 1 + 1 + 1 + 1 + 1 + 1 + 1 + 1) 23) (n + 1 + 1 + 1 + 1 + 1 + 1 + 1 + 1 + 1) 24) (n + 1 + 1) = 44 := by unfold u1; rw [if_neg (by omega), if_neg (by omega), if_neg (by omega), if_neg (by omega), if_neg (by omega), if_neg (by omega), if_neg (by omega), if_pos rfl]
    rw [eo2] at s2 w2
    have ex2 : (uI (uI (uI (uI (uI (uI (uI (uI (uI (uI (x) (n) 0) (n + 1) (vv (t + 1 + 1))) (n + 1 + 1) (vv (t + 1 + 1 + 1 + 1))) (n + 1 + 1 + 1) 0) (n + 1 + 1 + 1 + 1) 0) (n + 1 + 1 + 1 + 1 + 1) 0) (n + 1 + 1 + 1 + 1 + 1 + 1) (vv (t + 1 + 1 + 1 + 1 + 1 + 1 + 1 + 1 + 1))) (n + 1 + 1 + 1 + 1 + 1 + 1 + 1) 0) (n + 1 + 1 + 1 + 1 + 1 + 1 + 1 + 1) 0) (n + 1 + 1 + 1 + 1 + 1 + 1 + 1 + 1 + 1) 0) (n + 1 + 1) = (vv (t + 1 + 1 + 1 + 1)) := by unfold uI; rw [if_neg (by omega), if_neg (by omega), if_neg (by omega), if_neg (by omega), if_neg (by omega), if_neg (by omega), if_neg (by omega), if_pos rfl]
    rw [ex2] at w2
    replace w2 : g (n + 1 + 1) = nI (3) := w2.trans (rs_44.trans ((hvv _).trans (by rw [v4]; exact tN (by omega))))
    have s3 := (hst (n + 1 + 1 + 1) (by omega) (by omega)).1
    have w3 := (hst (n + 1 + 1 + 1) (by omega) (by omega)).2
    have eo3 : (u1 (u1 (u1 (u1 (u1 (u1 (u1 (u1 (u1 (u1 (o) (n) (K (t))) (n + 1) 44) (n + 1 + 1) 44) (n + 1 + 1 + 1) (K (t + 1 + 1 + 1))) (n + 1 + 1 + 1 + 1) (K (t + 1))) (n + 1 + 1 + 1 + 1 + 1) (K (t + 1 + 1 + 1 + 1 + 1 + 1 + 1))) (n + 1 + 1 + 1 + 1 + 1 + 1) 44) (n + 1 + 1 + 1 + 1 + 1 + 1 + 1) (K (t + 1 + 1 + 1 + 1 + 1 + 1 + 1 + 1))) (n + 1 + 1 + 1 + 1 + 1 + 1 + 1 + 1) 23) (n + 1 + 1 + 1 + 1 + 1 + 1 + 1 + 1 + 1) 24) (n + 1 + 1 + 1) = 36 := by unfold u1; rw [if_neg (by omega), if_neg (by omega), if_neg (by omega), if_neg (by omega), if_neg (by omega), if_neg (by omega), if_pos rfl]; exact k3
    rw [eo3] at s3 w3
    have s4 := (hst (n + 1 + 1 + 1 + 1) (by omega) (by omega)).1
    have w4 := (hst (n + 1 + 1 + 1 + 1) (by omega) (by omega)).2
    have eo4 : (u1 (u1 (u1 (u1 (u1 (u1 (u1 (u1 (u1 (u1 (o) (n) (K (t))) (n + 1) 44) (n + 1 + 1) 44) (n + 1 + 1 + 1) (K (t + 1 + 1 + 1))) (n + 1 + 1 + 1 + 1) (K (t + 1))) (n + 1 + 1 + 1 + 1 + 1) (K (t + 1 + 1 + 1 + 1 + 1 + 1 + 1))) (n + 1 + 1 + 1 + 1 + 1 + 1) 44) (n + 1 + 1 + 1 + 1 + 1 + 1 + 1) (K (t + 1 + 1 + 1 + 1 + 1 + 1 + 1 + 1))) (n + 1 + 1 + 1 + 1 + 1 + 1 + 1 + 1) 23) (n + 1 + 1 + 1 + 1 + 1 + 1 + 1 + 1 + 1) 24) (n + 1 + 1 + 1 + 1) = 38 := by unfold u1; rw [if_neg (by omega), if_neg (by omega), if_neg (by omega), if_neg (by omega), if_neg (by omega), if_pos rfl]; exact k1
    rw [eo4] at s4 w4
    have s5 := (hst (n + 1 + 1 + 1 + 1 + 1) (by omega) (by omega)).1
    have w5 := (hst (n + 1 + 1 + 1 + 1 + 1) (by omega) (by omega)).2
    have eo5 : (u1 (u1 (u1 (u1 (u1 (u1 (u1 (u1 (u1 (u1 (o) (n) (K (t))) (n + 1) 44) (n + 1 + 1) 44) (n + 1 + 1 + 1) (K (t + 1 + 1 + 1))) (n + 1 + 1 + 1 + 1) (K (t + 1))) (n + 1 + 1 + 1 + 1 + 1) (K (t + 1 + 1 + 1 + 1 + 1 + 1 + 1))) (n + 1 + 1 + 1 + 1 + 1 + 1) 44) (n + 1 + 1 + 1 + 1 + 1 + 1 + 1) (K (t + 1 + 1 + 1 + 1 + 1 + 1 + 1 + 1))) (n + 1 + 1 + 1 + 1 + 1 + 1 + 1 + 1) 23) (n + 1 + 1 + 1 + 1 + 1 + 1 + 1 + 1 + 1) 24) (n + 1 + 1 + 1 + 1 + 1) = 19 := by unfold u1; rw [if_neg (by omega), if_neg (by omega), if_neg (by omega), if_neg (by omega), if_pos rfl]; exact k7
    rw [eo5] at s5 w5
    have s6 := (hst (n + 1 + 1 + 1 + 1 + 1 + 1) (by omega) (by omega)).1
    have w6 := (hst (n + 1 + 1 + 1 + 1 + 1 + 1) (by omega) (by omega)).2
    have eo6 : (u1 (u1 (u1 (u1 (u1 (u1 (u1 (u1 (u1 (u1 (o) (n) (K (t))) (n + 1) 44) (n + 1 + 1) 44) (n + 1 + 1 + 1) (K (t + 1 + 1 + 1))) (n + 1 + 1 + 1 + 1) (K (t + 1))) (n + 1 + 1 + 1 + 1 + 1) (K (t + 1 + 1 + 1 + 1 + 1 + 1 + 1))) (n + 1 + 1 + 1 + 1 + 1 + 1) 44) (n + 1 + 1 + 1 + 1 + 1 + 1 + 1) (K (t + 1 + 1 + 1 + 1 + 1 + 1 + 1 + 1))) (n + 1 + 1 + 1 + 1 + 1 + 1 + 1 + 1) 23) (n + 1 + 1 + 1 + 1 + 1 + 1 + 1 + 1 + 1) 24) (n + 1 + 1 + 1 + 1 + 1 + 1) = 44 := by unfold u1; rw [if_neg (by omega), if_neg (by omega), if_neg (by omega), if_pos rfl]
    rw [eo6] at s6 w6
    have ex6 : (uI (uI (uI (uI (uI (uI (uI (uI (uI (uI (x) (n) 0) (n + 1) (vv (t + 1 + 1))) (n + 1 + 1) (vv (t + 1 + 1 + 1 + 1))) (n + 1 + 1 + 1) 0) (n + 1 + 1 + 1 + 1) 0) (n + 1 + 1 + 1 + 1 + 1) 0) (n + 1 + 1 + 1 + 1 + 1 + 1) (vv (t + 1 + 1 + 1 + 1 + 1 + 1 + 1 + 1 + 1))) (n + 1 + 1 + 1 + 1 + 1 + 1 + 1) 0) (n + 1 + 1 + 1 + 1 + 1 + 1 + 1 + 1) 0) (n + 1 + 1 + 1 + 1 + 1 + 1 + 1 + 1 + 1) 0) (n + 1 + 1 + 1 + 1 + 1 + 1) = (vv (t + 1 + 1 + 1 + 1 + 1 + 1 + 1 + 1 + 1)) := by unfold uI; rw [if_neg (by omega), if_neg (by omega), if_neg (by omega), if_pos rfl]
    rw [ex6] at w6
    replace w6 : g (n + 1 + 1 + 1 + 1 + 1 + 1) = nI (nn) := w6.trans (rs_44.trans ((hvv _).trans (by rw [v9]; exact tN (by omega))))
    have s7 := (hst (n + 1 + 1 + 1 + 1 + 1 + 1 + 1) (by omega) (by omega)).1
    have w7 := (hst (n + 1 + 1 + 1 + 1 + 1 + 1 + 1) (by omega) (by omega)).2
    have eo7 : (u1 (u1 (u1 (u1 (u1 (u1 (u1 (u1 (u1 (u1 (o) (n) (K (t))) (n + 1) 44) (n + 1 + 1) 44) (n + 1 + 1 + 1) (K (t + 1 + 1 + 1))) (n + 1 + 1 + 1 + 1) (K (t + 1))) (n + 1 + 1 + 1 + 1 + 1) (K (t + 1 + 1 + 1 + 1 + 1 + 1 + 1))) (n + 1 + 1 + 1 + 1 + 1 + 1) 44) (n + 1 + 1 + 1 + 1 + 1 + 1 + 1) (K (t + 1 + 1 + 1 + 1 + 1 + 1 + 1 + 1))) (n + 1 + 1 + 1 + 1 + 1 + 1 + 1 + 1) 23) (n + 1 + 1 + 1 + 1 + 1 + 1 + 1 + 1 + 1) 24) (n + 1 + 1 + 1 + 1 + 1 + 1 + 1) = 39 := by unfold u1; rw [if_neg (by omega), if_neg (by omega), if_pos rfl]; exact k8
    rw [eo7] at s7 w7
    have s8 := (hst (n + 1 + 1 + 1 + 1 + 1 + 1 + 1 + 1) (by omega) (by omega)).1
    have w8 := (hst (n + 1 + 1 + 1 + 1 + 1 + 1 + 1 + 1) (by omega) (by omega)).2
    have eo8 : (u1 (u1 (u1 (u1 (u1 (u1 (u1 (u1 (u1 (u1 (o) (n) (K (t))) (n + 1) 44) (n + 1 + 1) 44) (n + 1 + 1 + 1) (K (t + 1 + 1 + 1))) (n + 1 + 1 + 1 + 1) (K (t + 1))) (n + 1 + 1 + 1 + 1 + 1) (K (t + 1 + 1 + 1 + 1 + 1 + 1 + 1))) (n + 1 + 1 + 1 + 1 + 1 + 1) 44) (n + 1 + 1 + 1 + 1 + 1 + 1 + 1) (K (t + 1 + 1 + 1 + 1 + 1 + 1 + 1 + 1))) (n + 1 + 1 + 1 + 1 + 1 + 1 + 1 + 1) 23) (n + 1 + 1 + 1 + 1 + 1 + 1 + 1 + 1 + 1) 24) (n + 1 + 1 + 1 + 1 + 1 + 1 + 1 + 1) = 23 := by unfold u1; rw [if_neg (by omega), if_pos rfl]
    rw [eo8] at s8 w8
    have s9 := (hst (n + 1 + 1 + 1 + 1 + 1 + 1 + 1 + 1 + 1) (by omega) (by omega)).1
    have w9 := (hst (n + 1 + 1 + 1 + 1 + 1 + 1 + 1 + 1 + 1) (by omega) (by omega)).2
    have eo9 : (u1 (u1 (u1 (u1 (u1 (u1 (u1 (u1 (u1 (u1 (o) (n) (K (t))) (n + 1) 44) (n + 1 + 1) 44) (n + 1 + 1 + 1) (K (t + 1 + 1 + 1))) (n + 1 + 1 + 1 + 1) (K (t + 1))) (n + 1 + 1 + 1 + 1 + 1) (K (t + 1 + 1 + 1 + 1 + 1 + 1 + 1))) (n + 1 + 1 + 1 + 1 + 1 + 1) 44) (n + 1 + 1 + 1 + 1 + 1 + 1 + 1) (K (t + 1 + 1 + 1 + 1 + 1 + 1 + 1 + 1))) (n + 1 + 1 + 1 + 1 + 1 + 1 + 1 + 1) 23) (n + 1 + 1 + 1 + 1 + 1 + 1 + 1 + 1 + 1) 24) (n + 1 + 1 + 1 + 1 + 1 + 1 + 1 + 1 + 1) = 24 := by unfold u1; rw [if_pos rfl]
    rw [eo9] at s9 w9
    have e0 := EV.nil (c := cn 5) (ρ := ρ) (σ := σ) (w := g) (f := n)
    have e1 := e0.push s0 rfl (show fdV (cn 5) ρ 18 (g (n)) = wOf (cn 5) ρ 0 from rfl)
    have e2 := e1.push s1 rfl (show fdV (cn 5) ρ 44 (g (n + 1)) = nI (nn) from w1)
    have e3 := e2.push s2 rfl (show fdV (cn 5) ρ 44 (g (n + 1 + 1)) = nI (3) from w2)
    have e4 := e3.bin s3 rfl
    have e5 := e4.bin s4 rfl
    have e6 := e5.push s5 rfl (show fdV (cn 5) ρ 19 (g (n + 1 + 1 + 1 + 1 + 1)) = wOf (cn 5) ρ 3 from rfl)
    have e7 := e6.push s6 rfl (show fdV (cn 5) ρ 44 (g (n + 1 + 1 + 1 + 1 + 1 + 1)) = nI (nn) from w6)
    have e8 := e7.bin s7 rfl
    have e9 := e8.not s8
    have e10 := e9.bin s9 rfl
    have ef := EV.fin e10
    subst hc3 hc4
    show vlF (cn 5) ρ σ g n (n + 10) = 0 ↔ _
    rw [ef]
    exact ts2_v ρ nn v hn
theorem ts_3 {K : Nat → Nat} {V : Nat → Int64} {S : Nat → Int32} {vv : Nat → Int32} (hvv : ∀ t, vv t = (V t).toInt32) {t n : Nat} (htn : t < 1000 ∧ n < 1000) {o : Nat → Nat} {x r : Nat → Int32} {nh nt c h w : Nat} {D : RH} (hz : ∀ i, t ≤ i → r i = 0) (hT : TI V S r t nt nh c h w D) {nn v : Nat} (hn : nn < 99) (hv : v < 10) (hh0 : 1 ≤ nh ∧ nh ≤ 5) (ht0 : 1 ≤ nt ∧ nt ≤ 6) {w9 : List Nat} (hA : AtL K V t (tsP 3 nn v nt nh w9)) (hnx : K (t + (tsP 3 nn v nt nh w9).length) = 32 ∨ K (t + (tsP 3 nn v nt nh w9).length) = 13) {cn : Nat → Nat} (hc3 : cn 3 = nt) (hc4 : cn 4 = nh) : ∃ m o' x' r', PR K vv 8 0 (true, (t, n, o, x, r)) (true, (t + (tsP 3 nn v nt nh w9).length, n + m, o', x', r')) ∧ XR V S t (tsP 3 nn v nt nh w9).length n m o o' x x' r r' nt nh c h w D (fun σ g => ∀ ρ, (vlF (cn 5) ρ σ g n (n + m) = 0 ↔ hlF cn ρ 3 nn v = 0)) := by
  have m4 : v % nh < nh := Nat.mod_lt _ (by omega)
  have m3 : v % nt < nt := Nat.mod_lt _ (by omega)
  have m5 : nn % nh < nh := Nat.mod_lt _ (by omega)
  have m6 : nn % 20 < 20 := Nat.mod_lt _ (by decide)
  have m7 : nn % 9 < 9 := Nat.mod_lt _ (by decide)
  have m8 : nn % 3 < 3 := Nat.mod_lt _ (by decide)
  change K (t + 14) = 32 ∨ K (t + 14) = 13 at hnx
  obtain ⟨⟨k0, v0⟩, ⟨k1, v1⟩, ⟨k2, v2⟩, ⟨k3, v3⟩, ⟨k4, v4⟩, ⟨k5, v5⟩, ⟨k6, v6⟩, ⟨k7, v7⟩, ⟨k8, v8⟩, ⟨k9, v9⟩, ⟨k10, v10⟩, ⟨k11, v11⟩, ⟨k12, v12⟩, ⟨k13, v13⟩, -⟩ := hA
  replace k0 : K (t) = 22 := k0
  replace k1 : K (t + 1) = 43 := k1
  replace v1 : V (t + 1) = nmV 115 (v % nt) := v1 (wn_a _ _ _ rfl)
  replace k2 : K (t + 1 + 1) = 39 := k2
  replace k3 : K (t + 1 + 1 + 1) = 44 := k3
  replace v3 : V (t + 1 + 1 + 1) = Int64.ofNat (0) := v3 (wn_n _ _ (by omega))
  replace k4 : K (t + 1 + 1 + 1 + 1) = 25 := k4
  replace k5 : K (t + 1 + 1 + 1 + 1 + 1) = 3 := k5
  replace k6 : K (t + 1 + 1 + 1 + 1 + 1 + 1) = 43 := k6
  replace v6 : V (t + 1 + 1 + 1 + 1 + 1 + 1) = nmV 115 (v % nt) := v6 (wn_a _ _ _ rfl)
  replace k7 : K (t + 1 + 1 + 1 + 1 + 1 + 1 + 1) = 37 := k7
  replace k8 : K (t + 1 + 1 + 1 + 1 + 1 + 1 + 1 + 1) = 44 := k8
  replace v8 : V (t + 1 + 1 + 1 + 1 + 1 + 1 + 1 + 1) = Int64.ofNat (2) := v8 (wn_n _ _ (by omega))
  replace k9 : K (t + 1 + 1 + 1 + 1 + 1 + 1 + 1 + 1 + 1) = 36 := k9
  replace k10 : K (t + 1 + 1 + 1 + 1 + 1 + 1 + 1 + 1 + 1 + 1) = 44 := k10
  replace v10 : V (t + 1 + 1 + 1 + 1 + 1 + 1 + 1 + 1 + 1 + 1) = Int64.ofNat (2) := v10 (wn_n _ _ (by omega))
  replace k11 : K (t + 1 + 1 + 1 + 1 + 1 + 1 + 1 + 1 + 1 + 1 + 1) = 40 := k11
  replace k12 : K (t + 1 + 1 + 1 + 1 + 1 + 1 + 1 + 1 + 1 + 1 + 1 + 1) = 3 := k12
  replace k13 : K (t + 1 + 1 + 1 + 1 + 1 + 1 + 1 + 1 + 1 + 1 + 1 + 1 + 1) = 43 := k13
  replace v13 : V (t + 1 + 1 + 1 + 1 + 1 + 1 + 1 + 1 + 1 + 1 + 1 + 1 + 1) = nmV 115 (v % nt) := v13 (wn_a _ _ _ rfl)
  refine ⟨11, u1 (u1 (u1 (u1 (u1 (u1 (u1 (u1 (u1 (u1 (u1 (o) (n) (K (t))) (n + 1) 44) (n + 1 + 1) (K (t + 1 + 1))) (n + 1 + 1 + 1) (K (t + 1 + 1 + 1 + 1 + 1))) (n + 1 + 1 + 1 + 1) 44) (n + 1 + 1 + 1 + 1 + 1) (K (t + 1 + 1 + 1 + 1 + 1 + 1 + 1))) (n + 1 + 1 + 1 + 1 + 1 + 1) 44) (n + 1 + 1 + 1 + 1 + 1 + 1 + 1) (K (t + 1 + 1 + 1 + 1 + 1 + 1 + 1 + 1 + 1))) (n + 1 + 1 + 1 + 1 + 1 + 1 + 1 + 1) (K (t + 1 + 1 + 1 + 1 + 1 + 1 + 1 + 1 + 1 + 1 + 1 + 1))) (n + 1 + 1 + 1 + 1 + 1 + 1 + 1 + 1 + 1) (K (t + 1 + 1 + 1 + 1 + 1 + 1 + 1 + 1 + 1 + 1 + 1))) (n + 1 + 1 + 1 + 1 + 1 + 1 + 1 + 1 + 1 + 1) 25, uI (uI (uI (uI (uI (uI (uI (uI (uI (uI (uI (x) (n) (nI (t + 1))) (n + 1) (vv (t + 1 + 1 + 1))) (n + 1 + 1) 0) (n + 1 + 1 + 1) (nI (t + 1 + 1 + 1 + 1 + 1 + 1))) (n + 1 + 1 + 1 + 1) (vv (t + 1 + 1 + 1 + 1 + 1 + 1 + 1 + 1))) (n + 1 + 1 + 1 + 1 + 1) 0) (n + 1 + 1 + 1 + 1 + 1 + 1) (vv (t + 1 + 1 + 1 + 1 + 1 + 1 + 1 + 1 + 1 + 1))) (n + 1 + 1 + 1 + 1 + 1 + 1 + 1) 0) (n + 1 + 1 + 1 + 1 + 1 + 1 + 1 + 1) (nI (t + 1 + 1 + 1 + 1 + 1 + 1 + 1 + 1 + 1 + 1 + 1 + 1 + 1))) (n + 1 + 1 + 1 + 1 + 1 + 1 + 1 + 1 + 1) 0) (n + 1 + 1 + 1 + 1 + 1 + 1 + 1 + 1 + 1 + 1) 0, uI (uI (uI (r) (t + 1) 18) (t + 1 + 1 + 1 + 1 + 1 + 1) 18) (t + 1 + 1 + 1 + 1 + 1 + 1 + 1 + 1 + 1 + 1 + 1 + 1 + 1) 18, (PR.tst (PR.bth (PR.cmp' (kE (P := fun z => ¬ z = 23) k0 (by decide)) (kE (P := fun z => ¬ z = 30) k0 (by decide)) (PR.sum (PR.prd (PR.str (kE (P := fun z => z = 3 ∨ z = 22) k0 (by decide)) k1) (PR.pre (kE (P := fun z => ¬ (z = 36 ∨ z = 37)) k2 (by decide)))) (PR.sue (kE (P := fun z => ¬ (z = 34 ∨ z = 35)) k2 (by decide)))) (kE (P := fun z => 38 ≤ z ∧ z ≤ 42) k2 (by decide)) (PR.sum (PR.prd (PR.num k3) (PR.pre (kE (P := fun z => ¬ (z = 36 ∨ z = 37)) k4 (by decide)))) (PR.sue (kE (P := fun z => ¬ (z = 34 ∨ z = 35)) k4 (by decide))))) (PR.bte (kE (P := fun z => ¬ z = 24) k4 (by decide)))) (PR.tsl' k4 (PR.bth (PR.cmp' (kE (P := fun z => ¬ z = 23) k5 (by decide)) (kE (P := fun z => ¬ z = 30) k5 (by decide)) (PR.sum (PR.prd (PR.str (kE (P := fun z => z = 3 ∨ z = 22) k5 (by decide)) k6) (PR.prl' (kE (P := fun z => z = 36 ∨ z = 37) k7 (by decide)) (PR.num k8) (PR.prl' (kE (P := fun z => z = 36 ∨ z = 37) k9 (by decide)) (PR.num k10) (PR.pre (kE (P := fun z => ¬ (z = 36 ∨ z = 37)) k11 (by decide)))))) (PR.sue (kE (P := fun z => ¬ (z = 34 ∨ z = 35)) k11 (by decide)))) (kE (P := fun z => 38 ≤ z ∧ z ≤ 42) k11 (by decide)) (PR.sum (PR.prd (PR.str (kE (P := fun z => z = 3 ∨ z = 22) k12 (by decide)) k13) (PR.pre (kNx (P := fun z => ¬ (z = 36 ∨ z = 37)) (by decide) (by decide) hnx))) (PR.sue (kNx (P := fun z => ¬ (z = 34 ∨ z = 35)) (by decide) (by decide) hnx)))) (PR.bte (kNx (P := fun z => ¬ z = 24) (by decide) (by decide) hnx))) (PR.tse (kNx (P := fun z => ¬ z = 25) (by decide) (by decide) hnx)))), ⟨by decide, by decide⟩, fun i hi => ⟨?_, ?_⟩, fun i hi => ?_, fun i hi => ?_, ?_, fun rF σ g hrF hst ρ => ?_⟩
  · unfold u1; rw [if_neg (by omega), if_neg (by omega), if_neg (by omega), if_neg (by omega), if_neg (by omega), if_neg (by omega), if_neg (by omega), if_neg (by omega), if_neg (by omega), if_neg (by omega), if_neg (by omega)]
  · unfold uI; rw [if_neg (by omega), if_neg (by omega), if_neg (by omega), if_neg (by omega), if_neg (by omega), if_neg (by omega), if_neg (by omega), if_neg (by omega), if_neg (by omega), if_neg (by omega), if_neg (by omega)]
  · change t + 14 ≤ i at hi
    unfold uI; rw [if_neg (by omega), if_neg (by omega), if_neg (by omega)]; exact hz i (by omega)
  · unfold uI; rw [if_neg (by omega), if_neg (by omega), if_neg (by omega)]
  · show TI V S (uI (uI (uI (r) (t + 1) 18) (t + 1 + 1 + 1 + 1 + 1 + 1) 18) (t + 1 + 1 + 1 + 1 + 1 + 1 + 1 + 1 + 1 + 1 + 1 + 1 + 1) 18) (t + 14) nt nh c h w D
    generalize hR : uI (uI (uI (r) (t + 1) 18) (t + 1 + 1 + 1 + 1 + 1 + 1) 18) (t + 1 + 1 + 1 + 1 + 1 + 1 + 1 + 1 + 1 + 1 + 1 + 1 + 1) 18 = R
    have hlo : ∀ j, j < t → R j = r j := fun j hj => by rw [← hR]; unfold uI; rw [if_neg (by omega), if_neg (by omega), if_neg (by omega)]
    have r0 : R (t) = 0 := by rw [← hR]; unfold uI; rw [if_neg (by omega), if_neg (by omega), if_neg (by omega)]; exact hz _ (by omega)
    have r1 : R (t + 1) = 18 := by rw [← hR]; unfold uI; rw [if_neg (by omega), if_neg (by omega), if_pos rfl]
    have r2 : R (t + 1 + 1) = 0 := by rw [← hR]; unfold uI; rw [if_neg (by omega), if_neg (by omega), if_neg (by omega)]; exact hz _ (by omega)
    have r3 : R (t + 1 + 1 + 1) = 0 := by rw [← hR]; unfold uI; rw [if_neg (by omega), if_neg (by omega), if_neg (by omega)]; exact hz _ (by omega)
    have r4 : R (t + 1 + 1 + 1 + 1) = 0 := by rw [← hR]; unfold uI; rw [if_neg (by omega), if_neg (by omega), if_neg (by omega)]; exact hz _ (by omega)
    have r5 : R (t + 1 + 1 + 1 + 1 + 1) = 0 := by rw [← hR]; unfold uI; rw [if_neg (by omega), if_neg (by omega), if_neg (by omega)]; exact hz _ (by omega)
    have r6 : R (t + 1 + 1 + 1 + 1 + 1 + 1) = 18 := by rw [← hR]; unfold uI; rw [if_neg (by omega), if_pos rfl]
    have r7 : R (t + 1 + 1 + 1 + 1 + 1 + 1 + 1) = 0 := by rw [← hR]; unfold uI; rw [if_neg (by omega), if_neg (by omega), if_neg (by omega)]; exact hz _ (by omega)
    have r8 : R (t + 1 + 1 + 1 + 1 + 1 + 1 + 1 + 1) = 0 := by rw [← hR]; unfold uI; rw [if_neg (by omega), if_neg (by omega), if_neg (by omega)]; exact hz _ (by omega)
    have r9 : R (t + 1 + 1 + 1 + 1 + 1 + 1 + 1 + 1 + 1) = 0 := by rw [← hR]; unfold uI; rw [if_neg (by omega), if_neg (by omega), if_neg (by omega)]; exact hz _ (by omega)
    have r10 : R (t + 1 + 1 + 1 + 1 + 1 + 1 + 1 + 1 + 1 + 1) = 0 := by rw [← hR]; unfold uI; rw [if_neg (by omega), if_neg (by omega), if_neg (by omega)]; exact hz _ (by omega)
    have r11 : R (t + 1 + 1 + 1 + 1 + 1 + 1 + 1 + 1 + 1 + 1 + 1) = 0 := by rw [← hR]; unfold uI; rw [if_neg (by omega), if_neg (by omega), if_neg (by omega)]; exact hz _ (by omega)
    have r12 : R (t + 1 + 1 + 1 + 1 + 1 + 1 + 1 + 1 + 1 + 1 + 1 + 1) = 0 := by rw [← hR]; unfold uI; rw [if_neg (by omega), if_neg (by omega), if_neg (by omega)]; exact hz _ (by omega)
    have r13 : R (t + 1 + 1 + 1 + 1 + 1 + 1 + 1 + 1 + 1 + 1 + 1 + 1 + 1) = 18 := by rw [← hR]; unfold uI; rw [if_pos rfl]
    have h0 := hT.cc hlo
    have h1 := h0.t0 r0
    have h2 := h1.t18 r1 v1 (by omega) (by omega)
    have h3 := h2.t0 r2
    have h4 := h3.t0 r3
    have h5 := h4.t0 r4
    have h6 := h5.t0 r5
    have h7 := h6.t18 r6 v6 (by omega) (by omega)
    have h8 := h7.t0 r7
    have h9 := h8.t0 r8
    have h10 := h9.t0 r9
    have h11 := h10.t0 r10
    have h12 := h11.t0 r11
    have h13 := h12.t0 r12
    have h14 := h13.t18 r13 v13 (by omega) (by omega)
    exact h14
  · change ∀ i, i < t + 14 → rF i = (uI (uI (uI (r) (t + 1) 18) (t + 1 + 1 + 1 + 1 + 1 + 1) 18) (t + 1 + 1 + 1 + 1 + 1 + 1 + 1 + 1 + 1 + 1 + 1 + 1 + 1) 18) i at hrF
    generalize hR : uI (uI (uI (r) (t + 1) 18) (t + 1 + 1 + 1 + 1 + 1 + 1) 18) (t + 1 + 1 + 1 + 1 + 1 + 1 + 1 + 1 + 1 + 1 + 1 + 1 + 1) 18 = R at hrF
    have hlo : ∀ j, j < t → R j = r j := fun j hj => by rw [← hR]; unfold uI; rw [if_neg (by omega), if_neg (by omega), if_neg (by omega)]
    have r0 : R (t) = 0 := by rw [← hR]; unfold uI; rw [if_neg (by omega), if_neg (by omega), if_neg (by omega)]; exact hz _ (by omega)
    have r1 : R (t + 1) = 18 := by rw [← hR]; unfold uI; rw [if_neg (by omega), if_neg (by omega), if_pos rfl]
    have r2 : R (t + 1 + 1) = 0 := by rw [← hR]; unfold uI; rw [if_neg (by omega), if_neg (by omega), if_neg (by omega)]; exact hz _ (by omega)
    have r3 : R (t + 1 + 1 + 1) = 0 := by rw [← hR]; unfold uI; rw [if_neg (by omega), if_neg (by omega), if_neg (by omega)]; exact hz _ (by omega)
    have r4 : R (t + 1 + 1 + 1 + 1) = 0 := by rw [← hR]; unfold uI; rw [if_neg (by omega), if_neg (by omega), if_neg (by omega)]; exact hz _ (by omega)
    have r5 : R (t + 1 + 1 + 1 + 1 + 1) = 0 := by rw [← hR]; unfold uI; rw [if_neg (by omega), if_neg (by omega), if_neg (by omega)]; exact hz _ (by omega)
    have r6 : R (t + 1 + 1 + 1 + 1 + 1 + 1) = 18 := by rw [← hR]; unfold uI; rw [if_neg (by omega), if_pos rfl]
    have r7 : R (t + 1 + 1 + 1 + 1 + 1 + 1 + 1) = 0 := by rw [← hR]; unfold uI; rw [if_neg (by omega), if_neg (by omega), if_neg (by omega)]; exact hz _ (by omega)
    have r8 : R (t + 1 + 1 + 1 + 1 + 1 + 1 + 1 + 1) = 0 := by rw [← hR]; unfold uI; rw [if_neg (by omega), if_neg (by omega), if_neg (by omega)]; exact hz _ (by omega)
    have r9 : R (t + 1 + 1 + 1 + 1 + 1 + 1 + 1 + 1 + 1) = 0 := by rw [← hR]; unfold uI; rw [if_neg (by omega), if_neg (by omega), if_neg (by omega)]; exact hz _ (by omega)
    have r10 : R (t + 1 + 1 + 1 + 1 + 1 + 1 + 1 + 1 + 1 + 1) = 0 := by rw [← hR]; unfold uI; rw [if_neg (by omega), if_neg (by omega), if_neg (by omega)]; exact hz _ (by omega)
    have r11 : R (t + 1 + 1 + 1 + 1 + 1 + 1 + 1 + 1 + 1 + 1 + 1) = 0 := by rw [← hR]; unfold uI; rw [if_neg (by omega), if_neg (by omega), if_neg (by omega)]; exact hz _ (by omega)
    have r12 : R (t + 1 + 1 + 1 + 1 + 1 + 1 + 1 + 1 + 1 + 1 + 1 + 1) = 0 := by rw [← hR]; unfold uI; rw [if_neg (by omega), if_neg (by omega), if_neg (by omega)]; exact hz _ (by omega)
    have r13 : R (t + 1 + 1 + 1 + 1 + 1 + 1 + 1 + 1 + 1 + 1 + 1 + 1 + 1) = 18 := by rw [← hR]; unfold uI; rw [if_pos rfl]
    have h0 := hT.cc hlo
    have h1 := h0.t0 r0
    have h2 := h1.t18 r1 v1 (by omega) (by omega)
    have h3 := h2.t0 r2
    have h4 := h3.t0 r3
    have h5 := h4.t0 r4
    have h6 := h5.t0 r5
    have h7 := h6.t18 r6 v6 (by omega) (by omega)
    have h8 := h7.t0 r7
    have h9 := h8.t0 r8
    have h10 := h9.t0 r9
    have h11 := h10.t0 r10
    have h12 := h11.t0 r11
    have h13 := h12.t0 r12
    have h14 := h13.t18 r13 v13 (by omega) (by omega)
    have s0 := (hst (n) (by omega) (by omega)).1
    have w0 := (hst (n) (by omega) (by omega)).2
    have eo0 : (u1 (u1 (u1 (u1 (u1 (u1 (u1 (u1 (u1 (u1 (u1 (o) (n) (K (t))) (n + 1) 44) (n + 1 + 1) (K (t + 1 + 1))) (n + 1 + 1 + 1) (K (t + 1 + 1 + 1 + 1 + 1))) (n + 1 + 1 + 1 + 1) 44) (n + 1 + 1 + 1 + 1 + 1) (K (t + 1 + 1 + 1 + 1 + 1 + 1 + 1))) (n + 1 + 1 + 1 + 1 + 1 + 1) 44) (n + 1 + 1 + 1 + 1 + 1 + 1 + 1) (K (t + 1 + 1 + 1 + 1 + 1 + 1 + 1 + 1 + 1))) (n + 1 + 1 + 1 + 1 + 1 + 1 + 1 + 1) (K (t + 1 + 1 + 1 + 1 + 1 + 1 + 1 + 1 + 1 + 1 + 1 + 1))) (n + 1 + 1 + 1 + 1 + 1 + 1 + 1 + 1 + 1) (K (t + 1 + 1 + 1 + 1 + 1 + 1 + 1 + 1 + 1 + 1 + 1))) (n + 1 + 1 + 1 + 1 + 1 + 1 + 1 + 1 + 1 + 1) 25) (n) = 22 := by unfold u1; rw [if_neg (by omega), if_neg (by omega), if_neg (by omega), if_neg (by omega), if_neg (by omega), if_neg (by omega), if_neg (by omega), if_neg (by omega), if_neg (by omega), if_neg (by omega), if_pos rfl]; exact k0
    rw [eo0] at s0 w0
    have ex0 : (uI (uI (uI (uI (uI (uI (uI (uI (uI (uI (uI (x) (n) (nI (t + 1))) (n + 1) (vv (t + 1 + 1 + 1))) (n + 1 + 1) 0) (n + 1 + 1 + 1) (nI (t + 1 + 1 + 1 + 1 + 1 + 1))) (n + 1 + 1 + 1 + 1) (vv (t + 1 + 1 + 1 + 1 + 1 + 1 + 1 + 1))) (n + 1 + 1 + 1 + 1 + 1) 0) (n + 1 + 1 + 1 + 1 + 1 + 1) (vv (t + 1 + 1 + 1 + 1 + 1 + 1 + 1 + 1 + 1 + 1))) (n + 1 + 1 + 1 + 1 + 1 + 1 + 1) 0) (n + 1 + 1 + 1 + 1 + 1 + 1 + 1 + 1) (nI (t + 1 + 1 + 1 + 1 + 1 + 1 + 1 + 1 + 1 + 1 + 1 + 1 + 1))) (n + 1 + 1 + 1 + 1 + 1 + 1 + 1 + 1 + 1) 0) (n + 1 + 1 + 1 + 1 + 1 + 1 + 1 + 1 + 1 + 1) 0) (n) = (nI (t + 1)) := by unfold uI; rw [if_neg (by omega), if_neg (by omega), if_neg (by omega), if_neg (by omega), if_neg (by omega), if_neg (by omega), if_neg (by omega), if_neg (by omega), if_neg (by omega), if_neg (by omega), if_pos rfl]
    rw [ex0] at w0
    replace w0 : g (n) = nI (v % nt) := w0.trans (rs_s (by decide) (by omega) (by rw [v1, tdR_c (fun i hi => hrF i (by omega))]; exact h1.2.1.1.fd (by omega) (by omega)))
    have s1 := (hst (n + 1) (by omega) (by omega)).1
    have w1 := (hst (n + 1) (by omega) (by omega)).2
    have eo1 : (u1 (u1 (u1 (u1 (u1 (u1 (u1 (u1 (u1 (u1 (u1 (o) (n) (K (t))) (n + 1) 44) (n + 1 + 1) (K (t + 1 + 1))) (n + 1 + 1 + 1) (K (t + 1 + 1 + 1 + 1 + 1))) (n + 1 + 1 + 1 + 1) 44) (n + 1 + 1 + 1 + 1 + 1) (K (t + 1 + 1 + 1 + 1 + 1 + 1 + 1))) (n + 1 + 1 + 1 + 1 + 1 + 1) 44) (n + 1 + 1 + 1 + 1 + 1 + 1 + 1) (K (t + 1 + 1 + 1 + 1 + 1 + 1 + 1 + 1 + 1))) (n + 1 + 1 + 1 + 1 + 1 + 1 + 1 + 1) (K (t + 1 + 1 + 1 + 1 + 1 + 1 + 1 + 1 + 1 + 1 + 1 + 1))) (n + 1 + 1 + 1 + 1 + 1 + 1 + 1 + 1 + 1) (K (t + 1 + 1 + 1 + 1 + 1 + 1 + 1 + 1 + 1 + 1 + 1))) (n + 1 + 1 + 1 + 1 + 1 + 1 + 1 + 1 + 1 + 1) 25) (n + 1) = 44 := by unfold u1; rw [if_neg (by omega), if_neg (by omega), if_neg (by omega), if_neg (by omega), if_neg (by omega), if_neg (by omega), if_neg (by omega), if_neg (by omega), if_neg (by omega), if_pos rfl]
    rw [eo1] at s1 w1
    have ex1 : (uI (uI (uI (uI (uI (uI (uI (uI (uI (uI (uI (x) (n) (nI (t + 1))) (n + 1) (vv (t + 1 + 1 + 1))) (n + 1 + 1) 0) (n + 1 + 1 + 1) (nI (t + 1 + 1 + 1 + 1 + 1 + 1))) (n + 1 + 1 + 1 + 1) (vv (t + 1 + 1 + 1 + 1 + 1 + 1 + 1 + 1))) (n + 1 + 1 + 1 + 1 + 1) 0) (n + 1 + 1 + 1 + 1 + 1 + 1) (vv (t + 1 + 1 + 1 + 1 + 1 + 1 + 1 + 1 + 1 + 1))) (n + 1 + 1 + 1 + 1 + 1 + 1 + 1) 0) (n + 1 + 1 + 1 + 1 + 1 + 1 + 1 + 1) (nI (t + 1 + 1 + 1 + 1 + 1 + 1 + 1 + 1 + 1 + 1 + 1 + 1 + 1))) (n + 1 + 1 + 1 + 1 + 1 + 1 + 1 + 1 + 1) 0) (n + 1 + 1 + 1 + 1 + 1 + 1 + 1 + 1 + 1 + 1) 0) (n + 1) = (vv (t + 1 + 1 + 1)) := by unfold uI; rw [if_neg (by omega), if_neg (by omega), if_neg (by omega), if_neg (by omega), if_neg (by omega), if_neg (by omega), if_neg (by omega), if_neg (by omega), if_neg (by omega), if_pos rfl]
    rw [ex1] at w1
    replace w1 : g (n + 1) = nI (0) := w1.trans (rs_44.trans ((hvv _).trans (by rw [v3]; exact tN (by omega))))
    have s2 := (hst (n + 1 + 1) (by omega) (by omega)).1
    have w2 := (hst (n + 1 + 1) (by omega) (by omega)).2
    have eo2 : (u1 (u1 (u1 (u1 (u1 (u1 (u1 (u1 (u1 (u1 (u1 (o) (n) (K (t))) (n + 1) 44) (n + 1 + 1) (K (t + 1 + 1))) (n + 1 + 1 + 1) (K (t + 1 + 1 + 1 + 1 + 1))) (n + 1 + 1 + 1 + 1) 44) (n + 1 + 1 + 1 + 1 + 1) (K (t + 1 + 1 + 1 + 1 + 1 + 1 + 1))) (n + 1 + 1 + 1 + 1 + 1 + 1) 44) (n + 1 + 1 + 1 + 1 + 1 + 1 + 1) (K (t + 1 + 1 + 1 + 1 + 1 + 1 + 1 + 1 + 1))) (n + 1 + 1 + 1 + 1 + 1 + 1 + 1 + 1) (K (t + 1 + 1 + 1 + 1 + 1 + 1 + 1 + 1 + 1 + 1 + 1 + 1))) (n + 1 + 1 + 1 + 1 + 1 + 1 + 1 + 1 + 1) (K (t + 1 + 1 + 1 + 1 + 1 + 1 + 1 + 1 + 1 + 1 + 1))) (n + 1 + 1 + 1 + 1 + 1 + 1 + 1 + 1 + 1 + 1) 25) (n + 1 + 1) = 39 := by unfold u1; rw [if_neg (by omega), if_neg (by omega), if_neg (by omega), if_neg (by omega), if_neg (by omega), if_neg (by omega), if_neg (by omega), if_neg (by omega), if_pos rfl]; exact k2
    rw [eo2] at s2 w2
    have s3 := (hst (n + 1 + 1 + 1) (by omega) (by omega)).1
    have w3 := (hst (n + 1 + 1 + 1) (by omega) (by omega)).2
    have eo3 : (u1 (u1 (u1 (u1 (u1 (u1 (u1 (u1 (u1 (u1 (u1 (o) (n) (K (t))) (n + 1) 44) (n + 1 + 1) (K (t + 1 + 1))) (n + 1 + 1 + 1) (K (t + 1 + 1 + 1 + 1 + 1))) (n + 1 + 1 + 1 + 1) 44) (n + 1 + 1 + 1 + 1 + 1) (K (t + 1 + 1 + 1 + 1 + 1 + 1 + 1))) (n + 1 + 1 + 1 + 1 + 1 + 1) 44) (n + 1 + 1 + 1 + 1 + 1 + 1 + 1) (K (t + 1 + 1 + 1 + 1 + 1 + 1 + 1 + 1 + 1))) (n + 1 + 1 + 1 + 1 + 1 + 1 + 1 + 1) (K (t + 1 + 1 + 1 + 1 + 1 + 1 + 1 + 1 + 1 + 1 + 1 + 1))) (n + 1 + 1 + 1 + 1 + 1 + 1 + 1 + 1 + 1) (K (t + 1 + 1 + 1 + 1 + 1 + 1 + 1 + 1 + 1 + 1 + 1))) (n + 1 + 1 + 1 + 1 + 1 + 1 + 1 + 1 + 1 + 1) 25) (n + 1 + 1 + 1) = 3 := by unfold u1; rw [if_neg (by omega), if_neg (by omega), if_neg (by omega), if_neg (by omega), if_neg (by omega), if_neg (by omega), if_neg (by omega), if_pos rfl]; exact k5
    rw [eo3] at s3 w3
    have ex3 : (uI (uI (uI (uI (uI (uI (uI (uI (uI (uI (uI (x) (n) (nI (t + 1))) (n + 1) (vv (t + 1 + 1 + 1))) (n + 1 + 1) 0) (n + 1 + 1 + 1) (nI (t + 1 + 1 + 1 + 1 + 1 + 1))) (n + 1 + 1 + 1 + 1) (vv (t + 1 + 1 + 1 + 1 + 1 + 1 + 1 + 1))) (n + 1 + 1 + 1 + 1 + 1) 0) (n + 1 + 1 + 1 + 1 + 1 + 1) (vv (t + 1 + 1 + 1 + 1 + 1 + 1 + 1 + 1 + 1 + 1))) (n + 1 + 1 + 1 + 1 + 1 + 1 + 1) 0) (n + 1 + 1 + 1 + 1 + 1 + 1 + 1 + 1) (nI (t + 1 + 1 + 1 + 1 + 1 + 1 + 1 + 1 + 1 + 1 + 1 + 1 + 1))) (n + 1 + 1 + 1 + 1 + 1 + 1 + 1 + 1 + 1) 0) (n + 1 + 1 + 1 + 1 + 1 + 1 + 1 + 1 + 1 + 1) 0) (n + 1 + 1 + 1) = (nI (t + 1 + 1 + 1 + 1 + 1 + 1)) := by unfold uI; rw [if_neg (by omega), if_neg (by omega), if_neg (by omega), if_neg (by omega), if_neg (by omega), if_neg (by omega), if_neg (by omega), if_pos rfl]
    rw [ex3] at w3
    replace w3 : g (n + 1 + 1 + 1) = nI (v % nt) := w3.trans (rs_s (by decide) (by omega) (by rw [v6, tdR_c (fun i hi => hrF i (by omega))]; exact h6.2.1.1.fd (by omega) (by omega)))
    have s4 := (hst (n + 1 + 1 + 1 + 1) (by omega) (by omega)).1
    have w4 := (hst (n + 1 + 1 + 1 + 1) (by omega) (by omega)).2
    have eo4 : (u1 (u1 (u1 (u1 (u1 (u1 (u1 (u1 (u1 (u1 (u1 (o) (n) (K (t))) (n + 1) 44) (n + 1 + 1) (K (t + 1 + 1))) (n + 1 + 1 + 1) (K (t + 1 + 1 + 1 + 1 + 1))) (n + 1 + 1 + 1 + 1) 44) (n + 1 + 1 + 1 + 1 + 1) (K (t + 1 + 1 + 1 + 1 + 1 + 1 + 1))) (n + 1 + 1 + 1 + 1 + 1 + 1) 44) (n + 1 + 1 + 1 + 1 + 1 + 1 + 1) (K (t + 1 + 1 + 1 + 1 + 1 + 1 + 1 + 1 + 1))) (n + 1 + 1 + 1 + 1 + 1 + 1 + 1 + 1) (K (t + 1 + 1 + 1 + 1 + 1 + 1 + 1 + 1 + 1 + 1 + 1 + 1))) (n + 1 + 1 + 1 + 1 + 1 + 1 + 1 + 1 + 1) (K (t + 1 + 1 + 1 + 1 + 1 + 1 + 1 + 1 + 1 + 1 + 1))) (n + 1 + 1 + 1 + 1 + 1 + 1 + 1 + 1 + 1 + 1) 25) (n + 1 + 1 + 1 + 1) = 44 := by unfold u1; rw [if_neg (by omega), if_neg (by omega), if_neg (by omega), if_neg (by omega), if_neg (by omega), if_neg (by omega), if_pos rfl]
    rw [eo4] at s4 w4
    have ex4 : (uI (uI (uI (uI (uI (uI (uI (uI (uI (uI (uI (x) (n) (nI (t + 1))) (n + 1) (vv (t + 1 + 1 + 1))) (n + 1 + 1) 0) (n + 1 + 1 + 1) (nI (t + 1 + 1 + 1 + 1 + 1 + 1))) (n + 1 + 1 + 1 + 1) (vv (t + 1 + 1 + 1 + 1 + 1 + 1 + 1 + 1))) (n + 1 + 1 + 1 + 1 + 1) 0) (n + 1 + 1 + 1 + 1 + 1 + 1) (vv (t + 1 + 1 + 1 + 1 + 1 + 1 + 1 + 1 + 1 + 1))) (n + 1 + 1 + 1 + 1 + 1 + 1 + 1) 0) (n + 1 + 1 + 1 + 1 + 1 + 1 + 1 + 1) (nI (t + 1 + 1 + 1 + 1 + 1 + 1 + 1 + 1 + 1 + 1 + 1 + 1 + 1))) (n + 1 + 1 + 1 + 1 + 1 + 1 + 1 + 1 + 1) 0) (n + 1 + 1 + 1 + 1 + 1 + 1 + 1 + 1 + 1 + 1) 0) (n + 1 + 1 + 1 + 1) = (vv (t + 1 + 1 + 1 + 1 + 1 + 1 + 1 + 1)) := by unfold uI; rw [if_neg (by omega), if_neg (by omega), if_neg (by omega), if_neg (by omega), if_neg (by omega), if_neg (by omega), if_pos rfl]
    rw [ex4] at w4
    replace w4 : g (n + 1 + 1 + 1 + 1) = nI (2) := w4.trans (rs_44.trans ((hvv _).trans (by rw [v8]; exact tN (by omega))))
    have s5 := (hst (n + 1 + 1 + 1 + 1 + 1) (by omega) (by omega)).1
    have w5 := (hst (n + 1 + 1 + 1 + 1 + 1) (by omega) (by omega)).2
    have eo5 : (u1 (u1 (u1 (u1 (u1 (u1 (u1 (u1 (u1 (u1 (u1 (o) (n) (K (t))) (n + 1) 44) (n + 1 + 1) (K (t + 1 + 1))) (n + 1 + 1 + 1) (K (t + 1 + 1 + 1 + 1 + 1))) (n + 1 + 1 + 1 + 1) 44) (n + 1 + 1 + 1 + 1 + 1) (K (t + 1 + 1 + 1 + 1 + 1 + 1 + 1))) (n + 1 + 1 + 1 + 1 + 1 + 1) 44) (n + 1 + 1 + 1 + 1 + 1 + 1 + 1) (K (t + 1 + 1 + 1 + 1 + 1 + 1 + 1 + 1 + 1))) (n + 1 + 1 + 1 + 1 + 1 + 1 + 1 + 1) (K (t + 1 + 1 + 1 + 1 + 1 + 1 + 1 + 1 + 1 + 1 + 1 + 1))) (n + 1 + 1 + 1 + 1 + 1 + 1 + 1 + 1 + 1) (K (t + 1 + 1 + 1 + 1 + 1 + 1 + 1 + 1 + 1 + 1 + 1))) (n + 1 + 1 + 1 + 1 + 1 + 1 + 1 + 1 + 1 + 1) 25) (n + 1 + 1 + 1 + 1 + 1) = 37 := by unfold u1; rw [if_neg (by omega), if_neg (by omega), if_neg (by omega), if_neg (by omega), if_neg (by omega), if_pos rfl]; exact k7
    rw [eo5] at s5 w5
    have s6 := (hst (n + 1 + 1 + 1 + 1 + 1 + 1) (by omega) (by omega)).1
    have w6 := (hst (n + 1 + 1 + 1 + 1 + 1 + 1) (by omega) (by omega)).2
    have eo6 : (u1 (u1 (u1 (u1 (u1 (u1 (u1 (u1 (u1 (u1 (u1 (o) (n) (K (t))) (n + 1) 44) (n + 1 + 1) (K (t + 1 + 1))) (n + 1 + 1 + 1) (K (t + 1 + 1 + 1 + 1 + 1))) (n + 1 + 1 + 1 + 1) 44) (n + 1 + 1 + 1 + 1 + 1) (K (t + 1 + 1 + 1 + 1 + 1 + 1 + 1))) (n + 1 + 1 + 1 + 1 + 1 + 1) 44) (n + 1 + 1 + 1 + 1 + 1 + 1 + 1) (K (t + 1 + 1 + 1 + 1 + 1 + 1 + 1 + 1 + 1))) (n + 1 + 1 + 1 + 1 + 1 + 1 + 1 + 1) (K (t + 1 + 1 + 1 + 1 + 1 + 1 + 1 + 1 + 1 + 1 + 1 + 1))) (n + 1 + 1 + 1 + 1 + 1 + 1 + 1 + 1 + 1) (K (t + 1 + 1 + 1 + 1 + 1 + 1 + 1 + 1 + 1 + 1 + 1))) (n + 1 + 1 + 1 + 1 + 1 + 1 + 1 + 1 + 1 + 1) 25) (n + 1 + 1 + 1 + 1 + 1 + 1) = 44 := by unfold u1; rw [if_neg (by omega), if_neg (by omega), if_neg (by omega), if_neg (by omega), if_pos rfl]
    rw [eo6] at s6 w6
    have ex6 : (uI (uI (uI (uI (uI (uI (uI (uI (uI (uI (uI (x) (n) (nI (t + 1))) (n + 1) (vv (t + 1 + 1 + 1))) (n + 1 + 1) 0) (n + 1 + 1 + 1) (nI (t + 1 + 1 + 1 + 1 + 1 + 1))) (n + 1 + 1 + 1 + 1) (vv (t + 1 + 1 + 1 + 1 + 1 + 1 + 1 + 1))) (n + 1 + 1 + 1 + 1 + 1) 0) (n + 1 + 1 + 1 + 1 + 1 + 1) (vv (t + 1 + 1 + 1 + 1 + 1 + 1 + 1 + 1 + 1 + 1))) (n + 1 + 1 + 1 + 1 + 1 + 1 + 1) 0) (n + 1 + 1 + 1 + 1 + 1 + 1 + 1 + 1) (nI (t + 1 + 1 + 1 + 1 + 1 + 1 + 1 + 1 + 1 + 1 + 1 + 1 + 1))) (n + 1 + 1 + 1 + 1 + 1 + 1 + 1 + 1 + 1) 0) (n + 1 + 1 + 1 + 1 + 1 + 1 + 1 + 1 + 1 + 1) 0) (n + 1 + 1 + 1 + 1 + 1 + 1) = (vv (t + 1 + 1 + 1 + 1 + 1 + 1 + 1 + 1 + 1 + 1)) := by unfold uI; rw [if_neg (by omega), if_neg (by omega), if_neg (by omega), if_neg (by omega), if_pos rfl]
    rw [ex6] at w6
    replace w6 : g (n + 1 + 1 + 1 + 1 + 1 + 1) = nI (2) := w6.trans (rs_44.trans ((hvv _).trans (by rw [v10]; exact tN (by omega))))
    have s7 := (hst (n + 1 + 1 + 1 + 1 + 1 + 1 + 1) (by omega) (by omega)).1
    have w7 := (hst (n + 1 + 1 + 1 + 1 + 1 + 1 + 1) (by omega) (by omega)).2
    have eo7 : (u1 (u1 (u1 (u1 (u1 (u1 (u1 (u1 (u1 (u1 (u1 (o) (n) (K (t))) (n + 1) 44) (n + 1 + 1) (K (t + 1 + 1))) (n + 1 + 1 + 1) (K (t + 1 + 1 + 1 + 1 + 1))) (n + 1 + 1 + 1 + 1) 44) (n + 1 + 1 + 1 + 1 + 1) (K (t + 1 + 1 + 1 + 1 + 1 + 1 + 1))) (n + 1 + 1 + 1 + 1 + 1 + 1) 44) (n + 1 + 1 + 1 + 1 + 1 + 1 + 1) (K (t + 1 + 1 + 1 + 1 + 1 + 1 + 1 + 1 + 1))) (n + 1 + 1 + 1 + 1 + 1 + 1 + 1 + 1) (K (t + 1 + 1 + 1 + 1 + 1 + 1 + 1 + 1 + 1 + 1 + 1 + 1))) (n + 1 + 1 + 1 + 1 + 1 + 1 + 1 + 1 + 1) (K (t + 1 + 1 + 1 + 1 + 1 + 1 + 1 + 1 + 1 + 1 + 1))) (n + 1 + 1 + 1 + 1 + 1 + 1 + 1 + 1 + 1 + 1) 25) (n + 1 + 1 + 1 + 1 + 1 + 1 + 1) = 36 := by unfold u1; rw [if_neg (by omega), if_neg (by omega), if_neg (by omega), if_pos rfl]; exact k9
    rw [eo7] at s7 w7
    have s8 := (hst (n + 1 + 1 + 1 + 1 + 1 + 1 + 1 + 1) (by omega) (by omega)).1
    have w8 := (hst (n + 1 + 1 + 1 + 1 + 1 + 1 + 1 + 1) (by omega) (by omega)).2
    have eo8 : (u1 (u1 (u1 (u1 (u1 (u1 (u1 (u1 (u1 (u1 (u1 (o) (n) (K (t))) (n + 1) 44) (n + 1 + 1) (K (t + 1 + 1))) (n + 1 + 1 + 1) (K (t + 1 + 1 + 1 + 1 + 1))) (n + 1 + 1 + 1 + 1) 44) (n + 1 + 1 + 1 + 1 + 1) (K (t + 1 + 1 + 1 + 1 + 1 + 1 + 1))) (n + 1 + 1 + 1 + 1 + 1 + 1) 44) (n + 1 + 1 + 1 + 1 + 1 + 1 + 1) (K (t + 1 + 1 + 1 + 1 + 1 + 1 + 1 + 1 + 1))) (n + 1 + 1 + 1 + 1 + 1 + 1 + 1 + 1) (K (t + 1 + 1 + 1 + 1 + 1 + 1 + 1 + 1 + 1 + 1 + 1 + 1))) (n + 1 + 1 + 1 + 1 + 1 + 1 + 1 + 1 + 1) (K (t + 1 + 1 + 1 + 1 + 1 + 1 + 1 + 1 + 1 + 1 + 1))) (n + 1 + 1 + 1 + 1 + 1 + 1 + 1 + 1 + 1 + 1) 25) (n + 1 + 1 + 1 + 1 + 1 + 1 + 1 + 1) = 3 := by unfold u1; rw [if_neg (by omega), if_neg (by omega), if_pos rfl]; exact k12
    rw [eo8] at s8 w8
    have ex8 : (uI (uI (uI (uI (uI (uI (uI (uI (uI (uI (uI (x) (n) (nI (t + 1))) (n + 1) (vv (t + 1 + 1 + 1))) (n + 1 + 1) 0) (n + 1 + 1 + 1) (nI (t + 1 + 1 + 1 + 1 + 1 + 1))) (n + 1 + 1 + 1 + 1) (vv (t + 1 + 1 + 1 + 1 + 1 + 1 + 1 + 1))) (n + 1 + 1 + 1 + 1 + 1) 0) (n + 1 + 1 + 1 + 1 + 1 + 1) (vv (t + 1 + 1 + 1 + 1 + 1 + 1 + 1 + 1 + 1 + 1))) (n + 1 + 1 + 1 + 1 + 1 + 1 + 1) 0) (n + 1 + 1 + 1 + 1 + 1 + 1 + 1 + 1) (nI (t + 1 + 1 + 1 + 1 + 1 + 1 + 1 + 1 + 1 + 1 + 1 + 1 + 1))) (n + 1 + 1 + 1 + 1 + 1 + 1 + 1 + 1 + 1) 0) (n + 1 + 1 + 1 + 1 + 1 + 1 + 1 + 1 + 1 + 1) 0) (n + 1 + 1 + 1 + 1 + 1 + 1 + 1 + 1) = (nI (t + 1 + 1 + 1 + 1 + 1 + 1 + 1 + 1 + 1 + 1 + 1 + 1 + 1)) := by unfold uI; rw [if_neg (by omega), if_neg (by omega), if_pos rfl]
    rw [ex8] at w8
    replace w8 : g (n + 1 + 1 + 1 + 1 + 1 + 1 + 1 + 1) = nI (v % nt) := w8.trans (rs_s (by decide) (by omega) (by rw [v13, tdR_c (fun i hi => hrF i (by omega))]; exact h13.2.1.1.fd (by omega) (by omega)))
    have s9 := (hst (n + 1 + 1 + 1 + 1 + 1 + 1 + 1 + 1 + 1) (by omega) (by omega)).1
    have w9 := (hst (n + 1 + 1 + 1 + 1 + 1 + 1 + 1 + 1 + 1) (by omega) (by omega)).2
    have eo9 : (u1 (u1 (u1 (u1 (u1 (u1 (u1 (u1 (u1 (u1 (u1 (o) (n) (K (t))) (n + 1) 44) (n + 1 + 1) (K (t + 1 + 1))) (n + 1 + 1 + 1) (K (t + 1 + 1 + 1 + 1 + 1))) (n + 1 + 1 + 1 + 1) 44) (n + 1 + 1 + 1 + 1 + 1) (K (t + 1 + 1 + 1 + 1 + 1 + 1 + 1))) (n + 1 + 1 + 1 + 1 + 1 + 1) 44) (n + 1 + 1 + 1 + 1 + 1 + 1 + 1) (K (t + 1 + 1 + 1 + 1 + 1 + 1 + 1 + 1 + 1))) (n + 1 + 1 + 1 + 1 + 1 + 1 + 1 + 1) (K (t + 1 + 1 + 1 + 1 + 1 + 1 + 1 + 1 + 1 + 1 + 1 + 1))) (n + 1 + 1 + 1 + 1 + 1 + 1 + 1 + 1 + 1) (K (t + 1 + 1 + 1 + 1 + 1 + 1 + 1 + 1 + 1 + 1 + 1))) (n + 1 + 1 + 1 + 1 + 1 + 1 + 1 + 1 + 1 + 1) 25) (n + 1 + 1 + 1 + 1 + 1 + 1 + 1 + 1 + 1) = 40 := by unfold u1; rw [if_neg (by omega), if_pos rfl]; exact k11
    rw [eo9] at s9 w9
    have s10 := (hst (n + 1 + 1 + 1 + 1 + 1 + 1 + 1 + 1 + 1 + 1) (by omega) (by omega)).1
    have w10 := (hst (n + 1 + 1 + 1 + 1 + 1 + 1 + 1 + 1 + 1 + 1) (by omega) (by omega)).2
    have eo10 : (u1 (u1 (u1 (u1 (u1 (u1 (u1 (u1 (u1 (u1 (u1 (o) (n) (K (t))) (n + 1) 44) (n + 1 + 1) (K (t + 1 + 1))) (n + 1 + 1 + 1) (K (t + 1 + 1 + 1 + 1 + 1))) (n + 1 + 1 + 1 + 1) 44) (n + 1 + 1 + 1 + 1 + 1) (K (t + 1 + 1 + 1 + 1 + 1 + 1 + 1))) (n + 1 + 1 + 1 + 1 + 1 + 1) 44) (n + 1 + 1 + 1 + 1 + 1 + 1 + 1) (K (t + 1 + 1 + 1 + 1 + 1 + 1 + 1 + 1 + 1))) (n + 1 + 1 + 1 + 1 + 1 + 1 + 1 + 1) (K (t + 1 + 1 + 1 + 1 + 1 + 1 + 1 + 1 + 1 + 1 + 1 + 1))) (n + 1 + 1 + 1 + 1 + 1 + 1 + 1 + 1 + 1) (K (t + 1 + 1 + 1 + 1 + 1 + 1 + 1 + 1 + 1 + 1 + 1))) (n + 1 + 1 + 1 + 1 + 1 + 1 + 1 + 1 + 1 + 1) 25) (n + 1 + 1 + 1 + 1 + 1 + 1 + 1 + 1 + 1 + 1) = 25 := by unfold u1; rw [if_pos rfl]
    rw [eo10] at s10 w10
    have e0 := EV.nil (c := cn 5) (ρ := ρ) (σ := σ) (w := g) (f := n)
    have e1 := e0.push s0 rfl (show fdV (cn 5) ρ 22 (g (n)) = flOf (cn 5) ρ (nI (v % nt)) from congrArg (flOf (cn 5) ρ) w0)
    have e2 := e1.push s1 rfl (show fdV (cn 5) ρ 44 (g (n + 1)) = nI (0) from w1)
    have e3 := e2.bin s2 rfl
    have e4 := e3.push s3 rfl (show fdV (cn 5) ρ 3 (g (n + 1 + 1 + 1)) = ρ 43 (v % nt) from (congrArg (fun z : Int32 => ρ 43 z.toNatClampNeg) w3).trans (congrArg (ρ 43) (nI_cl (by omega))))
    have e5 := e4.push s4 rfl (show fdV (cn 5) ρ 44 (g (n + 1 + 1 + 1 + 1)) = nI (2) from w4)
    have e6 := e5.bin s5 rfl
    have e7 := e6.push s6 rfl (show fdV (cn 5) ρ 44 (g (n + 1 + 1 + 1 + 1 + 1 + 1)) = nI (2) from w6)
    have e8 := e7.bin s7 rfl
    have e9 := e8.push s8 rfl (show fdV (cn 5) ρ 3 (g (n + 1 + 1 + 1 + 1 + 1 + 1 + 1 + 1)) = ρ 43 (v % nt) from (congrArg (fun z : Int32 => ρ 43 z.toNatClampNeg) w8).trans (congrArg (ρ 43) (nI_cl (by omega))))
    have e10 := e9.bin s9 rfl
    have e11 := e10.bin s10 rfl
    have ef := EV.fin e11
    subst hc3 hc4
    show vlF (cn 5) ρ σ g n (n + 11) = 0 ↔ _
    rw [ef]
    exact ts3_v ρ nn v hn
theorem ts_4 {K : Nat → Nat} {V : Nat → Int64} {S : Nat → Int32} {vv : Nat → Int32} (hvv : ∀ t, vv t = (V t).toInt32) {t n : Nat} (htn : t < 1000 ∧ n < 1000) {o : Nat → Nat} {x r : Nat → Int32} {nh nt c h w : Nat} {D : RH} (hz : ∀ i, t ≤ i → r i = 0) (hT : TI V S r t nt nh c h w D) {nn v : Nat} (hn : nn < 99) (hv : v < 10) (hh0 : 1 ≤ nh ∧ nh ≤ 5) (ht0 : 1 ≤ nt ∧ nt ≤ 6) {w9 : List Nat} (hA : AtL K V t (tsP 4 nn v nt nh w9)) (hnx : K (t + (tsP 4 nn v nt nh w9).length) = 32 ∨ K (t + (tsP 4 nn v nt nh w9).length) = 13) {cn : Nat → Nat} (hc3 : cn 3 = nt) (hc4 : cn 4 = nh) : ∃ m o' x' r', PR K vv 8 0 (true, (t, n, o, x, r)) (true, (t + (tsP 4 nn v nt nh w9).length, n + m, o', x', r')) ∧ XR V S t (tsP 4 nn v nt nh w9).length n m o o' x x' r r' nt nh c h w D (fun σ g => ∀ ρ, (vlF (cn 5) ρ σ g n (n + m) = 0 ↔ hlF cn ρ 4 nn v = 0)) := by
  have m4 : v % nh < nh := Nat.mod_lt _ (by omega)
  have m3 : v % nt < nt := Nat.mod_lt _ (by omega)
  have m5 : nn % nh < nh := Nat.mod_lt _ (by omega)
  have m6 : nn % 20 < 20 := Nat.mod_lt _ (by decide)
  have m7 : nn % 9 < 9 := Nat.mod_lt _ (by decide)
  have m8 : nn % 3 < 3 := Nat.mod_lt _ (by decide)
  change K (t + 4) = 32 ∨ K (t + 4) = 13 at hnx
  obtain ⟨⟨k0, v0⟩, ⟨k1, v1⟩, ⟨k2, v2⟩, ⟨k3, v3⟩, -⟩ := hA
  replace k0 : K (t) = 21 := k0
  replace k1 : K (t + 1) = 43 := k1
  replace v1 : V (t + 1) = nmV 104 (v % nh) := v1 (wn_a _ _ _ rfl)
  replace k2 : K (t + 1 + 1) = 39 := k2
  replace k3 : K (t + 1 + 1 + 1) = 44 := k3
  replace v3 : V (t + 1 + 1 + 1) = Int64.ofNat (nn) := v3 (wn_n _ _ (by omega))
  refine ⟨3, u1 (u1 (u1 (o) (n) (K (t))) (n + 1) 44) (n + 1 + 1) (K (t + 1 + 1)), uI (uI (uI (x) (n) (nI (t + 1))) (n + 1) (vv (t + 1 + 1 + 1))) (n + 1 + 1) 0, uI (r) (t + 1) 17, (PR.tst (PR.bth (PR.cmp' (kE (P := fun z => ¬ z = 23) k0 (by decide)) (kE (P := fun z => ¬ z = 30) k0 (by decide)) (PR.sum (PR.prd (PR.hrs (kE (P := fun z => z = 20 ∨ z = 21 ∨ z = 6) k0 (by decide)) k1) (PR.pre (kE (P := fun z => ¬ (z = 36 ∨ z = 37)) k2 (by decide)))) (PR.sue (kE (P := fun z => ¬ (z = 34 ∨ z = 35)) k2 (by decide)))) (kE (P := fun z => 38 ≤ z ∧ z ≤ 42) k2 (by decide)) (PR.sum (PR.prd (PR.num k3) (PR.pre (kNx (P := fun z => ¬ (z = 36 ∨ z = 37)) (by decide) (by decide) hnx))) (PR.sue (kNx (P := fun z => ¬ (z = 34 ∨ z = 35)) (by decide) (by decide) hnx)))) (PR.bte (kNx (P := fun z => ¬ z = 24) (by decide) (by decide) hnx))) (PR.tse (kNx (P := fun z => ¬ z = 25) (by decide) (by decide) hnx))), ⟨by decide, by decide⟩, fun i hi => ⟨?_, ?_⟩, fun i hi => ?_, fun i hi => ?_, ?_, fun rF σ g hrF hst ρ => ?_⟩
  · unfold u1; rw [if_neg (by omega), if_neg (by omega), if_neg (by omega)]
  · unfold uI; rw [if_neg (by omega), if_neg (by omega), if_neg (by omega)]
  · change t + 4 ≤ i at hi
    unfold uI; rw [if_neg (by omega)]; exact hz i (by omega)
  · unfold uI; rw [if_neg (by omega)]
  · show TI V S (uI (r) (t + 1) 17) (t + 4) nt nh c h w D
    generalize hR : uI (r) (t + 1) 17 = R
    have hlo : ∀ j, j < t → R j = r j := fun j hj => by rw [← hR]; unfold uI; rw [if_neg (by omega)]
    have r0 : R (t) = 0 := by rw [← hR]; unfold uI; rw [if_neg (by omega)]; exact hz _ (by omega)
    have r1 : R (t + 1) = 17 := by rw [← hR]; unfold uI; rw [if_pos rfl]
    have r2 : R (t + 1 + 1) = 0 := by rw [← hR]; unfold uI; rw [if_neg (by omega)]; exact hz _ (by omega)
    have r3 : R (t + 1 + 1 + 1) = 0 := by rw [← hR]; unfold uI; rw [if_neg (by omega)]; exact hz _ (by omega)
    have h0 := hT.cc hlo
    have h1 := h0.t0 r0
    have h2 := h1.t17 r1 v1 (by omega) (by omega)
    have h3 := h2.t0 r2
    have h4 := h3.t0 r3
    exact h4
  · change ∀ i, i < t + 4 → rF i = (uI (r) (t + 1) 17) i at hrF
    generalize hR : uI (r) (t + 1) 17 = R at hrF
    have hlo : ∀ j, j < t → R j = r j := fun j hj => by rw [← hR]; unfold uI; rw [if_neg (by omega)]
    have r0 : R (t) = 0 := by rw [← hR]; unfold uI; rw [if_neg (by omega)]; exact hz _ (by omega)
    have r1 : R (t + 1) = 17 := by rw [← hR]; unfold uI; rw [if_pos rfl]
    have r2 : R (t + 1 + 1) = 0 := by rw [← hR]; unfold uI; rw [if_neg (by omega)]; exact hz _ (by omega)
    have r3 : R (t + 1 + 1 + 1) = 0 := by rw [← hR]; unfold uI; rw [if_neg (by omega)]; exact hz _ (by omega)
    have h0 := hT.cc hlo
    have h1 := h0.t0 r0
    have h2 := h1.t17 r1 v1 (by omega) (by omega)
    have h3 := h2.t0 r2
    have h4 := h3.t0 r3
    have s0 := (hst (n) (by omega) (by omega)).1
    have w0 := (hst (n) (by omega) (by omega)).2
    have eo0 : (u1 (u1 (u1 (o) (n) (K (t))) (n + 1) 44) (n + 1 + 1) (K (t + 1 + 1))) (n) = 21 := by unfold u1; rw [if_neg (by omega), if_neg (by omega), if_pos rfl]; exact k0
    rw [eo0] at s0 w0
    have ex0 : (uI (uI (uI (x) (n) (nI (t + 1))) (n + 1) (vv (t + 1 + 1 + 1))) (n + 1 + 1) 0) (n) = (nI (t + 1)) := by unfold uI; rw [if_neg (by omega), if_neg (by omega), if_pos rfl]
    rw [ex0] at w0
    replace w0 : g (n) = nI (v % nh) := w0.trans (rs_h (by decide) (by omega) (by rw [v1, tdR_c (fun i hi => hrF i (by omega))]; exact h1.2.1.2.1.fd (by omega) (by omega)))
    have s1 := (hst (n + 1) (by omega) (by omega)).1
    have w1 := (hst (n + 1) (by omega) (by omega)).2
    have eo1 : (u1 (u1 (u1 (o) (n) (K (t))) (n + 1) 44) (n + 1 + 1) (K (t + 1 + 1))) (n + 1) = 44 := by unfold u1; rw [if_neg (by omega), if_pos rfl]
    rw [eo1] at s1 w1
    have ex1 : (uI (uI (uI (x) (n) (nI (t + 1))) (n + 1) (vv (t + 1 + 1 + 1))) (n + 1 + 1) 0) (n + 1) = (vv (t + 1 + 1 + 1)) := by unfold uI; rw [if_neg (by omega), if_pos rfl]
    rw [ex1] at w1
    replace w1 : g (n + 1) = nI (nn) := w1.trans (rs_44.trans ((hvv _).trans (by rw [v3]; exact tN (by omega))))
    have s2 := (hst (n + 1 + 1) (by omega) (by omega)).1
    have w2 := (hst (n + 1 + 1) (by omega) (by omega)).2
    have eo2 : (u1 (u1 (u1 (o) (n) (K (t))) (n + 1) 44) (n + 1 + 1) (K (t + 1 + 1))) (n + 1 + 1) = 39 := by unfold u1; rw [if_pos rfl]; exact k2
    rw [eo2] at s2 w2
    have e0 := EV.nil (c := cn 5) (ρ := ρ) (σ := σ) (w := g) (f := n)
    have e1 := e0.push s0 rfl (show fdV (cn 5) ρ 21 (g (n)) = ldOf (cn 5) ρ (nI (v % nh)) from congrArg (ldOf (cn 5) ρ) w0)
    have e2 := e1.push s1 rfl (show fdV (cn 5) ρ 44 (g (n + 1)) = nI (nn) from w1)
    have e3 := e2.bin s2 rfl
    have ef := EV.fin e3
    subst hc3 hc4
    show vlF (cn 5) ρ σ g n (n + 3) = 0 ↔ _
    rw [ef]
    exact ts4_v ρ nn v hn
theorem ts_5 {K : Nat → Nat} {V : Nat → Int64} {S : Nat → Int32} {vv : Nat → Int32} (hvv : ∀ t, vv t = (V t).toInt32) {t n : Nat} (htn : t < 1000 ∧ n < 1000) {o : Nat → Nat} {x r : Nat → Int32} {nh nt c h w : Nat} {D : RH} (hz : ∀ i, t ≤ i → r i = 0) (hT : TI V S r t nt nh c h w D) {nn v : Nat} (hn : nn < 99) (hv : v < 10) (hh0 : 1 ≤ nh ∧ nh ≤ 5) (ht0 : 1 ≤ nt ∧ nt ≤ 6) {w9 : List Nat} (hA : AtL K V t (tsP 5 nn v nt nh w9)) (hnx : K (t + (tsP 5 nn v nt nh w9).length) = 32 ∨ K (t + (tsP 5 nn v nt nh w9).length) = 13) {cn : Nat → Nat} (hc3 : cn 3 = nt) (hc4 : cn 4 = nh) : ∃ m o' x' r', PR K vv 8 0 (true, (t, n, o, x, r)) (true, (t + (tsP 5 nn v nt nh w9).length, n + m, o', x', r')) ∧ XR V S t (tsP 5 nn v nt nh w9).length n m o o' x x' r r' nt nh c h w D (fun σ g => ∀ ρ, (vlF (cn 5) ρ σ g n (n + m) = 0 ↔ hlF cn ρ 5 nn v = 0)) := by
  have m4 : v % nh < nh := Nat.mod_lt _ (by omega)
  have m3 : v % nt < nt := Nat.mod_lt _ (by omega)
  have m5 : nn % nh < nh := Nat.mod_lt _ (by omega)
  have m6 : nn % 20 < 20 := Nat.mod_lt _ (by decide)
  have m7 : nn % 9 < 9 := Nat.mod_lt _ (by decide)
  have m8 : nn % 3 < 3 := Nat.mod_lt _ (by decide)
  change K (t + 11) = 32 ∨ K (t + 11) = 13 at hnx
  obtain ⟨⟨k0, v0⟩, ⟨k1, v1⟩, ⟨k2, v2⟩, ⟨k3, v3⟩, ⟨k4, v4⟩, ⟨k5, v5⟩, ⟨k6, v6⟩, ⟨k7, v7⟩, ⟨k8, v8⟩, ⟨k9, v9⟩, ⟨k10, v10⟩, -⟩ := hA
  replace k0 : K (t) = 23 := k0
  replace k1 : K (t + 1) = 30 := k1
  replace k2 : K (t + 1 + 1) = 6 := k2
  replace k3 : K (t + 1 + 1 + 1) = 43 := k3
  replace v3 : V (t + 1 + 1 + 1) = nmV 104 (v % nh) := v3 (wn_a _ _ _ rfl)
  replace k4 : K (t + 1 + 1 + 1 + 1) = 38 := k4
  replace k5 : K (t + 1 + 1 + 1 + 1 + 1) = 44 := k5
  replace v5 : V (t + 1 + 1 + 1 + 1 + 1) = Int64.ofNat (nn % 9) := v5 (wn_n _ _ (by omega))
  replace k6 : K (t + 1 + 1 + 1 + 1 + 1 + 1) = 25 := k6
  replace k7 : K (t + 1 + 1 + 1 + 1 + 1 + 1 + 1) = 17 := k7
  replace k8 : K (t + 1 + 1 + 1 + 1 + 1 + 1 + 1 + 1) = 39 := k8
  replace k9 : K (t + 1 + 1 + 1 + 1 + 1 + 1 + 1 + 1 + 1) = 44 := k9
  replace v9 : V (t + 1 + 1 + 1 + 1 + 1 + 1 + 1 + 1 + 1) = Int64.ofNat (nn % 3) := v9 (wn_n _ _ (by omega))
  replace k10 : K (t + 1 + 1 + 1 + 1 + 1 + 1 + 1 + 1 + 1 + 1) = 31 := k10
  refine ⟨8, u1 (u1 (u1 (u1 (u1 (u1 (u1 (u1 (o) (n) (K (t + 1 + 1))) (n + 1) 44) (n + 1 + 1) (K (t + 1 + 1 + 1 + 1))) (n + 1 + 1 + 1) (K (t + 1 + 1 + 1 + 1 + 1 + 1 + 1))) (n + 1 + 1 + 1 + 1) 44) (n + 1 + 1 + 1 + 1 + 1) (K (t + 1 + 1 + 1 + 1 + 1 + 1 + 1 + 1))) (n + 1 + 1 + 1 + 1 + 1 + 1) 25) (n + 1 + 1 + 1 + 1 + 1 + 1 + 1) 23, uI (uI (uI (uI (uI (uI (uI (uI (x) (n) (nI (t + 1 + 1 + 1))) (n + 1) (vv (t + 1 + 1 + 1 + 1 + 1))) (n + 1 + 1) 0) (n + 1 + 1 + 1) 0) (n + 1 + 1 + 1 + 1) (vv (t + 1 + 1 + 1 + 1 + 1 + 1 + 1 + 1 + 1))) (n + 1 + 1 + 1 + 1 + 1) 0) (n + 1 + 1 + 1 + 1 + 1 + 1) 0) (n + 1 + 1 + 1 + 1 + 1 + 1 + 1) 0, uI (r) (t + 1 + 1 + 1) 17, (PR.tst (PR.bth (PR.nt' k0 (by decide) (PR.brk' k1 (by decide) (PR.tst (PR.bth (PR.cmp' (kE (P := fun z => ¬ z = 23) k2 (by decide)) (kE (P := fun z => ¬ z = 30) k2 (by decide)) (PR.sum (PR.prd (PR.hrs (kE (P := fun z => z = 20 ∨ z = 21 ∨ z = 6) k2 (by decide)) k3) (PR.pre (kE (P := fun z => ¬ (z = 36 ∨ z = 37)) k4 (by decide)))) (PR.sue (kE (P := fun z => ¬ (z = 34 ∨ z = 35)) k4 (by decide)))) (kE (P := fun z => 38 ≤ z ∧ z ≤ 42) k4 (by decide)) (PR.sum (PR.prd (PR.num k5) (PR.pre (kE (P := fun z => ¬ (z = 36 ∨ z = 37)) k6 (by decide)))) (PR.sue (kE (P := fun z => ¬ (z = 34 ∨ z = 35)) k6 (by decide))))) (PR.bte (kE (P := fun z => ¬ z = 24) k6 (by decide)))) (PR.tsl' k6 (PR.bth (PR.cmp' (kE (P := fun z => ¬ z = 23) k7 (by decide)) (kE (P := fun z => ¬ z = 30) k7 (by decide)) (PR.sum (PR.prd (PR.wrd (kE (P := fun z => 16 ≤ z ∧ z ≤ 19) k7 (by decide))) (PR.pre (kE (P := fun z => ¬ (z = 36 ∨ z = 37)) k8 (by decide)))) (PR.sue (kE (P := fun z => ¬ (z = 34 ∨ z = 35)) k8 (by decide)))) (kE (P := fun z => 38 ≤ z ∧ z ≤ 42) k8 (by decide)) (PR.sum (PR.prd (PR.num k9) (PR.pre (kE (P := fun z => ¬ (z = 36 ∨ z = 37)) k10 (by decide)))) (PR.sue (kE (P := fun z => ¬ (z = 34 ∨ z = 35)) k10 (by decide))))) (PR.bte (kE (P := fun z => ¬ z = 24) k10 (by decide)))) (PR.tse (kE (P := fun z => ¬ z = 25) k10 (by decide))))) k10)) (PR.bte (kNx (P := fun z => ¬ z = 24) (by decide) (by decide) hnx))) (PR.tse (kNx (P := fun z => ¬ z = 25) (by decide) (by decide) hnx))), ⟨by decide, by decide⟩, fun i hi => ⟨?_, ?_⟩, fun i hi => ?_, fun i hi => ?_, ?_, fun rF σ g hrF hst ρ => ?_⟩
  · unfold u1; rw [if_neg (by omega), if_neg (by omega), if_neg (by omega), if_neg (by omega), if_neg (by omega), if_neg (by omega), if_neg (by omega), if_neg (by omega)]
  · unfold uI; rw [if_neg (by omega), if_neg (by omega), if_neg (by omega), if_neg (by omega), if_neg (by omega), if_neg (by omega), if_neg (by omega), if_neg (by omega)]
  · change t + 11 ≤ i at hi
    unfold uI; rw [if_neg (by omega)]; exact hz i (by omega)
  · unfold uI; rw [if_neg (by omega)]
  · show TI V S (uI (r) (t + 1 + 1 + 1) 17) (t + 11) nt nh c h w D
    generalize hR : uI (r) (t + 1 + 1 + 1) 17 = R
    have hlo : ∀ j, j < t → R j = r j := fun j hj => by rw [← hR]; unfold uI; rw [if_neg (by omega)]
    have r0 : R (t) = 0 := by rw [← hR]; unfold uI; rw [if_neg (by omega)]; exact hz _ (by omega)
    have r1 : R (t + 1) = 0 := by rw [← hR]; unfold uI; rw [if_neg (by omega)]; exact hz _ (by omega)
    have r2 : R (t + 1 + 1) = 0 := by rw [← hR]; unfold uI; rw [if_neg (by omega)]; exact hz _ (by omega)
    have r3 : R (t + 1 + 1 + 1) = 17 := by rw [← hR]; unfold uI; rw [if_pos rfl]
    have r4 : R (t + 1 + 1 + 1 + 1) = 0 := by rw [← hR]; unfold uI; rw [if_neg (by omega)]; exact hz _ (by omega)
    have r5 : R (t + 1 + 1 + 1 + 1 + 1) = 0 := by rw [← hR]; unfold uI; rw [if_neg (by omega)]; exact hz _ (by omega)
    have r6 : R (t + 1 + 1 + 1 + 1 + 1 + 1) = 0 := by rw [← hR]; unfold uI; rw [if_neg (by omega)]; exact hz _ (by omega)
    have r7 : R (t + 1 + 1 + 1 + 1 + 1 + 1 + 1) = 0 := by rw [← hR]; unfold uI; rw [if_neg (by omega)]; exact hz _ (by omega)
    have r8 : R (t + 1 + 1 + 1 + 1 + 1 + 1 + 1 + 1) = 0 := by rw [← hR]; unfold uI; rw [if_neg (by omega)]; exact hz _ (by omega)
    have r9 : R (t + 1 + 1 + 1 + 1 + 1 + 1 + 1 + 1 + 1) = 0 := by rw [← hR]; unfold uI; rw [if_neg (by omega)]; exact hz _ (by omega)
    have r10 : R (t + 1 + 1 + 1 + 1 + 1 + 1 + 1 + 1 + 1 + 1) = 0 := by rw [← hR]; unfold uI; rw [if_neg (by omega)]; exact hz _ (by omega)
    have h0 := hT.cc hlo
    have h1 := h0.t0 r0
    have h2 := h1.t0 r1
    have h3 := h2.t0 r2
    have h4 := h3.t17 r3 v3 (by omega) (by omega)
    have h5 := h4.t0 r4
    have h6 := h5.t0 r5
    have h7 := h6.t0 r6
    have h8 := h7.t0 r7
    have h9 := h8.t0 r8
    have h10 := h9.t0 r9
    have h11 := h10.t0 r10
    exact h11
  · change ∀ i, i < t + 11 → rF i = (uI (r) (t + 1 + 1 + 1) 17) i at hrF
    generalize hR : uI (r) (t + 1 + 1 + 1) 17 = R at hrF
    have hlo : ∀ j, j < t → R j = r j := fun j hj => by rw [← hR]; unfold uI; rw [if_neg (by omega)]
    have r0 : R (t) = 0 := by rw [← hR]; unfold uI; rw [if_neg (by omega)]; exact hz _ (by omega)
    have r1 : R (t + 1) = 0 := by rw [← hR]; unfold uI; rw [if_neg (by omega)]; exact hz _ (by omega)
    have r2 : R (t + 1 + 1) = 0 := by rw [← hR]; unfold uI; rw [if_neg (by omega)]; exact hz _ (by omega)
    have r3 : R (t + 1 + 1 + 1) = 17 := by rw [← hR]; unfold uI; rw [if_pos rfl]
    have r4 : R (t + 1 + 1 + 1 + 1) = 0 := by rw [← hR]; unfold uI; rw [if_neg (by omega)]; exact hz _ (by omega)
    have r5 : R (t + 1 + 1 + 1 + 1 + 1) = 0 := by rw [← hR]; unfold uI; rw [if_neg (by omega)]; exact hz _ (by omega)
    have r6 : R (t + 1 + 1 + 1 + 1 + 1 + 1) = 0 := by rw [← hR]; unfold uI; rw [if_neg (by omega)]; exact hz _ (by omega)
    have r7 : R (t + 1 + 1 + 1 + 1 + 1 + 1 + 1) = 0 := by rw [← hR]; unfold uI; rw [if_neg (by omega)]; exact hz _ (by omega)
    have r8 : R (t + 1 + 1 + 1 + 1 + 1 + 1 + 1 + 1) = 0 := by rw [← hR]; unfold uI; rw [if_neg (by omega)]; exact hz _ (by omega)
    have r9 : R (t + 1 + 1 + 1 + 1 + 1 + 1 + 1 + 1 + 1) = 0 := by rw [← hR]; unfold uI; rw [if_neg (by omega)]; exact hz _ (by omega)
    have r10 : R (t + 1 + 1 + 1 + 1 + 1 + 1 + 1 + 1 + 1 + 1) = 0 := by rw [← hR]; unfold uI; rw [if_neg (by omega)]; exact hz _ (by omega)
    have h0 := hT.cc hlo
    have h1 := h0.t0 r0
    have h2 := h1.t0 r1
    have h3 := h2.t0 r2
    have h4 := h3.t17 r3 v3 (by omega) (by omega)
    have h5 := h4.t0 r4
    have h6 := h5.t0 r5
    have h7 := h6.t0 r6
    have h8 := h7.t0 r7
    have h9 := h8.t0 r8
    have h10 := h9.t0 r9
    have h11 := h10.t0 r10
    have s0 := (hst (n) (by omega) (by omega)).1
    have w0 := (hst (n) (by omega) (by omega)).2
    have eo0 : (u1 (u1 (u1 (u1 (u1 (u1 (u1 (u1 (o) (n) (K (t + 1 + 1))) (n + 1) 44) (n + 1 + 1) (K (t + 1 + 1 + 1 + 1))) (n + 1 + 1 + 1) (K (t + 1 + 1 + 1 + 1 + 1 + 1 + 1))) (n + 1 + 1 + 1 + 1) 44) (n + 1 + 1 + 1 + 1 + 1) (K (t + 1 + 1 + 1 + 1 + 1 + 1 + 1 + 1))) (n + 1 + 1 + 1 + 1 + 1 + 1) 25) (n + 1 + 1 + 1 + 1 + 1 + 1 + 1) 23) (n) = 6 := by unfold u1; rw [if_neg (by omega), if_neg (by omega), if_neg (by omega), if_neg (by omega), if_neg (by omega), if_neg (by omega), if_neg (by omega), if_pos rfl]; exact k2
    rw [eo0] at s0 w0
    have ex0 : (uI (uI (uI (uI (uI (uI (uI (uI (x) (n) (nI (t + 1 + 1 + 1))) (n + 1) (vv (t + 1 + 1 + 1 + 1 + 1))) (n + 1 + 1) 0) (n + 1 + 1 + 1) 0) (n + 1 + 1 + 1 + 1) (vv (t + 1 + 1 + 1 + 1 + 1 + 1 + 1 + 1 + 1))) (n + 1 + 1 + 1 + 1 + 1) 0) (n + 1 + 1 + 1 + 1 + 1 + 1) 0) (n + 1 + 1 + 1 + 1 + 1 + 1 + 1) 0) (n) = (nI (t + 1 + 1 + 1)) := by unfold uI; rw [if_neg (by omega), if_neg (by omega), if_neg (by omega), if_neg (by omega), if_neg (by omega), if_neg (by omega), if_neg (by omega), if_pos rfl]
    rw [ex0] at w0
    replace w0 : g (n) = nI (v % nh) := w0.trans (rs_h (by decide) (by omega) (by rw [v3, tdR_c (fun i hi => hrF i (by omega))]; exact h3.2.1.2.1.fd (by omega) (by omega)))
    have s1 := (hst (n + 1) (by omega) (by omega)).1
    have w1 := (hst (n + 1) (by omega) (by omega)).2
    have eo1 : (u1 (u1 (u1 (u1 (u1 (u1 (u1 (u1 (o) (n) (K (t + 1 + 1))) (n + 1) 44) (n + 1 + 1) (K (t + 1 + 1 + 1 + 1))) (n + 1 + 1 + 1) (K (t + 1 + 1 + 1 + 1 + 1 + 1 + 1))) (n + 1 + 1 + 1 + 1) 44) (n + 1 + 1 + 1 + 1 + 1) (K (t + 1 + 1 + 1 + 1 + 1 + 1 + 1 + 1))) (n + 1 + 1 + 1 + 1 + 1 + 1) 25) (n + 1 + 1 + 1 + 1 + 1 + 1 + 1) 23) (n + 1) = 44 := by unfold u1; rw [if_neg (by omega), if_neg (by omega), if_neg (by omega), if_neg (by omega), if_neg (by omega), if_neg (by omega), if_pos rfl]
    rw [eo1] at s1 w1
    have ex1 : (uI (uI (uI (uI (uI (uI (uI (uI (x) (n) (nI (t + 1 + 1 + 1))) (n + 1) (vv (t + 1 + 1 + 1 + 1 + 1))) (n + 1 + 1) 0) (n + 1 + 1 + 1) 0) (n + 1 + 1 + 1 + 1) (vv (t + 1 + 1 + 1 + 1 + 1 + 1 + 1 + 1 + 1))) (n + 1 + 1 + 1 + 1 + 1) 0) (n + 1 + 1 + 1 + 1 + 1 + 1) 0) (n + 1 + 1 + 1 + 1 + 1 + 1 + 1) 0) (n + 1) = (vv (t + 1 + 1 + 1 + 1 + 1)) := by unfold uI; rw [if_neg (by omega), if_neg (by omega), if_neg (by omega), if_neg (by omega), if_neg (by omega), if_neg (by omega), if_pos rfl]
    rw [ex1] at w1
    replace w1 : g (n + 1) = nI (nn % 9) := w1.trans (rs_44.trans ((hvv _).trans (by rw [v5]; exact tN (by omega))))
    have s2 := (hst (n + 1 + 1) (by omega) (by omega)).1
    have w2 := (hst (n + 1 + 1) (by omega) (by omega)).2
    have eo2 : (u1 (u1 (u1 (u1 (u1 (u1 (u1 (u1 (o) (n) (K (t + 1 + 1))) (n + 1) 44) (n + 1 + 1) (K (t + 1 + 1 + 1 + 1))) (n + 1 + 1 + 1) (K (t + 1 + 1 + 1 + 1 + 1 + 1 + 1))) (n + 1 + 1 + 1 + 1) 44) (n + 1 + 1 + 1 + 1 + 1) (K (t + 1 + 1 + 1 + 1 + 1 + 1 + 1 + 1))) (n + 1 + 1 + 1 + 1 + 1 + 1) 25) (n + 1 + 1 + 1 + 1 + 1 + 1 + 1) 23) (n + 1 + 1) = 38 := by unfold u1; rw [if_neg (by omega), if_neg (by omega), if_neg (by omega), if_neg (by omega), if_neg (by omega), if_pos rfl]; exact k4
    rw [eo2] at s2 w2
    have s3 := (hst (n + 1 + 1 + 1) (by omega) (by omega)).1
    have w3 := (hst (n + 1 + 1 + 1) (by omega) (by omega)).2
    have eo3 : (u1 (u1 (u1 (u1 (u1 (u1 (u1 (u1 (o) (n) (K (t + 1 + 1))) (n + 1) 44) (n + 1 + 1) (K (t + 1 + 1 + 1 + 1))) (n + 1 + 1 + 1) (K (t + 1 + 1 + 1 + 1 + 1 + 1 + 1))) (n + 1 + 1 + 1 + 1) 44) (n + 1 + 1 + 1 + 1 + 1) (K (t + 1 + 1 + 1 + 1 + 1 + 1 + 1 + 1))) (n + 1 + 1 + 1 + 1 + 1 + 1) 25) (n + 1 + 1 + 1 + 1 + 1 + 1 + 1) 23) (n + 1 + 1 + 1) = 17 := by unfold u1; rw [if_neg (by omega), if_neg (by omega), if_neg (by omega), if_neg (by omega), if_pos rfl]; exact k7
    rw [eo3] at s3 w3
    have s4 := (hst (n + 1 + 1 + 1 + 1) (by omega) (by omega)).1
    have w4 := (hst (n + 1 + 1 + 1 + 1) (by omega) (by omega)).2
    have eo4 : (u1 (u1 (u1 (u1 (u1 (u1 (u1 (u1 (o) (n) (K (t + 1 + 1))) (n + 1) 44) (n + 1 + 1) (K (t + 1 + 1 + 1 + 1))) (n + 1 + 1 + 1) (K (t + 1 + 1 + 1 + 1 + 1 + 1 + 1))) (n + 1 + 1 + 1 + 1) 44) (n + 1 + 1 + 1 + 1 + 1) (K (t + 1 + 1 + 1 + 1 + 1 + 1 + 1 + 1))) (n + 1 + 1 + 1 + 1 + 1 + 1) 25) (n + 1 + 1 + 1 + 1 + 1 + 1 + 1) 23) (n + 1 + 1 + 1 + 1) = 44 := by unfold u1; rw [if_neg (by omega), if_neg (by omega), if_neg (by omega), if_pos rfl]
    rw [eo4] at s4 w4
    have ex4 : (uI (uI (uI (uI (uI (uI (uI (uI (x) (n) (nI (t + 1 + 1 + 1))) (n + 1) (vv (t + 1 + 1 + 1 + 1 + 1))) (n + 1 + 1) 0) (n + 1 + 1 + 1) 0) (n + 1 + 1 + 1 + 1) (vv (t + 1 + 1 + 1 + 1 + 1 + 1 + 1 + 1 + 1))) (n + 1 + 1 + 1 + 1 + 1) 0) (n + 1 + 1 + 1 + 1 + 1 + 1) 0) (n + 1 + 1 + 1 + 1 + 1 + 1 + 1) 0) (n + 1 + 1 + 1 + 1) = (vv (t + 1 + 1 + 1 + 1 + 1 + 1 + 1 + 1 + 1)) := by unfold uI; rw [if_neg (by omega), if_neg (by omega), if_neg (by omega), if_pos rfl]
    rw [ex4] at w4
    replace w4 : g (n + 1 + 1 + 1 + 1) = nI (nn % 3) := w4.trans (rs_44.trans ((hvv _).trans (by rw [v9]; exact tN (by omega))))
    have s5 := (hst (n + 1 + 1 + 1 + 1 + 1) (by omega) (by omega)).1
    have w5 := (hst (n + 1 + 1 + 1 + 1 + 1) (by omega) (by omega)).2
    have eo5 : (u1 (u1 (u1 (u1 (u1 (u1 (u1 (u1 (o) (n) (K (t + 1 + 1))) (n + 1) 44) (n + 1 + 1) (K (t + 1 + 1 + 1 + 1))) (n + 1 + 1 + 1) (K (t + 1 + 1 + 1 + 1 + 1 + 1 + 1))) (n + 1 + 1 + 1 + 1) 44) (n + 1 + 1 + 1 + 1 + 1) (K (t + 1 + 1 + 1 + 1 + 1 + 1 + 1 + 1))) (n + 1 + 1 + 1 + 1 + 1 + 1) 25) (n + 1 + 1 + 1 + 1 + 1 + 1 + 1) 23) (n + 1 + 1 + 1 + 1 + 1) = 39 := by unfold u1; rw [if_neg (by omega), if_neg (by omega), if_pos rfl]; exact k8
    rw [eo5] at s5 w5
    have s6 := (hst (n + 1 + 1 + 1 + 1 + 1 + 1) (by omega) (by omega)).1
    have w6 := (hst (n + 1 + 1 + 1 + 1 + 1 + 1) (by omega) (by omega)).2
    have eo6 : (u1 (u1 (u1 (u1 (u1 (u1 (u1 (u1 (o) (n) (K (t + 1 + 1))) (n + 1) 44) (n + 1 + 1) (K (t + 1 + 1 + 1 + 1))) (n + 1 + 1 + 1) (K (t + 1 + 1 + 1 + 1 + 1 + 1 + 1))) (n + 1 + 1 + 1 + 1) 44) (n + 1 + 1 + 1 + 1 + 1) (K (t + 1 + 1 + 1 + 1 + 1 + 1 + 1 + 1))) (n + 1 + 1 + 1 + 1 + 1 + 1) 25) (n + 1 + 1 + 1 + 1 + 1 + 1 + 1) 23) (n + 1 + 1 + 1 + 1 + 1 + 1) = 25 := by unfold u1; rw [if_neg (by omega), if_pos rfl]
    rw [eo6] at s6 w6
    have s7 := (hst (n + 1 + 1 + 1 + 1 + 1 + 1 + 1) (by omega) (by omega)).1
    have w7 := (hst (n + 1 + 1 + 1 + 1 + 1 + 1 + 1) (by omega) (by omega)).2
    have eo7 : (u1 (u1 (u1 (u1 (u1 (u1 (u1 (u1 (o) (n) (K (t + 1 + 1))) (n + 1) 44) (n + 1 + 1) (K (t + 1 + 1 + 1 + 1))) (n + 1 + 1 + 1) (K (t + 1 + 1 + 1 + 1 + 1 + 1 + 1))) (n + 1 + 1 + 1 + 1) 44) (n + 1 + 1 + 1 + 1 + 1) (K (t + 1 + 1 + 1 + 1 + 1 + 1 + 1 + 1))) (n + 1 + 1 + 1 + 1 + 1 + 1) 25) (n + 1 + 1 + 1 + 1 + 1 + 1 + 1) 23) (n + 1 + 1 + 1 + 1 + 1 + 1 + 1) = 23 := by unfold u1; rw [if_pos rfl]
    rw [eo7] at s7 w7
    have e0 := EV.nil (c := cn 5) (ρ := ρ) (σ := σ) (w := g) (f := n)
    have e1 := e0.push s0 rfl (show fdV (cn 5) ρ 6 (g (n)) = ρ 12 (v % nh) from (congrArg (fun z : Int32 => ρ 12 z.toNatClampNeg) w0).trans (congrArg (ρ 12) (nI_cl (by omega))))
    have e2 := e1.push s1 rfl (show fdV (cn 5) ρ 44 (g (n + 1)) = nI (nn % 9) from w1)
    have e3 := e2.bin s2 rfl
    have e4 := e3.push s3 rfl (show fdV (cn 5) ρ 17 (g (n + 1 + 1 + 1)) = ρ 7 0 from rfl)
    have e5 := e4.push s4 rfl (show fdV (cn 5) ρ 44 (g (n + 1 + 1 + 1 + 1)) = nI (nn % 3) from w4)
    have e6 := e5.bin s5 rfl
    have e7 := e6.bin s6 rfl
    have e8 := e7.not s7
    have ef := EV.fin e8
    subst hc3 hc4
    show vlF (cn 5) ρ σ g n (n + 8) = 0 ↔ _
    rw [ef]
    exact ts5_v ρ nn v hn
theorem ts_6 {K : Nat → Nat} {V : Nat → Int64} {S : Nat → Int32} {vv : Nat → Int32} (hvv : ∀ t, vv t = (V t).toInt32) {t n : Nat} (htn : t < 1000 ∧ n < 1000) {o : Nat → Nat} {x r : Nat → Int32} {nh nt c h w : Nat} {D : RH} (hz : ∀ i, t ≤ i → r i = 0) (hT : TI V S r t nt nh c h w D) {nn v : Nat} (hn : nn < 99) (hv : v < 10) (hh0 : 1 ≤ nh ∧ nh ≤ 5) (ht0 : 1 ≤ nt ∧ nt ≤ 6) {w9 : List Nat} (hA : AtL K V t (tsP 6 nn v nt nh w9)) (hnx : K (t + (tsP 6 nn v nt nh w9).length) = 32 ∨ K (t + (tsP 6 nn v nt nh w9).length) = 13) {cn : Nat → Nat} (hc3 : cn 3 = nt) (hc4 : cn 4 = nh) : ∃ m o' x' r', PR K vv 8 0 (true, (t, n, o, x, r)) (true, (t + (tsP 6 nn v nt nh w9).length, n + m, o', x', r')) ∧ XR V S t (tsP 6 nn v nt nh w9).length n m o o' x x' r r' nt nh c h w D (fun σ g => ∀ ρ, (vlF (cn 5) ρ σ g n (n + m) = 0 ↔ hlF cn ρ 6 nn v = 0)) := by
  have m4 : v % nh < nh := Nat.mod_lt _ (by omega)
  have m3 : v % nt < nt := Nat.mod_lt _ (by omega)
  have m5 : nn % nh < nh := Nat.mod_lt _ (by omega)
  have m6 : nn % 20 < 20 := Nat.mod_lt _ (by decide)
  have m7 : nn % 9 < 9 := Nat.mod_lt _ (by decide)
  have m8 : nn % 3 < 3 := Nat.mod_lt _ (by decide)
  change K (t + 12) = 32 ∨ K (t + 12) = 13 at hnx
  obtain ⟨⟨k0, v0⟩, ⟨k1, v1⟩, ⟨k2, v2⟩, ⟨k3, v3⟩, ⟨k4, v4⟩, ⟨k5, v5⟩, ⟨k6, v6⟩, ⟨k7, v7⟩, ⟨k8, v8⟩, ⟨k9, v9⟩, ⟨k10, v10⟩, ⟨k11, v11⟩, -⟩ := hA
  replace k0 : K (t) = 27 := k0
  replace k1 : K (t + 1) = 28 := k1
  replace k2 : K (t + 1 + 1) = 20 := k2
  replace k3 : K (t + 1 + 1 + 1) = 43 := k3
  replace v3 : V (t + 1 + 1 + 1) = nmV 104 (v % nh) := v3 (wn_a _ _ _ rfl)
  replace k4 : K (t + 1 + 1 + 1 + 1) = 33 := k4
  replace k5 : K (t + 1 + 1 + 1 + 1 + 1) = 21 := k5
  replace k6 : K (t + 1 + 1 + 1 + 1 + 1 + 1) = 43 := k6
  replace v6 : V (t + 1 + 1 + 1 + 1 + 1 + 1) = nmV 104 (nn % nh) := v6 (wn_a _ _ _ rfl)
  replace k7 : K (t + 1 + 1 + 1 + 1 + 1 + 1 + 1) = 29 := k7
  replace k8 : K (t + 1 + 1 + 1 + 1 + 1 + 1 + 1 + 1) = 35 := k8
  replace k9 : K (t + 1 + 1 + 1 + 1 + 1 + 1 + 1 + 1 + 1) = 44 := k9
  replace v9 : V (t + 1 + 1 + 1 + 1 + 1 + 1 + 1 + 1 + 1) = Int64.ofNat (1) := v9 (wn_n _ _ (by omega))
  replace k10 : K (t + 1 + 1 + 1 + 1 + 1 + 1 + 1 + 1 + 1 + 1) = 39 := k10
  replace k11 : K (t + 1 + 1 + 1 + 1 + 1 + 1 + 1 + 1 + 1 + 1 + 1) = 44 := k11
  replace v11 : V (t + 1 + 1 + 1 + 1 + 1 + 1 + 1 + 1 + 1 + 1 + 1) = Int64.ofNat (nn) := v11 (wn_n _ _ (by omega))
  refine ⟨7, u1 (u1 (u1 (u1 (u1 (u1 (u1 (o) (n) (K (t + 1 + 1))) (n + 1) (K (t + 1 + 1 + 1 + 1 + 1))) (n + 1 + 1) (K (t))) (n + 1 + 1 + 1) 44) (n + 1 + 1 + 1 + 1) (K (t + 1 + 1 + 1 + 1 + 1 + 1 + 1 + 1))) (n + 1 + 1 + 1 + 1 + 1) 44) (n + 1 + 1 + 1 + 1 + 1 + 1) (K (t + 1 + 1 + 1 + 1 + 1 + 1 + 1 + 1 + 1 + 1)), uI (uI (uI (uI (uI (uI (uI (x) (n) (nI (t + 1 + 1 + 1))) (n + 1) (nI (t + 1 + 1 + 1 + 1 + 1 + 1))) (n + 1 + 1) 0) (n + 1 + 1 + 1) (vv (t + 1 + 1 + 1 + 1 + 1 + 1 + 1 + 1 + 1))) (n + 1 + 1 + 1 + 1) 0) (n + 1 + 1 + 1 + 1 + 1) (vv (t + 1 + 1 + 1 + 1 + 1 + 1 + 1 + 1 + 1 + 1 + 1))) (n + 1 + 1 + 1 + 1 + 1 + 1) 0, uI (uI (r) (t + 1 + 1 + 1) 17) (t + 1 + 1 + 1 + 1 + 1 + 1) 17, (PR.tst (PR.bth (PR.cmp' (kE (P := fun z => ¬ z = 23) k0 (by decide)) (kE (P := fun z => ¬ z = 30) k0 (by decide)) (PR.sum (PR.prd (PR.two' (kE (P := fun z => z = 26 ∨ z = 27) k0 (by decide)) k1 (by decide) (PR.sum (PR.prd (PR.hrs (kE (P := fun z => z = 20 ∨ z = 21 ∨ z = 6) k2 (by decide)) k3) (PR.pre (kE (P := fun z => ¬ (z = 36 ∨ z = 37)) k4 (by decide)))) (PR.sue (kE (P := fun z => ¬ (z = 34 ∨ z = 35)) k4 (by decide)))) k4 (PR.sum (PR.prd (PR.hrs (kE (P := fun z => z = 20 ∨ z = 21 ∨ z = 6) k5 (by decide)) k6) (PR.pre (kE (P := fun z => ¬ (z = 36 ∨ z = 37)) k7 (by decide)))) (PR.sue (kE (P := fun z => ¬ (z = 34 ∨ z = 35)) k7 (by decide)))) k7) (PR.pre (kE (P := fun z => ¬ (z = 36 ∨ z = 37)) k8 (by decide)))) (PR.sul' (kE (P := fun z => z = 34 ∨ z = 35) k8 (by decide)) (PR.prd (PR.num k9) (PR.pre (kE (P := fun z => ¬ (z = 36 ∨ z = 37)) k10 (by decide)))) (PR.sue (kE (P := fun z => ¬ (z = 34 ∨ z = 35)) k10 (by decide))))) (kE (P := fun z => 38 ≤ z ∧ z ≤ 42) k10 (by decide)) (PR.sum (PR.prd (PR.num k11) (PR.pre (kNx (P := fun z => ¬ (z = 36 ∨ z = 37)) (by decide) (by decide) hnx))) (PR.sue (kNx (P := fun z => ¬ (z = 34 ∨ z = 35)) (by decide) (by decide) hnx)))) (PR.bte (kNx (P := fun z => ¬ z = 24) (by decide) (by decide) hnx))) (PR.tse (kNx (P := fun z => ¬ z = 25) (by decide) (by decide) hnx))), ⟨by decide, by decide⟩, fun i hi => ⟨?_, ?_⟩, fun i hi => ?_, fun i hi => ?_, ?_, fun rF σ g hrF hst ρ => ?_⟩
  · unfold u1; rw [if_neg (by omega), if_neg (by omega), if_neg (by omega), if_neg (by omega), if_neg (by omega), if_neg (by omega), if_neg (by omega)]
  · unfold uI; rw [if_neg (by omega), if_neg (by omega), if_neg (by omega), if_neg (by omega), if_neg (by omega), if_neg (by omega), if_neg (by omega)]
  · change t + 12 ≤ i at hi
    unfold uI; rw [if_neg (by omega), if_neg (by omega)]; exact hz i (by omega)
  · unfold uI; rw [if_neg (by omega), if_neg (by omega)]
  · show TI V S (uI (uI (r) (t + 1 + 1 + 1) 17) (t + 1 + 1 + 1 + 1 + 1 + 1) 17) (t + 12) nt nh c h w D
    generalize hR : uI (uI (r) (t + 1 + 1 + 1) 17) (t + 1 + 1 + 1 + 1 + 1 + 1) 17 = R
    have hlo : ∀ j, j < t → R j = r j := fun j hj => by rw [← hR]; unfold uI; rw [if_neg (by omega), if_neg (by omega)]
    have r0 : R (t) = 0 := by rw [← hR]; unfold uI; rw [if_neg (by omega), if_neg (by omega)]; exact hz _ (by omega)
    have r1 : R (t + 1) = 0 := by rw [← hR]; unfold uI; rw [if_neg (by omega), if_neg (by omega)]; exact hz _ (by omega)
    have r2 : R (t + 1 + 1) = 0 := by rw [← hR]; unfold uI; rw [if_neg (by omega), if_neg (by omega)]; exact hz _ (by omega)
    have r3 : R (t + 1 + 1 + 1) = 17 := by rw [← hR]; unfold uI; rw [if_neg (by omega), if_pos rfl]
    have r4 : R (t + 1 + 1 + 1 + 1) = 0 := by rw [← hR]; unfold uI; rw [if_neg (by omega), if_neg (by omega)]; exact hz _ (by omega)
    have r5 : R (t + 1 + 1 + 1 + 1 + 1) = 0 := by rw [← hR]; unfold uI; rw [if_neg (by omega), if_neg (by omega)]; exact hz _ (by omega)
    have r6 : R (t + 1 + 1 + 1 + 1 + 1 + 1) = 17 := by rw [← hR]; unfold uI; rw [if_pos rfl]
    have r7 : R (t + 1 + 1 + 1 + 1 + 1 + 1 + 1) = 0 := by rw [← hR]; unfold uI; rw [if_neg (by omega), if_neg (by omega)]; exact hz _ (by omega)
    have r8 : R (t + 1 + 1 + 1 + 1 + 1 + 1 + 1 + 1) = 0 := by rw [← hR]; unfold uI; rw [if_neg (by omega), if_neg (by omega)]; exact hz _ (by omega)
    have r9 : R (t + 1 + 1 + 1 + 1 + 1 + 1 + 1 + 1 + 1) = 0 := by rw [← hR]; unfold uI; rw [if_neg (by omega), if_neg (by omega)]; exact hz _ (by omega)
    have r10 : R (t + 1 + 1 + 1 + 1 + 1 + 1 + 1 + 1 + 1 + 1) = 0 := by rw [← hR]; unfold uI; rw [if_neg (by omega), if_neg (by omega)]; exact hz _ (by omega)
    have r11 : R (t + 1 + 1 + 1 + 1 + 1 + 1 + 1 + 1 + 1 + 1 + 1) = 0 := by rw [← hR]; unfold uI; rw [if_neg (by omega), if_neg (by omega)]; exact hz _ (by omega)
    have h0 := hT.cc hlo
    have h1 := h0.t0 r0
    have h2 := h1.t0 r1
    have h3 := h2.t0 r2
    have h4 := h3.t17 r3 v3 (by omega) (by omega)
    have h5 := h4.t0 r4
    have h6 := h5.t0 r5
    have h7 := h6.t17 r6 v6 (by omega) (by omega)
    have h8 := h7.t0 r7
    have h9 := h8.t0 r8
    have h10 := h9.t0 r9
    have h11 := h10.t0 r10
    have h12 := h11.t0 r11
    exact h12
  · change ∀ i, i < t + 12 → rF i = (uI (uI (r) (t + 1 + 1 + 1) 17) (t + 1 + 1 + 1 + 1 + 1 + 1) 17) i at hrF
    generalize hR : uI (uI (r) (t + 1 + 1 + 1) 17) (t + 1 + 1 + 1 + 1 + 1 + 1) 17 = R at hrF
    have hlo : ∀ j, j < t → R j = r j := fun j hj => by rw [← hR]; unfold uI; rw [if_neg (by omega), if_neg (by omega)]
    have r0 : R (t) = 0 := by rw [← hR]; unfold uI; rw [if_neg (by omega), if_neg (by omega)]; exact hz _ (by omega)
    have r1 : R (t + 1) = 0 := by rw [← hR]; unfold uI; rw [if_neg (by omega), if_neg (by omega)]; exact hz _ (by omega)
    have r2 : R (t + 1 + 1) = 0 := by rw [← hR]; unfold uI; rw [if_neg (by omega), if_neg (by omega)]; exact hz _ (by omega)
    have r3 : R (t + 1 + 1 + 1) = 17 := by rw [← hR]; unfold uI; rw [if_neg (by omega), if_pos rfl]
    have r4 : R (t + 1 + 1 + 1 + 1) = 0 := by rw [← hR]; unfold uI; rw [if_neg (by omega), if_neg (by omega)]; exact hz _ (by omega)
    have r5 : R (t + 1 + 1 + 1 + 1 + 1) = 0 := by rw [← hR]; unfold uI; rw [if_neg (by omega), if_neg (by omega)]; exact hz _ (by omega)
    have r6 : R (t + 1 + 1 + 1 + 1 + 1 + 1) = 17 := by rw [← hR]; unfold uI; rw [if_pos rfl]
    have r7 : R (t + 1 + 1 + 1 + 1 + 1 + 1 + 1) = 0 := by rw [← hR]; unfold uI; rw [if_neg (by omega), if_neg (by omega)]; exact hz _ (by omega)
    have r8 : R (t + 1 + 1 + 1 + 1 + 1 + 1 + 1 + 1) = 0 := by rw [← hR]; unfold uI; rw [if_neg (by omega), if_neg (by omega)]; exact hz _ (by omega)
    have r9 : R (t + 1 + 1 + 1 + 1 + 1 + 1 + 1 + 1 + 1) = 0 := by rw [← hR]; unfold uI; rw [if_neg (by omega), if_neg (by omega)]; exact hz _ (by omega)
    have r10 : R (t + 1 + 1 + 1 + 1 + 1 + 1 + 1 + 1 + 1 + 1) = 0 := by rw [← hR]; unfold uI; rw [if_neg (by omega), if_neg (by omega)]; exact hz _ (by omega)
    have r11 : R (t + 1 + 1 + 1 + 1 + 1 + 1 + 1 + 1 + 1 + 1 + 1) = 0 := by rw [← hR]; unfold uI; rw [if_neg (by omega), if_neg (by omega)]; exact hz _ (by omega)
    have h0 := hT.cc hlo
    have h1 := h0.t0 r0
    have h2 := h1.t0 r1
    have h3 := h2.t0 r2
    have h4 := h3.t17 r3 v3 (by omega) (by omega)
    have h5 := h4.t0 r4
    have h6 := h5.t0 r5
    have h7 := h6.t17 r6 v6 (by omega) (by omega)
    have h8 := h7.t0 r7
    have h9 := h8.t0 r8
    have h10 := h9.t0 r9
    have h11 := h10.t0 r10
    have h12 := h11.t0 r11
    have s0 := (hst (n) (by omega) (by omega)).1
    have w0 := (hst (n) (by omega) (by omega)).2
    have eo0 : (u1 (u1 (u1 (u1 (u1 (u1 (u1 (o) (n) (K (t + 1 + 1))) (n + 1) (K (t + 1 + 1 + 1 + 1 + 1))) (n + 1 + 1) (K (t))) (n + 1 + 1 + 1) 44) (n + 1 + 1 + 1 + 1) (K (t + 1 + 1 + 1 + 1 + 1 + 1 + 1 + 1))) (n + 1 + 1 + 1 + 1 + 1) 44) (n + 1 + 1 + 1 + 1 + 1 + 1) (K (t + 1 + 1 + 1 + 1 + 1 + 1 + 1 + 1 + 1 + 1))) (n) = 20 := by unfold u1; rw [if_neg (by omega), if_neg (by omega), if_neg (by omega), if_neg (by omega), if_neg (by omega), if_neg (by omega), if_pos rfl]; exact k2
    rw [eo0] at s0 w0
    have ex0 : (uI (uI (uI (uI (uI (uI (uI (x) (n) (nI (t + 1 + 1 + 1))) (n + 1) (nI (t + 1 + 1 + 1 + 1 + 1 + 1))) (n + 1 + 1) 0) (n + 1 + 1 + 1) (vv (t + 1 + 1 + 1 + 1 + 1 + 1 + 1 + 1 + 1))) (n + 1 + 1 + 1 + 1) 0) (n + 1 + 1 + 1 + 1 + 1) (vv (t + 1 + 1 + 1 + 1 + 1 + 1 + 1 + 1 + 1 + 1 + 1))) (n + 1 + 1 + 1 + 1 + 1 + 1) 0) (n) = (nI (t + 1 + 1 + 1)) := by unfold uI; rw [if_neg (by omega), if_neg (by omega), if_neg (by omega), if_neg (by omega), if_neg (by omega), if_neg (by omega), if_pos rfl]
    rw [ex0] at w0
    replace w0 : g (n) = nI (v % nh) := w0.trans (rs_h (by decide) (by omega) (by rw [v3, tdR_c (fun i hi => hrF i (by omega))]; exact h3.2.1.2.1.fd (by omega) (by omega)))
    have s1 := (hst (n + 1) (by omega) (by omega)).1
    have w1 := (hst (n + 1) (by omega) (by omega)).2
    have eo1 : (u1 (u1 (u1 (u1 (u1 (u1 (u1 (o) (n) (K (t + 1 + 1))) (n + 1) (K (t + 1 + 1 + 1 + 1 + 1))) (n + 1 + 1) (K (t))) (n + 1 + 1 + 1) 44) (n + 1 + 1 + 1 + 1) (K (t + 1 + 1 + 1 + 1 + 1 + 1 + 1 + 1))) (n + 1 + 1 + 1 + 1 + 1) 44) (n + 1 + 1 + 1 + 1 + 1 + 1) (K (t + 1 + 1 + 1 + 1 + 1 + 1 + 1 + 1 + 1 + 1))) (n + 1) = 21 := by unfold u1; rw [if_neg (by omega), if_neg (by omega), if_neg (by omega), if_neg (by omega), if_neg (by omega), if_pos rfl]; exact k5
    rw [eo1] at s1 w1
    have ex1 : (uI (uI (uI (uI (uI (uI (uI (x) (n) (nI (t + 1 + 1 + 1))) (n + 1) (nI (t + 1 + 1 + 1 + 1 + 1 + 1))) (n + 1 + 1) 0) (n + 1 + 1 + 1) (vv (t + 1 + 1 + 1 + 1 + 1 + 1 + 1 + 1 + 1))) (n + 1 + 1 + 1 + 1) 0) (n + 1 + 1 + 1 + 1 + 1) (vv (t + 1 + 1 + 1 + 1 + 1 + 1 + 1 + 1 + 1 + 1 + 1))) (n + 1 + 1 + 1 + 1 + 1 + 1) 0) (n + 1) = (nI (t + 1 + 1 + 1 + 1 + 1 + 1)) := by unfold uI; rw [if_neg (by omega), if_neg (by omega), if_neg (by omega), if_neg (by omega), if_neg (by omega), if_pos rfl]
    rw [ex1] at w1
    replace w1 : g (n + 1) = nI (nn % nh) := w1.trans (rs_h (by decide) (by omega) (by rw [v6, tdR_c (fun i hi => hrF i (by omega))]; exact h6.2.1.2.1.fd (by omega) (by omega)))
    have s2 := (hst (n + 1 + 1) (by omega) (by omega)).1
    have w2 := (hst (n + 1 + 1) (by omega) (by omega)).2
    have eo2 : (u1 (u1 (u1 (u1 (u1 (u1 (u1 (o) (n) (K (t + 1 + 1))) (n + 1) (K (t + 1 + 1 + 1 + 1 + 1))) (n + 1 + 1) (K (t))) (n + 1 + 1 + 1) 44) (n + 1 + 1 + 1 + 1) (K (t + 1 + 1 + 1 + 1 + 1 + 1 + 1 + 1))) (n + 1 + 1 + 1 + 1 + 1) 44) (n + 1 + 1 + 1 + 1 + 1 + 1) (K (t + 1 + 1 + 1 + 1 + 1 + 1 + 1 + 1 + 1 + 1))) (n + 1 + 1) = 27 := by unfold u1; rw [if_neg (by omega), if_neg (by omega), if_neg (by omega), if_neg (by omega), if_pos rfl]; exact k0
    rw [eo2] at s2 w2
    have s3 := (hst (n + 1 + 1 + 1) (by omega) (by omega)).1
    have w3 := (hst (n + 1 + 1 + 1) (by omega) (by omega)).2
    have eo3 : (u1 (u1 (u1 (u1 (u1 (u1 (u1 (o) (n) (K (t + 1 + 1))) (n + 1) (K (t + 1 + 1 + 1 + 1 + 1))) (n + 1 + 1) (K (t))) (n + 1 + 1 + 1) 44) (n + 1 + 1 + 1 + 1) (K (t + 1 + 1 + 1 + 1 + 1 + 1 + 1 + 1))) (n + 1 + 1 + 1 + 1 + 1) 44) (n + 1 + 1 + 1 + 1 + 1 + 1) (K (t + 1 + 1 + 1 + 1 + 1 + 1 + 1 + 1 + 1 + 1))) (n + 1 + 1 + 1) = 44 := by unfold u1; rw [if_neg (by omega), if_neg (by omega), if_neg (by omega), if_pos rfl]
    rw [eo3] at s3 w3
    have ex3 : (uI (uI (uI (uI (uI (uI (uI (x) (n) (nI (t + 1 + 1 + 1))) (n + 1) (nI (t + 1 + 1 + 1 + 1 + 1 + 1))) (n + 1 + 1) 0) (n + 1 + 1 + 1) (vv (t + 1 + 1 + 1 + 1 + 1 + 1 + 1 + 1 + 1))) (n + 1 + 1 + 1 + 1) 0) (n + 1 + 1 + 1 + 1 + 1) (vv (t + 1 + 1 + 1 + 1 + 1 + 1 + 1 + 1 + 1 + 1 + 1))) (n + 1 + 1 + 1 + 1 + 1 + 1) 0) (n + 1 + 1 + 1) = (vv (t + 1 + 1 + 1 + 1 + 1 + 1 + 1 + 1 + 1)) := by unfold uI; rw [if_neg (by omega), if_neg (by omega), if_neg (by omega), if_pos rfl]
    rw [ex3] at w3
    replace w3 : g (n + 1 + 1 + 1) = nI (1) := w3.trans (rs_44.trans ((hvv _).trans (by rw [v9]; exact tN (by omega))))
    have s4 := (hst (n + 1 + 1 + 1 + 1) (by omega) (by omega)).1
    have w4 := (hst (n + 1 + 1 + 1 + 1) (by omega) (by omega)).2
    have eo4 : (u1 (u1 (u1 (u1 (u1 (u1 (u1 (o) (n) (K (t + 1 + 1))) (n + 1) (K (t + 1 + 1 + 1 + 1 + 1))) (n + 1 + 1) (K (t))) (n + 1 + 1 + 1) 44) (n + 1 + 1 + 1 + 1) (K (t + 1 + 1 + 1 + 1 + 1 + 1 + 1 + 1))) (n + 1 + 1 + 1 + 1 + 1) 44) (n + 1 + 1 + 1 + 1 + 1 + 1) (K (t + 1 + 1 + 1 + 1 + 1 + 1 + 1 + 1 + 1 + 1))) (n + 1 + 1 + 1 + 1) = 35 := by unfold u1; rw [if_neg (by omega), if_neg (by omega), if_pos rfl]; exact k8
    rw [eo4] at s4 w4
    have s5 := (hst (n + 1 + 1 + 1 + 1 + 1) (by omega) (by omega)).1
    have w5 := (hst (n + 1 + 1 + 1 + 1 + 1) (by omega) (by omega)).2
    have eo5 : (u1 (u1 (u1 (u1 (u1 (u1 (u1 (o) (n) (K (t + 1 + 1))) (n + 1) (K (t + 1 + 1 + 1 + 1 + 1))) (n + 1 + 1) (K (t))) (n + 1 + 1 + 1) 44) (n + 1 + 1 + 1 + 1) (K (t + 1 + 1 + 1 + 1 + 1 + 1 + 1 + 1))) (n + 1 + 1 + 1 + 1 + 1) 44) (n + 1 + 1 + 1 + 1 + 1 + 1) (K (t + 1 + 1 + 1 + 1 + 1 + 1 + 1 + 1 + 1 + 1))) (n + 1 + 1 + 1 + 1 + 1) = 44 := by unfold u1; rw [if_neg (by omega), if_pos rfl]
    rw [eo5] at s5 w5
    have ex5 : (uI (uI (uI (uI (uI (uI (uI (x) (n) (nI (t + 1 + 1 + 1))) (n + 1) (nI (t + 1 + 1 + 1 + 1 + 1 + 1))) (n + 1 + 1) 0) (n + 1 + 1 + 1) (vv (t + 1 + 1 + 1 + 1 + 1 + 1 + 1 + 1 + 1))) (n + 1 + 1 + 1 + 1) 0) (n + 1 + 1 + 1 + 1 + 1) (vv (t + 1 + 1 + 1 + 1 + 1 + 1 + 1 + 1 + 1 + 1 + 1))) (n + 1 + 1 + 1 + 1 + 1 + 1) 0) (n + 1 + 1 + 1 + 1 + 1) = (vv (t + 1 + 1 + 1 + 1 + 1 + 1 + 1 + 1 + 1 + 1 + 1)) := by unfold uI; rw [if_neg (by omega), if_pos rfl]
    rw [ex5] at w5
    replace w5 : g (n + 1 + 1 + 1 + 1 + 1) = nI (nn) := w5.trans (rs_44.trans ((hvv _).trans (by rw [v11]; exact tN (by omega))))
    have s6 := (hst (n + 1 + 1 + 1 + 1 + 1 + 1) (by omega) (by omega)).1
    have w6 := (hst (n + 1 + 1 + 1 + 1 + 1 + 1) (by omega) (by omega)).2
    have eo6 : (u1 (u1 (u1 (u1 (u1 (u1 (u1 (o) (n) (K (t + 1 + 1))) (n + 1) (K (t + 1 + 1 + 1 + 1 + 1))) (n + 1 + 1) (K (t))) (n + 1 + 1 + 1) 44) (n + 1 + 1 + 1 + 1) (K (t + 1 + 1 + 1 + 1 + 1 + 1 + 1 + 1))) (n + 1 + 1 + 1 + 1 + 1) 44) (n + 1 + 1 + 1 + 1 + 1 + 1) (K (t + 1 + 1 + 1 + 1 + 1 + 1 + 1 + 1 + 1 + 1))) (n + 1 + 1 + 1 + 1 + 1 + 1) = 39 := by unfold u1; rw [if_pos rfl]; exact k10
    rw [eo6] at s6 w6
    have e0 := EV.nil (c := cn 5) (ρ := ρ) (σ := σ) (w := g) (f := n)
    have e1 := e0.push s0 rfl (show fdV (cn 5) ρ 20 (g (n)) = ρ 18 (v % nh) from (congrArg (fun z : Int32 => ρ 18 z.toNatClampNeg) w0).trans (congrArg (ρ 18) (nI_cl (by omega))))
    have e2 := e1.push s1 rfl (show fdV (cn 5) ρ 21 (g (n + 1)) = ldOf (cn 5) ρ (nI (nn % nh)) from congrArg (ldOf (cn 5) ρ) w1)
    have e3 := e2.bin s2 rfl
    have e4 := e3.push s3 rfl (show fdV (cn 5) ρ 44 (g (n + 1 + 1 + 1)) = nI (1) from w3)
    have e5 := e4.bin s4 rfl
    have e6 := e5.push s5 rfl (show fdV (cn 5) ρ 44 (g (n + 1 + 1 + 1 + 1 + 1)) = nI (nn) from w5)
    have e7 := e6.bin s6 rfl
    have ef := EV.fin e7
    subst hc3 hc4
    show vlF (cn 5) ρ σ g n (n + 7) = 0 ↔ _
    rw [ef]
    exact ts6_v ρ nn v hn
