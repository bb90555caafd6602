/-- the opcodes and widths of the model's code -/
def mkF (o : Nat) : Nat := if o = 44 then 30 else if o = 47 then 31 else if 34 ≤ o ∧ o ≤ 42 then o - 2 else o
def wdF (o : Nat) : Nat := if o = 44 ∨ o = 20 ∨ o = 21 ∨ o = 6 ∨ o = 3 ∨ o = 22 then 2 else 1
def psF (σ : Nat → Nat) : Nat → Nat
  | 0 => 0
  | i + 1 => psF σ i + wdF (σ i)
def psI (σ : Nat → Nat) (x : Int32) : Int32 := nI (psF σ x.toNatClampNeg)
theorem ps_le {σ : Nat → Nat} : ∀ n, psF σ n ≤ 2 * n ∧ n ≤ psF σ n
  | 0 => ⟨Nat.le_refl _, Nat.le_refl _⟩
  | n + 1 => by
    have h := ps_le (σ := σ) n
    have h2 : wdF (σ n) = 1 ∨ wdF (σ n) = 2 := by unfold wdF; split <;> simp
    unfold psF
    omega
theorem ps_mono {σ : Nat → Nat} {m n : Nat} (h : m < n) : psF σ m < psF σ n := by
  induction n with
  | zero => omega
  | succ n ih =>
    have h2 : wdF (σ n) = 1 ∨ wdF (σ n) = 2 := by unfold wdF; split <;> simp
    show psF σ m < psF σ n + wdF (σ n)
    by_cases e : m = n
    · subst e; omega
    · have := ih (by omega); omega
/-- what of a road the list tells once and for all -/
def sF (f : Nat) : Prop := f = 41 ∨ f = 42 ∨ f = 11 ∨ f = 14 ∨ f = 31
def KS (ρ ρ' : RH) : Prop := ∀ f i, sF f → ρ' f i = ρ f i
/-- the list that a model's state works with: object m, its plan y; the state s lies elsewhere -/
def WN (τ : TY) (M : ME) (m y s a b c hc wc sn : Nat) (ρ π : RH) (σ : Nat → Nat) : Prop :=
  (a ≤ 8 ∧ b ≤ 6 ∧ c ≤ 20 ∧ hc ≤ 12 ∧ wc ≤ 12 ∧ sn ≤ 400) ∧ τ m = (11, 0) ∧ M m 11 = .ref y ∧ (m < s ∨ s + 14 ≤ m) ∧ (y + 19 ≤ s ∨ s + 14 ≤ y) ∧ ∃ hr wr cs os w, PV τ M M y a b c hc hr wc wr cs os w ∧
  (∀ f i, (f = 41 ∨ f = 42) → i < a → w f i = ρ f i) ∧ (∀ f i, (f = 11 ∨ f = 14) → i < b → w f i = ρ f i) ∧ (∀ i, i < c → w 31 i = ρ 31 i) ∧
  (∀ k, k < hc → w 50 k = π 50 k ∧ w 52 k = psI σ (π 52 k) ∧ w 53 k = psI σ (π 53 k) ∧ w 54 k = psI σ (π 54 k)) ∧ (∀ k, k < wc → w 55 k = π 55 k ∧ w 56 k = π 56 k ∧ w 57 k = psI σ (π 57 k) ∧ w 59 k = psI σ (π 59 k)) ∧
  (∀ i, i < sn → w 71 (psF σ i) = nI (mkF (σ i)) ∧ (wdF (σ i) = 2 → w 71 (psF σ i + 1) = π 70 i))
section WMS
variable {τ : TY} {M M1 : ME} {m y s a b c hc wc sn : Nat} {ρ ρ' π : RH} {σ : Nat → Nat}
theorem WN.ok (h : WN τ M m y s a b c hc wc sn ρ π σ) : a ≤ 8 ∧ b ≤ 6 ∧ c ≤ 20 ∧ hc ≤ 12 ∧ wc ≤ 12 ∧ sn ≤ 400 := h.1
theorem WN.t_m (h : WN τ M m y s a b c hc wc sn ρ π σ) : τ m = (11, 0) := h.2.1
theorem WN.g_pl (h : WN τ M m y s a b c hc wc sn ρ π σ) : M m 11 = .ref y := h.2.2.1
theorem WN.frx (h : WN τ M m y s a b c hc wc sn ρ π σ) (h1 : M1 m = M m) (h2 : ∀ q, y ≤ q → q < y + 19 → M1 q = M q) : WN τ M1 m y s a b c hc wc sn ρ π σ := by
  obtain ⟨h0, h3, h4, h5, h6, hr, wr, cs, os, w, h7, h8⟩ := h
  exact ⟨h0, h3, by rw [h1]; exact h4, h5, h6, hr, wr, cs, os, w, h7.fr h2, h8⟩
theorem WN.frU {q k : Nat} {v : Value} (h : WN τ M m y s a b c hc wc sn ρ π σ) (e : M1 = up M q k v) (hx : s ≤ q ∧ q < s + 14) : WN τ M1 m y s a b c hc wc sn ρ π σ := by
  have h3 := h.2.2.2.1
  have h4 := h.2.2.2.2.1
  exact h.frx (by rw [e]; exact up_a (by omega)) (fun q h1 h2 => by rw [e]; exact up_a (by omega))
theorem WN.nx (h : WN τ M m y s a b c hc wc sn ρ π σ) (e : Fr s (s + 14) M M1) : WN τ M1 m y s a b c hc wc sn ρ π σ := by
  have h3 := h.2.2.2.1
  have h4 := h.2.2.2.2.1
  exact h.frx (e _ (by omega)) (fun q h1 h2 => e q (by omega))
theorem WN.ks (h : WN τ M m y s a b c hc wc sn ρ π σ) (k : KS ρ ρ') : WN τ M m y s a b c hc wc sn ρ' π σ := by
  obtain ⟨h0, h3, h4, h5, h6, hr, wr, cs, os, w, h7, h8, h9, h10, h11⟩ := h
  exact ⟨h0, h3, h4, h5, h6, hr, wr, cs, os, w, h7, fun f i p q => (h8 f i p q).trans (k f i (by unfold sF; omega)).symm, fun f i p q => (h9 f i p q).trans (k f i (by unfold sF; omega)).symm, fun i p => (h10 i p).trans (k 31 i (by unfold sF; omega)).symm, h11⟩
theorem KS.rf (ρ : RH) : KS ρ ρ := fun _ _ _ => rfl
theorem KS.tr {ρ ρ' ρ'' : RH} (h : KS ρ ρ') (h2 : KS ρ' ρ'') : KS ρ ρ'' := fun f i q => (h2 f i q).trans (h f i q)
theorem KS.u {f i : Nat} {x : Int32} (h : KS ρ ρ') (hf : ¬ (f = 41 ∨ f = 42 ∨ f = 11 ∨ f = 14 ∨ f = 31)) : KS ρ (u2 ρ' f i x) := fun g j q => (u2_f (by unfold sF at q; omega)).trans (h g j q)
theorem KS.lie {l : Nat} {x z : Int32} (h : KS ρ ρ') : KS ρ (lieC ρ' l x z) := (h.u (by decide)).u (by decide)
theorem KS.stand {l : Nat} {x z t : Int32} (h : KS ρ ρ') : KS ρ (standC ρ' l x z t) := ((h.u (by decide)).u (by decide)).u (by decide)
theorem KS.tire {l : Nat} {x : Int32} (h : KS ρ ρ') : KS ρ (tireC ρ' l x) := h.u (by decide)
theorem KS.ps {x z : Int32} {k : Nat} (h : KS ρ ρ') : KS ρ (psC ρ' x z k).1 := fun f i q => (psC_f (by unfold sF at q; omega)).trans (h f i q)
theorem KS.mp {s0 w0 s1 w1 : Int32} {k : Nat} (h : KS ρ ρ') : KS ρ (mpL ρ' s0 w0 s1 w1 k) := fun f i q => (mpL_f (by unfold sF at q; omega)).trans (h f i q)
theorem KS.ul {j k : Nat} (h : KS ρ ρ') : KS ρ (ulC ρ' j k) := fun f i q => (by
  by_cases e : f = 31
  · exact (ulC_f (by omega) (by omega)).trans (h f i q)
  · exact (ulC_f (by unfold sF at q; omega) (by unfold sF at q; omega)).trans (h f i q))
theorem KS.so {j k : Nat} {x : Int32} (h : KS ρ ρ') : KS ρ (soC ρ' j x k) := fun f i q => (soC_f (by unfold sF at q; omega)).trans (h f i q)
theorem KS.fz {k : Nat} (h : KS ρ ρ') : KS ρ (fzC ρ' k) := fun f i q => (fzC_f (by unfold sF at q; omega)).trans (h f i q)
theorem KS.fr {k : Nat} (h : KS ρ ρ') : KS ρ (frC k ρ') := by unfold frC; split; exact h.fz; exact h
theorem KS.lv {j t a b c : Nat} {x : Int32} (h : KS ρ ρ') : KS ρ (lvC a b c ρ' j t x) := by
  unfold lvC; split
  · split
    · exact h.stand
    · split
      · exact h.u (by decide)
      · exact h.so.stand
  · exact h.ul.stand
theorem KS.go {j t a b c : Nat} {x : Int32} (h : KS ρ ρ') : KS ρ (goC a b c ρ' j t x) := by
  have h2 : KS ρ (g2C ρ' j t x) := (h.u (by decide)).tire
  unfold goC; split
  · exact h2
  · exact h2.lv
theorem KS.bk {j t c : Nat} (h : KS ρ ρ') : KS ρ (bkC c ρ' j t) := (((h.u (by decide)).u (by decide)).mp).stand
theorem KS.mt {j t a b c wc : Nat} {σ : Nat → Nat} {π : RH} (h : KS ρ ρ') : KS ρ (mtC a b c wc σ π ρ' j t) := by
  unfold mtC; split
  · split
    · split
      · exact h.go
      · exact h.tire
    · exact h.bk
  · exact h.tire
theorem KS.mo {j a b c wc : Nat} {σ : Nat → Nat} {π : RH} (h : KS ρ ρ') : KS ρ (moC a b c wc σ π ρ' j) := by
  unfold moC; split
  · exact h
  · exact h.mt
theorem KS.sg {j c hc : Nat} {σ : Nat → Nat} {π : RH} (h : KS ρ ρ') : KS ρ (sgC c hc σ π ρ' j) := by
  unfold sgC; split
  · exact h.ps
  · exact (h.ps.stand).u (by decide)
theorem KS.ot {j a c hc : Nat} {σ : Nat → Nat} {π : RH} (h : KS ρ ρ') : KS ρ (otC a c hc σ π ρ' j) := by
  unfold otC; split
  · exact h
  · exact h.sg
theorem KS.o1 {a c hc : Nat} {σ : Nat → Nat} {π : RH} (h : KS ρ ρ') : ∀ k, KS ρ (o1C a c hc σ π ρ' k)
  | 0 => h
  | k + 1 => ((h.o1 k).u (by decide)).ot
theorem KS.o2 {a b c wc : Nat} {σ : Nat → Nat} {π : RH} (h : KS ρ ρ') : ∀ k, KS ρ (o2C a b c wc σ π ρ' k)
  | 0 => h
  | k + 1 => (h.o2 k).mo
theorem KS.hr {a b c hc wc : Nat} {σ : Nat → Nat} {π : RH} (h : KS ρ ρ') : KS ρ (hrC a b c hc wc σ π ρ') := (((h.o1 b).o2 b).fr).u (by decide)
theorem KS.gb {a b c hc wc : Nat} {σ : Nat → Nat} {π : RH} (h : KS ρ ρ') : ∀ n, KS ρ (gbC a b c hc wc σ π ρ' n)
  | 0 => h
  | n + 1 => (h.gb n).hr
theorem WN.pv (h : WN τ M m y s a b c hc wc sn ρ π σ) : ∃ hr wr cs os w, PV τ M M y a b c hc hr wc wr cs os w := let ⟨h1, h2, h3, h4, w, h5, _⟩ := h.2.2.2.2.2; ⟨h1, h2, h3, h4, w, h5⟩
theorem WN.t_q (h : WN τ M m y s a b c hc wc sn ρ π σ) : τ y = (9, 0) := let ⟨_, _, _, _, _, hv, h8, h9, h10, h11, h12, h13⟩ := h.2.2.2.2.2; hv.t_q
theorem WN.g_stretches (h : WN τ M m y s a b c hc wc sn ρ π σ) : M y 0 = .int (nI a) := let ⟨_, _, _, _, _, hv, h8, h9, h10, h11, h12, h13⟩ := h.2.2.2.2.2; hv.g_stretches
theorem WN.g_horses (h : WN τ M m y s a b c hc wc sn ρ π σ) : M y 4 = .int (nI b) := let ⟨_, _, _, _, _, hv, h8, h9, h10, h11, h12, h13⟩ := h.2.2.2.2.2; hv.g_horses
theorem WN.g_logs (h : WN τ M m y s a b c hc wc sn ρ π σ) : M y 9 = .int (nI c) := let ⟨_, _, _, _, _, hv, h8, h9, h10, h11, h12, h13⟩ := h.2.2.2.2.2; hv.g_logs
theorem WN.g_hauls (h : WN τ M m y s a b c hc wc sn ρ π σ) : M y 11 = .int (nI hc) := let ⟨_, _, _, _, _, hv, h8, h9, h10, h11, h12, h13⟩ := h.2.2.2.2.2; hv.g_hauls
theorem WN.g_waits (h : WN τ M m y s a b c hc wc sn ρ π σ) : M y 17 = .int (nI wc) := let ⟨_, _, _, _, _, hv, h8, h9, h10, h11, h12, h13⟩ := h.2.2.2.2.2; hv.g_waits
theorem WN.t_length (h : WN τ M m y s a b c hc wc sn ρ π σ) : τ (y + 1) = (100, 8) := let ⟨_, _, _, _, _, hv, h8, h9, h10, h11, h12, h13⟩ := h.2.2.2.2.2; hv.t_length
theorem WN.g_length (h : WN τ M m y s a b c hc wc sn ρ π σ) : M y 1 = .ref (y + 1) := let ⟨_, _, _, _, _, hv, h8, h9, h10, h11, h12, h13⟩ := h.2.2.2.2.2; hv.g_length
theorem WN.t_slope (h : WN τ M m y s a b c hc wc sn ρ π σ) : τ (y + 2) = (100, 8) := let ⟨_, _, _, _, _, hv, h8, h9, h10, h11, h12, h13⟩ := h.2.2.2.2.2; hv.t_slope
theorem WN.g_slope (h : WN τ M m y s a b c hc wc sn ρ π σ) : M y 2 = .ref (y + 2) := let ⟨_, _, _, _, _, hv, h8, h9, h10, h11, h12, h13⟩ := h.2.2.2.2.2; hv.g_slope
theorem WN.t_frost (h : WN τ M m y s a b c hc wc sn ρ π σ) : τ (y + 3) = (100, 8) := let ⟨_, _, _, _, _, hv, h8, h9, h10, h11, h12, h13⟩ := h.2.2.2.2.2; hv.t_frost
theorem WN.g_frost (h : WN τ M m y s a b c hc wc sn ρ π σ) : M y 3 = .ref (y + 3) := let ⟨_, _, _, _, _, hv, h8, h9, h10, h11, h12, h13⟩ := h.2.2.2.2.2; hv.g_frost
theorem WN.t_pull (h : WN τ M m y s a b c hc wc sn ρ π σ) : τ (y + 4) = (100, 6) := let ⟨_, _, _, _, _, hv, h8, h9, h10, h11, h12, h13⟩ := h.2.2.2.2.2; hv.t_pull
theorem WN.g_pull (h : WN τ M m y s a b c hc wc sn ρ π σ) : M y 5 = .ref (y + 4) := let ⟨_, _, _, _, _, hv, h8, h9, h10, h11, h12, h13⟩ := h.2.2.2.2.2; hv.g_pull
theorem WN.t_links (h : WN τ M m y s a b c hc wc sn ρ π σ) : τ (y + 5) = (100, 6) := let ⟨_, _, _, _, _, hv, h8, h9, h10, h11, h12, h13⟩ := h.2.2.2.2.2; hv.t_links
theorem WN.g_links (h : WN τ M m y s a b c hc wc sn ρ π σ) : M y 6 = .ref (y + 5) := let ⟨_, _, _, _, _, hv, h8, h9, h10, h11, h12, h13⟩ := h.2.2.2.2.2; hv.g_links
theorem WN.t_iron (h : WN τ M m y s a b c hc wc sn ρ π σ) : τ (y + 6) = (100, 6) := let ⟨_, _, _, _, _, hv, h8, h9, h10, h11, h12, h13⟩ := h.2.2.2.2.2; hv.t_iron
theorem WN.g_iron (h : WN τ M m y s a b c hc wc sn ρ π σ) : M y 7 = .ref (y + 6) := let ⟨_, _, _, _, _, hv, h8, h9, h10, h11, h12, h13⟩ := h.2.2.2.2.2; hv.g_iron
theorem WN.t_bell (h : WN τ M m y s a b c hc wc sn ρ π σ) : τ (y + 7) = (100, 6) := let ⟨_, _, _, _, _, hv, h8, h9, h10, h11, h12, h13⟩ := h.2.2.2.2.2; hv.t_bell
theorem WN.g_bell (h : WN τ M m y s a b c hc wc sn ρ π σ) : M y 8 = .ref (y + 7) := let ⟨_, _, _, _, _, hv, h8, h9, h10, h11, h12, h13⟩ := h.2.2.2.2.2; hv.g_bell
theorem WN.t_weight (h : WN τ M m y s a b c hc wc sn ρ π σ) : τ (y + 8) = (100, 20) := let ⟨_, _, _, _, _, hv, h8, h9, h10, h11, h12, h13⟩ := h.2.2.2.2.2; hv.t_weight
theorem WN.g_weight (h : WN τ M m y s a b c hc wc sn ρ π σ) : M y 10 = .ref (y + 8) := let ⟨_, _, _, _, _, hv, h8, h9, h10, h11, h12, h13⟩ := h.2.2.2.2.2; hv.g_weight
theorem WN.t_hauler (h : WN τ M m y s a b c hc wc sn ρ π σ) : τ (y + 9) = (100, 12) := let ⟨_, _, _, _, _, hv, h8, h9, h10, h11, h12, h13⟩ := h.2.2.2.2.2; hv.t_hauler
theorem WN.g_hauler (h : WN τ M m y s a b c hc wc sn ρ π σ) : M y 13 = .ref (y + 9) := let ⟨_, _, _, _, _, hv, h8, h9, h10, h11, h12, h13⟩ := h.2.2.2.2.2; hv.g_hauler
theorem WN.t_sum (h : WN τ M m y s a b c hc wc sn ρ π σ) : τ (y + 10) = (100, 13) := let ⟨_, _, _, _, _, hv, h8, h9, h10, h11, h12, h13⟩ := h.2.2.2.2.2; hv.t_sum
theorem WN.g_sum (h : WN τ M m y s a b c hc wc sn ρ π σ) : M y 14 = .ref (y + 10) := let ⟨_, _, _, _, _, hv, h8, h9, h10, h11, h12, h13⟩ := h.2.2.2.2.2; hv.g_sum
theorem WN.t_sumEnd (h : WN τ M m y s a b c hc wc sn ρ π σ) : τ (y + 11) = (100, 13) := let ⟨_, _, _, _, _, hv, h8, h9, h10, h11, h12, h13⟩ := h.2.2.2.2.2; hv.t_sumEnd
theorem WN.g_sumEnd (h : WN τ M m y s a b c hc wc sn ρ π σ) : M y 15 = .ref (y + 11) := let ⟨_, _, _, _, _, hv, h8, h9, h10, h11, h12, h13⟩ := h.2.2.2.2.2; hv.g_sumEnd
theorem WN.t_haulTested (h : WN τ M m y s a b c hc wc sn ρ π σ) : τ (y + 12) = (100, 13) := let ⟨_, _, _, _, _, hv, h8, h9, h10, h11, h12, h13⟩ := h.2.2.2.2.2; hv.t_haulTested
theorem WN.g_haulTested (h : WN τ M m y s a b c hc wc sn ρ π σ) : M y 16 = .ref (y + 12) := let ⟨_, _, _, _, _, hv, h8, h9, h10, h11, h12, h13⟩ := h.2.2.2.2.2; hv.g_haulTested
theorem WN.t_waiter (h : WN τ M m y s a b c hc wc sn ρ π σ) : τ (y + 13) = (100, 12) := let ⟨_, _, _, _, _, hv, h8, h9, h10, h11, h12, h13⟩ := h.2.2.2.2.2; hv.t_waiter
theorem WN.g_waiter (h : WN τ M m y s a b c hc wc sn ρ π σ) : M y 19 = .ref (y + 13) := let ⟨_, _, _, _, _, hv, h8, h9, h10, h11, h12, h13⟩ := h.2.2.2.2.2; hv.g_waiter
theorem WN.t_place (h : WN τ M m y s a b c hc wc sn ρ π σ) : τ (y + 14) = (100, 12) := let ⟨_, _, _, _, _, hv, h8, h9, h10, h11, h12, h13⟩ := h.2.2.2.2.2; hv.t_place
theorem WN.g_place (h : WN τ M m y s a b c hc wc sn ρ π σ) : M y 20 = .ref (y + 14) := let ⟨_, _, _, _, _, hv, h8, h9, h10, h11, h12, h13⟩ := h.2.2.2.2.2; hv.g_place
theorem WN.t_test (h : WN τ M m y s a b c hc wc sn ρ π σ) : τ (y + 15) = (100, 13) := let ⟨_, _, _, _, _, hv, h8, h9, h10, h11, h12, h13⟩ := h.2.2.2.2.2; hv.t_test
theorem WN.g_test (h : WN τ M m y s a b c hc wc sn ρ π σ) : M y 21 = .ref (y + 15) := let ⟨_, _, _, _, _, hv, h8, h9, h10, h11, h12, h13⟩ := h.2.2.2.2.2; hv.g_test
theorem WN.t_tested (h : WN τ M m y s a b c hc wc sn ρ π σ) : τ (y + 16) = (100, 13) := let ⟨_, _, _, _, _, hv, h8, h9, h10, h11, h12, h13⟩ := h.2.2.2.2.2; hv.t_tested
theorem WN.g_tested (h : WN τ M m y s a b c hc wc sn ρ π σ) : M y 22 = .ref (y + 16) := let ⟨_, _, _, _, _, hv, h8, h9, h10, h11, h12, h13⟩ := h.2.2.2.2.2; hv.g_tested
theorem WN.t_code (h : WN τ M m y s a b c hc wc sn ρ π σ) : τ (y + 17) = (100, 800) := let ⟨_, _, _, _, _, hv, h8, h9, h10, h11, h12, h13⟩ := h.2.2.2.2.2; hv.t_code
theorem WN.g_code (h : WN τ M m y s a b c hc wc sn ρ π σ) : M y 23 = .ref (y + 17) := let ⟨_, _, _, _, _, hv, h8, h9, h10, h11, h12, h13⟩ := h.2.2.2.2.2; hv.g_code
theorem WN.t_open (h : WN τ M m y s a b c hc wc sn ρ π σ) : τ (y + 18) = (100, 400) := let ⟨_, _, _, _, _, hv, h8, h9, h10, h11, h12, h13⟩ := h.2.2.2.2.2; hv.t_open
theorem WN.g_open (h : WN τ M m y s a b c hc wc sn ρ π σ) : M y 25 = .ref (y + 18) := let ⟨_, _, _, _, _, hv, h8, h9, h10, h11, h12, h13⟩ := h.2.2.2.2.2; hv.g_open
theorem WN.v_length (h : WN τ M m y s a b c hc wc sn ρ π σ) {i : Nat} (hi : i < a) : M (y + 1) i = .int (ρ 41 i) := let ⟨_, _, _, _, _, hv, h8, h9, h10, h11, h12, h13⟩ := h.2.2.2.2.2; by have := h.1; rw [hv.g_vlength (by omega), h8 41 i (by omega) hi]
theorem WN.v_slope (h : WN τ M m y s a b c hc wc sn ρ π σ) {i : Nat} (hi : i < a) : M (y + 2) i = .int (ρ 42 i) := let ⟨_, _, _, _, _, hv, h8, h9, h10, h11, h12, h13⟩ := h.2.2.2.2.2; by have := h.1; rw [hv.g_vslope (by omega), h8 42 i (by omega) hi]
theorem WN.v_pull (h : WN τ M m y s a b c hc wc sn ρ π σ) {i : Nat} (hi : i < b) : M (y + 4) i = .int (ρ 11 i) := let ⟨_, _, _, _, _, hv, h8, h9, h10, h11, h12, h13⟩ := h.2.2.2.2.2; by have := h.1; rw [hv.g_vpull (by omega), h9 11 i (by omega) hi]
theorem WN.v_bell (h : WN τ M m y s a b c hc wc sn ρ π σ) {i : Nat} (hi : i < b) : M (y + 7) i = .int (ρ 14 i) := let ⟨_, _, _, _, _, hv, h8, h9, h10, h11, h12, h13⟩ := h.2.2.2.2.2; by have := h.1; rw [hv.g_vbell (by omega), h9 14 i (by omega) hi]
theorem WN.v_weight (h : WN τ M m y s a b c hc wc sn ρ π σ) {i : Nat} (hi : i < c) : M (y + 8) i = .int (ρ 31 i) := let ⟨_, _, _, _, _, hv, h8, h9, h10, h11, h12, h13⟩ := h.2.2.2.2.2; by have := h.1; rw [hv.g_vweight (by omega), h10 i hi]
theorem WN.v_hauler (h : WN τ M m y s a b c hc wc sn ρ π σ) {i : Nat} (hi : i < hc) : M (y + 9) i = .int (π 50 i) := let ⟨_, _, _, _, _, hv, h8, h9, h10, h11, h12, h13⟩ := h.2.2.2.2.2; by have := h.1; rw [hv.g_vhauler (by omega), (h11 i hi).1]
theorem WN.v_sum (h : WN τ M m y s a b c hc wc sn ρ π σ) {i : Nat} (hi : i < hc) : M (y + 10) i = .int (psI σ (π 52 i)) := let ⟨_, _, _, _, _, hv, h8, h9, h10, h11, h12, h13⟩ := h.2.2.2.2.2; by have := h.1; rw [hv.g_vsum (by omega), (h11 i hi).2.1]
theorem WN.v_sumEnd (h : WN τ M m y s a b c hc wc sn ρ π σ) {i : Nat} (hi : i < hc) : M (y + 11) i = .int (psI σ (π 53 i)) := let ⟨_, _, _, _, _, hv, h8, h9, h10, h11, h12, h13⟩ := h.2.2.2.2.2; by have := h.1; rw [hv.g_vsumEnd (by omega), (h11 i hi).2.2.1]
theorem WN.v_haulTested (h : WN τ M m y s a b c hc wc sn ρ π σ) {i : Nat} (hi : i < hc) : M (y + 12) i = .int (psI σ (π 54 i)) := let ⟨_, _, _, _, _, hv, h8, h9, h10, h11, h12, h13⟩ := h.2.2.2.2.2; by have := h.1; rw [hv.g_vhaulTested (by omega), (h11 i hi).2.2.2]
theorem WN.v_waiter (h : WN τ M m y s a b c hc wc sn ρ π σ) {i : Nat} (hi : i < wc) : M (y + 13) i = .int (π 55 i) := let ⟨_, _, _, _, _, hv, h8, h9, h10, h11, h12, h13⟩ := h.2.2.2.2.2; by have := h.1; rw [hv.g_vwaiter (by omega), (h12 i hi).1]
theorem WN.v_place (h : WN τ M m y s a b c hc wc sn ρ π σ) {i : Nat} (hi : i < wc) : M (y + 14) i = .int (π 56 i) := let ⟨_, _, _, _, _, hv, h8, h9, h10, h11, h12, h13⟩ := h.2.2.2.2.2; by have := h.1; rw [hv.g_vplace (by omega), (h12 i hi).2.1]
theorem WN.v_test (h : WN τ M m y s a b c hc wc sn ρ π σ) {i : Nat} (hi : i < wc) : M (y + 15) i = .int (psI σ (π 57 i)) := let ⟨_, _, _, _, _, hv, h8, h9, h10, h11, h12, h13⟩ := h.2.2.2.2.2; by have := h.1; rw [hv.g_vtest (by omega), (h12 i hi).2.2.1]
theorem WN.v_tested (h : WN τ M m y s a b c hc wc sn ρ π σ) {i : Nat} (hi : i < wc) : M (y + 16) i = .int (psI σ (π 59 i)) := let ⟨_, _, _, _, _, hv, h8, h9, h10, h11, h12, h13⟩ := h.2.2.2.2.2; by have := h.1; rw [hv.g_vtested (by omega), (h12 i hi).2.2.2]
theorem WN.v_code (h : WN τ M m y s a b c hc wc sn ρ π σ) {i : Nat} (hi : i < sn) : M (y + 17) (psF σ i) = .int (nI (mkF (σ i))) := let ⟨_, _, _, _, _, hv, h8, h9, h10, h11, h12, h13⟩ := h.2.2.2.2.2; by have h0 := h.1; have h1 := ps_le (σ := σ) i; rw [hv.g_vcode (by have := ps_mono (σ := σ) hi; have := ps_le (σ := σ) sn; omega), (h13 i hi).1]
theorem WN.v_arg (h : WN τ M m y s a b c hc wc sn ρ π σ) {i : Nat} (hi : i < sn) (hw : wdF (σ i) = 2) : M (y + 17) (psF σ i + 1) = .int (π 70 i) := let ⟨_, _, _, _, _, hv, h8, h9, h10, h11, h12, h13⟩ := h.2.2.2.2.2; by have h0 := h.1; have h1 : psF σ (i + 1) ≤ 2 * (i + 1) := (ps_le (σ := σ) _).1; unfold psF at h1; rw [hv.g_vcode (by omega), (h13 i hi).2 hw]
end WMS
def wbF (c : Nat) (ρ : RH) (x z : Int32) : Int32 := sm (fun l => if ρ 32 l = x ∧ (z = -1 ∨ ρ 33 l = z) then ρ 31 l else 0) c
def nbF (c : Nat) (ρ : RH) (x z : Int32) : Int32 := sm (fun l => if ρ 32 l = x ∧ (z = -1 ∨ ρ 33 l = z) then 1 else 0) c
theorem wb_all {c : Nat} {ρ : RH} {x : Int32} : wbF c ρ x (-1) = wOf c ρ x := by
  unfold wbF wOf; exact sm_cong (fun k _ => by simp)
theorem nb_all {c : Nat} {ρ : RH} {x : Int32} : nbF c ρ x (-1) = nOf c ρ x := by
  unfold nbF nOf; exact sm_cong (fun k _ => by simp)
theorem wb_1 {c : Nat} {ρ : RH} {z : Int32} (h : ¬ z = -1) : wbF c ρ 1 z = ldOf c ρ z := by
  unfold wbF ldOf; exact sm_cong (fun k _ => by simp [h])
theorem nb_2 {c : Nat} {ρ : RH} {z : Int32} (h : ¬ z = -1) : nbF c ρ 2 z = flOf c ρ z := by
  unfold nbF flOf; exact sm_cong (fun k _ => by simp [h])
set_option maxHeartbeats 4000000 in
theorem L_X12_weights {l : Launch} {D : va_G} {cA : Nat → ClassId} {n0 : Nat} {sg adK adV : Nat → Nat} {sgA smA wdA bS LS : Nat} {xs : Nat → Int32} (hX : SF n0 (XW0 sg adK adV sgA smA wdA n0 bS LS xs)) {sz : Nat} {τ : TY} {M0 M : ME} {m y s a b c hc wc sn : Nat} {ρ π : RH} {σ : Nat → Nat} {μ κ : Nat → Int32} (hS : SL τ M0 M s a b c ρ m μ κ) (hW : WN τ M m y s a b c hc wc sn ρ π σ) (x z : Int32) : ∀ (n : Nat) (k : Nat) (acc : Int32) (hk : k ≤ c) (ha : acc = wbF k ρ x z), c - k < n → T l D cA n0 (XW0 sg adK adV sgA smA wdA n0 bS LS xs) mX12_weights 1 0 0 sz τ M 5 [.ref s, .int x, .int z, .int acc, .int (nI k)] [] (ROq (.int (wbF c ρ x z)) sz τ M) (fun _ _ _ _ => False) := by
  intro n
  induction n with
  | zero => intros; omega
  | succ n ih =>
    intro k acc hk ha hn
    obtain ⟨l3, l4, l5, l6, l7, l8⟩ := hW.ok
    refine T_iload4 dX12_weights_5 rfl ?_
    refine T_aload0 dX12_weights_7 rfl ?_
    refine g12_3 _ rfl (hS.t_s) (hS.g_m) dX12_weights_8 rfl ?_
    refine g12_75 _ rfl (hW.t_m) (hW.g_pl) dX12_weights_11 rfl ?_
    refine g12_84 _ rfl (hW.t_q) (hW.g_logs) dX12_weights_14 rfl ?_
    refine T_icmp_ge 73 20 dX12_weights_17 (by decide) rfl (fun c17 => ?_) (fun c17 => ?_)
    ·
      have c17 := le_out rfl c17
      refine T_iload3 dX12_weights_73 rfl ?_
      refine T_iret rfl rfl dX12_weights_74 ?_
      have hkk : k = c := by omega
      subst hkk
      exact ⟨congrArg (fun z => some (Value.int z)) ha, rfl, rfl, rfl⟩
    ·
      have c17 := lt_in rfl c17
      refine T_iload3 dX12_weights_20 rfl ?_
      refine T_joinI 65 (fun v => v = if ρ 32 k = x ∧ (z = -1 ∨ ρ 33 k = z) then ρ 31 k else 0) (fun hJ => ?_) (fun x65 hx65 => ?_)
      ·
        refine T_aload0 dX12_weights_21 rfl ?_
        refine g12_43 _ rfl (hS.t_s) (hS.g_a10) dX12_weights_22 rfl ?_
        refine T_iload4 dX12_weights_25 rfl ?_
        refine T_iald _ (hS.t_a10) rfl (by omega) (by decide) dX12_weights_27 rfl (hS.g_lies (by omega)) ?_
        refine T_iload1 dX12_weights_28 rfl ?_
        refine T_icmp_ne 64 32 dX12_weights_29 (by decide) rfl (fun c29 => ?_) (fun c29 => ?_)
        ·
          refine T_iconst (0) dX12_weights_64 rfl rfl ?_
          refine hJ _ ?_
          first | exact (if_neg (fun q => c29 q.1)).symm | exact (if_pos (And.intro c29 (Or.inl c34))).symm | exact (if_pos (And.intro c29 (Or.inr c45))).symm | exact (if_neg (fun q => q.2.elim c34 c45)).symm
        ·
          refine T_iload2 dX12_weights_32 rfl ?_
          refine T_iconst (-1) dX12_weights_33 rfl rfl ?_
          refine T_icmp_eq 48 37 dX12_weights_34 (by decide) rfl (fun c34 => ?_) (fun c34 => ?_)
          ·
            refine T_aload0 dX12_weights_48 rfl ?_
            refine g12_3 _ rfl (hS.t_s) (hS.g_m) dX12_weights_49 rfl ?_
            refine g12_75 _ rfl (hW.t_m) (hW.g_pl) dX12_weights_52 rfl ?_
            refine g12_87 _ rfl (hW.t_q) (hW.g_weight) dX12_weights_55 rfl ?_
            refine T_iload4 dX12_weights_58 rfl ?_
            refine T_iald _ (hW.t_weight) rfl (by omega) (by decide) dX12_weights_60 rfl (hW.v_weight (by omega)) ?_
            refine T_goto 65 dX12_weights_61 (by decide) ?_
            refine hJ _ ?_
            first | exact (if_neg (fun q => c29 q.1)).symm | exact (if_pos (And.intro c29 (Or.inl c34))).symm | exact (if_pos (And.intro c29 (Or.inr c45))).symm | exact (if_neg (fun q => q.2.elim c34 c45)).symm
          ·
            refine T_aload0 dX12_weights_37 rfl ?_
            refine g12_46 _ rfl (hS.t_s) (hS.g_a11) dX12_weights_38 rfl ?_
            refine T_iload4 dX12_weights_41 rfl ?_
            refine T_iald _ (hS.t_a11) rfl (by omega) (by decide) dX12_weights_43 rfl (hS.g_atat (by omega)) ?_
            refine T_iload2 dX12_weights_44 rfl ?_
            refine T_icmp_ne 64 48 dX12_weights_45 (by decide) rfl (fun c45 => ?_) (fun c45 => ?_)
            ·
              refine T_iconst (0) dX12_weights_64 rfl rfl ?_
              refine hJ _ ?_
              first | exact (if_neg (fun q => c29 q.1)).symm | exact (if_pos (And.intro c29 (Or.inl c34))).symm | exact (if_pos (And.intro c29 (Or.inr c45))).symm | exact (if_neg (fun q => q.2.elim c34 c45)).symm
            ·
              refine T_aload0 dX12_weights_48 rfl ?_
              refine g12_3 _ rfl (hS.t_s) (hS.g_m) dX12_weights_49 rfl ?_
              refine g12_75 _ rfl (hW.t_m) (hW.g_pl) dX12_weights_52 rfl ?_
              refine g12_87 _ rfl (hW.t_q) (hW.g_weight) dX12_weights_55 rfl ?_
              refine T_iload4 dX12_weights_58 rfl ?_
              refine T_iald _ (hW.t_weight) rfl (by omega) (by decide) dX12_weights_60 rfl (hW.v_weight (by omega)) ?_
              refine T_goto 65 dX12_weights_61 (by decide) ?_
              refine hJ _ ?_
              first | exact (if_neg (fun q => c29 q.1)).symm | exact (if_pos (And.intro c29 (Or.inl c34))).symm | exact (if_pos (And.intro c29 (Or.inr c45))).symm | exact (if_neg (fun q => q.2.elim c34 c45)).symm
      ·
        refine T_iadd dX12_weights_65 rfl ?_
        refine T_istore3 rfl (by decide) dX12_weights_66 rfl ?_
        first | refine T_iinc4 rfl (by decide) dX12_weights_67 rfl (inc1 _) ?_ | refine T_iinc4 rfl (by decide) dX12_weights_67 rfl rfl ?_
        refine T_goto 5 dX12_weights_70 (by decide) ?_
        exact ih (k + 1) _ (by omega) (by unfold wbF at *; rw [sm, ha, hx65]) (by omega)
set_option maxHeartbeats 4000000 in
theorem c_X12_weights {l : Launch} {D : va_G} {cA : Nat → ClassId} {n0 : Nat} {sg adK adV : Nat → Nat} {sgA smA wdA bS LS : Nat} {xs : Nat → Int32} (hX : SF n0 (XW0 sg adK adV sgA smA wdA n0 bS LS xs)) {sz : Nat} {τ : TY} {M0 M : ME} {m y s a b c hc wc sn : Nat} {ρ π : RH} {σ : Nat → Nat} {μ κ : Nat → Int32} (hS : SL τ M0 M s a b c ρ m μ κ) (hW : WN τ M m y s a b c hc wc sn ρ π σ) (x z : Int32) : CT l D cA n0 (XW0 sg adK adV sgA smA wdA n0 bS LS xs) mX12_weights 1 0 0 sz τ M [.ref s, .int x, .int z] (ROq (.int (wbF c ρ x z)) sz τ M) := by
  refine CT.of (ls := [.ref s, .int x, .int z, UU, UU]) (by decide) (Nat.le_of_ble_eq_true rfl) rfl ?_
  refine T_iconst (0) dX12_weights_0 rfl rfl ?_
  refine T_istore3 rfl (by decide) dX12_weights_1 rfl ?_
  refine T_iconst (0) dX12_weights_2 rfl rfl ?_
  refine T_istore4 rfl (by decide) dX12_weights_3 rfl ?_
  exact L_X12_weights hX hS hW x z (c + 1) 0 0 (Nat.zero_le _) rfl (by omega)
set_option maxHeartbeats 4000000 in
theorem L_X12_logs {l : Launch} {D : va_G} {cA : Nat → ClassId} {n0 : Nat} {sg adK adV : Nat → Nat} {sgA smA wdA bS LS : Nat} {xs : Nat → Int32} (hX : SF n0 (XW0 sg adK adV sgA smA wdA n0 bS LS xs)) {sz : Nat} {τ : TY} {M0 M : ME} {m y s a b c hc wc sn : Nat} {ρ π : RH} {σ : Nat → Nat} {μ κ : Nat → Int32} (hS : SL τ M0 M s a b c ρ m μ κ) (hW : WN τ M m y s a b c hc wc sn ρ π σ) (x z : Int32) : ∀ (n : Nat) (k : Nat) (acc : Int32) (hk : k ≤ c) (ha : acc = nbF k ρ x z), c - k < n → T l D cA n0 (XW0 sg adK adV sgA smA wdA n0 bS LS xs) mX12_logs 1 0 0 sz τ M 5 [.ref s, .int x, .int z, .int acc, .int (nI k)] [] (ROq (.int (nbF c ρ x z)) sz τ M) (fun _ _ _ _ => False) := by
  intro n
  induction n with
  | zero => intros; omega
  | succ n ih =>
    intro k acc hk ha hn
    obtain ⟨l3, l4, l5, l6, l7, l8⟩ := hW.ok
    refine T_iload4 dX12_logs_5 rfl ?_
    refine T_aload0 dX12_logs_7 rfl ?_
    refine g12_3 _ rfl (hS.t_s) (hS.g_m) dX12_logs_8 rfl ?_
    refine g12_75 _ rfl (hW.t_m) (hW.g_pl) dX12_logs_11 rfl ?_
    refine g12_84 _ rfl (hW.t_q) (hW.g_logs) dX12_logs_14 rfl ?_
    refine T_icmp_ge 61 20 dX12_logs_17 (by decide) rfl (fun c17 => ?_) (fun c17 => ?_)
    ·
      have c17 := le_out rfl c17
      refine T_iload3 dX12_logs_61 rfl ?_
      refine T_iret rfl rfl dX12_logs_62 ?_
      have hkk : k = c := by omega
      subst hkk
      exact ⟨congrArg (fun z => some (Value.int z)) ha, rfl, rfl, rfl⟩
    ·
      have c17 := lt_in rfl c17
      refine T_iload3 dX12_logs_20 rfl ?_
      refine T_joinI 53 (fun v => v = if ρ 32 k = x ∧ (z = -1 ∨ ρ 33 k = z) then 1 else 0) (fun hJ => ?_) (fun x53 hx53 => ?_)
      ·
        refine T_aload0 dX12_logs_21 rfl ?_
        refine g12_43 _ rfl (hS.t_s) (hS.g_a10) dX12_logs_22 rfl ?_
        refine T_iload4 dX12_logs_25 rfl ?_
        refine T_iald _ (hS.t_a10) rfl (by omega) (by decide) dX12_logs_27 rfl (hS.g_lies (by omega)) ?_
        refine T_iload1 dX12_logs_28 rfl ?_
        refine T_icmp_ne 52 32 dX12_logs_29 (by decide) rfl (fun c29 => ?_) (fun c29 => ?_)
        ·
          refine T_iconst (0) dX12_logs_52 rfl rfl ?_
          refine hJ _ ?_
          first | exact (if_neg (fun q => c29 q.1)).symm | exact (if_pos (And.intro c29 (Or.inl c34))).symm | exact (if_pos (And.intro c29 (Or.inr c45))).symm | exact (if_neg (fun q => q.2.elim c34 c45)).symm
        ·
          refine T_iload2 dX12_logs_32 rfl ?_
          refine T_iconst (-1) dX12_logs_33 rfl rfl ?_
          refine T_icmp_eq 48 37 dX12_logs_34 (by decide) rfl (fun c34 => ?_) (fun c34 => ?_)
          ·
            refine T_iconst (1) dX12_logs_48 rfl rfl ?_
            refine T_goto 53 dX12_logs_49 (by decide) ?_
            refine hJ _ ?_
            first | exact (if_neg (fun q => c29 q.1)).symm | exact (if_pos (And.intro c29 (Or.inl c34))).symm | exact (if_pos (And.intro c29 (Or.inr c45))).symm | exact (if_neg (fun q => q.2.elim c34 c45)).symm
          ·
            refine T_aload0 dX12_logs_37 rfl ?_
            refine g12_46 _ rfl (hS.t_s) (hS.g_a11) dX12_logs_38 rfl ?_
            refine T_iload4 dX12_logs_41 rfl ?_
            refine T_iald _ (hS.t_a11) rfl (by omega) (by decide) dX12_logs_43 rfl (hS.g_atat (by omega)) ?_
            refine T_iload2 dX12_logs_44 rfl ?_
            refine T_icmp_ne 52 48 dX12_logs_45 (by decide) rfl (fun c45 => ?_) (fun c45 => ?_)
            ·
              refine T_iconst (0) dX12_logs_52 rfl rfl ?_
              refine hJ _ ?_
              first | exact (if_neg (fun q => c29 q.1)).symm | exact (if_pos (And.intro c29 (Or.inl c34))).symm | exact (if_pos (And.intro c29 (Or.inr c45))).symm | exact (if_neg (fun q => q.2.elim c34 c45)).symm
            ·
              refine T_iconst (1) dX12_logs_48 rfl rfl ?_
              refine T_goto 53 dX12_logs_49 (by decide) ?_
              refine hJ _ ?_
              first | exact (if_neg (fun q => c29 q.1)).symm | exact (if_pos (And.intro c29 (Or.inl c34))).symm | exact (if_pos (And.intro c29 (Or.inr c45))).symm | exact (if_neg (fun q => q.2.elim c34 c45)).symm
      ·
        refine T_iadd dX12_logs_53 rfl ?_
        refine T_istore3 rfl (by decide) dX12_logs_54 rfl ?_
        first | refine T_iinc4 rfl (by decide) dX12_logs_55 rfl (inc1 _) ?_ | refine T_iinc4 rfl (by decide) dX12_logs_55 rfl rfl ?_
        refine T_goto 5 dX12_logs_58 (by decide) ?_
        exact ih (k + 1) _ (by omega) (by unfold nbF at *; rw [sm, ha, hx53]) (by omega)
set_option maxHeartbeats 4000000 in
theorem c_X12_logs {l : Launch} {D : va_G} {cA : Nat → ClassId} {n0 : Nat} {sg adK adV : Nat → Nat} {sgA smA wdA bS LS : Nat} {xs : Nat → Int32} (hX : SF n0 (XW0 sg adK adV sgA smA wdA n0 bS LS xs)) {sz : Nat} {τ : TY} {M0 M : ME} {m y s a b c hc wc sn : Nat} {ρ π : RH} {σ : Nat → Nat} {μ κ : Nat → Int32} (hS : SL τ M0 M s a b c ρ m μ κ) (hW : WN τ M m y s a b c hc wc sn ρ π σ) (x z : Int32) : CT l D cA n0 (XW0 sg adK adV sgA smA wdA n0 bS LS xs) mX12_logs 1 0 0 sz τ M [.ref s, .int x, .int z] (ROq (.int (nbF c ρ x z)) sz τ M) := by
  refine CT.of (ls := [.ref s, .int x, .int z, UU, UU]) (by decide) (Nat.le_of_ble_eq_true rfl) rfl ?_
  refine T_iconst (0) dX12_logs_0 rfl rfl ?_
  refine T_istore3 rfl (by decide) dX12_logs_1 rfl ?_
  refine T_iconst (0) dX12_logs_2 rfl rfl ?_
  refine T_istore4 rfl (by decide) dX12_logs_3 rfl ?_
  exact L_X12_logs hX hS hW x z (c + 1) 0 0 (Nat.zero_le _) rfl (by omega)
set_option maxHeartbeats 4000000 in
theorem c_X12_load {l : Launch} {D : va_G} {cA : Nat → ClassId} {n0 : Nat} {sg adK adV : Nat → Nat} {sgA smA wdA bS LS : Nat} {xs : Nat → Int32} (hX : SF n0 (XW0 sg adK adV sgA smA wdA n0 bS LS xs)) {sz : Nat} {τ : TY} {M0 M : ME} {m y s a b c hc wc sn : Nat} {ρ π : RH} {σ : Nat → Nat} {μ κ : Nat → Int32} (hS : SL τ M0 M s a b c ρ m μ κ) (hW : WN τ M m y s a b c hc wc sn ρ π σ) {j : Nat} (hj : j < 2 ^ 31) : CT l D cA n0 (XW0 sg adK adV sgA smA wdA n0 bS LS xs) mX12_load 2 0 0 sz τ M [.ref s, .int (nI j)] (ROq (.int (ldOf c ρ (nI j))) sz τ M) := by
  refine CT.of (ls := [.ref s, .int (nI j)]) (by decide) (Nat.le_of_ble_eq_true rfl) rfl ?_
  refine T_aload0 dX12_load_0 rfl ?_
  refine T_iconst (1) dX12_load_1 rfl rfl ?_
  refine T_iload1 dX12_load_2 rfl ?_
  refine T_cV2 (c_X12_weights hX hS hW _ _) hX k12_90 (Or.inl ⟨_, _, _, _, (hS.t_s), by decide, rfl⟩) (by decide) (Nat.le_of_ble_eq_true rfl) dX12_load_3 rfl ?_
  rintro _ _ _ _ ⟨rfl, rfl, rfl, rfl⟩
  refine T_iret rfl rfl dX12_load_6 ?_
  exact ⟨congrArg (fun z => some (Value.int z)) (wb_1 (nI_m1 hj)), rfl, rfl, rfl⟩
set_option maxHeartbeats 4000000 in
theorem c_X12_needs {l : Launch} {D : va_G} {cA : Nat → ClassId} {n0 : Nat} {sg adK adV : Nat → Nat} {sgA smA wdA bS LS : Nat} {xs : Nat → Int32} (hX : SF n0 (XW0 sg adK adV sgA smA wdA n0 bS LS xs)) {sz : Nat} {τ : TY} {M0 M : ME} {m y s a b c hc wc sn : Nat} {ρ π : RH} {σ : Nat → Nat} {μ κ : Nat → Int32} (hS : SL τ M0 M s a b c ρ m μ κ) (hW : WN τ M m y s a b c hc wc sn ρ π σ) {j t : Nat} (hj : j < b) (ht : t < a) : CT l D cA n0 (XW0 sg adK adV sgA smA wdA n0 bS LS xs) mX12_needs 3 0 0 sz τ M [.ref s, .int (nI j), .int (nI t)] (ROq (.int (needF c ρ (nI j) t)) sz τ M) := by
  refine CT.of (ls := [.ref s, .int (nI j), .int (nI t)]) (by decide) (Nat.le_of_ble_eq_true rfl) rfl ?_
  obtain ⟨l3, l4, l5, l6, l7, l8⟩ := hW.ok
  refine T_iconst (0) dX12_needs_0 rfl rfl ?_
  refine T_aload0 dX12_needs_1 rfl ?_
  refine T_iload1 dX12_needs_2 rfl ?_
  refine T_cV1 (c_X12_load hX hS hW (by omega)) hX k12_94 (Or.inl ⟨_, _, _, _, (hS.t_s), by decide, rfl⟩) (by decide) (Nat.le_of_ble_eq_true rfl) dX12_needs_3 rfl ?_
  rintro _ _ _ _ ⟨rfl, rfl, rfl, rfl⟩
  refine T_bipush (10) dX12_needs_6 rfl rfl ?_
  refine T_aload0 dX12_needs_8 rfl ?_
  refine g12_3 _ rfl (hS.t_s) (hS.g_m) dX12_needs_9 rfl ?_
  refine g12_75 _ rfl (hW.t_m) (hW.g_pl) dX12_needs_12 rfl ?_
  refine g12_98 _ rfl (hW.t_q) (hW.g_slope) dX12_needs_15 rfl ?_
  refine T_iload2 dX12_needs_18 rfl ?_
  refine T_iald _ (hW.t_slope) rfl (by omega) (by decide) dX12_needs_19 rfl (hW.v_slope (by omega)) ?_
  refine T_iadd dX12_needs_20 rfl ?_
  refine T_imul dX12_needs_21 rfl ?_
  refine T_bipush (10) dX12_needs_22 rfl rfl ?_
  refine T_idiv dX12_needs_24 rfl (by decide) ?_
  refine T_aload0 dX12_needs_25 rfl ?_
  refine g12_15 _ rfl (hS.t_s) (hS.g_a1) dX12_needs_26 rfl ?_
  refine T_iload2 dX12_needs_29 rfl ?_
  refine T_iald _ (hS.t_a1) rfl (by omega) (by decide) dX12_needs_30 rfl (hS.g_fros (by omega)) ?_
  refine T_isub dX12_needs_31 rfl ?_
  refine T_max km12_101 (by decide) (Nat.le_of_ble_eq_true rfl) dX12_needs_32 rfl ?_
  refine T_iret rfl rfl dX12_needs_35 ?_
  exact ⟨congrArg (fun z => some (Value.int z)) (rfl), rfl, rfl, rfl⟩
set_option maxHeartbeats 4000000 in
theorem c_X12_put {l : Launch} {D : va_G} {cA : Nat → ClassId} {n0 : Nat} {sg adK adV : Nat → Nat} {sgA smA wdA bS LS : Nat} {xs : Nat → Int32} (hX : SF n0 (XW0 sg adK adV sgA smA wdA n0 bS LS xs)) {sz : Nat} {τ : TY} {M0 M : ME} {m y s a b c hc wc sn : Nat} {ρ π : RH} {σ : Nat → Nat} {μ κ : Nat → Int32} (hS : SL τ M0 M s a b c ρ m μ κ) (hW : WN τ M m y s a b c hc wc sn ρ π σ) {j : Nat} (hl : j < c) (x z : Int32) : CT l D cA n0 (XW0 sg adK adV sgA smA wdA n0 bS LS xs) mX12_put 1 0 0 sz τ M [.ref s, .int (nI j), .int x, .int z] (MUq none sz τ (fun M' => SL τ M0 M' s a b c (lieC ρ j x z) m (μ) (κ))) := by
  refine CT.of (ls := [.ref s, .int (nI j), .int x, .int z]) (by decide) (Nat.le_of_ble_eq_true rfl) rfl ?_
  obtain ⟨l3, l4, l5, l6, l7, l8⟩ := hW.ok
  refine T_aload0 dX12_put_0 rfl ?_
  refine g12_43 _ rfl (hS.t_s) (hS.g_a10) dX12_put_1 rfl ?_
  refine T_iload1 dX12_put_4 rfl ?_
  refine T_iload2 dX12_put_5 rfl ?_
  refine T_iast _ (hS.t_a10) rfl (by omega) (by decide) dX12_put_6 rfl ?_
  refine T_nm (fun M1 e1 => ?_)
  have hS := SL.mv (hS.p_lies (by omega)) e1
  have hW := hW.frU e1 (by omega)
  refine T_aload0 dX12_put_7 rfl ?_
  refine g12_46 _ rfl (hS.t_s) (hS.g_a11) dX12_put_8 rfl ?_
  refine T_iload1 dX12_put_11 rfl ?_
  refine T_iload3 dX12_put_12 rfl ?_
  refine T_iast _ (hS.t_a11) rfl (by omega) (by decide) dX12_put_13 rfl ?_
  refine T_nm (fun M2 e2 => ?_)
  have hS := SL.mv (hS.p_atat (by omega)) e2
  have hW := hW.frU e2 (by omega)
  refine T_vret rfl dX12_put_14 ?_
  exact ⟨rfl, rfl, rfl, hS⟩
set_option maxHeartbeats 4000000 in
theorem c_X12_meets {l : Launch} {D : va_G} {cA : Nat → ClassId} {n0 : Nat} {sg adK adV : Nat → Nat} {sgA smA wdA bS LS : Nat} {xs : Nat → Int32} (hX : SF n0 (XW0 sg adK adV sgA smA wdA n0 bS LS xs)) {sz : Nat} {τ : TY} {M0 M : ME} {m y s a b c hc wc sn : Nat} {ρ π : RH} {σ : Nat → Nat} {μ κ : Nat → Int32} (hS : SL τ M0 M s a b c ρ m μ κ) (hW : WN τ M m y s a b c hc wc sn ρ π σ) {j i : Nat} (hj : j < b) (hi : i < b) (x : Int32) : CT l D cA n0 (XW0 sg adK adV sgA smA wdA n0 bS LS xs) mX12_meets 1 0 0 sz τ M [.ref s, .int (nI j), .int (nI i), .int x] (ROq (.int (if ρ 15 i = x ∧ ¬ ρ 16 i = ρ 16 j then 1 else 0)) sz τ M) := by
  refine CT.of (ls := [.ref s, .int (nI j), .int (nI i), .int x]) (by decide) (Nat.le_of_ble_eq_true rfl) rfl ?_
  obtain ⟨l3, l4, l5, l6, l7, l8⟩ := hW.ok
  refine T_aload0 dX12_meets_0 rfl ?_
  refine g12_19 _ rfl (hS.t_s) (hS.g_a2) dX12_meets_1 rfl ?_
  refine T_iload2 dX12_meets_4 rfl ?_
  refine T_iald _ (hS.t_a2) rfl (by omega) (by decide) dX12_meets_5 rfl (hS.g_wher (by omega)) ?_
  refine T_iload3 dX12_meets_6 rfl ?_
  refine T_icmp_ne 29 10 dX12_meets_7 (by decide) rfl (fun c7 => ?_) (fun c7 => ?_)
  ·
    refine T_iconst (0) dX12_meets_29 rfl rfl ?_
    refine T_iret rfl rfl dX12_meets_30 ?_
    exact ⟨congrArg (fun z => some (Value.int z)) (by first | exact (if_neg (fun q => c7 q.1)).symm | exact (if_neg (fun q => q.2 c22)).symm | exact (if_pos ⟨c7, c22⟩).symm), rfl, rfl, rfl⟩
  ·
    refine T_aload0 dX12_meets_10 rfl ?_
    refine g12_22 _ rfl (hS.t_s) (hS.g_a3) dX12_meets_11 rfl ?_
    refine T_iload2 dX12_meets_14 rfl ?_
    refine T_iald _ (hS.t_a3) rfl (by omega) (by decide) dX12_meets_15 rfl (hS.g_down (by omega)) ?_
    refine T_aload0 dX12_meets_16 rfl ?_
    refine g12_22 _ rfl (hS.t_s) (hS.g_a3) dX12_meets_17 rfl ?_
    refine T_iload1 dX12_meets_20 rfl ?_
    refine T_iald _ (hS.t_a3) rfl (by omega) (by decide) dX12_meets_21 rfl (hS.g_down (by omega)) ?_
    refine T_icmp_eq 29 25 dX12_meets_22 (by decide) rfl (fun c22 => ?_) (fun c22 => ?_)
    ·
      refine T_iconst (0) dX12_meets_29 rfl rfl ?_
      refine T_iret rfl rfl dX12_meets_30 ?_
      exact ⟨congrArg (fun z => some (Value.int z)) (by first | exact (if_neg (fun q => c7 q.1)).symm | exact (if_neg (fun q => q.2 c22)).symm | exact (if_pos ⟨c7, c22⟩).symm), rfl, rfl, rfl⟩
    ·
      refine T_iconst (1) dX12_meets_25 rfl rfl ?_
      refine T_goto 30 dX12_meets_26 (by decide) ?_
      refine T_iret rfl rfl dX12_meets_30 ?_
      exact ⟨congrArg (fun z => some (Value.int z)) (by first | exact (if_neg (fun q => c7 q.1)).symm | exact (if_neg (fun q => q.2 c22)).symm | exact (if_pos ⟨c7, c22⟩).symm), rfl, rfl, rfl⟩
