/-! the whole text in pieces; what stands at its tokens -/
def catP (F : Nat → List Pc) : Nat → List Pc
  | 0 => []
  | k + 1 => catP F k ++ F k
theorem catP_tx {F : Nat → List Pc} {G : Nat → List Nat} (h : ∀ i, ptx (F i) = G i) (k : Nat) : ptx (catP F k) = catF G k := by
  induction k with
  | zero => rfl
  | succ k ih => rw [catP, ptx_app, ih, h]; rfl
theorem catP_len {F : Nat → List Pc} {N : Nat} (h : ∀ i, (F i).length ≤ N) (k : Nat) : (catP F k).length ≤ N * k := by
  induction k with
  | zero => exact Nat.le_refl _
  | succ k ih =>
    have := h k
    rw [catP, List.length_append, Nat.mul_succ]; omega
/-- pieces that may stand before what begins so, and begin so themselves -/
def HD1 (hd : Option Nat) : Prop := ∀ c, hd = some c → c < 128 ∧ c ≠ 61
def LNp (P : List Pc) : Prop := (∀ hd, HD1 hd → GD P hd) ∧ ∀ hd, HD1 hd → HD1 (hdO (ptx P) hd)
theorem LNp.app {a b : List Pc} (ha : LNp a) (hb : LNp b) : LNp (a ++ b) :=
  ⟨fun hd h => (GD.app a b hd).mpr ⟨ha.1 _ (hb.2 hd h), hb.1 hd h⟩, fun hd h => by rw [ptx_app, hdO_app]; exact ha.2 _ (hb.2 hd h)⟩
theorem LNp.nil : LNp [] := ⟨fun _ _ => trivial, fun _ h => h⟩
theorem LNp.cat {F : Nat → List Pc} : ∀ k, (∀ i, i < k → LNp (F i)) → LNp (catP F k)
  | 0, _ => LNp.nil
  | k + 1, h => (LNp.cat k (fun i hi => h i (by omega))).app (h k (by omega))
theorem HD1.c {hd : Option Nat} (c0 : Nat) (h : c0 < 128 ∧ c0 ≠ 61) (e : hd = some c0) : HD1 hd := fun c q => by rw [e] at q; exact Option.some.inj q ▸ h
def plX (Δ : Nat → Nat → Nat) : List Pc := (((catP (plT Δ) (Δ 0 3) ++ catP (plH Δ) (Δ 0 4)) ++ catP (plG Δ) (Δ 0 5)) ++ catP (plK Δ) (Δ 0 6)) ++ catP (plW Δ) (Δ 0 7)
theorem plX_tx (Δ : Nat → Nat → Nat) : ptx (plX Δ) = ltX Δ := by
  unfold plX ltX
  simp only [ptx_app, catP_tx (plT_tx Δ), catP_tx (plH_tx Δ), catP_tx (plG_tx Δ), catP_tx (plK_tx Δ), catP_tx (plW_tx Δ)]
theorem plX_gd {Δ : Nat → Nat → Nat} (h : LDok Δ) : GD (plX Δ) none := by
  have hT : ∀ i, i < Δ 0 3 → LNp (plT Δ i) := fun i hi => ⟨fun hd hh => plT_gd h hi hh, fun hd hh => by
    unfold plT; split <;> exact HD1.c 115 (by decide) rfl⟩
  have hH : ∀ i, i < Δ 0 4 → LNp (plH Δ i) := fun i hi => ⟨fun hd hh => plH_gd h hi hh, fun hd hh => by
    unfold plH; split <;> exact HD1.c 104 (by decide) rfl⟩
  have hG : ∀ i, i < Δ 0 5 → LNp (plG Δ i) := fun i hi => ⟨fun hd hh => plG_gd h hi hh, fun hd hh => HD1.c 108 (by decide) rfl⟩
  have hK : ∀ i, i < Δ 0 6 → LNp (plK Δ i) := fun i hi => ⟨fun hd hh => plK_gd h, fun hd hh => HD1.c 104 (by decide) rfl⟩
  have hW : ∀ i, i < Δ 0 7 → LNp (plW Δ i) := fun i hi => ⟨fun hd hh => plW_gd h hh, fun hd hh => HD1.c 119 (by decide) rfl⟩
  exact (((((LNp.cat _ hT).app (LNp.cat _ hH)).app (LNp.cat _ hG)).app (LNp.cat _ hK)).app (LNp.cat _ hW)).1 none (fun c e => by cases e)
theorem smP_le (kd n v nt nh : Nat) (w : List Nat) : (smP kd n v nt nh w).length ≤ 9 := by
  unfold smP; split <;> simp only [List.length_cons, List.length_nil] <;> omega
theorem tsP_le (kd n v nt nh : Nat) (w : List Nat) : (tsP kd n v nt nh w).length ≤ 14 := by
  unfold tsP; split <;> simp only [List.length_cons, List.length_nil] <;> omega
theorem plX_len {Δ : Nat → Nat → Nat} (h : LDok Δ) : (plX Δ).length < 400 := by
  obtain ⟨⟨h1, h2, h3, h4, h5⟩, -⟩ := h
  have c1 := catP_len (F := plT Δ) (N := 10) (fun i => by unfold plT; split <;> simp only [List.length_cons, List.length_nil] <;> omega) (Δ 0 3)
  have c2 := catP_len (F := plH Δ) (N := 10) (fun i => by unfold plH; split <;> simp only [List.length_cons, List.length_nil] <;> omega) (Δ 0 4)
  have c3 := catP_len (F := plG Δ) (N := 5) (fun i => by unfold plG; simp only [List.length_cons, List.length_nil]; omega) (Δ 0 5)
  have c4 := catP_len (F := plK Δ) (N := 28) (fun i => by
    have d1 := smP_le (Δ 9 i) (Δ 10 i) (Δ 11 i) (Δ 0 3) (Δ 0 4) []
    have d2 := smP_le (Δ 9 i) (Δ 10 i) (Δ 11 i) (Δ 0 3) (Δ 0 4) [32]
    have d3 := tsP_le (Δ 12 i - 3) (Δ 13 i) (Δ 14 i) (Δ 0 3) (Δ 0 4) []
    unfold plK; split <;> simp only [List.length_append, List.length_cons, List.length_nil] <;> omega) (Δ 0 6)
  have c5 := catP_len (F := plW Δ) (N := 20) (fun i => by
    have d3 := tsP_le (Δ 17 i) (Δ 18 i) (Δ 19 i) (Δ 0 3) (Δ 0 4) []
    unfold plW; simp only [List.length_append, List.length_cons, List.length_nil]; omega) (Δ 0 7)
  unfold plX
  simp only [List.length_append]; omega
/-- the tokens from t on are these pieces -/
def wnP (p : Pc) : Prop := ltB (LT p.1 0) = true ∨ dgB (LT p.1 0) = true
def AtL (K : Nat → Nat) (V : Nat → Int64) : Nat → List Pc → Prop
  | _, [] => True
  | t, p :: r => (K t = p.2.2.1 ∧ (wnP p → V t = p.2.2.2)) ∧ AtL K V (t + 1) r
section ATL
variable {K : Nat → Nat} {V : Nat → Int64}
theorem AtL.app (a b : List Pc) : ∀ t, AtL K V t (a ++ b) ↔ AtL K V t a ∧ AtL K V (t + a.length) b := by
  induction a with
  | nil => intro t; exact ⟨fun h => ⟨trivial, h⟩, fun h => h.2⟩
  | cons p r ih =>
    intro t
    show (_ ∧ AtL K V (t + 1) (r ++ b)) ↔ (_ ∧ AtL K V (t + 1) r) ∧ AtL K V (t + (r.length + 1)) b
    rw [ih, show t + 1 + r.length = t + (r.length + 1) by omega]
    exact and_assoc.symm
theorem AtL.of : ∀ (P : List Pc) (t : Nat), (∀ i (hi : i < P.length), K (t + i) = (P[i]).2.2.1 ∧ (wnP (P[i]) → V (t + i) = (P[i]).2.2.2)) → AtL K V t P
  | [], _, _ => trivial
  | p :: r, t, h => ⟨h 0 (Nat.succ_pos _), AtL.of r (t + 1) (fun i hi => by
      have := h (i + 1) (Nat.succ_lt_succ hi)
      rw [show t + (i + 1) = t + 1 + i by omega] at this
      exact this)⟩
theorem nm_inj : ∀ n, n < 20 → ∀ m, m < 20 → (nmV 115 n = nmV 115 m ↔ n = m) ∧ (nmV 104 n = nmV 104 m ↔ n = m) ∧ (nmV 103 n = nmV 103 m ↔ n = m) := by decide +kernel
end ATL
/-- the tokens of the text that was fed -/
theorem Toks.at {Δ : Nat → Nat → Nat} (h : LDok Δ) {B : Nat → Nat} (hB : ∀ i, i < (ltX Δ).length → B i = (ltX Δ).getD i 0) {lt : Nat} {K : Nat → Nat} {S : Nat → Int32} {V : Nat → Int64} (hT : Toks B (ltX Δ).length lt K S V) : lt < 400 ∧ K (plX Δ).length = 45 ∧ AtL K V 0 (plX Δ) := by
  have e := plX_tx Δ
  obtain ⟨e1, e2, e3⟩ := Toks.pcs (plX_gd h) (by rw [e]; exact hB) (by rw [e]) (plX_len h) hT
  have hl := plX_len h
  subst e1
  exact ⟨hl, e2, AtL.of _ 0 (fun i hi => by rw [Nat.zero_add]; exact e3 i hi)⟩
