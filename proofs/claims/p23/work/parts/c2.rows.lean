/-! the law's list: what is made so far -/
def wdF (f : Nat) : Nat := if f = 3 then 3 else if f = 4 then 10 else if f = 5 then 4 else if f = 6 then 7 else 5
theorem wdF_inj {f g : Nat} (h1 : 3 ≤ f) (h2 : f < 8) (h3 : 3 ≤ g) (h4 : g < 8) (h : wdF f = wdF g) : f = g := by
  rcases (by omega : f = 3 ∨ f = 4 ∨ f = 5 ∨ f = 6 ∨ f = 7) with rfl | rfl | rfl | rfl | rfl <;> rcases (by omega : g = 3 ∨ g = 4 ∨ g = 5 ∨ g = 6 ∨ g = 7) with rfl | rfl | rfl | rfl | rfl <;> first | rfl | exact absurd h (by decide)
def PF (τ : TY) (M : ME) (j e : Nat) (A n k : Nat → Nat) (Rw : Nat → Nat → Nat) (V : Nat → Nat → Nat → Int32) : Prop :=
  (τ j = (9, 0) ∧ j < e ∧ ∀ c, c < 3 → M j c = .int 0) ∧
  (∀ f, 3 ≤ f → f < 8 → (τ (A f) = (108, n f) ∧ M j f = .ref (A f)) ∧ k f ≤ n f ∧ j < A f ∧ A f < e) ∧
  (∀ f g, 3 ≤ f → f < 8 → 3 ≤ g → g < 8 → A f = A g → f = g) ∧
  (∀ f i, 3 ≤ f → f < 8 → i < k f → (τ (Rw f i) = (100, wdF f) ∧ M (A f) i = .ref (Rw f i)) ∧ (j < Rw f i ∧ Rw f i < e) ∧ ∀ c, c < wdF f → M (Rw f i) c = .int (V f i c)) ∧
  (∀ f i i', 3 ≤ f → f < 8 → i < k f → i' < k f → Rw f i = Rw f i' → i = i')
section PFS
variable {τ τ' : TY} {M M' : ME} {j e : Nat} {A n k : Nat → Nat} {Rw : Nat → Nat → Nat} {V : Nat → Nat → Nat → Int32}
theorem PF.t0 (h : PF τ M j e A n k Rw V) : τ j = (9, 0) := h.1.1
theorem PF.ta (h : PF τ M j e A n k Rw V) {f : Nat} (h3 : 3 ≤ f) (h8 : f < 8) : τ (A f) = (108, n f) := (h.2.1 f h3 h8).1.1
theorem PF.pa (h : PF τ M j e A n k Rw V) {f : Nat} (h3 : 3 ≤ f) (h8 : f < 8) : M j f = .ref (A f) := (h.2.1 f h3 h8).1.2
theorem PF.kn (h : PF τ M j e A n k Rw V) {f : Nat} (h3 : 3 ≤ f) (h8 : f < 8) : k f ≤ n f := (h.2.1 f h3 h8).2.1
theorem PF.ina (h : PF τ M j e A n k Rw V) {f : Nat} (h3 : 3 ≤ f) (h8 : f < 8) : j < A f ∧ A f < e := (h.2.1 f h3 h8).2.2
theorem PF.tr (h : PF τ M j e A n k Rw V) {f i : Nat} (h3 : 3 ≤ f) (h8 : f < 8) (hi : i < k f) : τ (Rw f i) = (100, wdF f) := (h.2.2.2.1 f i h3 h8 hi).1.1
theorem PF.pr (h : PF τ M j e A n k Rw V) {f i : Nat} (h3 : 3 ≤ f) (h8 : f < 8) (hi : i < k f) : M (A f) i = .ref (Rw f i) := (h.2.2.2.1 f i h3 h8 hi).1.2
theorem PF.inr (h : PF τ M j e A n k Rw V) {f i : Nat} (h3 : 3 ≤ f) (h8 : f < 8) (hi : i < k f) : j < Rw f i ∧ Rw f i < e := (h.2.2.2.1 f i h3 h8 hi).2.1
theorem PF.v (h : PF τ M j e A n k Rw V) {f i c : Nat} (h3 : 3 ≤ f) (h8 : f < 8) (hi : i < k f) (hc : c < wdF f) : M (Rw f i) c = .int (V f i c) := (h.2.2.2.1 f i h3 h8 hi).2.2 c hc
theorem PF.inj (h : PF τ M j e A n k Rw V) {f i i' : Nat} (h3 : 3 ≤ f) (h8 : f < 8) (hi : i < k f) (hi' : i' < k f) (q : Rw f i = Rw f i') : i = i' := h.2.2.2.2 f i i' h3 h8 hi hi' q
theorem PF.je (h : PF τ M j e A n k Rw V) : j < e := h.1.2.1
theorem PF.fr (h : PF τ M j e A n k Rw V) (ht : ∀ q, q < e → τ' q = τ q) (hm : ∀ q, j ≤ q → q < e → (∀ c, τ q ≠ (101, c)) → M' q = M q) : PF τ' M' j e A n k Rw V := by
  have mj : M' j = M j := hm j (Nat.le_refl _) h.je (fun c => by rw [h.t0]; simp)
  have mA : ∀ f, 3 ≤ f → f < 8 → M' (A f) = M (A f) := fun f a b => hm _ (by have := h.ina a b; omega) (h.ina a b).2 (fun c => by rw [h.ta a b]; simp)
  have mR : ∀ f i, 3 ≤ f → f < 8 → i < k f → M' (Rw f i) = M (Rw f i) := fun f i a b c => hm _ (by have := h.inr a b c; omega) (h.inr a b c).2 (fun c' => by rw [h.tr a b c]; simp)
  refine ⟨⟨(ht _ h.je).trans h.t0, h.je, fun c hc => by rw [mj]; exact h.1.2.2 c hc⟩, fun f a b => ⟨⟨(ht _ (h.ina a b).2).trans (h.ta a b), by rw [mj]; exact h.pa a b⟩, h.kn a b, h.ina a b⟩, h.2.2.1, fun f i a b c => ⟨⟨(ht _ (h.inr a b c).2).trans (h.tr a b c), by rw [mA f a b]; exact h.pr a b c⟩, h.inr a b c, fun c' hc => by rw [mR f i a b c]; exact h.v a b c hc⟩, h.2.2.2.2⟩
theorem PF.ap {sz sz' b v v1 cap : Nat} (h : PF τ M j e A n k Rw V) (ha : AP sz τ M b v sz' τ' M' v1) (he : e ≤ sz) (hb : b < j) (hv : τ v = (101, cap)) : PF τ' M' j e A n k Rw V :=
  h.fr (fun q hq => ha.2.1 q (by omega)) (fun q h1 h2 h3 => ha.2.2.1 q (by omega) (by omega) (fun z => h3 cap (by rw [z]; exact hv)))
theorem PF.old {s0 : Nat} (h : PF τ M j e A n k Rw V) (ho : OLD s0 τ M τ' M') (he : e ≤ s0) : PF τ' M' j e A n k Rw V := h.fr (fun q hq => ho.1 q (by omega)) (fun q _ h2 _ => ho.2 q (by omega))
theorem PF.le {e' : Nat} (h : PF τ M j e A n k Rw V) (he : e ≤ e') : PF τ M j e' A n k Rw V :=
  ⟨⟨h.t0, by have := h.je; omega, h.1.2.2⟩, fun f a b => ⟨(h.2.1 f a b).1, h.kn a b, by have := h.ina a b; omega⟩, h.2.2.1, fun f i a b c => ⟨(h.2.2.2.1 f i a b c).1, by have := h.inr a b c; omega, (h.2.2.2.1 f i a b c).2.2⟩, h.2.2.2.2⟩
theorem PF.cg {k' : Nat → Nat} {V' : Nat → Nat → Nat → Int32} (h : PF τ M j e A n k Rw V) (hk : ∀ f, 3 ≤ f → f < 8 → k' f = k f) (hV : ∀ f i c, 3 ≤ f → f < 8 → i < k f → c < wdF f → V f i c = V' f i c) : PF τ M j e A n k' Rw V' :=
  ⟨h.1, fun f a b => ⟨(h.2.1 f a b).1, by rw [hk f a b]; exact h.kn a b, h.ina a b⟩, h.2.2.1, fun f i a b c => by
    rw [hk f a b] at c
    exact ⟨(h.2.2.2.1 f i a b c).1, h.inr a b c, fun c' hc => by rw [← hV f i c' a b c hc]; exact h.v a b c hc⟩, fun f i i' a b c d => by
    rw [hk f a b] at c d
    exact h.inj a b c d⟩
theorem PF.arr {sz f N : Nat} {g : Nat → Value} (h : PF τ M j e A n k Rw V) (he : e ≤ sz) (h3 : 3 ≤ f) (h8 : f < 8) (hk : k f = 0) : PF (tyN τ sz (108, N)) (up (meN M sz g) j f (.ref sz)) j (sz + 1) (fun q => if q = f then sz else A q) (fun q => if q = f then N else n q) k Rw V := by
  have hj := h.je
  have mo : ∀ q, q < e → q ≠ j → up (meN M sz g) j f (.ref sz) q = M q := fun q hq hn => by rw [up_a hn, meN_n (by omega)]
  refine ⟨⟨(tyN_n (by omega)).trans h.t0, by omega, fun c hc => ?_⟩, fun q a b => ?_, fun q r a b c d => ?_, fun q i a b c => ?_, h.2.2.2.2⟩
  · rw [up_k (by omega), meN_n (by omega)]; exact h.1.2.2 c hc
  · have := h.ina a b
    by_cases z : q = f
    · subst z
      simp only [if_pos trivial]
      exact ⟨⟨tyN_s _ _ _, by rw [up_s]⟩, by rw [hk]; exact Nat.zero_le _, by omega, by omega⟩
    · simp only [if_neg z]
      exact ⟨⟨(tyN_n (by omega)).trans (h.ta a b), by rw [up_k (fun w => z w), meN_n (by omega)]; exact h.pa a b⟩, h.kn a b, by omega, by omega⟩
  · have i1 := h.ina a b
    have i2 := h.ina c d
    show (if q = f then sz else A q) = (if r = f then sz else A r) → q = r
    by_cases z : q = f <;> by_cases w : r = f
    · omega
    · rw [if_pos z, if_neg w]; omega
    · rw [if_neg z, if_pos w]; omega
    · rw [if_neg z, if_neg w]; exact h.2.2.1 q r a b c d
  · have z : q ≠ f := fun w => by rw [w, hk] at c; omega
    have i1 := h.ina a b
    have i2 := h.inr a b c
    simp only [if_neg z]
    exact ⟨⟨(tyN_n (by omega)).trans (h.tr a b c), by rw [mo _ i1.2 (by omega)]; exact h.pr a b c⟩, by omega, fun c' hc => by rw [mo _ i2.2 (by omega)]; exact h.v a b c hc⟩
theorem PF.row {sz f i : Nat} {M2 : ME} (h : PF τ M j e A n k Rw V) (he : e ≤ sz) (h3 : 3 ≤ f) (h8 : f < 8) (hk : k f = i) (hi : i < n f) (hM : ∀ q, q < sz → M2 q = M q) (hV : ∀ c, c < wdF f → M2 sz c = .int (V f i c)) : PF (tyN τ sz (100, wdF f)) (up M2 (A f) i (.ref sz)) j (sz + 1) A n (fun q => if q = f then i + 1 else k q) (fun q r => if q = f ∧ r = i then sz else Rw q r) V := by
  have hj := h.je
  have hA := h.ina h3 h8
  have mo : ∀ q, q < e → q ≠ A f → up M2 (A f) i (.ref sz) q = M q := fun q hq hn => by rw [up_a hn, hM q (by omega)]
  refine ⟨⟨(tyN_n (by omega)).trans h.t0, by omega, fun c hc => by rw [mo j hj (by omega)]; exact h.1.2.2 c hc⟩, fun q a b => ?_, h.2.2.1, fun q r a b c => ?_, fun q r r' a b c d => ?_⟩
  · have := h.ina a b
    refine ⟨⟨(tyN_n (by omega)).trans (h.ta a b), by rw [mo j hj (by omega)]; exact h.pa a b⟩, ?_, by omega, by omega⟩
    by_cases z : q = f
    · subst z; simp only [if_pos trivial]; omega
    · simp only [if_neg z]; exact h.kn a b
  · by_cases z : q = f ∧ r = i
    · obtain ⟨rfl, rfl⟩ := z
      simp only [if_pos (And.intro rfl rfl : _ ∧ _), and_self, if_true]
      exact ⟨⟨tyN_s _ _ _, by rw [up_s]⟩, by omega, fun c' hc => by rw [up_a (by omega)]; exact hV c' hc⟩
    · have c' : r < k q := by
        by_cases w : q = f
        · subst w; simp only [if_true] at c; omega
        · simpa only [if_neg w] using c
      have i1 := h.ina a b
      have i2 := h.inr a b c'
      have n1 : Rw q r ≠ A f := kne (h.tr a b c') (h.ta h3 h8) (by simp)
      simp only [if_neg z]
      refine ⟨⟨(tyN_n (by omega)).trans (h.tr a b c'), ?_⟩, by omega, fun c2 hc => by rw [mo _ i2.2 n1]; exact h.v a b c' hc⟩
      by_cases w : q = f
      · subst w
        rw [up_k (fun y => z (And.intro rfl y)), hM _ (by omega)]; exact h.pr a b c'
      · rw [mo _ i1.2 (fun y => w (h.2.2.1 q f a b h3 h8 y))]; exact h.pr a b c'
  · have key : ∀ r, r < (if q = f then i + 1 else k q) → ¬ (q = f ∧ r = i) → r < k q := fun r c z => by
      by_cases w : q = f
      · subst w; simp only [if_true] at c; omega
      · simpa only [if_neg w] using c
    by_cases z : q = f ∧ r = i <;> by_cases z' : q = f ∧ r' = i
    · omega
    · intro y
      simp only [if_pos z, if_neg z'] at y
      have := (h.inr a b (key r' d z')).2
      omega
    · intro y
      simp only [if_neg z, if_pos z'] at y
      have := (h.inr a b (key r c z)).2
      omega
    · intro y
      simp only [if_neg z, if_neg z'] at y
      exact h.inj a b (key r c z) (key r' d z') y
theorem PF.set {f i c : Nat} {x : Int32} (h : PF τ M j e A n k Rw V) (h3 : 3 ≤ f) (h8 : f < 8) (hi : i < k f) : PF τ (up M (Rw f i) c (.int x)) j e A n k Rw (fun q r s => if (q = f ∧ r = i) ∧ s = c then x else V q r s) := by
  have hr := h.inr h3 h8 hi
  have tr := h.tr h3 h8 hi
  refine ⟨⟨h.t0, h.je, fun c hc => by rw [up_a (kne h.t0 tr (by simp))]; exact h.1.2.2 c hc⟩, fun q a b => ⟨⟨h.ta a b, by rw [up_a (kne h.t0 tr (by simp))]; exact h.pa a b⟩, h.kn a b, h.ina a b⟩, h.2.2.1, fun q r a b w => ⟨⟨h.tr a b w, by rw [up_a (kne (h.ta a b) tr (by simp))]; exact h.pr a b w⟩, h.inr a b w, fun s hs => ?_⟩, h.2.2.2.2⟩
  show _ = Value.int (if (q = f ∧ r = i) ∧ s = c then x else V q r s)
  by_cases z : q = f ∧ r = i
  · obtain ⟨rfl, rfl⟩ := z
    by_cases y : s = c
    · subst y; rw [up_s, if_pos ⟨⟨rfl, rfl⟩, rfl⟩]
    · rw [up_k y, if_neg (fun u => y u.2)]; exact h.v a b w hs
  · have : Rw q r ≠ Rw f i := fun u => by
      have hq : q = f := Decidable.byContradiction fun y => by
        have t1 := h.tr a b w
        rw [u, tr] at t1
        exact y (wdF_inj a b h3 h8 (congrArg Prod.snd t1).symm)
      subst hq
      exact z ⟨rfl, h.inj a b w hi u⟩
    rw [up_a this, if_neg (fun u => z u.1)]; exact h.v a b w hs
theorem PF.sm (h : PF τ M j e A n k Rw V) (h1 : 1 ≤ n 3 ∧ n 3 ≤ 6) (h2 : 1 ≤ n 4 ∧ n 4 ≤ 5) : PSm τ M j (A 3) (A 4) (n 3) (n 4) := ⟨⟨h.t0, h.ta (by decide) (by decide), h.ta (by decide) (by decide)⟩, ⟨h.pa (by decide) (by decide), h.pa (by decide) (by decide)⟩, h1, h2⟩
theorem AP.wr {s0 b v0 sz sz' v : Nat} {τ0 : TY} {M0 : ME} (h : AP s0 τ0 M0 b v0 sz τ M v) (h1 : sz ≤ sz') (ht : ∀ q, q < s0 → τ' q = τ q) (hm : ∀ q, q < s0 → M' q = M q) : AP s0 τ0 M0 b v0 sz' τ' M' v := by
  obtain ⟨a1, a2, a3, a4⟩ := h
  exact ⟨by omega, fun q hq => (ht q hq).trans (a2 q hq), fun q hq x y => (hm q hq).trans (a3 q hq x y), a4.elim Or.inl (fun w => Or.inr ⟨w.1, by omega⟩)⟩
end PFS
theorem sl_t : ∀ k, k < 19 → (0 : Int32) ≤ nI k - 9 → ¬ k < 9 := by decide
theorem sl_f : ∀ k, k < 19 → ¬ (0 : Int32) ≤ nI k - 9 → k < 9 := by decide
section ABS
variable {l : Launch} {D : va_G} {cA : Nat → ClassId} {n0 : Nat} {XW : State → Heap → Prop} {nm : MI} {d bk bn sz : Nat} {τ : TY} {M : ME} {Q : QT} {QX : QXT} {ls st : List Value} {pc pc' idx : Nat}
theorem T_abs {x : Int32} (h : Cond.methodLink nm.y.cls idx Lib.Math.abs.name ∈ GW ∧ Cond.static Lib.Math.abs.name ∈ GW ∧ Cond.initialized "java/lang/Math" ∈ GW ∧ Cond.code Lib.Math.abs.name Lib.Math.abs.code 1 (some .int) ∈ GW) (hdd : 1 ≤ d) (hcat : (st.map fun v => v.category).sum ≤ 8) (hd : decode nm.cc pc = .ok (.invokestatic idx, 3)) (hp : pc + 3 = pc')
    (k : T l D cA n0 XW nm d bk bn sz τ M pc' ls (.int (if 0 ≤ x then x else 0 - x) :: st) Q QX) : T l D cA n0 XW nm d bk bn sz τ M pc ls (.int x :: st) Q QX := by
  subst hp
  intro p e R s m args below meth c H locs cells slots mc ms la Z X hR hS g1 g2 hL r1 r2 r3
  obtain ⟨hx, hbc, hml, -, hown, hSW, hsz, -, -, hdR, hlR, hmc, hms, -⟩ := id X
  have hts := hSW.words (args := args)
  obtain ⟨w1, w2, w3, w4⟩ := h
  exact va_mabs hx hbc (hml.trans hL.1.symm) hown (hts _ w1) (hts _ w2) (hts _ w3) (hts _ w4) (by omega) (by omega) (by omega) (by omega) hd (k p e R s m args below meth c H locs cells slots mc ms la Z X hR hS g1 g2 hL r1 r2 r3)
end ABS
theorem ab_i : ∀ k, k < 19 → (if (0 : Int32) ≤ nI k - 9 then nI k - 9 else 0 - (nI k - 9)) = nI (if k < 9 then 9 - k else k - 9) := by decide
set_option maxHeartbeats 1000000 in
theorem c_X11_init {l : Launch} {D : va_G} {cA : Nat → ClassId} {n0 : Nat} {sg adK adV : Nat → Nat} {sgA smA wdA bS LS : Nat} {xs : Nat → Int32} (hX : SF n0 (XW0 sg adK adV sgA smA wdA n0 bS LS xs)) {sz : Nat} {τ : TY} {M : ME} {j : Nat} {V : Nat → Nat → Nat → Int32} (ht : τ j = (9, 0)) (hj : j < sz) (hm : ∀ c, c < 3 → M j c = .int 0) : CT l D cA n0 (XW0 sg adK adV sgA smA wdA n0 bS LS xs) mX11_init 1 5 0 sz τ M [.ref j] (fun v' sz' τ' M' => v' = none ∧ sz' = sz + 5 ∧ (PF τ' M' j (sz + 5) (fun f => sz + (f - 3)) (fun _ => 0) (fun _ => 0) (fun _ _ => 0) V) ∧ (∀ q, q < sz → τ' q = τ q) ∧ ∀ q, q < sz → q ≠ j → M' q = M q) := by
  refine CT.of (ls := [.ref j]) (by decide) (Nat.le_of_ble_eq_true rfl) rfl ?_
  refine T_aload0 dX11_init_0 rfl ?_
  refine T_obj ko11_1 ko1 ko2 (by decide) (Nat.le_of_ble_eq_true rfl) dX11_init_1 rfl ?_
  refine T_aload0 dX11_init_4 rfl ?_
  refine T_iconst (0) dX11_init_5 rfl rfl ?_
  refine T_anewA (N := 0) (bn := 0) (inGW (List.mem_of_getElem? (i := 1173) (by decide +kernel)) (by decide +kernel)) (fun _ _ h => h.2.2.2.2.2.2) rfl (by decide) dX11_init_6 rfl ?_
  refine p11_9 rfl (by unfold tyN; (repeat rw [if_neg (by omega)]); exact ht) dX11_init_9 rfl ?_
  refine T_aload0 dX11_init_12 rfl ?_
  refine T_iconst (0) dX11_init_13 rfl rfl ?_
  refine T_anewA (N := 0) (bn := 0) (inGW (List.mem_of_getElem? (i := 1173) (by decide +kernel)) (by decide +kernel)) (fun _ _ h => h.2.2.2.2.2.2) rfl (by decide) dX11_init_14 rfl ?_
  refine p11_15 rfl (by unfold tyN; (repeat rw [if_neg (by omega)]); exact ht) dX11_init_17 rfl ?_
  refine T_aload0 dX11_init_20 rfl ?_
  refine T_iconst (0) dX11_init_21 rfl rfl ?_
  refine T_anewA (N := 0) (bn := 0) (inGW (List.mem_of_getElem? (i := 1173) (by decide +kernel)) (by decide +kernel)) (fun _ _ h => h.2.2.2.2.2.2) rfl (by decide) dX11_init_22 rfl ?_
  refine p11_18 rfl (by unfold tyN; (repeat rw [if_neg (by omega)]); exact ht) dX11_init_25 rfl ?_
  refine T_aload0 dX11_init_28 rfl ?_
  refine T_iconst (0) dX11_init_29 rfl rfl ?_
  refine T_anewA (N := 0) (bn := 0) (inGW (List.mem_of_getElem? (i := 1173) (by decide +kernel)) (by decide +kernel)) (fun _ _ h => h.2.2.2.2.2.2) rfl (by decide) dX11_init_30 rfl ?_
  refine p11_21 rfl (by unfold tyN; (repeat rw [if_neg (by omega)]); exact ht) dX11_init_33 rfl ?_
  refine T_aload0 dX11_init_36 rfl ?_
  refine T_iconst (0) dX11_init_37 rfl rfl ?_
  refine T_anewA (N := 0) (bn := 0) (inGW (List.mem_of_getElem? (i := 1173) (by decide +kernel)) (by decide +kernel)) (fun _ _ h => h.2.2.2.2.2.2) rfl (by decide) dX11_init_38 rfl ?_
  refine p11_24 rfl (by unfold tyN; (repeat rw [if_neg (by omega)]); exact ht) dX11_init_41 rfl ?_
  refine T_vret rfl dX11_init_44 ?_
  refine ⟨rfl, rfl, ⟨⟨(by unfold tyN; (repeat rw [if_neg (by omega)]); exact ht), by omega, fun c hc => ?_⟩, fun f h3 h8 => ⟨?_, Nat.le_refl _, (by dsimp only; omega), (by dsimp only; omega)⟩, fun f g _ _ _ _ z => (by dsimp only at z; omega), fun f i _ _ z => absurd z (Nat.not_lt_zero _), fun f i i2 _ _ z => absurd z (Nat.not_lt_zero _)⟩, fun q hq => ?_, fun q hq hn => ?_⟩
  · repeat (first | rw [up_k (by omega)] | rw [meN_n (by omega)])
    exact hm c hc
  · rcases (by omega : f = 3 ∨ f = 4 ∨ f = 5 ∨ f = 6 ∨ f = 7) with rfl | rfl | rfl | rfl | rfl
    all_goals refine And.intro (by dsimp only; unfold tyN; repeat (first | rw [if_pos (by omega)] | rw [if_neg (by omega)])) (by dsimp only; (repeat (first | rw [up_s] | rw [up_k (by decide)] | rw [meN_n (by omega)])); try rfl)
  · unfold tyN; repeat rw [if_neg (by omega)]
  · repeat (first | rw [up_a hn] | rw [meN_n (by omega)])
