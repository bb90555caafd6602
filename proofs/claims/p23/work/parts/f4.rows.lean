/-! the law's own loop: what it stands on -/
abbrev mLN (nn : String) : MI := (⟨RL, nn, "([I)Z"⟩, cL_law, 34, some .boolean, [(1, 1, 1, 1)], [])
theorem lg_self (x : Int64) : lg_cmp x x = 0 := by
  unfold lg_cmp
  first | (rw [if_neg Int64.lt_irrefl, if_neg Int64.lt_irrefl]; done) | (simp; done)
section LAWR
variable {l : Launch} {D : va_G} {cA : Nat → ClassId} {n0 : Nat} {XW : State → Heap → Prop} {nm : MI} {d bk bn sz : Nat} {τ : TY} {M : ME} {Q : QT} {QX : QXT} {ls st : List Value} {pc : Nat}
theorem T_lload14 {pc' : Nat} {a0 a1 a2 a3 a4 a5 a6 a7 a8 a9 a10 a11 a12 a13 : Value} {x : Int64} (hd : decode nm.cc pc = .ok (.lload 14, 2)) (hp : pc + 2 = pc') (k : T l D cA n0 XW nm d bk bn sz τ M pc' (a0 :: a1 :: a2 :: a3 :: a4 :: a5 :: a6 :: a7 :: a8 :: a9 :: a10 :: a11 :: a12 :: a13 :: .long x :: ls) (.long x :: st) Q QX) : T l D cA n0 XW nm d bk bn sz τ M pc (a0 :: a1 :: a2 :: a3 :: a4 :: a5 :: a6 :: a7 :: a8 :: a9 :: a10 :: a11 :: a12 :: a13 :: .long x :: ls) st Q QX := by
  subst hp
  exact T_go (fun p e R s m args below meth c H locs cells slots la Z hx hb hL kk => lv_lload hx hb hd (hL.get (i := 14) rfl rfl) kk) k
theorem T_lstore14 {pc' : Nat} {a0 a1 a2 a3 a4 a5 a6 a7 a8 a9 a10 a11 a12 a13 : Value} {w w2 : Value} {x : Int64} (hc : a13.category = 1) (hn : 15 < nm.nL) (hd : decode nm.cc pc = .ok (.lstore 14, 2)) (hp : pc + 2 = pc') (k : T l D cA n0 XW nm d bk bn sz τ M pc' (a0 :: a1 :: a2 :: a3 :: a4 :: a5 :: a6 :: a7 :: a8 :: a9 :: a10 :: a11 :: a12 :: a13 :: .long x :: UU :: ls) st Q QX) : T l D cA n0 XW nm d bk bn sz τ M pc (a0 :: a1 :: a2 :: a3 :: a4 :: a5 :: a6 :: a7 :: a8 :: a9 :: a10 :: a11 :: a12 :: a13 :: w :: w2 :: ls) (.long x :: st) Q QX := by
  subst hp
  have ee : lset2 (a0 :: a1 :: a2 :: a3 :: a4 :: a5 :: a6 :: a7 :: a8 :: a9 :: a10 :: a11 :: a12 :: a13 :: w :: w2 :: ls) 14 (.long x) = (a0 :: a1 :: a2 :: a3 :: a4 :: a5 :: a6 :: a7 :: a8 :: a9 :: a10 :: a11 :: a12 :: a13 :: .long x :: UU :: ls) := by simp [lset2, hc]
  exact T_gs (fun p e R s m args below meth c H locs cells slots la Z hx hb hL kk => lv_lstore hx hb hd hL hn rfl (fun la' h => kk la' (ee ▸ LV.st2 h))) k
theorem T_jI (J : Nat) {bk2 bn2 : Nat} (P : Int32 → Prop) (h : (∀ x, P x → T l D cA n0 XW nm d bk2 bn2 sz τ M J ls (.int x :: st) Q QX) → T l D cA n0 XW nm d bk bn sz τ M pc ls st Q QX) (k : ∀ x, P x → T l D cA n0 XW nm d bk2 bn2 sz τ M J ls (.int x :: st) Q QX) : T l D cA n0 XW nm d bk bn sz τ M pc ls st Q QX := h k
theorem T_jN (J : Nat) {bk2 bn2 : Nat} (h : T l D cA n0 XW nm d bk2 bn2 sz τ M J ls st Q QX → T l D cA n0 XW nm d bk bn sz τ M pc ls st Q QX) (k : T l D cA n0 XW nm d bk2 bn2 sz τ M J ls st Q QX) : T l D cA n0 XW nm d bk bn sz τ M pc ls st Q QX := h k
theorem T_jIM (J : Nat) {bk2 bn2 : Nat} (P : Int32 → ME → Prop) (h : (∀ x M', P x M' → T l D cA n0 XW nm d bk2 bn2 sz τ M' J ls (.int x :: st) Q QX) → T l D cA n0 XW nm d bk bn sz τ M pc ls st Q QX) (k : ∀ x M', P x M' → T l D cA n0 XW nm d bk2 bn2 sz τ M' J ls (.int x :: st) Q QX) : T l D cA n0 XW nm d bk bn sz τ M pc ls st Q QX := h k
theorem T_jNM (J : Nat) {bk2 bn2 : Nat} (P : ME → Prop) (h : (∀ M', P M' → T l D cA n0 XW nm d bk2 bn2 sz τ M' J ls st Q QX) → T l D cA n0 XW nm d bk bn sz τ M pc ls st Q QX) (k : ∀ M', P M' → T l D cA n0 XW nm d bk2 bn2 sz τ M' J ls st Q QX) : T l D cA n0 XW nm d bk bn sz τ M pc ls st Q QX := h k
theorem T_top {v : Int32} (h : ∀ w, T l D cA n0 XW nm d bk bn sz τ M pc ls (.int w :: st) Q QX) : T l D cA n0 XW nm d bk bn sz τ M pc ls (.int v :: st) Q QX := h v
end LAWR
/-! the law's own rows: from s0 on the horses' (b rows of 10), the logs' (c of 4), the frost (a), the needs (b), what was foreseen (4) -/
def AFt (τ : TY) (s0 a b c : Nat) : Prop := τ s0 = (108, b) ∧ (∀ i, i < b → τ (s0 + 1 + i) = (100, 10)) ∧ τ (s0 + 1 + b) = (108, c) ∧ (∀ i, i < c → τ (s0 + 1 + b + 1 + i) = (100, 4)) ∧ τ (s0 + 2 + b + c) = (100, a) ∧ τ (s0 + 3 + b + c) = (100, b)
def AF (M : ME) (s0 a b c : Nat) (ρ : RH) (h n t g : Nat) : Prop :=
  ((∀ i, i < b → M s0 i = .ref (s0 + 1 + i)) ∧ ∀ i, i < c → M (s0 + 1 + b) i = .ref (s0 + 1 + b + 1 + i)) ∧
  (∀ i, i < h → ∀ k, k < 10 → M (s0 + 1 + i) k = .int (hsF c ρ i k)) ∧ (∀ i, i < n → M (s0 + 3 + b + c) i = .int (nvF c ρ i)) ∧ (∀ i, i < t → M (s0 + 2 + b + c) i = .int (ρ 43 i)) ∧
  (∀ i, i < g → ∀ k, k < 4 → M (s0 + 1 + b + 1 + i) k = .int (lgF ρ i k)) ∧ (h ≤ b ∧ n ≤ b ∧ t ≤ a ∧ g ≤ c)
section AFS
variable {τ τ' : TY} {M M' : ME} {s0 a b c h n t g i k : Nat} {ρ : RH} {v : Value}
theorem AFt.fr (A : AFt τ s0 a b c) (e : ∀ q, s0 ≤ q → q < s0 + 4 + b + c → τ' q = τ q) : AFt τ' s0 a b c := by
  obtain ⟨h1, h2, h3, h4, h5, h6⟩ := A
  exact ⟨(e _ (by omega) (by omega)).trans h1, fun i hi => (e _ (by omega) (by omega)).trans (h2 i hi), (e _ (by omega) (by omega)).trans h3, fun i hi => (e _ (by omega) (by omega)).trans (h4 i hi), (e _ (by omega) (by omega)).trans h5, (e _ (by omega) (by omega)).trans h6⟩
theorem AF.fr (A : AF M s0 a b c ρ h n t g) (e : ∀ q, s0 ≤ q → q < s0 + 4 + b + c → M' q = M q) : AF M' s0 a b c ρ h n t g := by
  obtain ⟨⟨p1, p2⟩, h1, h2, h3, h4, h5, h6, h7, h8⟩ := A
  exact ⟨⟨fun i hi => (congrFun (e _ (by omega) (by omega)) i).trans (p1 i hi), fun i hi => (congrFun (e _ (by omega) (by omega)) i).trans (p2 i hi)⟩, fun i hi k hk => (congrFun (e _ (by omega) (by omega)) k).trans (h1 i hi k hk), fun i hi => (congrFun (e _ (by omega) (by omega)) i).trans (h2 i hi), fun i hi => (congrFun (e _ (by omega) (by omega)) i).trans (h3 i hi), fun i hi k hk => (congrFun (e _ (by omega) (by omega)) k).trans (h4 i hi k hk), h5, h6, h7, h8⟩
theorem AF.upH (A : AF M s0 a b c ρ h n t g) (h1 : h ≤ i) (h2 : i < b) : AF (up M (s0 + 1 + i) k v) s0 a b c ρ h n t g := by
  obtain ⟨⟨p1, p2⟩, q1, q2, q3, q4, q5⟩ := A
  exact ⟨⟨fun j hj => (congrFun (up_a (by omega)) j).trans (p1 j hj), fun j hj => (congrFun (up_a (by omega)) j).trans (p2 j hj)⟩, fun j hj m hm => (congrFun (up_a (by omega)) m).trans (q1 j hj m hm), fun j hj => (congrFun (up_a (by omega)) j).trans (q2 j hj), fun j hj => (congrFun (up_a (by omega)) j).trans (q3 j hj), fun j hj m hm => (congrFun (up_a (by omega)) m).trans (q4 j hj m hm), q5⟩
theorem AF.upG (A : AF M s0 a b c ρ h n t g) (h1 : g ≤ i) (h2 : i < c) : AF (up M (s0 + 1 + b + 1 + i) k v) s0 a b c ρ h n t g := by
  obtain ⟨⟨p1, p2⟩, q1, q2, q3, q4, q5⟩ := A
  exact ⟨⟨fun j hj => (congrFun (up_a (by omega)) j).trans (p1 j hj), fun j hj => (congrFun (up_a (by omega)) j).trans (p2 j hj)⟩, fun j hj m hm => (congrFun (up_a (by omega)) m).trans (q1 j hj m hm), fun j hj => (congrFun (up_a (by omega)) j).trans (q2 j hj), fun j hj => (congrFun (up_a (by omega)) j).trans (q3 j hj), fun j hj m hm => (congrFun (up_a (by omega)) m).trans (q4 j hj m hm), q5⟩
theorem AF.upN (A : AF M s0 a b c ρ h n t g) (h2 : n < b) : AF (up M (s0 + 3 + b + c) n (.int (nvF c ρ n))) s0 a b c ρ h (n + 1) t g := by
  obtain ⟨⟨p1, p2⟩, q1, q2, q3, q4, q5, q6, q7, q8⟩ := A
  refine ⟨⟨fun j hj => (congrFun (up_a (by omega)) j).trans (p1 j hj), fun j hj => (congrFun (up_a (by omega)) j).trans (p2 j hj)⟩, fun j hj m hm => (congrFun (up_a (by omega)) m).trans (q1 j hj m hm), fun j hj => ?_, fun j hj => (congrFun (up_a (by omega)) j).trans (q3 j hj), fun j hj m hm => (congrFun (up_a (by omega)) m).trans (q4 j hj m hm), q5, by omega, q7, q8⟩
  by_cases e : j = n
  · subst e; rw [up_s]
  · rw [up_k e]; exact q2 j (by omega)
theorem AF.upS (A : AF M s0 a b c ρ h n t g) (h2 : t < a) : AF (up M (s0 + 2 + b + c) t (.int (ρ 43 t))) s0 a b c ρ h n (t + 1) g := by
  obtain ⟨⟨p1, p2⟩, q1, q2, q3, q4, q5, q6, q7, q8⟩ := A
  refine ⟨⟨fun j hj => (congrFun (up_a (by omega)) j).trans (p1 j hj), fun j hj => (congrFun (up_a (by omega)) j).trans (p2 j hj)⟩, fun j hj m hm => (congrFun (up_a (by omega)) m).trans (q1 j hj m hm), fun j hj => (congrFun (up_a (by omega)) j).trans (q2 j hj), fun j hj => ?_, fun j hj m hm => (congrFun (up_a (by omega)) m).trans (q4 j hj m hm), q5, q6, by omega, q8⟩
  by_cases e : j = t
  · subst e; rw [up_s]
  · rw [up_k e]; exact q3 j (by omega)
theorem AF.addH (A : AF M s0 a b c ρ h n t g) (h2 : h < b) (e : ∀ k, k < 10 → M (s0 + 1 + h) k = .int (hsF c ρ h k)) : AF M s0 a b c ρ (h + 1) n t g := by
  obtain ⟨p, q1, q2, q3, q4, q5, q6, q7, q8⟩ := A
  refine ⟨p, fun j hj m hm => ?_, q2, q3, q4, by omega, q6, q7, q8⟩
  by_cases e2 : j = h
  · subst e2; exact e m hm
  · exact q1 j (by omega) m hm
theorem AF.addG (A : AF M s0 a b c ρ h n t g) (h2 : g < c) (e : ∀ k, k < 4 → M (s0 + 1 + b + 1 + g) k = .int (lgF ρ g k)) : AF M s0 a b c ρ h n t (g + 1) := by
  obtain ⟨p, q1, q2, q3, q4, q5, q6, q7, q8⟩ := A
  refine ⟨p, q1, q2, q3, fun j hj m hm => ?_, q5, q6, q7, by omega⟩
  by_cases e2 : j = g
  · subst e2; exact e m hm
  · exact q4 j (by omega) m hm
theorem AF.ph (A : AF M s0 a b c ρ h n t g) (hi : i < b) : M s0 i = .ref (s0 + 1 + i) := A.1.1 i hi
theorem AF.pg (A : AF M s0 a b c ρ h n t g) (hi : i < c) : M (s0 + 1 + b) i = .ref (s0 + 1 + b + 1 + i) := A.1.2 i hi
theorem AF.vh (A : AF M s0 a b c ρ h n t g) (hi : i < h) (hk : k < 10) : M (s0 + 1 + i) k = .int (hsF c ρ i k) := A.2.1 i hi k hk
theorem AF.vn (A : AF M s0 a b c ρ h n t g) (hi : i < n) : M (s0 + 3 + b + c) i = .int (nvF c ρ i) := A.2.2.1 i hi
theorem AF.vs (A : AF M s0 a b c ρ h n t g) (hi : i < t) : M (s0 + 2 + b + c) i = .int (ρ 43 i) := A.2.2.2.1 i hi
theorem AF.vg (A : AF M s0 a b c ρ h n t g) (hi : i < g) (hk : k < 4) : M (s0 + 1 + b + 1 + i) k = .int (lgF ρ i k) := A.2.2.2.2.1 i hi k hk
end AFS
theorem ifc {p q : Prop} [Decidable p] [Decidable q] (h : p ↔ q) : (if p then (1 : Int32) else 0) = if q then 1 else 0 := by
  by_cases z : p
  · rw [if_pos z, if_pos (h.mp z)]
  · rw [if_neg z, if_neg (fun w => z (h.mpr w))]
abbrev Q1L : QT := fun v' _ _ _ => v' = some (.int 1)
