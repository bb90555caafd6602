/-! what is read can be carried out -/
def RUN (c : Nat) (ρ : RH) (w : Nat → Int32) (f : Nat) (κ : Nat → Int32) (s : PS) : (Nat → Int32) × Nat := evF c ρ s.2.2.1 w f κ (s.2.1 - f)
def SJ (o : Nat) : Prop := (o = 44 ∨ (16 ≤ o ∧ o ≤ 19) ∨ (o = 20 ∨ o = 21 ∨ o = 6) ∨ (o = 3 ∨ o = 22)) ∨ JnOK o
def OKS (c : Nat) (ρ : RH) (w : Nat → Int32) (f : Nat) (κ : Nat → Int32) (s s' : PS) : Prop := ∀ k, s.2.1 ≤ k → k < s'.2.1 → tkN (s'.2.2.1 k) ≤ (evF c ρ s'.2.2.1 w f κ (k - f)).2 ∧ SJ (s'.2.2.1 k)
def NP (bb : Bool) (s s' : PS) : Prop := EXT s s' ∧ ∀ (c : Nat) (ρ : RH) (w : Nat → Int32) (f : Nat) (κ : Nat → Int32), f ≤ s.2.1 → OKS c ρ w f κ s s' ∧ (RUN c ρ w f κ s').2 = (RUN c ρ w f κ s).2 + 1 ∧ (∀ i, i < (RUN c ρ w f κ s).2 → (RUN c ρ w f κ s').1 i = (RUN c ρ w f κ s).1 i) ∧ (bb = true → b01 ((RUN c ρ w f κ s').1 (RUN c ρ w f κ s).2))
def LPr (bb : Bool) (s s' : PS) : Prop := EXT s s' ∧ ∀ (c : Nat) (ρ : RH) (w : Nat → Int32) (f : Nat) (κ : Nat → Int32), f ≤ s.2.1 → 1 ≤ (RUN c ρ w f κ s).2 → OKS c ρ w f κ s s' ∧ (RUN c ρ w f κ s').2 = (RUN c ρ w f κ s).2 ∧ (∀ i, i + 1 < (RUN c ρ w f κ s).2 → (RUN c ρ w f κ s').1 i = (RUN c ρ w f κ s).1 i) ∧ (bb = true → b01 ((RUN c ρ w f κ s).1 ((RUN c ρ w f κ s).2 - 1)) → b01 ((RUN c ρ w f κ s').1 ((RUN c ρ w f κ s).2 - 1)))
section NPS
variable {K : Nat → Nat} {vv : Nat → Int32} {s s' s'' s3 : PS} {q q' : PQ} {o o2 m d c f n : Nat} {x : Int32} {ρ : RH} {w κ : Nat → Int32} {bb b2 : Bool} {σ σ' : Nat → Nat}
theorem evF_c : ∀ n, (∀ i, i < f + n → σ' i = σ i) → evF c ρ σ' w f κ n = evF c ρ σ w f κ n
  | 0, _ => rfl
  | n + 1, h => by
    show stpF c ρ (σ' (f + n)) (w (f + n)) _ = stpF c ρ (σ (f + n)) (w (f + n)) _
    rw [evF_c n (fun i hi => h i (by omega)), h (f + n) (by omega)]
theorem EXT.stp : EXT s (stp s o x) := ⟨Nat.le_succ _, fun i hi => u1_i (by omega)⟩
theorem RUN.stp9 (hf : f ≤ s.2.1) : RUN c ρ w f κ (stp s o x) = stpF c ρ o (w s.2.1) (RUN c ρ w f κ s) := by
  show evF c ρ (u1 s.2.2.1 s.2.1 o) w f κ (s.2.1 + 1 - f) = _
  rw [show s.2.1 + 1 - f = s.2.1 - f + 1 by omega]
  show stpF c ρ (u1 s.2.2.1 s.2.1 o (f + (s.2.1 - f))) (w (f + (s.2.1 - f))) (evF c ρ (u1 s.2.2.1 s.2.1 o) w f κ (s.2.1 - f)) = _
  rw [show f + (s.2.1 - f) = s.2.1 by omega, u1_s, evF_c (σ := s.2.2.1) _ (fun i hi => u1_i (by omega))]
  rfl
theorem OKS.tr (a : OKS c ρ w f κ s s') (g : OKS c ρ w f κ s' s'') (e : EXT s' s'') (hf : f ≤ s.2.1) : OKS c ρ w f κ s s'' := fun k h1 h2 => by
  by_cases h : k < s'.2.1
  · have := a k h1 h
    rw [e.2 k h, evF_c (σ := s'.2.2.1) _ (fun i hi => e.2 i (by omega))]; exact this
  · exact g k (by omega) h2
theorem OKS.st (h1 : tkN o ≤ (RUN c ρ w f κ s).2) (h2 : SJ o) (hf : f ≤ s.2.1) : OKS c ρ w f κ s (stp s o x) := fun k g1 g2 => by
  have g2' : k < s.2.1 + 1 := g2
  have e : k = s.2.1 := by omega
  subst e
  show tkN (u1 s.2.2.1 s.2.1 o s.2.1) ≤ (evF c ρ (u1 s.2.2.1 s.2.1 o) w f κ (s.2.1 - f)).2 ∧ SJ (u1 s.2.2.1 s.2.1 o s.2.1)
  rw [u1_s, evF_c (σ := s.2.2.1) _ (fun i hi => u1_i (by omega))]
  exact ⟨h1, h2⟩
theorem NP.leaf (h0 : tkN o = 0) (hj : SJ o) : NP false s (stp s o x) := ⟨EXT.stp, fun c ρ w f κ hf => by
  refine ⟨OKS.st (by omega) hj hf, ?_, fun i hi => ?_, fun z => by cases z⟩
  · rw [RUN.stp9 hf]; unfold stpF; rw [h0]; rfl
  · rw [RUN.stp9 hf]; unfold stpF; rw [h0]; exact uI_i (by simp only [Nat.sub_zero]; omega)⟩
theorem NP.un (h0 : tkN o = 1) (hj : SJ o) (h : NP bb s s') (hb : b2 = true → bb = true ∧ ∀ u v, b01 u → b01 (jnF o u v)) : NP b2 s (stp s' o x) := ⟨h.1.tr EXT.stp, fun c ρ w f κ hf => by
  have hf' : f ≤ s'.2.1 := Nat.le_trans hf h.1.1
  obtain ⟨g1, g2, g3, g4⟩ := h.2 c ρ w f κ hf
  refine ⟨g1.tr (OKS.st (by omega) hj hf') EXT.stp hf, ?_, fun i hi => ?_, fun z => ?_⟩
  · rw [RUN.stp9 hf']; unfold stpF; rw [h0]; show (RUN c ρ w f κ s').2 - 1 + 1 = _; omega
  · rw [RUN.stp9 hf']; unfold stpF; rw [h0]; show uI _ ((RUN c ρ w f κ s').2 - 1) _ i = _
    rw [uI_i (by omega)]; exact g3 i hi
  · rw [RUN.stp9 hf']; unfold stpF; rw [h0]; show b01 (uI _ ((RUN c ρ w f κ s').2 - 1) _ (RUN c ρ w f κ s).2)
    rw [show (RUN c ρ w f κ s).2 = (RUN c ρ w f κ s').2 - 1 by omega, uI_s, if_neg (by decide)]
    refine (hb z).2 _ _ ?_
    rw [show (RUN c ρ w f κ s').2 - 1 = (RUN c ρ w f κ s).2 by omega]
    exact g4 (hb z).1⟩
theorem NP.bin (h0 : tkN o = 2) (hj : SJ o) (h : NP bb s s') (h' : NP bb s' s'') (hb : b2 = true → ∀ u v, (bb = true → b01 u ∧ b01 v) → b01 (jnF o u v)) : NP b2 s (stp s'' o x) := ⟨h.1.tr (h'.1.tr EXT.stp), fun c ρ w f κ hf => by
  have hf' : f ≤ s'.2.1 := Nat.le_trans hf h.1.1
  have hf'' : f ≤ s''.2.1 := Nat.le_trans hf' h'.1.1
  obtain ⟨g1, g2, g3, g4⟩ := h.2 c ρ w f κ hf
  obtain ⟨k1, k2, k3, k4⟩ := h'.2 c ρ w f κ hf'
  refine ⟨g1.tr (k1.tr (OKS.st (by omega) hj hf'') EXT.stp hf') (h'.1.tr EXT.stp) hf, ?_, fun i hi => ?_, fun z => ?_⟩
  · rw [RUN.stp9 hf'']; unfold stpF; rw [h0]; show (RUN c ρ w f κ s'').2 - 2 + 1 = _; omega
  · rw [RUN.stp9 hf'']; unfold stpF; rw [h0]; show uI _ ((RUN c ρ w f κ s'').2 - 2) _ i = _
    rw [uI_i (by omega), k3 i (by omega)]; exact g3 i hi
  · rw [RUN.stp9 hf'']; unfold stpF; rw [h0]; show b01 (uI _ ((RUN c ρ w f κ s'').2 - 2) _ (RUN c ρ w f κ s).2)
    rw [show (RUN c ρ w f κ s).2 = (RUN c ρ w f κ s'').2 - 2 by omega, uI_s, if_neg (by decide)]
    refine hb z _ _ (fun y => ⟨?_, ?_⟩)
    · rw [show (RUN c ρ w f κ s'').2 - 2 = (RUN c ρ w f κ s).2 by omega, k3 _ (by omega)]; exact g4 y
    · rw [show (RUN c ρ w f κ s'').2 - 2 + 1 = (RUN c ρ w f κ s').2 by omega]; exact k4 y⟩
theorem NP.seq (h : NP bb s s') (h' : LPr bb s' s'') : NP bb s s'' := ⟨h.1.tr h'.1, fun c ρ w f κ hf => by
  have hf' : f ≤ s'.2.1 := Nat.le_trans hf h.1.1
  obtain ⟨g1, g2, g3, g4⟩ := h.2 c ρ w f κ hf
  obtain ⟨k1, k2, k3, k4⟩ := h'.2 c ρ w f κ hf' (by omega)
  refine ⟨g1.tr k1 h'.1 hf, by omega, fun i hi => by rw [k3 i (by omega)]; exact g3 i hi, fun z => ?_⟩
  have e : (RUN c ρ w f κ s').2 - 1 = (RUN c ρ w f κ s).2 := by omega
  rw [e] at k4
  exact k4 z (g4 z)⟩
theorem LPr.en : LPr bb s s := ⟨EXT.rf s, fun c ρ w f κ hf h1 => ⟨fun k a b => absurd b (by omega), rfl, fun _ _ => rfl, fun _ z => z⟩⟩
theorem LPr.lo (h0 : tkN o = 2) (hj : SJ o) (h : NP bb s s') (h' : LPr bb (stp s' o x) s'') (hb : bb = true → ∀ u v, b01 u → b01 v → b01 (jnF o u v)) : LPr bb s s'' := ⟨h.1.tr (EXT.stp.tr h'.1), fun c ρ w f κ hf h1 => by
  have hf' : f ≤ s'.2.1 := Nat.le_trans hf h.1.1
  obtain ⟨g1, g2, g3, g4⟩ := h.2 c ρ w f κ hf
  have e9 := RUN.stp9 (c := c) (ρ := ρ) (w := w) (κ := κ) (o := o) (x := x) hf'
  have e2 : (RUN c ρ w f κ (stp s' o x)).2 = (RUN c ρ w f κ s).2 := by rw [e9]; unfold stpF; rw [h0]; show (RUN c ρ w f κ s').2 - 2 + 1 = _; omega
  obtain ⟨k1, k2, k3, k4⟩ := h'.2 c ρ w f κ (Nat.le_trans hf' (Nat.le_succ _)) (by omega)
  refine ⟨g1.tr ((OKS.st (by omega) hj hf').tr k1 h'.1 hf') (EXT.stp.tr h'.1) hf, by omega, fun i hi => ?_, fun z y => ?_⟩
  · rw [k3 i (by omega), e9]; unfold stpF; rw [h0]; show uI _ ((RUN c ρ w f κ s').2 - 2) _ i = _
    rw [uI_i (by omega)]; exact g3 i (by omega)
  · rw [e2] at k4
    refine k4 z ?_
    rw [e9]; unfold stpF; rw [h0]; show b01 (uI _ ((RUN c ρ w f κ s').2 - 2) _ ((RUN c ρ w f κ s).2 - 1))
    rw [show (RUN c ρ w f κ s).2 - 1 = (RUN c ρ w f κ s').2 - 2 by omega, uI_s, if_neg (by decide)]
    refine hb z _ _ ?_ ?_
    · rw [show (RUN c ρ w f κ s').2 - 2 = (RUN c ρ w f κ s).2 - 1 by omega, g3 _ (by omega)]; exact y
    · rw [show (RUN c ρ w f κ s').2 - 2 + 1 = (RUN c ρ w f κ s).2 by omega]; exact g4 z⟩
theorem tk_l0 : ∀ o, o < 48 → (o = 44 ∨ (16 ≤ o ∧ o ≤ 19) ∨ (o = 20 ∨ o = 21 ∨ o = 6) ∨ (o = 3 ∨ o = 22)) → tkN o = 0 := by decide +kernel
theorem tk_l2 : ∀ o, o < 48 → (o = 26 ∨ o = 27 ∨ o = 36 ∨ o = 37 ∨ o = 34 ∨ o = 35 ∨ o = 24 ∨ o = 25 ∨ (38 ≤ o ∧ o ≤ 42)) → tkN o = 2 := by decide +kernel
theorem jn_cm (h : 38 ≤ o ∧ o ≤ 42) (u v : Int32) : b01 (jnF o u v) := by
  rcases (show o = 38 ∨ o = 39 ∨ o = 40 ∨ o = 41 ∨ o = 42 by omega) with rfl | rfl | rfl | rfl | rfl <;> exact b01_j
theorem jn_23 (u v : Int32) (h : b01 u) : b01 (jnF 23 u v) := by rcases h with rfl | rfl <;> (first | exact Or.inr rfl | exact Or.inl rfl)
theorem jn_24 (u v : Int32) (h : b01 u) (g : b01 v) : b01 (jnF 24 u v) := by rcases h with rfl | rfl <;> rcases g with rfl | rfl <;> (first | exact Or.inr rfl | exact Or.inl rfl)
theorem jn_25 (u v : Int32) (h : b01 u) (g : b01 v) : b01 (jnF 25 u v) := by rcases h with rfl | rfl <;> rcases g with rfl | rfl <;> (first | exact Or.inr rfl | exact Or.inl rfl)
def MP9 (m : Nat) (s s' : PS) : Prop := match m with | 0 => NP false s s' | 1 => NP false s s' | 3 => NP false s s' | 2 => LPr false s s' | 4 => LPr false s s' | 5 => NP true s s' | 6 => NP true s s' | 8 => NP true s s' | 7 => LPr true s s' | 9 => LPr true s s' | _ + 10 => True
theorem tkQ_np {k : Nat} {bb : Bool} (z : (tkQ K k q).1 = true) (h : NP bb s q.2) : NP bb s (tkQ K k q).2 := by rw [(tkQ_t z).2.2]; exact h
theorem tkQ_pn {k : Nat} {bb : Bool} (z : (tkQ K k q).1 = true) (h : NP bb (tkQ K k q).2 s) : NP bb q.2 s := by rw [(tkQ_t z).2.2] at h; exact h
theorem tcQ_pn {bb : Bool} (z : (tcQ K q).1 = true) (h : NP bb (tcQ K q).2 s) : NP bb q.2 s := by rw [tcQ_t9 z] at h; exact h
theorem PR.mp9 (h : PR K vv m d q q') : q'.1 = true → q.1 = true ∧ MP9 m q.2 q'.2 := by
  refine h (fun m d q q' => q'.1 = true → q.1 = true ∧ MP9 m q.2 q'.2) ⟨?_,
   ?_,
   ?_,
   ?_,
   ?_,
   ?_,
   ?_,
   ?_,
   ?_,
   ?_,
   ?_,
   ?_,
   ?_,
   ?_,
   ?_,
   ?_,
   ?_,
   ?_,
   ?_,
   ?_,
   ?_,
   ?_,
   ?_,
   ?_,
   ?_,
   ?_,
   ?_,
   ?_,
   ?_,
   ?_,
   ?_,
   ?_⟩
  · exact fun m d s z => absurd z (by simp)
  · exact fun d s h z => ⟨rfl, NP.leaf (by decide) (Or.inl (Or.inl rfl))⟩
  · exact fun d s h z => ⟨rfl, NP.leaf (tk_l0 _ (by omega) (Or.inr (Or.inl h))) (Or.inl (Or.inr (Or.inl h)))⟩
  · exact fun d s h e z => ⟨rfl, NP.leaf (o := K s.1) (x := nI (s.1 + 1)) (tk_l0 _ (by omega) (Or.inr (Or.inr (Or.inl h)))) (Or.inl (Or.inr (Or.inr (Or.inl h))))⟩
  · exact fun _ _ _ _ z => absurd z (by simp)
  · exact fun d s h e z => ⟨rfl, NP.leaf (o := K s.1) (x := nI (s.1 + 1)) (tk_l0 _ (by omega) (Or.inr (Or.inr (Or.inr h)))) (Or.inl (Or.inr (Or.inr (Or.inr h))))⟩
  · exact fun _ _ _ _ z => absurd z (by simp)
  · exact fun d s q h1 h2 g z => ⟨rfl, NP.un (by decide) (Or.inr (by unfold JnOK; omega)) (g z).2 (fun z => by cases z)⟩
  · exact fun _ _ _ _ z => absurd z (by simp)
  · exact fun d s q h1 h2 g z => ⟨rfl, tkQ_np z (g (tkQ_t z).1).2⟩
  · exact fun _ _ _ _ z => absurd z (by simp)
  · exact fun d s q q2 h1 h2 h3 g1 g2 z => ⟨rfl, by
      have z1 : (tkQ K 29 q2).1 = true := z
      have z2 := g2 (tkQ_t z1).1
      have hN := NP.bin (b2 := false) (o := K s.1) (x := 0) (tk_l2 _ (by omega) (by omega)) (Or.inr (by unfold JnOK; omega)) (g1 (tkQ_t z2.1).1).2 (tkQ_pn z2.1 z2.2) (fun z => by cases z)
      rw [tkQ_y (tkQ_t z1).1 (tkQ_t z1).2.1]
      exact hN⟩
  · exact fun _ _ _ _ z => absurd z (by simp)
  · exact fun _ _ _ _ _ z => absurd z (by simp)
  · exact fun _ _ _ z => absurd z (by simp)
  · exact fun d s q q2 g1 g2 z => ⟨(g1 (g2 z).1).1, NP.seq (g1 (g2 z).1).2 (g2 z).2⟩
  · exact fun d s q q2 h g1 g2 z => ⟨rfl, LPr.lo (o := K s.1) (tk_l2 _ (by omega) (by omega)) (Or.inr (by unfold JnOK; omega)) (g1 (g2 z).1).2 (g2 z).2 (fun z => by cases z)⟩
  · exact fun d s h z => ⟨rfl, LPr.en⟩
  · exact fun d s q q2 g1 g2 z => ⟨(g1 (g2 z).1).1, NP.seq (g1 (g2 z).1).2 (g2 z).2⟩
  · exact fun d s q q2 h g1 g2 z => ⟨rfl, LPr.lo (o := K s.1) (tk_l2 _ (by omega) (by omega)) (Or.inr (by unfold JnOK; omega)) (g1 (g2 z).1).2 (g2 z).2 (fun z => by cases z)⟩
  · exact fun d s h z => ⟨rfl, LPr.en⟩
  · exact fun d s q h1 h2 g z => ⟨rfl, NP.un (by decide) (Or.inr (by unfold JnOK; omega)) (g z).2 (fun _ => ⟨rfl, fun u v h => jn_23 u v h⟩)⟩
  · exact fun _ _ _ _ z => absurd z (by simp)
  · exact fun d s q h1 h2 g z => ⟨rfl, tkQ_np z (g (tkQ_t z).1).2⟩
  · exact fun _ _ _ _ z => absurd z (by simp)
  · exact fun d s q q2 h1 h2 g1 g2 z => by
      have z2 := g2 z
      have hr := tcQ_rg z2.1
      exact ⟨rfl, NP.bin (b2 := true) (tk_l2 _ (by omega) (by omega)) (Or.inr (by unfold JnOK; omega)) (g1 (tcQ_le z2.1).1).2 (tcQ_pn z2.1 z2.2) (fun _ u v _ => jn_cm hr u v)⟩
  · exact fun d s q q2 g1 g2 z => ⟨(g1 (g2 z).1).1, NP.seq (g1 (g2 z).1).2 (g2 z).2⟩
  · exact fun d s q q2 h g1 g2 z => ⟨rfl, LPr.lo (o := 24) (by decide) (Or.inr (by unfold JnOK; omega)) (g1 (g2 z).1).2 (g2 z).2 (fun _ => jn_24)⟩
  · exact fun d s h z => ⟨rfl, LPr.en⟩
  · exact fun d s q q2 g1 g2 z => ⟨(g1 (g2 z).1).1, NP.seq (g1 (g2 z).1).2 (g2 z).2⟩
  · exact fun d s q q2 h g1 g2 z => ⟨rfl, LPr.lo (o := 25) (by decide) (Or.inr (by unfold JnOK; omega)) (g1 (g2 z).1).2 (g2 z).2 (fun _ => jn_25)⟩
  · exact fun d s h z => ⟨rfl, LPr.en⟩
end NPS
