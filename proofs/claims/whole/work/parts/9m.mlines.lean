/-! the reference reads the lines of stretches, horses and logs -/
section TKS
variable {K : Nat → Nat} {k : Nat} {x : Int32} {q : PQ} {s s' s'' : PS}
theorem tkR_n (h : ¬ q.1 = true) : tkR K k x q = q := if_neg h
theorem tkR_y (h : q.1 = true) (e : K q.2.1 = k) : tkR K k x q = (true, adv (rol q.2 q.2.1 x) 1) := by unfold tkR; rw [if_pos h, if_pos e]
theorem tkR_z (h : q.1 = true) (e : ¬ K q.2.1 = k) : tkR K k x q = (false, q.2) := by unfold tkR; rw [if_pos h, if_neg e]
theorem opR_n (h : ¬ q.1 = true) : opR K k x q = q := if_neg (fun z => h z.1)
theorem opR_z (e : ¬ K q.2.1 = k) : opR K k x q = q := if_neg (fun z => e z.2)
theorem opR_y (h : q.1 = true) (e : K q.2.1 = k) : opR K k x q = (true, adv (rol q.2 q.2.1 x) 1) := if_pos ⟨h, e⟩
theorem opR_t (h : q.1 = true) : (opR K k x q).1 = true := by
  unfold opR; split
  · rfl
  · exact h
/-- of the lines of hauls and waits there are as many -/
def C45 (s s' : PS) : Prop := (cntR s'.2.2.2.2 4 s'.1 = cntR s.2.2.2.2 4 s.1 ∧ cntR s'.2.2.2.2 5 s'.1 = cntR s.2.2.2.2 5 s.1) ∧ ∀ i, s'.1 ≤ i → s'.2.2.2.2 i = 0
theorem C45.rf (hz : ∀ i, s.1 ≤ i → s.2.2.2.2 i = 0) : C45 s s := ⟨⟨rfl, rfl⟩, hz⟩
theorem C45.tr (h : C45 s s') (g : C45 s' s'') : C45 s s'' := ⟨⟨g.1.1.trans h.1.1, g.1.2.trans h.1.2⟩, g.2⟩
theorem C45.ad (h : C45 s s') : C45 s (adv s' 1) := by
  have e0 := h.2 s'.1 (Nat.le_refl _)
  exact ⟨⟨(cntR_n (rl := s'.2.2.2.2) (by rw [e0]; decide)).trans h.1.1, (cntR_n (rl := s'.2.2.2.2) (by rw [e0]; decide)).trans h.1.2⟩, fun i hi => h.2 i (Nat.le_trans (Nat.le_succ _) hi)⟩
theorem C45.ro (h : C45 s s') (h4 : ¬ x = 4) (h5 : ¬ x = 5) : C45 s (adv (rol s' s'.1 x) 1) := by
  refine ⟨⟨?_, ?_⟩, fun i hi => ?_⟩
  · show cntR (uI s'.2.2.2.2 s'.1 x) 4 (s'.1 + 1) = _
    rw [cntR_n (by rw [uI_s]; exact h4), cntR_c (uI_c (Nat.le_refl _))]; exact h.1.1
  · show cntR (uI s'.2.2.2.2 s'.1 x) 5 (s'.1 + 1) = _
    rw [cntR_n (by rw [uI_s]; exact h5), cntR_c (uI_c (Nat.le_refl _))]; exact h.1.2
  · have h9 : s'.1 + 1 ≤ i := hi
    show uI s'.2.2.2.2 s'.1 x i = 0
    rw [uI_i (by omega)]; exact h.2 i (by omega)
theorem C45.psm (h : C45 s s') (m : PSM K s' s'') : C45 s s'' := by
  have z := ZP.psm (V := fun _ => 0) ⟨rfl, rfl, rfl, rfl, rfl, rfl⟩ m h.2
  refine ⟨⟨z.2.2.2.1.trans h.1.1, z.2.2.2.2.1.trans h.1.2⟩, fun i hi => ?_⟩
  rcases m.2.2.2 i with e | ⟨_, e, _⟩
  · rw [e]; exact h.2 i (Nat.le_trans m.1 hi)
  · omega
theorem C45.tq {K : Nat → Nat} {k : Nat} (z : (tkQ K k q).1 = true) (h : C45 s q.2) : C45 s (tkQ K k q).2 := by rw [(tkQ_t z).2.2]; exact h.ad
theorem C45.tr9 (z : (tkR K k x q).1 = true) (h : C45 s q.2) (h4 : ¬ x = 4) (h5 : ¬ x = 5) : C45 s (tkR K k x q).2 := by rw [(tkR_t z).2.2]; exact h.ro h4 h5
theorem C45.op (h : C45 s q.2) (h4 : ¬ x = 4) (h5 : ¬ x = 5) : C45 s (opR K k x q).2 := by
  unfold opR; split
  · exact h.ro h4 h5
  · exact h
theorem opR_1 (z : (opR K k x q).1 = true) : q.1 = true := by
  unfold opR at z; split at z
  · rename_i e; exact e.1
  · exact z
end TKS
theorem lnst_c {K : Nat → Nat} {s : PS} (hz : ∀ i, s.1 ≤ i → s.2.2.2.2 i = 0) (z : (lnst K s).1 = true) : C45 s (lnst K s).2 := by
  have y8 : ((tkR K 44 8 ((tkQ K 3 ((tkR K 44 7 ((opR K 35 19 ((tkQ K 2 ((tkR K 44 6 ((tkQ K 1 ((tkR K 43 1 ((true, adv s 1)))))))))))))))))).1 = true := z
  have y7 : ((tkQ K 3 ((tkR K 44 7 ((opR K 35 19 ((tkQ K 2 ((tkR K 44 6 ((tkQ K 1 ((tkR K 43 1 ((true, adv s 1)))))))))))))))).1 = true := (tkR_t y8).1
  have y6 : ((tkR K 44 7 ((opR K 35 19 ((tkQ K 2 ((tkR K 44 6 ((tkQ K 1 ((tkR K 43 1 ((true, adv s 1)))))))))))))).1 = true := (tkQ_t y7).1
  have y5 : ((opR K 35 19 ((tkQ K 2 ((tkR K 44 6 ((tkQ K 1 ((tkR K 43 1 ((true, adv s 1)))))))))))).1 = true := (tkR_t y6).1
  have y4 : ((tkQ K 2 ((tkR K 44 6 ((tkQ K 1 ((tkR K 43 1 ((true, adv s 1)))))))))).1 = true := opR_1 y5
  have y3 : ((tkR K 44 6 ((tkQ K 1 ((tkR K 43 1 ((true, adv s 1)))))))).1 = true := (tkQ_t y4).1
  have y2 : ((tkQ K 1 ((tkR K 43 1 ((true, adv s 1)))))).1 = true := (tkR_t y3).1
  have y1 : ((tkR K 43 1 ((true, adv s 1)))).1 = true := (tkQ_t y2).1
  have x0 : C45 s (adv s 1) := (C45.rf hz).ad
  have x1 : C45 s ((tkR K 43 1 ((true, adv s 1)))).2 := C45.tr9 y1 x0 (by decide) (by decide)
  have x2 : C45 s ((tkQ K 1 ((tkR K 43 1 ((true, adv s 1)))))).2 := C45.tq y2 x1
  have x3 : C45 s ((tkR K 44 6 ((tkQ K 1 ((tkR K 43 1 ((true, adv s 1)))))))).2 := C45.tr9 y3 x2 (by decide) (by decide)
  have x4 : C45 s ((tkQ K 2 ((tkR K 44 6 ((tkQ K 1 ((tkR K 43 1 ((true, adv s 1)))))))))).2 := C45.tq y4 x3
  have x5 : C45 s ((opR K 35 19 ((tkQ K 2 ((tkR K 44 6 ((tkQ K 1 ((tkR K 43 1 ((true, adv s 1)))))))))))).2 := C45.op x4 (by decide) (by decide)
  have x6 : C45 s ((tkR K 44 7 ((opR K 35 19 ((tkQ K 2 ((tkR K 44 6 ((tkQ K 1 ((tkR K 43 1 ((true, adv s 1)))))))))))))).2 := C45.tr9 y6 x5 (by decide) (by decide)
  have x7 : C45 s ((tkQ K 3 ((tkR K 44 7 ((opR K 35 19 ((tkQ K 2 ((tkR K 44 6 ((tkQ K 1 ((tkR K 43 1 ((true, adv s 1)))))))))))))))).2 := C45.tq y7 x6
  have x8 : C45 s ((tkR K 44 8 ((tkQ K 3 ((tkR K 44 7 ((opR K 35 19 ((tkQ K 2 ((tkR K 44 6 ((tkQ K 1 ((tkR K 43 1 ((true, adv s 1)))))))))))))))))).2 := C45.tr9 y8 x7 (by decide) (by decide)
  exact x8
theorem lnho_c {K : Nat → Nat} {s : PS} (hz : ∀ i, s.1 ≤ i → s.2.2.2.2 i = 0) (z : (lnho K s).1 = true) : C45 s (lnho K s).2 := by
  have y8 : ((opR K 8 12 ((tkR K 44 11 ((tkQ K 7 ((tkR K 44 10 ((tkQ K 6 ((tkR K 44 9 ((tkQ K 5 ((tkR K 43 2 ((true, adv s 1)))))))))))))))))).1 = true := z
  have y7 : ((tkR K 44 11 ((tkQ K 7 ((tkR K 44 10 ((tkQ K 6 ((tkR K 44 9 ((tkQ K 5 ((tkR K 43 2 ((true, adv s 1)))))))))))))))).1 = true := opR_1 y8
  have y6 : ((tkQ K 7 ((tkR K 44 10 ((tkQ K 6 ((tkR K 44 9 ((tkQ K 5 ((tkR K 43 2 ((true, adv s 1)))))))))))))).1 = true := (tkR_t y7).1
  have y5 : ((tkR K 44 10 ((tkQ K 6 ((tkR K 44 9 ((tkQ K 5 ((tkR K 43 2 ((true, adv s 1)))))))))))).1 = true := (tkQ_t y6).1
  have y4 : ((tkQ K 6 ((tkR K 44 9 ((tkQ K 5 ((tkR K 43 2 ((true, adv s 1)))))))))).1 = true := (tkR_t y5).1
  have y3 : ((tkR K 44 9 ((tkQ K 5 ((tkR K 43 2 ((true, adv s 1)))))))).1 = true := (tkQ_t y4).1
  have y2 : ((tkQ K 5 ((tkR K 43 2 ((true, adv s 1)))))).1 = true := (tkR_t y3).1
  have y1 : ((tkR K 43 2 ((true, adv s 1)))).1 = true := (tkQ_t y2).1
  have x0 : C45 s (adv s 1) := (C45.rf hz).ad
  have x1 : C45 s ((tkR K 43 2 ((true, adv s 1)))).2 := C45.tr9 y1 x0 (by decide) (by decide)
  have x2 : C45 s ((tkQ K 5 ((tkR K 43 2 ((true, adv s 1)))))).2 := C45.tq y2 x1
  have x3 : C45 s ((tkR K 44 9 ((tkQ K 5 ((tkR K 43 2 ((true, adv s 1)))))))).2 := C45.tr9 y3 x2 (by decide) (by decide)
  have x4 : C45 s ((tkQ K 6 ((tkR K 44 9 ((tkQ K 5 ((tkR K 43 2 ((true, adv s 1)))))))))).2 := C45.tq y4 x3
  have x5 : C45 s ((tkR K 44 10 ((tkQ K 6 ((tkR K 44 9 ((tkQ K 5 ((tkR K 43 2 ((true, adv s 1)))))))))))).2 := C45.tr9 y5 x4 (by decide) (by decide)
  have x6 : C45 s ((tkQ K 7 ((tkR K 44 10 ((tkQ K 6 ((tkR K 44 9 ((tkQ K 5 ((tkR K 43 2 ((true, adv s 1)))))))))))))).2 := C45.tq y6 x5
  have x7 : C45 s ((tkR K 44 11 ((tkQ K 7 ((tkR K 44 10 ((tkQ K 6 ((tkR K 44 9 ((tkQ K 5 ((tkR K 43 2 ((true, adv s 1)))))))))))))))).2 := C45.tr9 y7 x6 (by decide) (by decide)
  have x8 : C45 s ((opR K 8 12 ((tkR K 44 11 ((tkQ K 7 ((tkR K 44 10 ((tkQ K 6 ((tkR K 44 9 ((tkQ K 5 ((tkR K 43 2 ((true, adv s 1)))))))))))))))))).2 := C45.op x7 (by decide) (by decide)
  exact x8
theorem lnlo_c {K : Nat → Nat} {s : PS} (hz : ∀ i, s.1 ≤ i → s.2.2.2.2 i = 0) (z : (lnlo K s).1 = true) : C45 s (lnlo K s).2 := by
  have y3 : ((tkR K 44 13 ((tkQ K 10 ((tkR K 43 3 ((true, adv s 1)))))))).1 = true := z
  have y2 : ((tkQ K 10 ((tkR K 43 3 ((true, adv s 1)))))).1 = true := (tkR_t y3).1
  have y1 : ((tkR K 43 3 ((true, adv s 1)))).1 = true := (tkQ_t y2).1
  have x0 : C45 s (adv s 1) := (C45.rf hz).ad
  have x1 : C45 s ((tkR K 43 3 ((true, adv s 1)))).2 := C45.tr9 y1 x0 (by decide) (by decide)
  have x2 : C45 s ((tkQ K 10 ((tkR K 43 3 ((true, adv s 1)))))).2 := C45.tq y2 x1
  have x3 : C45 s ((tkR K 44 13 ((tkQ K 10 ((tkR K 43 3 ((true, adv s 1)))))))).2 := C45.tr9 y3 x2 (by decide) (by decide)
  exact x3
theorem MPl.rolad {τ : TY} {N1 N2 M : ME} {m y z s1 s2 n8 hr wr lt ez dp : Nat} {B : Nat → Nat} {ω ω0 w w0 : RH} {q : PQ} {x : Int32} (hM : MV τ N1 M m y z s1 s2 n8 (q.2.1 + 1) dp B (u2 ω 83 q.2.1 x)) (hV : PV τ N2 M z 0 0 0 0 hr 0 wr (psF q.2.2.2.1 q.2.2.1) (cnF q.2.2.2.1 q.2.2.1) w) (hω : ∀ f i, ¬ f = 83 → ω f i = ω0 f i) (hrl : ∀ i, i ≤ lt → ω 83 i = q.2.2.2.2.2 i) (hw : ∀ f i, ¬ f = 71 → ¬ f = 72 → w f i = w0 f i) (hG : GPw w q.2) (hn : q.2.2.1 + ez ≤ q.2.1) (hlt : q.2.1 + 1 ≤ lt) (hz : ∀ i, q.2.1 ≤ i → q.2.2.2.2.2 i = 0) : MPl τ M m y z s1 s2 n8 B ω0 w0 hr wr lt ez dp (adv (rol q.2 q.2.1 x) 1) := by
  refine ⟨_, w, hM.rf, hV.rf, fun f i h1 => by rw [u2_f h1]; exact hω f i h1, fun i hi => ?_, hw, hG, (by show q.2.2.1 + ez ≤ q.2.1 + 1; omega), hlt, fun i hi => ?_⟩
  · show u2 ω 83 q.2.1 x 83 i = uI q.2.2.2.2.2 q.2.1 x i
    by_cases e : i = q.2.1
    · subst e; rw [u2_s, uI_s]
    · rw [u2_i e, uI_i e]; exact hrl i hi
  · have h9 : q.2.1 + 1 ≤ i := hi
    show uI q.2.2.2.2.2 q.2.1 x i = 0
    rw [uI_i (by omega)]; exact hz i (by omega)
theorem MQQ.opn {τ : TY} {N1 N2 M : ME} {m y z s1 s2 n8 hr wr lt ez dp : Nat} {B : Nat → Nat} {ω ω0 w w0 : RH} {K : Nat → Nat} {q : PQ} {k : Nat} {x y9 : Int32} (z9 : q.1 = true) (e : ¬ K q.2.1 = k) (hM : MV τ N1 M m y z s1 s2 n8 q.2.1 dp B (u2 (u2 ω 83 q.2.1 y9) 83 q.2.1 0)) (hV : PV τ N2 M z 0 0 0 0 hr 0 wr (psF q.2.2.2.1 q.2.2.1) (cnF q.2.2.2.1 q.2.2.1) w) (hω : ∀ f i, ¬ f = 83 → ω f i = ω0 f i) (hrl : ∀ i, i ≤ lt → ω 83 i = q.2.2.2.2.2 i) (hw : ∀ f i, ¬ f = 71 → ¬ f = 72 → w f i = w0 f i) (hG : GPw w q.2) (hn : q.2.2.1 + ez ≤ q.2.1) (hlt : q.2.1 ≤ lt) (hz : ∀ i, q.2.1 ≤ i → q.2.2.2.2.2 i = 0) : MQQ τ M m y z s1 s2 n8 B ω0 w0 hr wr lt ez dp (opR K k x q) := by
  rw [opR_z e]
  refine MQQ.t z9 ⟨_, w, hM.rf, hV.rf, fun f i h1 => by rw [u2_f h1, u2_f h1]; exact hω f i h1, fun i hi => ?_, hw, hG, hn, hlt, hz⟩
  by_cases e : i = q.2.1
  · subst e; rw [u2_s]; exact (hz _ (Nat.le_refl _)).symm
  · rw [u2_i e, u2_i e]; exact hrl i hi
theorem MQQ.opy {τ : TY} {N1 N2 M : ME} {m y z s1 s2 n8 hr wr lt ez dp : Nat} {B : Nat → Nat} {ω ω0 w w0 : RH} {K : Nat → Nat} {q : PQ} {k : Nat} {x : Int32} (z9 : q.1 = true) (e : K q.2.1 = k) (hM : MV τ N1 M m y z s1 s2 n8 (q.2.1 + 1) dp B (u2 ω 83 q.2.1 x)) (hV : PV τ N2 M z 0 0 0 0 hr 0 wr (psF q.2.2.2.1 q.2.2.1) (cnF q.2.2.2.1 q.2.2.1) w) (hω : ∀ f i, ¬ f = 83 → ω f i = ω0 f i) (hrl : ∀ i, i ≤ lt → ω 83 i = q.2.2.2.2.2 i) (hw : ∀ f i, ¬ f = 71 → ¬ f = 72 → w f i = w0 f i) (hG : GPw w q.2) (hn : q.2.2.1 + ez ≤ q.2.1) (hlt : q.2.1 + 1 ≤ lt) (hz : ∀ i, q.2.1 ≤ i → q.2.2.2.2.2 i = 0) : MQQ τ M m y z s1 s2 n8 B ω0 w0 hr wr lt ez dp (opR K k x q) := by
  rw [opR_y z9 e]
  exact MQQ.t rfl (MPl.rolad hM hV hω hrl hw hG hn hlt hz)
theorem TKF.lt {B : Nat → Nat} {lt : Nat} {K : Nat → Nat} {S : Nat → Int32} {V : Nat → Int64} {ω : RH} (h : TKF B lt K S V ω) {i k : Nat} (hi : i ≤ lt) (e : K i = k) (h45 : ¬ k = 45) (h46 : ¬ k = 46) : i + 1 ≤ lt := Nat.lt_of_le_of_ne hi (fun e2 => by have h9 := h.1.2; rw [← e2] at h9; omega)
set_option maxHeartbeats 1000000 in
theorem mq_R {l : Launch} {D : va_G} {cA : Nat → ClassId} {n0 : Nat} {sg adK adV : Nat → Nat} {sgA smA wdA bS LS : Nat} {xs : Nat → Int32} (hX : SF n0 (XW0 sg adK adV sgA smA wdA n0 bS LS xs)) {m y z s1 s2 n8 hr wr lt : Nat} {B : Nat → Nat} {K : Nat → Nat} {S : Nat → Int32} {V : Nat → Int64} {ω0 w0 : RH} (hTK : TKF B lt K S V ω0) (hmz : m + 7 ≤ z ∨ z + 19 ≤ m) {d : Nat} {q : PQ} (hd : d ≤ 8) (z9 : q.1 = true) {k : Nat} {c x : Int32} (hc : ∀ o, o < 48 → ¬ o = 47 → (nI (kkF o) = c ↔ o = k)) (h45 : ¬ k = 45) (h46 : ¬ k = 46) {sz : Nat} {τ : TY} {M : ME} {ez : Nat} (hQ : MPl τ M m y z s1 s2 n8 B ω0 w0 hr wr lt (ez) (d) (q.2)) : CT l D cA n0 (XW0 sg adK adV sgA smA wdA n0 bS LS xs) mX13_eatAs 3 0 0 sz τ M [.ref m, .int c, .int x] (fun v' sz' τ' M' => (v' = some (.int (if (tkR K k x q).1 = true then 1 else 0)) ∧ MQQ τ M' m y z s1 s2 n8 B ω0 w0 hr wr lt (ez) (d) (tkR K k x q)) ∧ sz' = sz ∧ τ' = τ ∧ FMZ m z M M') := by
  obtain ⟨ω, w, hM, hV, hω, hrl, hw, hG, hn, ht, hz⟩ := hQ
  have k0 : ω 80 q.2.1 = nI (kkF (K q.2.1)) := by rw [hω 80 _ (by decide)]; exact (hTK.2.1 q.2.1 ht).1
  have hk := (hTK.2.1 q.2.1 ht).2.1
  have hl := hTK.1.1
  refine (c_X13_eatAs hX hM (by omega) _ _).wk ?_
  rintro _ _ _ M9 ⟨rfl, rfl, rfl, hM9⟩
  have hV := (hV.nx hM9.frame (by omega)).rf
  have hF := (FMZ.rf m z M).fm hM9.frame
  by_cases e : K q.2.1 = k
  · have hlt := hTK.lt ht e h45 h46
    rw [k0, if_pos ((hc _ hk.1 hk.2).mpr e)] at hM9 ⊢
    rw [tkR_y z9 e]
    exact ⟨⟨rfl, MQQ.t rfl (MPl.rolad hM9 hV hω hrl hw hG hn hlt hz)⟩, rfl, rfl, hF⟩
  · rw [k0, if_neg (fun z => e ((hc _ hk.1 hk.2).mp z))] at hM9 ⊢
    rw [tkR_z z9 e]
    exact ⟨⟨rfl, MQQ.f (q := (false, q.2)) (by simp) ⟨ht, _, _, _, _, _, _, _, _, _, _, _, _, hM9.rf, hV, fun f i h1 => by rw [u2_f h1]; exact hω f i h1⟩⟩, rfl, rfl, hF⟩
set_option maxHeartbeats 1000000 in
theorem mq_Q {l : Launch} {D : va_G} {cA : Nat → ClassId} {n0 : Nat} {sg adK adV : Nat → Nat} {sgA smA wdA bS LS : Nat} {xs : Nat → Int32} (hX : SF n0 (XW0 sg adK adV sgA smA wdA n0 bS LS xs)) {m y z s1 s2 n8 hr wr lt : Nat} {B : Nat → Nat} {K : Nat → Nat} {S : Nat → Int32} {V : Nat → Int64} {ω0 w0 : RH} (hTK : TKF B lt K S V ω0) (hmz : m + 7 ≤ z ∨ z + 19 ≤ m) {d : Nat} {q : PQ} (hd : d ≤ 8) (z9 : q.1 = true) {k : Nat} {c : Int32} (hc : ∀ o, o < 48 → ¬ o = 47 → (nI (kkF o) = c ↔ o = k)) (h45 : ¬ k = 45) (h46 : ¬ k = 46) {sz : Nat} {τ : TY} {M : ME} {ez : Nat} (hQ : MPl τ M m y z s1 s2 n8 B ω0 w0 hr wr lt (ez) (d) (q.2)) : CT l D cA n0 (XW0 sg adK adV sgA smA wdA n0 bS LS xs) mX13_eat 2 0 0 sz τ M [.ref m, .int c] (fun v' sz' τ' M' => (v' = some (.int (if (tkQ K k q).1 = true then 1 else 0)) ∧ MQQ τ M' m y z s1 s2 n8 B ω0 w0 hr wr lt (ez) (d) (tkQ K k q)) ∧ sz' = sz ∧ τ' = τ ∧ FMZ m z M M') := by
  obtain ⟨ω, w, hM, hV, hω, hrl, hw, hG, hn, ht, hz⟩ := hQ
  have k0 : ω 80 q.2.1 = nI (kkF (K q.2.1)) := by rw [hω 80 _ (by decide)]; exact (hTK.2.1 q.2.1 ht).1
  have hk := (hTK.2.1 q.2.1 ht).2.1
  have hl := hTK.1.1
  refine (c_X13_eat hX hM (by omega) _).wk ?_
  rintro _ _ _ M9 ⟨rfl, rfl, rfl, hM9⟩
  have hV := (hV.nx hM9.frame (by omega)).rf
  have hF := (FMZ.rf m z M).fm hM9.frame
  by_cases e : K q.2.1 = k
  · have hlt := hTK.lt ht e h45 h46
    rw [k0, if_pos ((hc _ hk.1 hk.2).mpr e)] at hM9 ⊢
    rw [tkQ_y z9 e]
    exact ⟨⟨rfl, MQQ.t rfl ⟨ω, w, hM9.rf, hV, hω, hrl, hw, hG, (by show q.2.2.1 + ez ≤ q.2.1 + 1; omega), hlt, fun i hi => hz i (Nat.le_trans (Nat.le_succ _) hi)⟩⟩, rfl, rfl, hF⟩
  · rw [k0, if_neg (fun z => e ((hc _ hk.1 hk.2).mp z))] at hM9 ⊢
    rw [tkQ_z z9 e]
    exact ⟨⟨rfl, MQQ.f (q := (false, q.2)) (by simp) ⟨ht, _, _, _, _, _, _, _, _, _, _, _, _, hM9.rf, hV, hω⟩⟩, rfl, rfl, hF⟩
set_option maxHeartbeats 1000000 in
theorem mq_S {l : Launch} {D : va_G} {cA : Nat → ClassId} {n0 : Nat} {sg adK adV : Nat → Nat} {sgA smA wdA bS LS : Nat} {xs : Nat → Int32} (hX : SF n0 (XW0 sg adK adV sgA smA wdA n0 bS LS xs)) {m y z s1 s2 n8 hr wr lt : Nat} {B : Nat → Nat} {K : Nat → Nat} {S : Nat → Int32} {V : Nat → Int64} {ω0 w0 : RH} (hTK : TKF B lt K S V ω0) (hmz : m + 7 ≤ z ∨ z + 19 ≤ m) {d : Nat} {q : PQ} (hd : d ≤ 8) (z9 : q.1 = true) {k : Nat} {c : Int32} (hc : ∀ o, o < 48 → ¬ o = 47 → (nI (kkF o) = 50 + c ↔ o = k)) (h45 : ¬ k = 45) (h46 : ¬ k = 46) {sz : Nat} {τ : TY} {M : ME} {ez : Nat} (hQ : MPl τ M m y z s1 s2 n8 B ω0 w0 hr wr lt (ez) (d) (q.2)) : CT l D cA n0 (XW0 sg adK adV sgA smA wdA n0 bS LS xs) mX13_eatSign 3 0 0 sz τ M [.ref m, .int c] (fun v' sz' τ' M' => (v' = some (.int (if (tkQ K k q).1 = true then 1 else 0)) ∧ MQQ τ M' m y z s1 s2 n8 B ω0 w0 hr wr lt (ez) (d) (tkQ K k q)) ∧ sz' = sz ∧ τ' = τ ∧ FMZ m z M M') := by
  obtain ⟨ω, w, hM, hV, hω, hrl, hw, hG, hn, ht, hz⟩ := hQ
  have k0 : ω 80 q.2.1 = nI (kkF (K q.2.1)) := by rw [hω 80 _ (by decide)]; exact (hTK.2.1 q.2.1 ht).1
  have hk := (hTK.2.1 q.2.1 ht).2.1
  have hl := hTK.1.1
  refine (c_X13_eatSign hX hM (by omega) _).wk ?_
  rintro _ _ _ M9 ⟨rfl, rfl, rfl, hM9⟩
  have hV := (hV.nx hM9.frame (by omega)).rf
  have hF := (FMZ.rf m z M).fm hM9.frame
  by_cases e : K q.2.1 = k
  · have hlt := hTK.lt ht e h45 h46
    rw [k0, if_pos ((hc _ hk.1 hk.2).mpr e)] at hM9 ⊢
    rw [tkQ_y z9 e]
    exact ⟨⟨rfl, MQQ.t rfl ⟨ω, w, hM9.rf, hV, hω, hrl, hw, hG, (by show q.2.2.1 + ez ≤ q.2.1 + 1; omega), hlt, fun i hi => hz i (Nat.le_trans (Nat.le_succ _) hi)⟩⟩, rfl, rfl, hF⟩
  · rw [k0, if_neg (fun z => e ((hc _ hk.1 hk.2).mp z))] at hM9 ⊢
    rw [tkQ_z z9 e]
    exact ⟨⟨rfl, MQQ.f (q := (false, q.2)) (by simp) ⟨ht, _, _, _, _, _, _, _, _, _, _, _, _, hM9.rf, hV, hω⟩⟩, rfl, rfl, hF⟩
theorem MPl.tm {τ : TY} {M : ME} {m y z s1 s2 n8 : Nat} {B : Nat → Nat} {ω0 w0 : RH} {hr wr lt ez dp : Nat} {s : PS} (h : MPl τ M m y z s1 s2 n8 B ω0 w0 hr wr lt ez dp s) : τ m = (11, 0) := let ⟨_, _, hM, _⟩ := h; hM.t_m
set_option maxHeartbeats 1000000 in
theorem c_X13_isStretchLine {l : Launch} {D : va_G} {cA : Nat → ClassId} {n0 : Nat} {sg adK adV : Nat → Nat} {sgA smA wdA bS LS : Nat} {xs : Nat → Int32} (hX : SF n0 (XW0 sg adK adV sgA smA wdA n0 bS LS xs)) {m y z s1 s2 n8 hr wr lt : Nat} {B : Nat → Nat} {K : Nat → Nat} {S : Nat → Int32} {V : Nat → Int64} {ω0 w0 : RH} (hTK : TKF B lt K S V ω0) (hmz : m + 7 ≤ z ∨ z + 19 ≤ m) {s : PS} (h0 : K s.1 < 45) {sz : Nat} {τ : TY} {M : ME} (hQ : MPl τ M m y z s1 s2 n8 B ω0 w0 hr wr lt (0) (0) (s)) : CT l D cA n0 (XW0 sg adK adV sgA smA wdA n0 bS LS xs) mX13_isStretchLine 6 0 0 sz τ M [.ref m] (fun v' sz' τ' M' => (v' = some (.int (if (lnst K s).1 = true then 1 else 0)) ∧ MQQ τ M' m y z s1 s2 n8 B ω0 w0 hr wr lt (0) (0) (lnst K s)) ∧ sz' = sz ∧ τ' = τ ∧ FMZ m z M M') := by
  refine CT.of (ls := [.ref m]) (by decide) (Nat.le_of_ble_eq_true rfl) rfl ?_
  obtain ⟨ω, w, hM, hV, hω, hrl, hw, hG, hn, ht, hz⟩ := hQ
  have hl := hTK.1.1
  have hlt := hTK.lt ht rfl (by omega) (by omega)
  have hF : FMZ m z M M := FMZ.rf _ _ _
  refine T_aload0 dX13_isStretchLine_0 rfl ?_
  refine T_dup dX13_isStretchLine_1 rfl rfl ?_
  refine g13_124 _ rfl (hM.t_m) (hM.g_tk) dX13_isStretchLine_2 rfl ?_
  refine T_iconst (1) dX13_isStretchLine_5 rfl rfl ?_
  refine T_iadd dX13_isStretchLine_6 rfl ?_
  refine p13_124 rfl (hM.t_m) dX13_isStretchLine_7 rfl ?_
  refine T_nm (fun M1 e1 => ?_)
  have hM := MV.mv (hM.p_tk (n := s.1 + 1) (nI_1 _)) e1
  have hV := hV.frU e1 (by omega)
  have hF := hF.up e1 (by omega)
  refine T_aload0 dX13_isStretchLine_10 rfl ?_
  refine T_bipush (40) dX13_isStretchLine_11 rfl rfl ?_
  refine T_iconst (1) dX13_isStretchLine_13 rfl rfl ?_
  refine T_cV2 (mq_R hX hTK hmz (by decide) (q := (true, adv s 1)) rfl kc_40 (by decide) (by decide) (⟨ω, w, hM.rf, hV.rf, hω, hrl, hw, hG, (by show s.2.1 + 0 ≤ s.1 + 1; omega), hlt, (fun i hi => hz i (Nat.le_trans (Nat.le_succ _) hi))⟩)) hX k13_157 (Or.inl ⟨_, _, _, _, (hM.t_m), by decide, rfl⟩) (by decide) (Nat.le_of_ble_eq_true rfl) dX13_isStretchLine_14 rfl ?_
  rintro _ _ _ M9 ⟨⟨rfl, hQ9⟩, rfl, rfl, hF9⟩
  have hF := hF.tr hF9
  refine T_if_eq 47 20 dX13_isStretchLine_17 (by decide) rfl (fun c17 => ?_) (fun c17 => ?_)
  ·
    have z9 := ifz0 c17
    refine T_iconst (0) dX13_isStretchLine_47 rfl rfl ?_
    refine T_iret rfl rfl dX13_isStretchLine_48 ?_
    first
      | (have e : lnst K s = (tkR K 43 1 ((true, adv s 1))) := by unfold lnst; simp only [tkR_n z9, tkQ_n z9, opR_n z9]
         rw [e]; exact ⟨⟨by rw [if_neg z9], hQ9⟩, rfl, rfl, hF⟩)
      | (have e : lnst K s = (tkQ K 1 ((tkR K 43 1 ((true, adv s 1))))) := by unfold lnst; simp only [tkR_n z9, tkQ_n z9, opR_n z9]
         rw [e]; exact ⟨⟨by rw [if_neg z9], hQ9⟩, rfl, rfl, hF⟩)
      | (have e : lnst K s = (tkR K 44 6 ((tkQ K 1 ((tkR K 43 1 ((true, adv s 1))))))) := by unfold lnst; simp only [tkR_n z9, tkQ_n z9, opR_n z9]
         rw [e]; exact ⟨⟨by rw [if_neg z9], hQ9⟩, rfl, rfl, hF⟩)
      | (have e : lnst K s = (tkQ K 2 ((tkR K 44 6 ((tkQ K 1 ((tkR K 43 1 ((true, adv s 1))))))))) := by unfold lnst; simp only [tkR_n z9, tkQ_n z9, opR_n z9]
         rw [e]; exact ⟨⟨by rw [if_neg z9], hQ9⟩, rfl, rfl, hF⟩)
      | (have e : lnst K s = (tkR K 44 7 ((opR K 35 19 ((tkQ K 2 ((tkR K 44 6 ((tkQ K 1 ((tkR K 43 1 ((true, adv s 1))))))))))))) := by unfold lnst; simp only [tkR_n z9, tkQ_n z9, opR_n z9]
         rw [e]; exact ⟨⟨by rw [if_neg z9], hQ9⟩, rfl, rfl, hF⟩)
      | (have e : lnst K s = (tkQ K 3 ((tkR K 44 7 ((opR K 35 19 ((tkQ K 2 ((tkR K 44 6 ((tkQ K 1 ((tkR K 43 1 ((true, adv s 1))))))))))))))) := by unfold lnst; simp only [tkR_n z9, tkQ_n z9, opR_n z9]
         rw [e]; exact ⟨⟨by rw [if_neg z9], hQ9⟩, rfl, rfl, hF⟩)
      | (have e : lnst K s = (tkR K 44 8 ((tkQ K 3 ((tkR K 44 7 ((opR K 35 19 ((tkQ K 2 ((tkR K 44 6 ((tkQ K 1 ((tkR K 43 1 ((true, adv s 1))))))))))))))))) := by unfold lnst; rfl
         rw [e]; exact ⟨⟨by rw [if_neg z9], hQ9⟩, rfl, rfl, hF⟩)
  ·
    have z9 := ifz1 c17
    
    refine T_aload0 dX13_isStretchLine_20 rfl ?_
    refine T_iconst (1) dX13_isStretchLine_21 rfl rfl ?_
    refine T_cV1 (mq_Q hX hTK hmz (by decide) (q := (tkR K 43 1 ((true, adv s 1)))) z9 kc_1 (by decide) (by decide) (hQ9.1 z9)) hX k13_130 (Or.inl ⟨_, _, _, _, (hM.t_m), by decide, rfl⟩) (by decide) (Nat.le_of_ble_eq_true rfl) dX13_isStretchLine_22 rfl ?_
    rintro _ _ _ M9 ⟨⟨rfl, hQ9⟩, rfl, rfl, hF9⟩
    have hF := hF.tr hF9
    refine T_if_eq 47 28 dX13_isStretchLine_25 (by decide) rfl (fun c25 => ?_) (fun c25 => ?_)
    ·
      have z9 := ifz0 c25
      refine T_iconst (0) dX13_isStretchLine_47 rfl rfl ?_
      refine T_iret rfl rfl dX13_isStretchLine_48 ?_
      first
        | (have e : lnst K s = (tkR K 43 1 ((true, adv s 1))) := by unfold lnst; simp only [tkR_n z9, tkQ_n z9, opR_n z9]
           rw [e]; exact ⟨⟨by rw [if_neg z9], hQ9⟩, rfl, rfl, hF⟩)
        | (have e : lnst K s = (tkQ K 1 ((tkR K 43 1 ((true, adv s 1))))) := by unfold lnst; simp only [tkR_n z9, tkQ_n z9, opR_n z9]
           rw [e]; exact ⟨⟨by rw [if_neg z9], hQ9⟩, rfl, rfl, hF⟩)
        | (have e : lnst K s = (tkR K 44 6 ((tkQ K 1 ((tkR K 43 1 ((true, adv s 1))))))) := by unfold lnst; simp only [tkR_n z9, tkQ_n z9, opR_n z9]
           rw [e]; exact ⟨⟨by rw [if_neg z9], hQ9⟩, rfl, rfl, hF⟩)
        | (have e : lnst K s = (tkQ K 2 ((tkR K 44 6 ((tkQ K 1 ((tkR K 43 1 ((true, adv s 1))))))))) := by unfold lnst; simp only [tkR_n z9, tkQ_n z9, opR_n z9]
           rw [e]; exact ⟨⟨by rw [if_neg z9], hQ9⟩, rfl, rfl, hF⟩)
        | (have e : lnst K s = (tkR K 44 7 ((opR K 35 19 ((tkQ K 2 ((tkR K 44 6 ((tkQ K 1 ((tkR K 43 1 ((true, adv s 1))))))))))))) := by unfold lnst; simp only [tkR_n z9, tkQ_n z9, opR_n z9]
           rw [e]; exact ⟨⟨by rw [if_neg z9], hQ9⟩, rfl, rfl, hF⟩)
        | (have e : lnst K s = (tkQ K 3 ((tkR K 44 7 ((opR K 35 19 ((tkQ K 2 ((tkR K 44 6 ((tkQ K 1 ((tkR K 43 1 ((true, adv s 1))))))))))))))) := by unfold lnst; simp only [tkR_n z9, tkQ_n z9, opR_n z9]
           rw [e]; exact ⟨⟨by rw [if_neg z9], hQ9⟩, rfl, rfl, hF⟩)
        | (have e : lnst K s = (tkR K 44 8 ((tkQ K 3 ((tkR K 44 7 ((opR K 35 19 ((tkQ K 2 ((tkR K 44 6 ((tkQ K 1 ((tkR K 43 1 ((true, adv s 1))))))))))))))))) := by unfold lnst; rfl
           rw [e]; exact ⟨⟨by rw [if_neg z9], hQ9⟩, rfl, rfl, hF⟩)
    ·
      have z9 := ifz1 c25
      
      refine T_aload0 dX13_isStretchLine_28 rfl ?_
      refine T_bipush (41) dX13_isStretchLine_29 rfl rfl ?_
      refine T_bipush (6) dX13_isStretchLine_31 rfl rfl ?_
      refine T_cV2 (mq_R hX hTK hmz (by decide) (q := (tkQ K 1 ((tkR K 43 1 ((true, adv s 1)))))) z9 kc_41 (by decide) (by decide) (hQ9.1 z9)) hX k13_157 (Or.inl ⟨_, _, _, _, (hM.t_m), by decide, rfl⟩) (by decide) (Nat.le_of_ble_eq_true rfl) dX13_isStretchLine_33 rfl ?_
      rintro _ _ _ M9 ⟨⟨rfl, hQ9⟩, rfl, rfl, hF9⟩
      have hF := hF.tr hF9
      refine T_if_eq 47 39 dX13_isStretchLine_36 (by decide) rfl (fun c36 => ?_) (fun c36 => ?_)
      ·
        have z9 := ifz0 c36
        refine T_iconst (0) dX13_isStretchLine_47 rfl rfl ?_
        refine T_iret rfl rfl dX13_isStretchLine_48 ?_
        first
          | (have e : lnst K s = (tkR K 43 1 ((true, adv s 1))) := by unfold lnst; simp only [tkR_n z9, tkQ_n z9, opR_n z9]
             rw [e]; exact ⟨⟨by rw [if_neg z9], hQ9⟩, rfl, rfl, hF⟩)
          | (have e : lnst K s = (tkQ K 1 ((tkR K 43 1 ((true, adv s 1))))) := by unfold lnst; simp only [tkR_n z9, tkQ_n z9, opR_n z9]
             rw [e]; exact ⟨⟨by rw [if_neg z9], hQ9⟩, rfl, rfl, hF⟩)
          | (have e : lnst K s = (tkR K 44 6 ((tkQ K 1 ((tkR K 43 1 ((true, adv s 1))))))) := by unfold lnst; simp only [tkR_n z9, tkQ_n z9, opR_n z9]
             rw [e]; exact ⟨⟨by rw [if_neg z9], hQ9⟩, rfl, rfl, hF⟩)
          | (have e : lnst K s = (tkQ K 2 ((tkR K 44 6 ((tkQ K 1 ((tkR K 43 1 ((true, adv s 1))))))))) := by unfold lnst; simp only [tkR_n z9, tkQ_n z9, opR_n z9]
             rw [e]; exact ⟨⟨by rw [if_neg z9], hQ9⟩, rfl, rfl, hF⟩)
          | (have e : lnst K s = (tkR K 44 7 ((opR K 35 19 ((tkQ K 2 ((tkR K 44 6 ((tkQ K 1 ((tkR K 43 1 ((true, adv s 1))))))))))))) := by unfold lnst; simp only [tkR_n z9, tkQ_n z9, opR_n z9]
             rw [e]; exact ⟨⟨by rw [if_neg z9], hQ9⟩, rfl, rfl, hF⟩)
          | (have e : lnst K s = (tkQ K 3 ((tkR K 44 7 ((opR K 35 19 ((tkQ K 2 ((tkR K 44 6 ((tkQ K 1 ((tkR K 43 1 ((true, adv s 1))))))))))))))) := by unfold lnst; simp only [tkR_n z9, tkQ_n z9, opR_n z9]
             rw [e]; exact ⟨⟨by rw [if_neg z9], hQ9⟩, rfl, rfl, hF⟩)
          | (have e : lnst K s = (tkR K 44 8 ((tkQ K 3 ((tkR K 44 7 ((opR K 35 19 ((tkQ K 2 ((tkR K 44 6 ((tkQ K 1 ((tkR K 43 1 ((true, adv s 1))))))))))))))))) := by unfold lnst; rfl
             rw [e]; exact ⟨⟨by rw [if_neg z9], hQ9⟩, rfl, rfl, hF⟩)
      ·
        have z9 := ifz1 c36
        
        refine T_aload0 dX13_isStretchLine_39 rfl ?_
        refine T_iconst (2) dX13_isStretchLine_40 rfl rfl ?_
        refine T_cV1 (mq_Q hX hTK hmz (by decide) (q := (tkR K 44 6 ((tkQ K 1 ((tkR K 43 1 ((true, adv s 1)))))))) z9 kc_2 (by decide) (by decide) (hQ9.1 z9)) hX k13_130 (Or.inl ⟨_, _, _, _, (hM.t_m), by decide, rfl⟩) (by decide) (Nat.le_of_ble_eq_true rfl) dX13_isStretchLine_41 rfl ?_
        rintro _ _ _ M9 ⟨⟨rfl, hQ9⟩, rfl, rfl, hF9⟩
        have hF := hF.tr hF9
        refine T_if_ne 49 47 dX13_isStretchLine_44 (by decide) rfl (fun c44 => ?_) (fun c44 => ?_)
        ·
          have z9 := ifz1 c44
          obtain ⟨ω, w, hM, hV, hω, hrl, hw, hG, hn, ht, hz⟩ := hQ9.1 z9
          have k0 : ω 80 ((tkQ K 2 ((tkR K 44 6 ((tkQ K 1 ((tkR K 43 1 ((true, adv s 1)))))))))).2.1 = nI (kkF (K ((tkQ K 2 ((tkR K 44 6 ((tkQ K 1 ((tkR K 43 1 ((true, adv s 1)))))))))).2.1)) := by rw [hω 80 _ (by decide)]; exact (hTK.2.1 _ ht).1
          have hk := (hTK.2.1 _ ht).2.1
          have hlt9 : K ((tkQ K 2 ((tkR K 44 6 ((tkQ K 1 ((tkR K 43 1 ((true, adv s 1)))))))))).2.1 = 35 → ((tkQ K 2 ((tkR K 44 6 ((tkQ K 1 ((tkR K 43 1 ((true, adv s 1)))))))))).2.1 + 1 ≤ lt := fun e => hTK.lt ht e (by decide) (by decide)
          refine T_aload0 dX13_isStretchLine_49 rfl ?_
          refine g13_26 _ rfl (hM.t_m) (hM.g_ro) dX13_isStretchLine_50 rfl ?_
          refine T_aload0 dX13_isStretchLine_53 rfl ?_
          refine g13_124 _ rfl (hM.t_m) (hM.g_tk) dX13_isStretchLine_54 rfl ?_
          refine T_bipush (19) dX13_isStretchLine_57 rfl rfl ?_
          refine T_iast _ (hM.t_ro) rfl (by omega) (by decide) dX13_isStretchLine_59 rfl ?_
          refine T_nm (fun M2 e2 => ?_)
          have hM := MV.mv (hM.p_vro (by omega)) e2
          have hV := hV.frU e2 (by omega)
          have hF := hF.up e2 (by omega)
          refine T_aload0 dX13_isStretchLine_60 rfl ?_
          refine T_bipush (45) dX13_isStretchLine_61 rfl rfl ?_
          refine T_cV1 (c_X13_eatSign hX hM (by omega) _) hX k13_153 (Or.inl ⟨_, _, _, _, (hM.t_m), by decide, rfl⟩) (by decide) (Nat.le_of_ble_eq_true rfl) dX13_isStretchLine_63 rfl ?_
          rintro _ _ _ M9 ⟨rfl, rfl, rfl, hM9⟩
          have hV := (hV.nx hM9.frame (by omega)).rf
          have hF := hF.fm hM9.frame
          rw [u2_f (by decide), show (50 : Int32) + 45 = 95 from by decide, k0] at hM9 ⊢
          refine T_if_ne 79 69 dX13_isStretchLine_66 (by decide) rfl (fun c66 => ?_) (fun c66 => ?_)
          ·
            have e9 := ifz1 c66
            rw [if_pos e9] at hM9
            have e35 := (kc_95 _ hk.1 hk.2).mp e9
            have hM := hM9.rf
            first
              | have hQ9 := MQQ.opy (q := (tkQ K 2 ((tkR K 44 6 ((tkQ K 1 ((tkR K 43 1 ((true, adv s 1)))))))))) (x := 19) z9 e35 hM hV hω hrl hw hG hn (hlt9 e35) hz
              | have hQ9 := MQQ.opn (q := (tkQ K 2 ((tkR K 44 6 ((tkQ K 1 ((tkR K 43 1 ((true, adv s 1)))))))))) (k := 35) (x := 19) z9 e35 hM hV hω hrl hw hG hn ht hz
            have z9 : ((opR K 35 19 ((tkQ K 2 ((tkR K 44 6 ((tkQ K 1 ((tkR K 43 1 ((true, adv s 1)))))))))))).1 = true := opR_t z9
            refine T_aload0 dX13_isStretchLine_79 rfl ?_
            refine T_bipush (41) dX13_isStretchLine_80 rfl rfl ?_
            refine T_bipush (7) dX13_isStretchLine_82 rfl rfl ?_
            refine T_cV2 (mq_R hX hTK hmz (by decide) (q := (opR K 35 19 ((tkQ K 2 ((tkR K 44 6 ((tkQ K 1 ((tkR K 43 1 ((true, adv s 1)))))))))))) z9 kc_41 (by decide) (by decide) (hQ9.1 z9)) hX k13_157 (Or.inl ⟨_, _, _, _, (hM.t_m), by decide, rfl⟩) (by decide) (Nat.le_of_ble_eq_true rfl) dX13_isStretchLine_84 rfl ?_
            rintro _ _ _ M9 ⟨⟨rfl, hQ9⟩, rfl, rfl, hF9⟩
            have hF := hF.tr hF9
            refine T_if_eq 113 90 dX13_isStretchLine_87 (by decide) rfl (fun c87 => ?_) (fun c87 => ?_)
            ·
              have z9 := ifz0 c87
              refine T_iconst (0) dX13_isStretchLine_113 rfl rfl ?_
              refine T_iret rfl rfl dX13_isStretchLine_114 ?_
              first
                | (exact ⟨⟨by rw [if_pos (show (lnst K s).1 = true from z9)], hQ9⟩, rfl, rfl, hF⟩)
                | (have e : lnst K s = (tkR K 43 1 ((true, adv s 1))) := by unfold lnst; simp only [tkR_n z9, tkQ_n z9, opR_n z9]
                   rw [e]; exact ⟨⟨by rw [if_neg z9], hQ9⟩, rfl, rfl, hF⟩)
                | (have e : lnst K s = (tkQ K 1 ((tkR K 43 1 ((true, adv s 1))))) := by unfold lnst; simp only [tkR_n z9, tkQ_n z9, opR_n z9]
                   rw [e]; exact ⟨⟨by rw [if_neg z9], hQ9⟩, rfl, rfl, hF⟩)
                | (have e : lnst K s = (tkR K 44 6 ((tkQ K 1 ((tkR K 43 1 ((true, adv s 1))))))) := by unfold lnst; simp only [tkR_n z9, tkQ_n z9, opR_n z9]
                   rw [e]; exact ⟨⟨by rw [if_neg z9], hQ9⟩, rfl, rfl, hF⟩)
                | (have e : lnst K s = (tkQ K 2 ((tkR K 44 6 ((tkQ K 1 ((tkR K 43 1 ((true, adv s 1))))))))) := by unfold lnst; simp only [tkR_n z9, tkQ_n z9, opR_n z9]
                   rw [e]; exact ⟨⟨by rw [if_neg z9], hQ9⟩, rfl, rfl, hF⟩)
                | (have e : lnst K s = (tkR K 44 7 ((opR K 35 19 ((tkQ K 2 ((tkR K 44 6 ((tkQ K 1 ((tkR K 43 1 ((true, adv s 1))))))))))))) := by unfold lnst; simp only [tkR_n z9, tkQ_n z9, opR_n z9]
                   rw [e]; exact ⟨⟨by rw [if_neg z9], hQ9⟩, rfl, rfl, hF⟩)
                | (have e : lnst K s = (tkQ K 3 ((tkR K 44 7 ((opR K 35 19 ((tkQ K 2 ((tkR K 44 6 ((tkQ K 1 ((tkR K 43 1 ((true, adv s 1))))))))))))))) := by unfold lnst; simp only [tkR_n z9, tkQ_n z9, opR_n z9]
                   rw [e]; exact ⟨⟨by rw [if_neg z9], hQ9⟩, rfl, rfl, hF⟩)
                | (have e : lnst K s = (tkR K 44 8 ((tkQ K 3 ((tkR K 44 7 ((opR K 35 19 ((tkQ K 2 ((tkR K 44 6 ((tkQ K 1 ((tkR K 43 1 ((true, adv s 1))))))))))))))))) := by unfold lnst; rfl
                   rw [e]; exact ⟨⟨by rw [if_neg z9], hQ9⟩, rfl, rfl, hF⟩)
            ·
              have z9 := ifz1 c87
              
              refine T_aload0 dX13_isStretchLine_90 rfl ?_
              refine T_iconst (3) dX13_isStretchLine_91 rfl rfl ?_
              refine T_cV1 (mq_Q hX hTK hmz (by decide) (q := (tkR K 44 7 ((opR K 35 19 ((tkQ K 2 ((tkR K 44 6 ((tkQ K 1 ((tkR K 43 1 ((true, adv s 1)))))))))))))) z9 kc_3 (by decide) (by decide) (hQ9.1 z9)) hX k13_130 (Or.inl ⟨_, _, _, _, (hM.t_m), by decide, rfl⟩) (by decide) (Nat.le_of_ble_eq_true rfl) dX13_isStretchLine_92 rfl ?_
              rintro _ _ _ M9 ⟨⟨rfl, hQ9⟩, rfl, rfl, hF9⟩
              have hF := hF.tr hF9
              refine T_if_eq 113 98 dX13_isStretchLine_95 (by decide) rfl (fun c95 => ?_) (fun c95 => ?_)
              ·
                have z9 := ifz0 c95
                refine T_iconst (0) dX13_isStretchLine_113 rfl rfl ?_
                refine T_iret rfl rfl dX13_isStretchLine_114 ?_
                first
                  | (exact ⟨⟨by rw [if_pos (show (lnst K s).1 = true from z9)], hQ9⟩, rfl, rfl, hF⟩)
                  | (have e : lnst K s = (tkR K 43 1 ((true, adv s 1))) := by unfold lnst; simp only [tkR_n z9, tkQ_n z9, opR_n z9]
                     rw [e]; exact ⟨⟨by rw [if_neg z9], hQ9⟩, rfl, rfl, hF⟩)
                  | (have e : lnst K s = (tkQ K 1 ((tkR K 43 1 ((true, adv s 1))))) := by unfold lnst; simp only [tkR_n z9, tkQ_n z9, opR_n z9]
                     rw [e]; exact ⟨⟨by rw [if_neg z9], hQ9⟩, rfl, rfl, hF⟩)
                  | (have e : lnst K s = (tkR K 44 6 ((tkQ K 1 ((tkR K 43 1 ((true, adv s 1))))))) := by unfold lnst; simp only [tkR_n z9, tkQ_n z9, opR_n z9]
                     rw [e]; exact ⟨⟨by rw [if_neg z9], hQ9⟩, rfl, rfl, hF⟩)
                  | (have e : lnst K s = (tkQ K 2 ((tkR K 44 6 ((tkQ K 1 ((tkR K 43 1 ((true, adv s 1))))))))) := by unfold lnst; simp only [tkR_n z9, tkQ_n z9, opR_n z9]
                     rw [e]; exact ⟨⟨by rw [if_neg z9], hQ9⟩, rfl, rfl, hF⟩)
                  | (have e : lnst K s = (tkR K 44 7 ((opR K 35 19 ((tkQ K 2 ((tkR K 44 6 ((tkQ K 1 ((tkR K 43 1 ((true, adv s 1))))))))))))) := by unfold lnst; simp only [tkR_n z9, tkQ_n z9, opR_n z9]
                     rw [e]; exact ⟨⟨by rw [if_neg z9], hQ9⟩, rfl, rfl, hF⟩)
                  | (have e : lnst K s = (tkQ K 3 ((tkR K 44 7 ((opR K 35 19 ((tkQ K 2 ((tkR K 44 6 ((tkQ K 1 ((tkR K 43 1 ((true, adv s 1))))))))))))))) := by unfold lnst; simp only [tkR_n z9, tkQ_n z9, opR_n z9]
                     rw [e]; exact ⟨⟨by rw [if_neg z9], hQ9⟩, rfl, rfl, hF⟩)
                  | (have e : lnst K s = (tkR K 44 8 ((tkQ K 3 ((tkR K 44 7 ((opR K 35 19 ((tkQ K 2 ((tkR K 44 6 ((tkQ K 1 ((tkR K 43 1 ((true, adv s 1))))))))))))))))) := by unfold lnst; rfl
                     rw [e]; exact ⟨⟨by rw [if_neg z9], hQ9⟩, rfl, rfl, hF⟩)
              ·
                have z9 := ifz1 c95
                
                refine T_aload0 dX13_isStretchLine_98 rfl ?_
                refine T_bipush (41) dX13_isStretchLine_99 rfl rfl ?_
                refine T_bipush (8) dX13_isStretchLine_101 rfl rfl ?_
                refine T_cV2 (mq_R hX hTK hmz (by decide) (q := (tkQ K 3 ((tkR K 44 7 ((opR K 35 19 ((tkQ K 2 ((tkR K 44 6 ((tkQ K 1 ((tkR K 43 1 ((true, adv s 1)))))))))))))))) z9 kc_41 (by decide) (by decide) (hQ9.1 z9)) hX k13_157 (Or.inl ⟨_, _, _, _, (hM.t_m), by decide, rfl⟩) (by decide) (Nat.le_of_ble_eq_true rfl) dX13_isStretchLine_103 rfl ?_
                rintro _ _ _ M9 ⟨⟨rfl, hQ9⟩, rfl, rfl, hF9⟩
                have hF := hF.tr hF9
                refine T_if_eq 113 109 dX13_isStretchLine_106 (by decide) rfl (fun c106 => ?_) (fun c106 => ?_)
                ·
                  have z9 := ifz0 c106
                  refine T_iconst (0) dX13_isStretchLine_113 rfl rfl ?_
                  refine T_iret rfl rfl dX13_isStretchLine_114 ?_
                  first
                    | (exact ⟨⟨by rw [if_pos (show (lnst K s).1 = true from z9)], hQ9⟩, rfl, rfl, hF⟩)
                    | (have e : lnst K s = (tkR K 43 1 ((true, adv s 1))) := by unfold lnst; simp only [tkR_n z9, tkQ_n z9, opR_n z9]
                       rw [e]; exact ⟨⟨by rw [if_neg z9], hQ9⟩, rfl, rfl, hF⟩)
                    | (have e : lnst K s = (tkQ K 1 ((tkR K 43 1 ((true, adv s 1))))) := by unfold lnst; simp only [tkR_n z9, tkQ_n z9, opR_n z9]
                       rw [e]; exact ⟨⟨by rw [if_neg z9], hQ9⟩, rfl, rfl, hF⟩)
                    | (have e : lnst K s = (tkR K 44 6 ((tkQ K 1 ((tkR K 43 1 ((true, adv s 1))))))) := by unfold lnst; simp only [tkR_n z9, tkQ_n z9, opR_n z9]
                       rw [e]; exact ⟨⟨by rw [if_neg z9], hQ9⟩, rfl, rfl, hF⟩)
                    | (have e : lnst K s = (tkQ K 2 ((tkR K 44 6 ((tkQ K 1 ((tkR K 43 1 ((true, adv s 1))))))))) := by unfold lnst; simp only [tkR_n z9, tkQ_n z9, opR_n z9]
                       rw [e]; exact ⟨⟨by rw [if_neg z9], hQ9⟩, rfl, rfl, hF⟩)
                    | (have e : lnst K s = (tkR K 44 7 ((opR K 35 19 ((tkQ K 2 ((tkR K 44 6 ((tkQ K 1 ((tkR K 43 1 ((true, adv s 1))))))))))))) := by unfold lnst; simp only [tkR_n z9, tkQ_n z9, opR_n z9]
                       rw [e]; exact ⟨⟨by rw [if_neg z9], hQ9⟩, rfl, rfl, hF⟩)
                    | (have e : lnst K s = (tkQ K 3 ((tkR K 44 7 ((opR K 35 19 ((tkQ K 2 ((tkR K 44 6 ((tkQ K 1 ((tkR K 43 1 ((true, adv s 1))))))))))))))) := by unfold lnst; simp only [tkR_n z9, tkQ_n z9, opR_n z9]
                       rw [e]; exact ⟨⟨by rw [if_neg z9], hQ9⟩, rfl, rfl, hF⟩)
                    | (have e : lnst K s = (tkR K 44 8 ((tkQ K 3 ((tkR K 44 7 ((opR K 35 19 ((tkQ K 2 ((tkR K 44 6 ((tkQ K 1 ((tkR K 43 1 ((true, adv s 1))))))))))))))))) := by unfold lnst; rfl
                       rw [e]; exact ⟨⟨by rw [if_neg z9], hQ9⟩, rfl, rfl, hF⟩)
                ·
                  have z9 := ifz1 c106
                  
                  refine T_iconst (1) dX13_isStretchLine_109 rfl rfl ?_
                  refine T_goto 114 dX13_isStretchLine_110 (by decide) ?_
                  refine T_iret rfl rfl dX13_isStretchLine_114 ?_
                  first
                    | (exact ⟨⟨by rw [if_pos (show (lnst K s).1 = true from z9)], hQ9⟩, rfl, rfl, hF⟩)
                    | (have e : lnst K s = (tkR K 43 1 ((true, adv s 1))) := by unfold lnst; simp only [tkR_n z9, tkQ_n z9, opR_n z9]
                       rw [e]; exact ⟨⟨by rw [if_neg z9], hQ9⟩, rfl, rfl, hF⟩)
                    | (have e : lnst K s = (tkQ K 1 ((tkR K 43 1 ((true, adv s 1))))) := by unfold lnst; simp only [tkR_n z9, tkQ_n z9, opR_n z9]
                       rw [e]; exact ⟨⟨by rw [if_neg z9], hQ9⟩, rfl, rfl, hF⟩)
                    | (have e : lnst K s = (tkR K 44 6 ((tkQ K 1 ((tkR K 43 1 ((true, adv s 1))))))) := by unfold lnst; simp only [tkR_n z9, tkQ_n z9, opR_n z9]
                       rw [e]; exact ⟨⟨by rw [if_neg z9], hQ9⟩, rfl, rfl, hF⟩)
                    | (have e : lnst K s = (tkQ K 2 ((tkR K 44 6 ((tkQ K 1 ((tkR K 43 1 ((true, adv s 1))))))))) := by unfold lnst; simp only [tkR_n z9, tkQ_n z9, opR_n z9]
                       rw [e]; exact ⟨⟨by rw [if_neg z9], hQ9⟩, rfl, rfl, hF⟩)
                    | (have e : lnst K s = (tkR K 44 7 ((opR K 35 19 ((tkQ K 2 ((tkR K 44 6 ((tkQ K 1 ((tkR K 43 1 ((true, adv s 1))))))))))))) := by unfold lnst; simp only [tkR_n z9, tkQ_n z9, opR_n z9]
                       rw [e]; exact ⟨⟨by rw [if_neg z9], hQ9⟩, rfl, rfl, hF⟩)
                    | (have e : lnst K s = (tkQ K 3 ((tkR K 44 7 ((opR K 35 19 ((tkQ K 2 ((tkR K 44 6 ((tkQ K 1 ((tkR K 43 1 ((true, adv s 1))))))))))))))) := by unfold lnst; simp only [tkR_n z9, tkQ_n z9, opR_n z9]
                       rw [e]; exact ⟨⟨by rw [if_neg z9], hQ9⟩, rfl, rfl, hF⟩)
                    | (have e : lnst K s = (tkR K 44 8 ((tkQ K 3 ((tkR K 44 7 ((opR K 35 19 ((tkQ K 2 ((tkR K 44 6 ((tkQ K 1 ((tkR K 43 1 ((true, adv s 1))))))))))))))))) := by unfold lnst; rfl
                       rw [e]; exact ⟨⟨by rw [if_neg z9], hQ9⟩, rfl, rfl, hF⟩)
          ·
            have e9 := ifz0 (by first | exact c66 | exact Decidable.not_not.mp c66)
            rw [if_neg e9] at hM9
            have e35 : ¬ K ((tkQ K 2 ((tkR K 44 6 ((tkQ K 1 ((tkR K 43 1 ((true, adv s 1)))))))))).2.1 = 35 := fun e => e9 ((kc_95 _ hk.1 hk.2).mpr e)
            have hM := hM9.rf
            refine T_aload0 dX13_isStretchLine_69 rfl ?_
            refine g13_26 _ rfl (hM.t_m) (hM.g_ro) dX13_isStretchLine_70 rfl ?_
            refine T_aload0 dX13_isStretchLine_73 rfl ?_
            refine g13_124 _ rfl (hM.t_m) (hM.g_tk) dX13_isStretchLine_74 rfl ?_
            refine T_iconst (0) dX13_isStretchLine_77 rfl rfl ?_
            refine T_iast _ (hM.t_ro) rfl (by omega) (by decide) dX13_isStretchLine_78 rfl ?_
            refine T_nm (fun M3 e3 => ?_)
            have hM := MV.mv (hM.p_vro (by omega)) e3
            have hV := hV.frU e3 (by omega)
            have hF := hF.up e3 (by omega)
            first
              | have hQ9 := MQQ.opy (q := (tkQ K 2 ((tkR K 44 6 ((tkQ K 1 ((tkR K 43 1 ((true, adv s 1)))))))))) (x := 19) z9 e35 hM hV hω hrl hw hG hn (hlt9 e35) hz
              | have hQ9 := MQQ.opn (q := (tkQ K 2 ((tkR K 44 6 ((tkQ K 1 ((tkR K 43 1 ((true, adv s 1)))))))))) (k := 35) (x := 19) z9 e35 hM hV hω hrl hw hG hn ht hz
            have z9 : ((opR K 35 19 ((tkQ K 2 ((tkR K 44 6 ((tkQ K 1 ((tkR K 43 1 ((true, adv s 1)))))))))))).1 = true := opR_t z9
            refine T_aload0 dX13_isStretchLine_79 rfl ?_
            refine T_bipush (41) dX13_isStretchLine_80 rfl rfl ?_
            refine T_bipush (7) dX13_isStretchLine_82 rfl rfl ?_
            refine T_cV2 (mq_R hX hTK hmz (by decide) (q := (opR K 35 19 ((tkQ K 2 ((tkR K 44 6 ((tkQ K 1 ((tkR K 43 1 ((true, adv s 1)))))))))))) z9 kc_41 (by decide) (by decide) (hQ9.1 z9)) hX k13_157 (Or.inl ⟨_, _, _, _, (hM.t_m), by decide, rfl⟩) (by decide) (Nat.le_of_ble_eq_true rfl) dX13_isStretchLine_84 rfl ?_
            rintro _ _ _ M9 ⟨⟨rfl, hQ9⟩, rfl, rfl, hF9⟩
            have hF := hF.tr hF9
            refine T_if_eq 113 90 dX13_isStretchLine_87 (by decide) rfl (fun c87 => ?_) (fun c87 => ?_)
            ·
              have z9 := ifz0 c87
              refine T_iconst (0) dX13_isStretchLine_113 rfl rfl ?_
              refine T_iret rfl rfl dX13_isStretchLine_114 ?_
              first
                | (exact ⟨⟨by rw [if_pos (show (lnst K s).1 = true from z9)], hQ9⟩, rfl, rfl, hF⟩)
                | (have e : lnst K s = (tkR K 43 1 ((true, adv s 1))) := by unfold lnst; simp only [tkR_n z9, tkQ_n z9, opR_n z9]
                   rw [e]; exact ⟨⟨by rw [if_neg z9], hQ9⟩, rfl, rfl, hF⟩)
                | (have e : lnst K s = (tkQ K 1 ((tkR K 43 1 ((true, adv s 1))))) := by unfold lnst; simp only [tkR_n z9, tkQ_n z9, opR_n z9]
                   rw [e]; exact ⟨⟨by rw [if_neg z9], hQ9⟩, rfl, rfl, hF⟩)
                | (have e : lnst K s = (tkR K 44 6 ((tkQ K 1 ((tkR K 43 1 ((true, adv s 1))))))) := by unfold lnst; simp only [tkR_n z9, tkQ_n z9, opR_n z9]
                   rw [e]; exact ⟨⟨by rw [if_neg z9], hQ9⟩, rfl, rfl, hF⟩)
                | (have e : lnst K s = (tkQ K 2 ((tkR K 44 6 ((tkQ K 1 ((tkR K 43 1 ((true, adv s 1))))))))) := by unfold lnst; simp only [tkR_n z9, tkQ_n z9, opR_n z9]
                   rw [e]; exact ⟨⟨by rw [if_neg z9], hQ9⟩, rfl, rfl, hF⟩)
                | (have e : lnst K s = (tkR K 44 7 ((opR K 35 19 ((tkQ K 2 ((tkR K 44 6 ((tkQ K 1 ((tkR K 43 1 ((true, adv s 1))))))))))))) := by unfold lnst; simp only [tkR_n z9, tkQ_n z9, opR_n z9]
                   rw [e]; exact ⟨⟨by rw [if_neg z9], hQ9⟩, rfl, rfl, hF⟩)
                | (have e : lnst K s = (tkQ K 3 ((tkR K 44 7 ((opR K 35 19 ((tkQ K 2 ((tkR K 44 6 ((tkQ K 1 ((tkR K 43 1 ((true, adv s 1))))))))))))))) := by unfold lnst; simp only [tkR_n z9, tkQ_n z9, opR_n z9]
                   rw [e]; exact ⟨⟨by rw [if_neg z9], hQ9⟩, rfl, rfl, hF⟩)
                | (have e : lnst K s = (tkR K 44 8 ((tkQ K 3 ((tkR K 44 7 ((opR K 35 19 ((tkQ K 2 ((tkR K 44 6 ((tkQ K 1 ((tkR K 43 1 ((true, adv s 1))))))))))))))))) := by unfold lnst; rfl
                   rw [e]; exact ⟨⟨by rw [if_neg z9], hQ9⟩, rfl, rfl, hF⟩)
            ·
              have z9 := ifz1 c87
              
              refine T_aload0 dX13_isStretchLine_90 rfl ?_
              refine T_iconst (3) dX13_isStretchLine_91 rfl rfl ?_
              refine T_cV1 (mq_Q hX hTK hmz (by decide) (q := (tkR K 44 7 ((opR K 35 19 ((tkQ K 2 ((tkR K 44 6 ((tkQ K 1 ((tkR K 43 1 ((true, adv s 1)))))))))))))) z9 kc_3 (by decide) (by decide) (hQ9.1 z9)) hX k13_130 (Or.inl ⟨_, _, _, _, (hM.t_m), by decide, rfl⟩) (by decide) (Nat.le_of_ble_eq_true rfl) dX13_isStretchLine_92 rfl ?_
              rintro _ _ _ M9 ⟨⟨rfl, hQ9⟩, rfl, rfl, hF9⟩
              have hF := hF.tr hF9
              refine T_if_eq 113 98 dX13_isStretchLine_95 (by decide) rfl (fun c95 => ?_) (fun c95 => ?_)
              ·
                have z9 := ifz0 c95
                refine T_iconst (0) dX13_isStretchLine_113 rfl rfl ?_
                refine T_iret rfl rfl dX13_isStretchLine_114 ?_
                first
                  | (exact ⟨⟨by rw [if_pos (show (lnst K s).1 = true from z9)], hQ9⟩, rfl, rfl, hF⟩)
                  | (have e : lnst K s = (tkR K 43 1 ((true, adv s 1))) := by unfold lnst; simp only [tkR_n z9, tkQ_n z9, opR_n z9]
                     rw [e]; exact ⟨⟨by rw [if_neg z9], hQ9⟩, rfl, rfl, hF⟩)
                  | (have e : lnst K s = (tkQ K 1 ((tkR K 43 1 ((true, adv s 1))))) := by unfold lnst; simp only [tkR_n z9, tkQ_n z9, opR_n z9]
                     rw [e]; exact ⟨⟨by rw [if_neg z9], hQ9⟩, rfl, rfl, hF⟩)
                  | (have e : lnst K s = (tkR K 44 6 ((tkQ K 1 ((tkR K 43 1 ((true, adv s 1))))))) := by unfold lnst; simp only [tkR_n z9, tkQ_n z9, opR_n z9]
                     rw [e]; exact ⟨⟨by rw [if_neg z9], hQ9⟩, rfl, rfl, hF⟩)
                  | (have e : lnst K s = (tkQ K 2 ((tkR K 44 6 ((tkQ K 1 ((tkR K 43 1 ((true, adv s 1))))))))) := by unfold lnst; simp only [tkR_n z9, tkQ_n z9, opR_n z9]
                     rw [e]; exact ⟨⟨by rw [if_neg z9], hQ9⟩, rfl, rfl, hF⟩)
                  | (have e : lnst K s = (tkR K 44 7 ((opR K 35 19 ((tkQ K 2 ((tkR K 44 6 ((tkQ K 1 ((tkR K 43 1 ((true, adv s 1))))))))))))) := by unfold lnst; simp only [tkR_n z9, tkQ_n z9, opR_n z9]
                     rw [e]; exact ⟨⟨by rw [if_neg z9], hQ9⟩, rfl, rfl, hF⟩)
                  | (have e : lnst K s = (tkQ K 3 ((tkR K 44 7 ((opR K 35 19 ((tkQ K 2 ((tkR K 44 6 ((tkQ K 1 ((tkR K 43 1 ((true, adv s 1))))))))))))))) := by unfold lnst; simp only [tkR_n z9, tkQ_n z9, opR_n z9]
                     rw [e]; exact ⟨⟨by rw [if_neg z9], hQ9⟩, rfl, rfl, hF⟩)
                  | (have e : lnst K s = (tkR K 44 8 ((tkQ K 3 ((tkR K 44 7 ((opR K 35 19 ((tkQ K 2 ((tkR K 44 6 ((tkQ K 1 ((tkR K 43 1 ((true, adv s 1))))))))))))))))) := by unfold lnst; rfl
                     rw [e]; exact ⟨⟨by rw [if_neg z9], hQ9⟩, rfl, rfl, hF⟩)
              ·
                have z9 := ifz1 c95
                
                refine T_aload0 dX13_isStretchLine_98 rfl ?_
                refine T_bipush (41) dX13_isStretchLine_99 rfl rfl ?_
                refine T_bipush (8) dX13_isStretchLine_101 rfl rfl ?_
                refine T_cV2 (mq_R hX hTK hmz (by decide) (q := (tkQ K 3 ((tkR K 44 7 ((opR K 35 19 ((tkQ K 2 ((tkR K 44 6 ((tkQ K 1 ((tkR K 43 1 ((true, adv s 1)))))))))))))))) z9 kc_41 (by decide) (by decide) (hQ9.1 z9)) hX k13_157 (Or.inl ⟨_, _, _, _, (hM.t_m), by decide, rfl⟩) (by decide) (Nat.le_of_ble_eq_true rfl) dX13_isStretchLine_103 rfl ?_
                rintro _ _ _ M9 ⟨⟨rfl, hQ9⟩, rfl, rfl, hF9⟩
                have hF := hF.tr hF9
                refine T_if_eq 113 109 dX13_isStretchLine_106 (by decide) rfl (fun c106 => ?_) (fun c106 => ?_)
                ·
                  have z9 := ifz0 c106
                  refine T_iconst (0) dX13_isStretchLine_113 rfl rfl ?_
                  refine T_iret rfl rfl dX13_isStretchLine_114 ?_
                  first
                    | (exact ⟨⟨by rw [if_pos (show (lnst K s).1 = true from z9)], hQ9⟩, rfl, rfl, hF⟩)
                    | (have e : lnst K s = (tkR K 43 1 ((true, adv s 1))) := by unfold lnst; simp only [tkR_n z9, tkQ_n z9, opR_n z9]
                       rw [e]; exact ⟨⟨by rw [if_neg z9], hQ9⟩, rfl, rfl, hF⟩)
                    | (have e : lnst K s = (tkQ K 1 ((tkR K 43 1 ((true, adv s 1))))) := by unfold lnst; simp only [tkR_n z9, tkQ_n z9, opR_n z9]
                       rw [e]; exact ⟨⟨by rw [if_neg z9], hQ9⟩, rfl, rfl, hF⟩)
                    | (have e : lnst K s = (tkR K 44 6 ((tkQ K 1 ((tkR K 43 1 ((true, adv s 1))))))) := by unfold lnst; simp only [tkR_n z9, tkQ_n z9, opR_n z9]
                       rw [e]; exact ⟨⟨by rw [if_neg z9], hQ9⟩, rfl, rfl, hF⟩)
                    | (have e : lnst K s = (tkQ K 2 ((tkR K 44 6 ((tkQ K 1 ((tkR K 43 1 ((true, adv s 1))))))))) := by unfold lnst; simp only [tkR_n z9, tkQ_n z9, opR_n z9]
                       rw [e]; exact ⟨⟨by rw [if_neg z9], hQ9⟩, rfl, rfl, hF⟩)
                    | (have e : lnst K s = (tkR K 44 7 ((opR K 35 19 ((tkQ K 2 ((tkR K 44 6 ((tkQ K 1 ((tkR K 43 1 ((true, adv s 1))))))))))))) := by unfold lnst; simp only [tkR_n z9, tkQ_n z9, opR_n z9]
                       rw [e]; exact ⟨⟨by rw [if_neg z9], hQ9⟩, rfl, rfl, hF⟩)
                    | (have e : lnst K s = (tkQ K 3 ((tkR K 44 7 ((opR K 35 19 ((tkQ K 2 ((tkR K 44 6 ((tkQ K 1 ((tkR K 43 1 ((true, adv s 1))))))))))))))) := by unfold lnst; simp only [tkR_n z9, tkQ_n z9, opR_n z9]
                       rw [e]; exact ⟨⟨by rw [if_neg z9], hQ9⟩, rfl, rfl, hF⟩)
                    | (have e : lnst K s = (tkR K 44 8 ((tkQ K 3 ((tkR K 44 7 ((opR K 35 19 ((tkQ K 2 ((tkR K 44 6 ((tkQ K 1 ((tkR K 43 1 ((true, adv s 1))))))))))))))))) := by unfold lnst; rfl
                       rw [e]; exact ⟨⟨by rw [if_neg z9], hQ9⟩, rfl, rfl, hF⟩)
                ·
                  have z9 := ifz1 c106
                  
                  refine T_iconst (1) dX13_isStretchLine_109 rfl rfl ?_
                  refine T_goto 114 dX13_isStretchLine_110 (by decide) ?_
                  refine T_iret rfl rfl dX13_isStretchLine_114 ?_
                  first
                    | (exact ⟨⟨by rw [if_pos (show (lnst K s).1 = true from z9)], hQ9⟩, rfl, rfl, hF⟩)
                    | (have e : lnst K s = (tkR K 43 1 ((true, adv s 1))) := by unfold lnst; simp only [tkR_n z9, tkQ_n z9, opR_n z9]
                       rw [e]; exact ⟨⟨by rw [if_neg z9], hQ9⟩, rfl, rfl, hF⟩)
                    | (have e : lnst K s = (tkQ K 1 ((tkR K 43 1 ((true, adv s 1))))) := by unfold lnst; simp only [tkR_n z9, tkQ_n z9, opR_n z9]
                       rw [e]; exact ⟨⟨by rw [if_neg z9], hQ9⟩, rfl, rfl, hF⟩)
                    | (have e : lnst K s = (tkR K 44 6 ((tkQ K 1 ((tkR K 43 1 ((true, adv s 1))))))) := by unfold lnst; simp only [tkR_n z9, tkQ_n z9, opR_n z9]
                       rw [e]; exact ⟨⟨by rw [if_neg z9], hQ9⟩, rfl, rfl, hF⟩)
                    | (have e : lnst K s = (tkQ K 2 ((tkR K 44 6 ((tkQ K 1 ((tkR K 43 1 ((true, adv s 1))))))))) := by unfold lnst; simp only [tkR_n z9, tkQ_n z9, opR_n z9]
                       rw [e]; exact ⟨⟨by rw [if_neg z9], hQ9⟩, rfl, rfl, hF⟩)
                    | (have e : lnst K s = (tkR K 44 7 ((opR K 35 19 ((tkQ K 2 ((tkR K 44 6 ((tkQ K 1 ((tkR K 43 1 ((true, adv s 1))))))))))))) := by unfold lnst; simp only [tkR_n z9, tkQ_n z9, opR_n z9]
                       rw [e]; exact ⟨⟨by rw [if_neg z9], hQ9⟩, rfl, rfl, hF⟩)
                    | (have e : lnst K s = (tkQ K 3 ((tkR K 44 7 ((opR K 35 19 ((tkQ K 2 ((tkR K 44 6 ((tkQ K 1 ((tkR K 43 1 ((true, adv s 1))))))))))))))) := by unfold lnst; simp only [tkR_n z9, tkQ_n z9, opR_n z9]
                       rw [e]; exact ⟨⟨by rw [if_neg z9], hQ9⟩, rfl, rfl, hF⟩)
                    | (have e : lnst K s = (tkR K 44 8 ((tkQ K 3 ((tkR K 44 7 ((opR K 35 19 ((tkQ K 2 ((tkR K 44 6 ((tkQ K 1 ((tkR K 43 1 ((true, adv s 1))))))))))))))))) := by unfold lnst; rfl
                       rw [e]; exact ⟨⟨by rw [if_neg z9], hQ9⟩, rfl, rfl, hF⟩)
        ·
          have z9 := ifz0 (by first | exact c44 | exact Decidable.not_not.mp c44)
          refine T_iconst (0) dX13_isStretchLine_47 rfl rfl ?_
          refine T_iret rfl rfl dX13_isStretchLine_48 ?_
          first
            | (have e : lnst K s = (tkR K 43 1 ((true, adv s 1))) := by unfold lnst; simp only [tkR_n z9, tkQ_n z9, opR_n z9]
               rw [e]; exact ⟨⟨by rw [if_neg z9], hQ9⟩, rfl, rfl, hF⟩)
            | (have e : lnst K s = (tkQ K 1 ((tkR K 43 1 ((true, adv s 1))))) := by unfold lnst; simp only [tkR_n z9, tkQ_n z9, opR_n z9]
               rw [e]; exact ⟨⟨by rw [if_neg z9], hQ9⟩, rfl, rfl, hF⟩)
            | (have e : lnst K s = (tkR K 44 6 ((tkQ K 1 ((tkR K 43 1 ((true, adv s 1))))))) := by unfold lnst; simp only [tkR_n z9, tkQ_n z9, opR_n z9]
               rw [e]; exact ⟨⟨by rw [if_neg z9], hQ9⟩, rfl, rfl, hF⟩)
            | (have e : lnst K s = (tkQ K 2 ((tkR K 44 6 ((tkQ K 1 ((tkR K 43 1 ((true, adv s 1))))))))) := by unfold lnst; simp only [tkR_n z9, tkQ_n z9, opR_n z9]
               rw [e]; exact ⟨⟨by rw [if_neg z9], hQ9⟩, rfl, rfl, hF⟩)
            | (have e : lnst K s = (tkR K 44 7 ((opR K 35 19 ((tkQ K 2 ((tkR K 44 6 ((tkQ K 1 ((tkR K 43 1 ((true, adv s 1))))))))))))) := by unfold lnst; simp only [tkR_n z9, tkQ_n z9, opR_n z9]
               rw [e]; exact ⟨⟨by rw [if_neg z9], hQ9⟩, rfl, rfl, hF⟩)
            | (have e : lnst K s = (tkQ K 3 ((tkR K 44 7 ((opR K 35 19 ((tkQ K 2 ((tkR K 44 6 ((tkQ K 1 ((tkR K 43 1 ((true, adv s 1))))))))))))))) := by unfold lnst; simp only [tkR_n z9, tkQ_n z9, opR_n z9]
               rw [e]; exact ⟨⟨by rw [if_neg z9], hQ9⟩, rfl, rfl, hF⟩)
            | (have e : lnst K s = (tkR K 44 8 ((tkQ K 3 ((tkR K 44 7 ((opR K 35 19 ((tkQ K 2 ((tkR K 44 6 ((tkQ K 1 ((tkR K 43 1 ((true, adv s 1))))))))))))))))) := by unfold lnst; rfl
               rw [e]; exact ⟨⟨by rw [if_neg z9], hQ9⟩, rfl, rfl, hF⟩)
set_option maxHeartbeats 1000000 in
theorem c_X13_isHorseLine {l : Launch} {D : va_G} {cA : Nat → ClassId} {n0 : Nat} {sg adK adV : Nat → Nat} {sgA smA wdA bS LS : Nat} {xs : Nat → Int32} (hX : SF n0 (XW0 sg adK adV sgA smA wdA n0 bS LS xs)) {m y z s1 s2 n8 hr wr lt : Nat} {B : Nat → Nat} {K : Nat → Nat} {S : Nat → Int32} {V : Nat → Int64} {ω0 w0 : RH} (hTK : TKF B lt K S V ω0) (hmz : m + 7 ≤ z ∨ z + 19 ≤ m) {s : PS} (h0 : K s.1 < 45) {sz : Nat} {τ : TY} {M : ME} (hQ : MPl τ M m y z s1 s2 n8 B ω0 w0 hr wr lt (0) (0) (s)) : CT l D cA n0 (XW0 sg adK adV sgA smA wdA n0 bS LS xs) mX13_isHorseLine 6 0 0 sz τ M [.ref m] (fun v' sz' τ' M' => (v' = some (.int (if (lnho K s).1 = true then 1 else 0)) ∧ MQQ τ M' m y z s1 s2 n8 B ω0 w0 hr wr lt (0) (0) (lnho K s)) ∧ sz' = sz ∧ τ' = τ ∧ FMZ m z M M') := by
  refine CT.of (ls := [.ref m]) (by decide) (Nat.le_of_ble_eq_true rfl) rfl ?_
  obtain ⟨ω, w, hM, hV, hω, hrl, hw, hG, hn, ht, hz⟩ := hQ
  have hl := hTK.1.1
  have hlt := hTK.lt ht rfl (by omega) (by omega)
  have hF : FMZ m z M M := FMZ.rf _ _ _
  refine T_aload0 dX13_isHorseLine_0 rfl ?_
  refine T_dup dX13_isHorseLine_1 rfl rfl ?_
  refine g13_124 _ rfl (hM.t_m) (hM.g_tk) dX13_isHorseLine_2 rfl ?_
  refine T_iconst (1) dX13_isHorseLine_5 rfl rfl ?_
  refine T_iadd dX13_isHorseLine_6 rfl ?_
  refine p13_124 rfl (hM.t_m) dX13_isHorseLine_7 rfl ?_
  refine T_nm (fun M1 e1 => ?_)
  have hM := MV.mv (hM.p_tk (n := s.1 + 1) (nI_1 _)) e1
  have hV := hV.frU e1 (by omega)
  have hF := hF.up e1 (by omega)
  refine T_aload0 dX13_isHorseLine_10 rfl ?_
  refine T_bipush (40) dX13_isHorseLine_11 rfl rfl ?_
  refine T_iconst (2) dX13_isHorseLine_13 rfl rfl ?_
  refine T_cV2 (mq_R hX hTK hmz (by decide) (q := (true, adv s 1)) rfl kc_40 (by decide) (by decide) (⟨ω, w, hM.rf, hV.rf, hω, hrl, hw, hG, (by show s.2.1 + 0 ≤ s.1 + 1; omega), hlt, (fun i hi => hz i (Nat.le_trans (Nat.le_succ _) hi))⟩)) hX k13_157 (Or.inl ⟨_, _, _, _, (hM.t_m), by decide, rfl⟩) (by decide) (Nat.le_of_ble_eq_true rfl) dX13_isHorseLine_14 rfl ?_
  rintro _ _ _ M9 ⟨⟨rfl, hQ9⟩, rfl, rfl, hF9⟩
  have hF := hF.tr hF9
  refine T_if_eq 79 20 dX13_isHorseLine_17 (by decide) rfl (fun c17 => ?_) (fun c17 => ?_)
  ·
    have z9 := ifz0 c17
    refine T_iconst (0) dX13_isHorseLine_79 rfl rfl ?_
    refine T_iret rfl rfl dX13_isHorseLine_80 ?_
    first
      | (have e : lnho K s = (tkR K 43 2 ((true, adv s 1))) := by unfold lnho; simp only [tkR_n z9, tkQ_n z9, opR_n z9]
         rw [e]; exact ⟨⟨by rw [if_neg z9], hQ9⟩, rfl, rfl, hF⟩)
      | (have e : lnho K s = (tkQ K 5 ((tkR K 43 2 ((true, adv s 1))))) := by unfold lnho; simp only [tkR_n z9, tkQ_n z9, opR_n z9]
         rw [e]; exact ⟨⟨by rw [if_neg z9], hQ9⟩, rfl, rfl, hF⟩)
      | (have e : lnho K s = (tkR K 44 9 ((tkQ K 5 ((tkR K 43 2 ((true, adv s 1))))))) := by unfold lnho; simp only [tkR_n z9, tkQ_n z9, opR_n z9]
         rw [e]; exact ⟨⟨by rw [if_neg z9], hQ9⟩, rfl, rfl, hF⟩)
      | (have e : lnho K s = (tkQ K 6 ((tkR K 44 9 ((tkQ K 5 ((tkR K 43 2 ((true, adv s 1))))))))) := by unfold lnho; simp only [tkR_n z9, tkQ_n z9, opR_n z9]
         rw [e]; exact ⟨⟨by rw [if_neg z9], hQ9⟩, rfl, rfl, hF⟩)
      | (have e : lnho K s = (tkR K 44 10 ((tkQ K 6 ((tkR K 44 9 ((tkQ K 5 ((tkR K 43 2 ((true, adv s 1))))))))))) := by unfold lnho; simp only [tkR_n z9, tkQ_n z9, opR_n z9]
         rw [e]; exact ⟨⟨by rw [if_neg z9], hQ9⟩, rfl, rfl, hF⟩)
      | (have e : lnho K s = (tkQ K 7 ((tkR K 44 10 ((tkQ K 6 ((tkR K 44 9 ((tkQ K 5 ((tkR K 43 2 ((true, adv s 1))))))))))))) := by unfold lnho; simp only [tkR_n z9, tkQ_n z9, opR_n z9]
         rw [e]; exact ⟨⟨by rw [if_neg z9], hQ9⟩, rfl, rfl, hF⟩)
      | (have e : lnho K s = (tkR K 44 11 ((tkQ K 7 ((tkR K 44 10 ((tkQ K 6 ((tkR K 44 9 ((tkQ K 5 ((tkR K 43 2 ((true, adv s 1))))))))))))))) := by unfold lnho; simp only [tkR_n z9, tkQ_n z9, opR_n z9]
         rw [e]; exact ⟨⟨by rw [if_neg z9], hQ9⟩, rfl, rfl, hF⟩)
  ·
    have z9 := ifz1 c17
    
    refine T_aload0 dX13_isHorseLine_20 rfl ?_
    refine T_iconst (5) dX13_isHorseLine_21 rfl rfl ?_
    refine T_cV1 (mq_Q hX hTK hmz (by decide) (q := (tkR K 43 2 ((true, adv s 1)))) z9 kc_5 (by decide) (by decide) (hQ9.1 z9)) hX k13_130 (Or.inl ⟨_, _, _, _, (hM.t_m), by decide, rfl⟩) (by decide) (Nat.le_of_ble_eq_true rfl) dX13_isHorseLine_22 rfl ?_
    rintro _ _ _ M9 ⟨⟨rfl, hQ9⟩, rfl, rfl, hF9⟩
    have hF := hF.tr hF9
    refine T_if_eq 79 28 dX13_isHorseLine_25 (by decide) rfl (fun c25 => ?_) (fun c25 => ?_)
    ·
      have z9 := ifz0 c25
      refine T_iconst (0) dX13_isHorseLine_79 rfl rfl ?_
      refine T_iret rfl rfl dX13_isHorseLine_80 ?_
      first
        | (have e : lnho K s = (tkR K 43 2 ((true, adv s 1))) := by unfold lnho; simp only [tkR_n z9, tkQ_n z9, opR_n z9]
           rw [e]; exact ⟨⟨by rw [if_neg z9], hQ9⟩, rfl, rfl, hF⟩)
        | (have e : lnho K s = (tkQ K 5 ((tkR K 43 2 ((true, adv s 1))))) := by unfold lnho; simp only [tkR_n z9, tkQ_n z9, opR_n z9]
           rw [e]; exact ⟨⟨by rw [if_neg z9], hQ9⟩, rfl, rfl, hF⟩)
        | (have e : lnho K s = (tkR K 44 9 ((tkQ K 5 ((tkR K 43 2 ((true, adv s 1))))))) := by unfold lnho; simp only [tkR_n z9, tkQ_n z9, opR_n z9]
           rw [e]; exact ⟨⟨by rw [if_neg z9], hQ9⟩, rfl, rfl, hF⟩)
        | (have e : lnho K s = (tkQ K 6 ((tkR K 44 9 ((tkQ K 5 ((tkR K 43 2 ((true, adv s 1))))))))) := by unfold lnho; simp only [tkR_n z9, tkQ_n z9, opR_n z9]
           rw [e]; exact ⟨⟨by rw [if_neg z9], hQ9⟩, rfl, rfl, hF⟩)
        | (have e : lnho K s = (tkR K 44 10 ((tkQ K 6 ((tkR K 44 9 ((tkQ K 5 ((tkR K 43 2 ((true, adv s 1))))))))))) := by unfold lnho; simp only [tkR_n z9, tkQ_n z9, opR_n z9]
           rw [e]; exact ⟨⟨by rw [if_neg z9], hQ9⟩, rfl, rfl, hF⟩)
        | (have e : lnho K s = (tkQ K 7 ((tkR K 44 10 ((tkQ K 6 ((tkR K 44 9 ((tkQ K 5 ((tkR K 43 2 ((true, adv s 1))))))))))))) := by unfold lnho; simp only [tkR_n z9, tkQ_n z9, opR_n z9]
           rw [e]; exact ⟨⟨by rw [if_neg z9], hQ9⟩, rfl, rfl, hF⟩)
        | (have e : lnho K s = (tkR K 44 11 ((tkQ K 7 ((tkR K 44 10 ((tkQ K 6 ((tkR K 44 9 ((tkQ K 5 ((tkR K 43 2 ((true, adv s 1))))))))))))))) := by unfold lnho; simp only [tkR_n z9, tkQ_n z9, opR_n z9]
           rw [e]; exact ⟨⟨by rw [if_neg z9], hQ9⟩, rfl, rfl, hF⟩)
    ·
      have z9 := ifz1 c25
      
      refine T_aload0 dX13_isHorseLine_28 rfl ?_
      refine T_bipush (41) dX13_isHorseLine_29 rfl rfl ?_
      refine T_bipush (9) dX13_isHorseLine_31 rfl rfl ?_
      refine T_cV2 (mq_R hX hTK hmz (by decide) (q := (tkQ K 5 ((tkR K 43 2 ((true, adv s 1)))))) z9 kc_41 (by decide) (by decide) (hQ9.1 z9)) hX k13_157 (Or.inl ⟨_, _, _, _, (hM.t_m), by decide, rfl⟩) (by decide) (Nat.le_of_ble_eq_true rfl) dX13_isHorseLine_33 rfl ?_
      rintro _ _ _ M9 ⟨⟨rfl, hQ9⟩, rfl, rfl, hF9⟩
      have hF := hF.tr hF9
      refine T_if_eq 79 39 dX13_isHorseLine_36 (by decide) rfl (fun c36 => ?_) (fun c36 => ?_)
      ·
        have z9 := ifz0 c36
        refine T_iconst (0) dX13_isHorseLine_79 rfl rfl ?_
        refine T_iret rfl rfl dX13_isHorseLine_80 ?_
        first
          | (have e : lnho K s = (tkR K 43 2 ((true, adv s 1))) := by unfold lnho; simp only [tkR_n z9, tkQ_n z9, opR_n z9]
             rw [e]; exact ⟨⟨by rw [if_neg z9], hQ9⟩, rfl, rfl, hF⟩)
          | (have e : lnho K s = (tkQ K 5 ((tkR K 43 2 ((true, adv s 1))))) := by unfold lnho; simp only [tkR_n z9, tkQ_n z9, opR_n z9]
             rw [e]; exact ⟨⟨by rw [if_neg z9], hQ9⟩, rfl, rfl, hF⟩)
          | (have e : lnho K s = (tkR K 44 9 ((tkQ K 5 ((tkR K 43 2 ((true, adv s 1))))))) := by unfold lnho; simp only [tkR_n z9, tkQ_n z9, opR_n z9]
             rw [e]; exact ⟨⟨by rw [if_neg z9], hQ9⟩, rfl, rfl, hF⟩)
          | (have e : lnho K s = (tkQ K 6 ((tkR K 44 9 ((tkQ K 5 ((tkR K 43 2 ((true, adv s 1))))))))) := by unfold lnho; simp only [tkR_n z9, tkQ_n z9, opR_n z9]
             rw [e]; exact ⟨⟨by rw [if_neg z9], hQ9⟩, rfl, rfl, hF⟩)
          | (have e : lnho K s = (tkR K 44 10 ((tkQ K 6 ((tkR K 44 9 ((tkQ K 5 ((tkR K 43 2 ((true, adv s 1))))))))))) := by unfold lnho; simp only [tkR_n z9, tkQ_n z9, opR_n z9]
             rw [e]; exact ⟨⟨by rw [if_neg z9], hQ9⟩, rfl, rfl, hF⟩)
          | (have e : lnho K s = (tkQ K 7 ((tkR K 44 10 ((tkQ K 6 ((tkR K 44 9 ((tkQ K 5 ((tkR K 43 2 ((true, adv s 1))))))))))))) := by unfold lnho; simp only [tkR_n z9, tkQ_n z9, opR_n z9]
             rw [e]; exact ⟨⟨by rw [if_neg z9], hQ9⟩, rfl, rfl, hF⟩)
          | (have e : lnho K s = (tkR K 44 11 ((tkQ K 7 ((tkR K 44 10 ((tkQ K 6 ((tkR K 44 9 ((tkQ K 5 ((tkR K 43 2 ((true, adv s 1))))))))))))))) := by unfold lnho; simp only [tkR_n z9, tkQ_n z9, opR_n z9]
             rw [e]; exact ⟨⟨by rw [if_neg z9], hQ9⟩, rfl, rfl, hF⟩)
      ·
        have z9 := ifz1 c36
        
        refine T_aload0 dX13_isHorseLine_39 rfl ?_
        refine T_bipush (6) dX13_isHorseLine_40 rfl rfl ?_
        refine T_cV1 (mq_Q hX hTK hmz (by decide) (q := (tkR K 44 9 ((tkQ K 5 ((tkR K 43 2 ((true, adv s 1)))))))) z9 kc_6 (by decide) (by decide) (hQ9.1 z9)) hX k13_130 (Or.inl ⟨_, _, _, _, (hM.t_m), by decide, rfl⟩) (by decide) (Nat.le_of_ble_eq_true rfl) dX13_isHorseLine_42 rfl ?_
        rintro _ _ _ M9 ⟨⟨rfl, hQ9⟩, rfl, rfl, hF9⟩
        have hF := hF.tr hF9
        refine T_if_eq 79 48 dX13_isHorseLine_45 (by decide) rfl (fun c45 => ?_) (fun c45 => ?_)
        ·
          have z9 := ifz0 c45
          refine T_iconst (0) dX13_isHorseLine_79 rfl rfl ?_
          refine T_iret rfl rfl dX13_isHorseLine_80 ?_
          first
            | (have e : lnho K s = (tkR K 43 2 ((true, adv s 1))) := by unfold lnho; simp only [tkR_n z9, tkQ_n z9, opR_n z9]
               rw [e]; exact ⟨⟨by rw [if_neg z9], hQ9⟩, rfl, rfl, hF⟩)
            | (have e : lnho K s = (tkQ K 5 ((tkR K 43 2 ((true, adv s 1))))) := by unfold lnho; simp only [tkR_n z9, tkQ_n z9, opR_n z9]
               rw [e]; exact ⟨⟨by rw [if_neg z9], hQ9⟩, rfl, rfl, hF⟩)
            | (have e : lnho K s = (tkR K 44 9 ((tkQ K 5 ((tkR K 43 2 ((true, adv s 1))))))) := by unfold lnho; simp only [tkR_n z9, tkQ_n z9, opR_n z9]
               rw [e]; exact ⟨⟨by rw [if_neg z9], hQ9⟩, rfl, rfl, hF⟩)
            | (have e : lnho K s = (tkQ K 6 ((tkR K 44 9 ((tkQ K 5 ((tkR K 43 2 ((true, adv s 1))))))))) := by unfold lnho; simp only [tkR_n z9, tkQ_n z9, opR_n z9]
               rw [e]; exact ⟨⟨by rw [if_neg z9], hQ9⟩, rfl, rfl, hF⟩)
            | (have e : lnho K s = (tkR K 44 10 ((tkQ K 6 ((tkR K 44 9 ((tkQ K 5 ((tkR K 43 2 ((true, adv s 1))))))))))) := by unfold lnho; simp only [tkR_n z9, tkQ_n z9, opR_n z9]
               rw [e]; exact ⟨⟨by rw [if_neg z9], hQ9⟩, rfl, rfl, hF⟩)
            | (have e : lnho K s = (tkQ K 7 ((tkR K 44 10 ((tkQ K 6 ((tkR K 44 9 ((tkQ K 5 ((tkR K 43 2 ((true, adv s 1))))))))))))) := by unfold lnho; simp only [tkR_n z9, tkQ_n z9, opR_n z9]
               rw [e]; exact ⟨⟨by rw [if_neg z9], hQ9⟩, rfl, rfl, hF⟩)
            | (have e : lnho K s = (tkR K 44 11 ((tkQ K 7 ((tkR K 44 10 ((tkQ K 6 ((tkR K 44 9 ((tkQ K 5 ((tkR K 43 2 ((true, adv s 1))))))))))))))) := by unfold lnho; simp only [tkR_n z9, tkQ_n z9, opR_n z9]
               rw [e]; exact ⟨⟨by rw [if_neg z9], hQ9⟩, rfl, rfl, hF⟩)
        ·
          have z9 := ifz1 c45
          
          refine T_aload0 dX13_isHorseLine_48 rfl ?_
          refine T_bipush (41) dX13_isHorseLine_49 rfl rfl ?_
          refine T_bipush (10) dX13_isHorseLine_51 rfl rfl ?_
          refine T_cV2 (mq_R hX hTK hmz (by decide) (q := (tkQ K 6 ((tkR K 44 9 ((tkQ K 5 ((tkR K 43 2 ((true, adv s 1)))))))))) z9 kc_41 (by decide) (by decide) (hQ9.1 z9)) hX k13_157 (Or.inl ⟨_, _, _, _, (hM.t_m), by decide, rfl⟩) (by decide) (Nat.le_of_ble_eq_true rfl) dX13_isHorseLine_53 rfl ?_
          rintro _ _ _ M9 ⟨⟨rfl, hQ9⟩, rfl, rfl, hF9⟩
          have hF := hF.tr hF9
          refine T_if_eq 79 59 dX13_isHorseLine_56 (by decide) rfl (fun c56 => ?_) (fun c56 => ?_)
          ·
            have z9 := ifz0 c56
            refine T_iconst (0) dX13_isHorseLine_79 rfl rfl ?_
            refine T_iret rfl rfl dX13_isHorseLine_80 ?_
            first
              | (have e : lnho K s = (tkR K 43 2 ((true, adv s 1))) := by unfold lnho; simp only [tkR_n z9, tkQ_n z9, opR_n z9]
                 rw [e]; exact ⟨⟨by rw [if_neg z9], hQ9⟩, rfl, rfl, hF⟩)
              | (have e : lnho K s = (tkQ K 5 ((tkR K 43 2 ((true, adv s 1))))) := by unfold lnho; simp only [tkR_n z9, tkQ_n z9, opR_n z9]
                 rw [e]; exact ⟨⟨by rw [if_neg z9], hQ9⟩, rfl, rfl, hF⟩)
              | (have e : lnho K s = (tkR K 44 9 ((tkQ K 5 ((tkR K 43 2 ((true, adv s 1))))))) := by unfold lnho; simp only [tkR_n z9, tkQ_n z9, opR_n z9]
                 rw [e]; exact ⟨⟨by rw [if_neg z9], hQ9⟩, rfl, rfl, hF⟩)
              | (have e : lnho K s = (tkQ K 6 ((tkR K 44 9 ((tkQ K 5 ((tkR K 43 2 ((true, adv s 1))))))))) := by unfold lnho; simp only [tkR_n z9, tkQ_n z9, opR_n z9]
                 rw [e]; exact ⟨⟨by rw [if_neg z9], hQ9⟩, rfl, rfl, hF⟩)
              | (have e : lnho K s = (tkR K 44 10 ((tkQ K 6 ((tkR K 44 9 ((tkQ K 5 ((tkR K 43 2 ((true, adv s 1))))))))))) := by unfold lnho; simp only [tkR_n z9, tkQ_n z9, opR_n z9]
                 rw [e]; exact ⟨⟨by rw [if_neg z9], hQ9⟩, rfl, rfl, hF⟩)
              | (have e : lnho K s = (tkQ K 7 ((tkR K 44 10 ((tkQ K 6 ((tkR K 44 9 ((tkQ K 5 ((tkR K 43 2 ((true, adv s 1))))))))))))) := by unfold lnho; simp only [tkR_n z9, tkQ_n z9, opR_n z9]
                 rw [e]; exact ⟨⟨by rw [if_neg z9], hQ9⟩, rfl, rfl, hF⟩)
              | (have e : lnho K s = (tkR K 44 11 ((tkQ K 7 ((tkR K 44 10 ((tkQ K 6 ((tkR K 44 9 ((tkQ K 5 ((tkR K 43 2 ((true, adv s 1))))))))))))))) := by unfold lnho; simp only [tkR_n z9, tkQ_n z9, opR_n z9]
                 rw [e]; exact ⟨⟨by rw [if_neg z9], hQ9⟩, rfl, rfl, hF⟩)
          ·
            have z9 := ifz1 c56
            
            refine T_aload0 dX13_isHorseLine_59 rfl ?_
            refine T_bipush (7) dX13_isHorseLine_60 rfl rfl ?_
            refine T_cV1 (mq_Q hX hTK hmz (by decide) (q := (tkR K 44 10 ((tkQ K 6 ((tkR K 44 9 ((tkQ K 5 ((tkR K 43 2 ((true, adv s 1)))))))))))) z9 kc_7 (by decide) (by decide) (hQ9.1 z9)) hX k13_130 (Or.inl ⟨_, _, _, _, (hM.t_m), by decide, rfl⟩) (by decide) (Nat.le_of_ble_eq_true rfl) dX13_isHorseLine_62 rfl ?_
            rintro _ _ _ M9 ⟨⟨rfl, hQ9⟩, rfl, rfl, hF9⟩
            have hF := hF.tr hF9
            refine T_if_eq 79 68 dX13_isHorseLine_65 (by decide) rfl (fun c65 => ?_) (fun c65 => ?_)
            ·
              have z9 := ifz0 c65
              refine T_iconst (0) dX13_isHorseLine_79 rfl rfl ?_
              refine T_iret rfl rfl dX13_isHorseLine_80 ?_
              first
                | (have e : lnho K s = (tkR K 43 2 ((true, adv s 1))) := by unfold lnho; simp only [tkR_n z9, tkQ_n z9, opR_n z9]
                   rw [e]; exact ⟨⟨by rw [if_neg z9], hQ9⟩, rfl, rfl, hF⟩)
                | (have e : lnho K s = (tkQ K 5 ((tkR K 43 2 ((true, adv s 1))))) := by unfold lnho; simp only [tkR_n z9, tkQ_n z9, opR_n z9]
                   rw [e]; exact ⟨⟨by rw [if_neg z9], hQ9⟩, rfl, rfl, hF⟩)
                | (have e : lnho K s = (tkR K 44 9 ((tkQ K 5 ((tkR K 43 2 ((true, adv s 1))))))) := by unfold lnho; simp only [tkR_n z9, tkQ_n z9, opR_n z9]
                   rw [e]; exact ⟨⟨by rw [if_neg z9], hQ9⟩, rfl, rfl, hF⟩)
                | (have e : lnho K s = (tkQ K 6 ((tkR K 44 9 ((tkQ K 5 ((tkR K 43 2 ((true, adv s 1))))))))) := by unfold lnho; simp only [tkR_n z9, tkQ_n z9, opR_n z9]
                   rw [e]; exact ⟨⟨by rw [if_neg z9], hQ9⟩, rfl, rfl, hF⟩)
                | (have e : lnho K s = (tkR K 44 10 ((tkQ K 6 ((tkR K 44 9 ((tkQ K 5 ((tkR K 43 2 ((true, adv s 1))))))))))) := by unfold lnho; simp only [tkR_n z9, tkQ_n z9, opR_n z9]
                   rw [e]; exact ⟨⟨by rw [if_neg z9], hQ9⟩, rfl, rfl, hF⟩)
                | (have e : lnho K s = (tkQ K 7 ((tkR K 44 10 ((tkQ K 6 ((tkR K 44 9 ((tkQ K 5 ((tkR K 43 2 ((true, adv s 1))))))))))))) := by unfold lnho; simp only [tkR_n z9, tkQ_n z9, opR_n z9]
                   rw [e]; exact ⟨⟨by rw [if_neg z9], hQ9⟩, rfl, rfl, hF⟩)
                | (have e : lnho K s = (tkR K 44 11 ((tkQ K 7 ((tkR K 44 10 ((tkQ K 6 ((tkR K 44 9 ((tkQ K 5 ((tkR K 43 2 ((true, adv s 1))))))))))))))) := by unfold lnho; simp only [tkR_n z9, tkQ_n z9, opR_n z9]
                   rw [e]; exact ⟨⟨by rw [if_neg z9], hQ9⟩, rfl, rfl, hF⟩)
            ·
              have z9 := ifz1 c65
              
              refine T_aload0 dX13_isHorseLine_68 rfl ?_
              refine T_bipush (41) dX13_isHorseLine_69 rfl rfl ?_
              refine T_bipush (11) dX13_isHorseLine_71 rfl rfl ?_
              refine T_cV2 (mq_R hX hTK hmz (by decide) (q := (tkQ K 7 ((tkR K 44 10 ((tkQ K 6 ((tkR K 44 9 ((tkQ K 5 ((tkR K 43 2 ((true, adv s 1)))))))))))))) z9 kc_41 (by decide) (by decide) (hQ9.1 z9)) hX k13_157 (Or.inl ⟨_, _, _, _, (hM.t_m), by decide, rfl⟩) (by decide) (Nat.le_of_ble_eq_true rfl) dX13_isHorseLine_73 rfl ?_
              rintro _ _ _ M9 ⟨⟨rfl, hQ9⟩, rfl, rfl, hF9⟩
              have hF := hF.tr hF9
              refine T_if_ne 81 79 dX13_isHorseLine_76 (by decide) rfl (fun c76 => ?_) (fun c76 => ?_)
              ·
                have z9 := ifz1 c76
                obtain ⟨ω, w, hM, hV, hω, hrl, hw, hG, hn, ht, hz⟩ := hQ9.1 z9
                have k0 : ω 80 ((tkR K 44 11 ((tkQ K 7 ((tkR K 44 10 ((tkQ K 6 ((tkR K 44 9 ((tkQ K 5 ((tkR K 43 2 ((true, adv s 1)))))))))))))))).2.1 = nI (kkF (K ((tkR K 44 11 ((tkQ K 7 ((tkR K 44 10 ((tkQ K 6 ((tkR K 44 9 ((tkQ K 5 ((tkR K 43 2 ((true, adv s 1)))))))))))))))).2.1)) := by rw [hω 80 _ (by decide)]; exact (hTK.2.1 _ ht).1
                have hk := (hTK.2.1 _ ht).2.1
                refine T_aload0 dX13_isHorseLine_81 rfl ?_
                refine T_bipush (8) dX13_isHorseLine_82 rfl rfl ?_
                refine T_cV1 (c_X13_is hX hM (by omega) _) hX k13_127 (Or.inl ⟨_, _, _, _, (hM.t_m), by decide, rfl⟩) (by decide) (Nat.le_of_ble_eq_true rfl) dX13_isHorseLine_84 rfl ?_
                rintro _ _ _ _ ⟨rfl, rfl, rfl, rfl⟩
                rw [k0]
                refine T_if_eq 99 90 dX13_isHorseLine_87 (by decide) rfl (fun c87 => ?_) (fun c87 => ?_)
                ·
                  have e8 : ¬ K ((tkR K 44 11 ((tkQ K 7 ((tkR K 44 10 ((tkQ K 6 ((tkR K 44 9 ((tkQ K 5 ((tkR K 43 2 ((true, adv s 1)))))))))))))))).2.1 = 8 := fun e => ifz0 c87 ((kc_8 _ hk.1 hk.2).mpr e)
                  refine T_iconst (1) dX13_isHorseLine_99 rfl rfl ?_
                  refine T_iret rfl rfl dX13_isHorseLine_100 ?_
                  first
                    | (have e := opR_z (x := 12) e8
                       have e2 : lnho K s = (tkR K 44 11 ((tkQ K 7 ((tkR K 44 10 ((tkQ K 6 ((tkR K 44 9 ((tkQ K 5 ((tkR K 43 2 ((true, adv s 1))))))))))))))) := e
                       rw [e2]; exact ⟨⟨by rw [if_pos z9], hQ9⟩, rfl, rfl, hF⟩)
                    | (have e2 : lnho K s = tkR K 8 12 (tkR K 44 11 ((tkQ K 7 ((tkR K 44 10 ((tkQ K 6 ((tkR K 44 9 ((tkQ K 5 ((tkR K 43 2 ((true, adv s 1))))))))))))))) := (opR_y z9 e8).trans (tkR_y z9 e8).symm
                       have z7 : (tkR K 8 12 (tkR K 44 11 ((tkQ K 7 ((tkR K 44 10 ((tkQ K 6 ((tkR K 44 9 ((tkQ K 5 ((tkR K 43 2 ((true, adv s 1)))))))))))))))).1 = true := by rw [tkR_y z9 e8]
                       rw [e2]; exact ⟨⟨by rw [if_pos z7], hQ8⟩, rfl, rfl, hF⟩)
                ·
                  have e8 : K ((tkR K 44 11 ((tkQ K 7 ((tkR K 44 10 ((tkQ K 6 ((tkR K 44 9 ((tkQ K 5 ((tkR K 43 2 ((true, adv s 1)))))))))))))))).2.1 = 8 := (kc_8 _ hk.1 hk.2).mp (ifz1 c87)
                  refine T_aload0 dX13_isHorseLine_90 rfl ?_
                  refine T_bipush (8) dX13_isHorseLine_91 rfl rfl ?_
                  refine T_bipush (12) dX13_isHorseLine_93 rfl rfl ?_
                  refine T_cV2 (mq_R hX hTK hmz (by decide) (q := (tkR K 44 11 ((tkQ K 7 ((tkR K 44 10 ((tkQ K 6 ((tkR K 44 9 ((tkQ K 5 ((tkR K 43 2 ((true, adv s 1)))))))))))))))) z9 kc_8 (by decide) (by decide) (hQ9.1 z9)) hX k13_157 (Or.inl ⟨_, _, _, _, (hM.t_m), by decide, rfl⟩) (by decide) (Nat.le_of_ble_eq_true rfl) dX13_isHorseLine_95 rfl ?_
                  rintro _ _ _ M9 ⟨⟨rfl, hQ8⟩, rfl, rfl, hF9⟩
                  have hF := hF.tr hF9
                  refine T_pop dX13_isHorseLine_98 rfl rfl ?_
                  refine T_iconst (1) dX13_isHorseLine_99 rfl rfl ?_
                  refine T_iret rfl rfl dX13_isHorseLine_100 ?_
                  first
                    | (have e := opR_z (x := 12) e8
                       have e2 : lnho K s = (tkR K 44 11 ((tkQ K 7 ((tkR K 44 10 ((tkQ K 6 ((tkR K 44 9 ((tkQ K 5 ((tkR K 43 2 ((true, adv s 1))))))))))))))) := e
                       rw [e2]; exact ⟨⟨by rw [if_pos z9], hQ9⟩, rfl, rfl, hF⟩)
                    | (have e2 : lnho K s = tkR K 8 12 (tkR K 44 11 ((tkQ K 7 ((tkR K 44 10 ((tkQ K 6 ((tkR K 44 9 ((tkQ K 5 ((tkR K 43 2 ((true, adv s 1))))))))))))))) := (opR_y z9 e8).trans (tkR_y z9 e8).symm
                       have z7 : (tkR K 8 12 (tkR K 44 11 ((tkQ K 7 ((tkR K 44 10 ((tkQ K 6 ((tkR K 44 9 ((tkQ K 5 ((tkR K 43 2 ((true, adv s 1)))))))))))))))).1 = true := by rw [tkR_y z9 e8]
                       rw [e2]; exact ⟨⟨by rw [if_pos z7], hQ8⟩, rfl, rfl, hF⟩)
              ·
                have z9 := ifz0 (by first | exact c76 | exact Decidable.not_not.mp c76)
                refine T_iconst (0) dX13_isHorseLine_79 rfl rfl ?_
                refine T_iret rfl rfl dX13_isHorseLine_80 ?_
                first
                  | (have e : lnho K s = (tkR K 43 2 ((true, adv s 1))) := by unfold lnho; simp only [tkR_n z9, tkQ_n z9, opR_n z9]
                     rw [e]; exact ⟨⟨by rw [if_neg z9], hQ9⟩, rfl, rfl, hF⟩)
                  | (have e : lnho K s = (tkQ K 5 ((tkR K 43 2 ((true, adv s 1))))) := by unfold lnho; simp only [tkR_n z9, tkQ_n z9, opR_n z9]
                     rw [e]; exact ⟨⟨by rw [if_neg z9], hQ9⟩, rfl, rfl, hF⟩)
                  | (have e : lnho K s = (tkR K 44 9 ((tkQ K 5 ((tkR K 43 2 ((true, adv s 1))))))) := by unfold lnho; simp only [tkR_n z9, tkQ_n z9, opR_n z9]
                     rw [e]; exact ⟨⟨by rw [if_neg z9], hQ9⟩, rfl, rfl, hF⟩)
                  | (have e : lnho K s = (tkQ K 6 ((tkR K 44 9 ((tkQ K 5 ((tkR K 43 2 ((true, adv s 1))))))))) := by unfold lnho; simp only [tkR_n z9, tkQ_n z9, opR_n z9]
                     rw [e]; exact ⟨⟨by rw [if_neg z9], hQ9⟩, rfl, rfl, hF⟩)
                  | (have e : lnho K s = (tkR K 44 10 ((tkQ K 6 ((tkR K 44 9 ((tkQ K 5 ((tkR K 43 2 ((true, adv s 1))))))))))) := by unfold lnho; simp only [tkR_n z9, tkQ_n z9, opR_n z9]
                     rw [e]; exact ⟨⟨by rw [if_neg z9], hQ9⟩, rfl, rfl, hF⟩)
                  | (have e : lnho K s = (tkQ K 7 ((tkR K 44 10 ((tkQ K 6 ((tkR K 44 9 ((tkQ K 5 ((tkR K 43 2 ((true, adv s 1))))))))))))) := by unfold lnho; simp only [tkR_n z9, tkQ_n z9, opR_n z9]
                     rw [e]; exact ⟨⟨by rw [if_neg z9], hQ9⟩, rfl, rfl, hF⟩)
                  | (have e : lnho K s = (tkR K 44 11 ((tkQ K 7 ((tkR K 44 10 ((tkQ K 6 ((tkR K 44 9 ((tkQ K 5 ((tkR K 43 2 ((true, adv s 1))))))))))))))) := by unfold lnho; simp only [tkR_n z9, tkQ_n z9, opR_n z9]
                     rw [e]; exact ⟨⟨by rw [if_neg z9], hQ9⟩, rfl, rfl, hF⟩)
set_option maxHeartbeats 1000000 in
theorem c_X13_isLogLine {l : Launch} {D : va_G} {cA : Nat → ClassId} {n0 : Nat} {sg adK adV : Nat → Nat} {sgA smA wdA bS LS : Nat} {xs : Nat → Int32} (hX : SF n0 (XW0 sg adK adV sgA smA wdA n0 bS LS xs)) {m y z s1 s2 n8 hr wr lt : Nat} {B : Nat → Nat} {K : Nat → Nat} {S : Nat → Int32} {V : Nat → Int64} {ω0 w0 : RH} (hTK : TKF B lt K S V ω0) (hmz : m + 7 ≤ z ∨ z + 19 ≤ m) {s : PS} (h0 : K s.1 < 45) {sz : Nat} {τ : TY} {M : ME} (hQ : MPl τ M m y z s1 s2 n8 B ω0 w0 hr wr lt (0) (0) (s)) : CT l D cA n0 (XW0 sg adK adV sgA smA wdA n0 bS LS xs) mX13_isLogLine 6 0 0 sz τ M [.ref m] (fun v' sz' τ' M' => (v' = some (.int (if (lnlo K s).1 = true then 1 else 0)) ∧ MQQ τ M' m y z s1 s2 n8 B ω0 w0 hr wr lt (0) (0) (lnlo K s)) ∧ sz' = sz ∧ τ' = τ ∧ FMZ m z M M') := by
  refine CT.of (ls := [.ref m]) (by decide) (Nat.le_of_ble_eq_true rfl) rfl ?_
  obtain ⟨ω, w, hM, hV, hω, hrl, hw, hG, hn, ht, hz⟩ := hQ
  have hl := hTK.1.1
  have hlt := hTK.lt ht rfl (by omega) (by omega)
  have hF : FMZ m z M M := FMZ.rf _ _ _
  refine T_aload0 dX13_isLogLine_0 rfl ?_
  refine T_dup dX13_isLogLine_1 rfl rfl ?_
  refine g13_124 _ rfl (hM.t_m) (hM.g_tk) dX13_isLogLine_2 rfl ?_
  refine T_iconst (1) dX13_isLogLine_5 rfl rfl ?_
  refine T_iadd dX13_isLogLine_6 rfl ?_
  refine p13_124 rfl (hM.t_m) dX13_isLogLine_7 rfl ?_
  refine T_nm (fun M1 e1 => ?_)
  have hM := MV.mv (hM.p_tk (n := s.1 + 1) (nI_1 _)) e1
  have hV := hV.frU e1 (by omega)
  have hF := hF.up e1 (by omega)
  refine T_aload0 dX13_isLogLine_10 rfl ?_
  refine T_bipush (40) dX13_isLogLine_11 rfl rfl ?_
  refine T_iconst (3) dX13_isLogLine_13 rfl rfl ?_
  refine T_cV2 (mq_R hX hTK hmz (by decide) (q := (true, adv s 1)) rfl kc_40 (by decide) (by decide) (⟨ω, w, hM.rf, hV.rf, hω, hrl, hw, hG, (by show s.2.1 + 0 ≤ s.1 + 1; omega), hlt, (fun i hi => hz i (Nat.le_trans (Nat.le_succ _) hi))⟩)) hX k13_157 (Or.inl ⟨_, _, _, _, (hM.t_m), by decide, rfl⟩) (by decide) (Nat.le_of_ble_eq_true rfl) dX13_isLogLine_14 rfl ?_
  rintro _ _ _ M9 ⟨⟨rfl, hQ9⟩, rfl, rfl, hF9⟩
  have hF := hF.tr hF9
  refine T_if_eq 44 20 dX13_isLogLine_17 (by decide) rfl (fun c17 => ?_) (fun c17 => ?_)
  ·
    have z9 := ifz0 c17
    refine T_iconst (0) dX13_isLogLine_44 rfl rfl ?_
    refine T_iret rfl rfl dX13_isLogLine_45 ?_
    first
      | (exact ⟨⟨by rw [if_pos (show (lnlo K s).1 = true from z9)], hQ9⟩, rfl, rfl, hF⟩)
      | (have e : lnlo K s = (tkR K 43 3 ((true, adv s 1))) := by unfold lnlo; simp only [tkR_n z9, tkQ_n z9, opR_n z9]
         rw [e]; exact ⟨⟨by rw [if_neg z9], hQ9⟩, rfl, rfl, hF⟩)
      | (have e : lnlo K s = (tkQ K 10 ((tkR K 43 3 ((true, adv s 1))))) := by unfold lnlo; simp only [tkR_n z9, tkQ_n z9, opR_n z9]
         rw [e]; exact ⟨⟨by rw [if_neg z9], hQ9⟩, rfl, rfl, hF⟩)
      | (have e : lnlo K s = (tkR K 44 13 ((tkQ K 10 ((tkR K 43 3 ((true, adv s 1))))))) := by unfold lnlo; rfl
         rw [e]; exact ⟨⟨by rw [if_neg z9], hQ9⟩, rfl, rfl, hF⟩)
  ·
    have z9 := ifz1 c17
    
    refine T_aload0 dX13_isLogLine_20 rfl ?_
    refine T_bipush (10) dX13_isLogLine_21 rfl rfl ?_
    refine T_cV1 (mq_Q hX hTK hmz (by decide) (q := (tkR K 43 3 ((true, adv s 1)))) z9 kc_10 (by decide) (by decide) (hQ9.1 z9)) hX k13_130 (Or.inl ⟨_, _, _, _, (hM.t_m), by decide, rfl⟩) (by decide) (Nat.le_of_ble_eq_true rfl) dX13_isLogLine_23 rfl ?_
    rintro _ _ _ M9 ⟨⟨rfl, hQ9⟩, rfl, rfl, hF9⟩
    have hF := hF.tr hF9
    refine T_if_eq 44 29 dX13_isLogLine_26 (by decide) rfl (fun c26 => ?_) (fun c26 => ?_)
    ·
      have z9 := ifz0 c26
      refine T_iconst (0) dX13_isLogLine_44 rfl rfl ?_
      refine T_iret rfl rfl dX13_isLogLine_45 ?_
      first
        | (exact ⟨⟨by rw [if_pos (show (lnlo K s).1 = true from z9)], hQ9⟩, rfl, rfl, hF⟩)
        | (have e : lnlo K s = (tkR K 43 3 ((true, adv s 1))) := by unfold lnlo; simp only [tkR_n z9, tkQ_n z9, opR_n z9]
           rw [e]; exact ⟨⟨by rw [if_neg z9], hQ9⟩, rfl, rfl, hF⟩)
        | (have e : lnlo K s = (tkQ K 10 ((tkR K 43 3 ((true, adv s 1))))) := by unfold lnlo; simp only [tkR_n z9, tkQ_n z9, opR_n z9]
           rw [e]; exact ⟨⟨by rw [if_neg z9], hQ9⟩, rfl, rfl, hF⟩)
        | (have e : lnlo K s = (tkR K 44 13 ((tkQ K 10 ((tkR K 43 3 ((true, adv s 1))))))) := by unfold lnlo; rfl
           rw [e]; exact ⟨⟨by rw [if_neg z9], hQ9⟩, rfl, rfl, hF⟩)
    ·
      have z9 := ifz1 c26
      
      refine T_aload0 dX13_isLogLine_29 rfl ?_
      refine T_bipush (41) dX13_isLogLine_30 rfl rfl ?_
      refine T_bipush (13) dX13_isLogLine_32 rfl rfl ?_
      refine T_cV2 (mq_R hX hTK hmz (by decide) (q := (tkQ K 10 ((tkR K 43 3 ((true, adv s 1)))))) z9 kc_41 (by decide) (by decide) (hQ9.1 z9)) hX k13_157 (Or.inl ⟨_, _, _, _, (hM.t_m), by decide, rfl⟩) (by decide) (Nat.le_of_ble_eq_true rfl) dX13_isLogLine_34 rfl ?_
      rintro _ _ _ M9 ⟨⟨rfl, hQ9⟩, rfl, rfl, hF9⟩
      have hF := hF.tr hF9
      refine T_if_eq 44 40 dX13_isLogLine_37 (by decide) rfl (fun c37 => ?_) (fun c37 => ?_)
      ·
        have z9 := ifz0 c37
        refine T_iconst (0) dX13_isLogLine_44 rfl rfl ?_
        refine T_iret rfl rfl dX13_isLogLine_45 ?_
        first
          | (exact ⟨⟨by rw [if_pos (show (lnlo K s).1 = true from z9)], hQ9⟩, rfl, rfl, hF⟩)
          | (have e : lnlo K s = (tkR K 43 3 ((true, adv s 1))) := by unfold lnlo; simp only [tkR_n z9, tkQ_n z9, opR_n z9]
             rw [e]; exact ⟨⟨by rw [if_neg z9], hQ9⟩, rfl, rfl, hF⟩)
          | (have e : lnlo K s = (tkQ K 10 ((tkR K 43 3 ((true, adv s 1))))) := by unfold lnlo; simp only [tkR_n z9, tkQ_n z9, opR_n z9]
             rw [e]; exact ⟨⟨by rw [if_neg z9], hQ9⟩, rfl, rfl, hF⟩)
          | (have e : lnlo K s = (tkR K 44 13 ((tkQ K 10 ((tkR K 43 3 ((true, adv s 1))))))) := by unfold lnlo; rfl
             rw [e]; exact ⟨⟨by rw [if_neg z9], hQ9⟩, rfl, rfl, hF⟩)
      ·
        have z9 := ifz1 c37
        
        refine T_iconst (1) dX13_isLogLine_40 rfl rfl ?_
        refine T_goto 45 dX13_isLogLine_41 (by decide) ?_
        refine T_iret rfl rfl dX13_isLogLine_45 ?_
        first
          | (exact ⟨⟨by rw [if_pos (show (lnlo K s).1 = true from z9)], hQ9⟩, rfl, rfl, hF⟩)
          | (have e : lnlo K s = (tkR K 43 3 ((true, adv s 1))) := by unfold lnlo; simp only [tkR_n z9, tkQ_n z9, opR_n z9]
             rw [e]; exact ⟨⟨by rw [if_neg z9], hQ9⟩, rfl, rfl, hF⟩)
          | (have e : lnlo K s = (tkQ K 10 ((tkR K 43 3 ((true, adv s 1))))) := by unfold lnlo; simp only [tkR_n z9, tkQ_n z9, opR_n z9]
             rw [e]; exact ⟨⟨by rw [if_neg z9], hQ9⟩, rfl, rfl, hF⟩)
          | (have e : lnlo K s = (tkR K 44 13 ((tkQ K 10 ((tkR K 43 3 ((true, adv s 1))))))) := by unfold lnlo; rfl
             rw [e]; exact ⟨⟨by rw [if_neg z9], hQ9⟩, rfl, rfl, hF⟩)
