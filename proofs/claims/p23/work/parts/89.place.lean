theorem CT.wk {l : Launch} {D : va_G} {cA : Nat → ClassId} {n0 : Nat} {XW : State → Heap → Prop} {nm : MI} {d mc ms sz : Nat} {τ : TY} {M : ME} {av : List Value} {Q Q' : QT} (h : CT l D cA n0 XW nm d mc ms sz τ M av Q) (hw : ∀ v sz' τ' M', Q v sz' τ' M' → Q' v sz' τ' M') : CT l D cA n0 XW nm d mc ms sz τ M av Q' := by
  intro p e ha hf hc s m args below hfr hS hP hK
  obtain ⟨n, o, h1, h2, h3, ⟨v, sz', τ', M', h4, h5, h6⟩, h7⟩ := h p e ha hf hc s m args below hfr hS hP hK
  exact ⟨n, o, h1, h2, h3, ⟨v, sz', τ', M', h4, hw _ _ _ _ h5, h6⟩, h7⟩
def nmX (o : Nat) (x : Int32) (t : Nat) : Prop := (o = 20 ∨ o = 21 ∨ o = 6 ∨ o = 3 ∨ o = 22) → ∃ k, k < t ∧ x = nI k
def CNm (V : Nat → Int64) (rl : Nat → Int32) (t a b : Nat) (ν : NU) : Prop := (∀ x, fdF (ν 1) x b = tdR V rl 2 x t) ∧ (∀ x, fdF (ν 4) x a = tdR V rl 1 x t)
abbrev CCT : Type := Nat → Nat → Nat → RH → NU → Nat → Nat → RH → Prop
/-- what the reader's cells say of the place q of the grammar -/
def CO (V : Nat → Int64) (S : Nat → Int32) (lt : Nat) (C : CCT) (ez : Nat) (q : PQ) (nx : Nat) (bk ba fl fa : Int32) (a b c : Nat) (ρ : RH) (ν : NU) (hn wn sn : Nat) (σ : Nat → Nat) (π : RH) : Prop :=
  (q.1 = true → nx = q.2.1 ∧ bk = 0 ∧ q.2.2.1 + ez ≤ nx ∧ (∀ i, nx ≤ i → q.2.2.2.2.2 i = 0) ∧ flF V S q.2.2.2.2.2 nx = (fl, fa) ∧ (fl = 0 → (C a b c ρ ν hn wn π ∧ CNm V q.2.2.2.2.2 nx a b ν) ∧ sn = q.2.2.1 ∧ ∀ i, i < sn → σ i = q.2.2.2.1 i ∧ nmX (σ i) (q.2.2.2.2.1 i) nx ∧ π 70 i = rsF V q.2.2.2.2.2 (σ i) (q.2.2.2.2.1 i))) ∧
  (q.1 = false → nx = lt ∧ bk = 1 ∧ ba = S q.2.1)
def CQ (sg : Nat → Nat) (τ : TY) (M : ME) (j r p tp ln lt : Nat) (K : Nat → Nat) (S : Nat → Int32) (V : Nat → Int64) (C : CCT) (ez : Nat) (q : PQ) : Prop :=
  TM τ M M (j + 1) sg tp ln lt K S V ∧ ∃ nx bk ba fl fa a b c ρ ν hn wn sn σ π κ, RV τ M M j r p nx bk ba fl fa ∧ LM τ M M r a b c ρ ν ∧ PM τ M M p sg hn wn sn π σ κ ∧ (hn ≤ 12 ∧ wn ≤ 12 ∧ sn ≤ 400 ∧ nx ≤ lt) ∧ b01 bk ∧ CO V S lt C ez q nx bk ba fl fa a b c ρ ν hn wn sn σ π
section COS
variable {sg : Nat → Nat} {τ : TY} {M M1 : ME} {j r p tp ln lt : Nat} {K : Nat → Nat} {V : Nat → Int64} {S : Nat → Int32} {C : CCT} {ez nx a b c hn wn sn : Nat} {q : PQ} {s : PS} {bk ba fl fa : Int32} {ρ π : RH} {ν : NU} {σ : Nat → Nat} {rl : Nat → Int32}
theorem nmX.mono {o t t' : Nat} {x : Int32} (h : nmX o x t) (ht : t ≤ t') : nmX o x t' := fun z => let ⟨k, h1, h2⟩ := h z; ⟨k, by omega, h2⟩
theorem CNm.sk {t : Nat} (h : CNm V rl t a b ν) (h1 : ¬ rl t = 1) (h2 : ¬ rl t = 2) : CNm V rl (t + 1) a b ν := ⟨fun x => (h.1 x).trans (tdR_n h2).symm, fun x => (h.2 x).trans (tdR_n h1).symm⟩
theorem CNm.u {t : Nat} {y : Int32} (h : CNm V rl t a b ν) : CNm V (uI rl t y) t a b ν := ⟨fun x => (h.1 x).trans (tdR_c (uI_c (Nat.le_refl _))).symm, fun x => (h.2 x).trans (tdR_c (uI_c (Nat.le_refl _))).symm⟩
theorem rsF_c {rl' : Nat → Int32} {o t : Nat} {x : Int32} (h : ∀ i, i < t → rl' i = rl i) (hx : nmX o x t) (ht : t < 2 ^ 30) : rsF V rl' o x = rsF V rl o x := by
  unfold rsF
  by_cases e1 : o = 20 ∨ o = 21 ∨ o = 6
  · obtain ⟨k, h1, rfl⟩ := hx (by omega)
    rw [if_pos e1, if_pos e1, nI_cl (by omega)]
    exact tdR_c (fun i hi => h i (by omega))
  · rw [if_neg e1, if_neg e1]
    by_cases e2 : o = 3 ∨ o = 22
    · obtain ⟨k, h1, rfl⟩ := hx (by omega)
      rw [if_pos e2, if_pos e2, nI_cl (by omega)]
      exact tdR_c (fun i hi => h i (by omega))
    · rw [if_neg e2, if_neg e2]
theorem CO.ezm {ez' : Nat} (h : CO V S lt C ez q nx bk ba fl fa a b c ρ ν hn wn sn σ π) (he : ez' ≤ ez) : CO V S lt C ez' q nx bk ba fl fa a b c ρ ν hn wn sn σ π :=
  ⟨fun z => let ⟨h1, h2, h3, h4⟩ := h.1 z; ⟨h1, h2, by omega, h4⟩, h.2⟩
/-- a token without a role -/
theorem CO.sk (h : CO V S lt C ez (true, s) nx bk ba fl fa a b c ρ ν hn wn sn σ π) : CO V S lt C (ez + 1) (true, adv s 1) (nx + 1) bk ba fl fa a b c ρ ν hn wn sn σ π := by
  refine ⟨fun _ => ?_, fun z => absurd z (by simp)⟩
  obtain ⟨h1, h2, h3, h4, h5, h6⟩ := h.1 rfl
  have e0 := h4 nx (Nat.le_refl _)
  refine ⟨by rw [h1]; rfl, h2, by show s.2.1 + (ez + 1) ≤ nx + 1; have : s.2.1 + ez ≤ nx := h3; omega, fun i hi => h4 i (by omega), (flF_0 e0).trans h5, fun z => ?_⟩
  obtain ⟨⟨g1, g2⟩, g3, g4⟩ := h6 z
  exact ⟨⟨g1, g2.sk (by rw [e0]; decide) (by rw [e0]; decide)⟩, g3, fun i hi => ⟨(g4 i hi).1, (g4 i hi).2.1.mono (by omega), (g4 i hi).2.2⟩⟩
/-- a token with a role, and what is noted there -/
theorem CO.ro {x e : Int32} (h : CO V S lt C ez (true, s) nx bk ba fl fa a b c ρ ν hn wn sn σ π) (hx1 : ¬ x = 1) (hx2 : ¬ x = 2) (hn2 : nx < 2 ^ 30) (he : fl = 0 → e = erF V (uI s.2.2.2.2 nx x) nx) : CO V S lt C (ez + 1) (true, adv (rol s nx x) 1) (nx + 1) bk ba (nfE fl e) (nfA fl fa e (S nx)) a b c ρ ν hn wn sn σ π := by
  refine ⟨fun _ => ?_, fun z => absurd z (by simp)⟩
  obtain ⟨h1, h2, h3, h4, h5, h6⟩ := h.1 rfl
  have e0 : (uI s.2.2.2.2 nx x) nx = x := uI_s _ _ _
  refine ⟨by rw [h1]; rfl, h2, by show s.2.1 + (ez + 1) ≤ nx + 1; have : s.2.1 + ez ≤ nx := h3; omega, fun i hi => by show uI s.2.2.2.2 nx x i = 0; rw [uI_i (by omega)]; exact h4 i (by omega), flF_s (by show flF V S (uI s.2.2.2.2 nx x) nx = _; rw [flF_c (uI_c (Nat.le_refl _))]; exact h5) he, fun z => ?_⟩
  obtain ⟨z1, z2⟩ := nfE_z z
  obtain ⟨⟨g1, g2⟩, g3, g4⟩ := h6 z1
  refine ⟨⟨g1, (CNm.u g2).sk (by rw [e0]; exact hx1) (by rw [e0]; exact hx2)⟩, g3, fun i hi => ⟨(g4 i hi).1, (g4 i hi).2.1.mono (by omega), ?_⟩⟩
  rw [(g4 i hi).2.2]
  exact (rsF_c (uI_c (Nat.le_refl _)) (g4 i hi).2.1 hn2).symm
/-- the reading breaks -/
theorem CO.fail {ez' a' b' c' hn' wn' sn' : Nat} {ρ' π' : RH} {ν' : NU} {σ' : Nat → Nat} {fl' fa' : Int32} (h : CO V S lt C ez (true, s) nx bk ba fl fa a b c ρ ν hn wn sn σ π) : CO V S lt C ez' (false, s) lt (bkF bk) (if bk = 0 then S nx else ba) fl' fa' a' b' c' ρ' ν' hn' wn' sn' σ' π' := by
  refine ⟨fun z => absurd z (by simp), fun _ => ?_⟩
  obtain ⟨h1, h2, h3⟩ := h.1 rfl
  exact ⟨rfl, by rw [h2]; rfl, by rw [if_pos h2, h1]⟩
theorem CO.any {ez' a' b' c' hn' wn' sn' : Nat} {ρ' π' : RH} {ν' : NU} {σ' : Nat → Nat} {fl' fa' : Int32} {s' : PS} (h : CO V S lt C ez (false, s) nx bk ba fl fa a b c ρ ν hn wn sn σ π) (hs : s'.1 = s.1) : CO V S lt C ez' (false, s') nx bk ba fl' fa' a' b' c' ρ' ν' hn' wn' sn' σ' π' :=
  ⟨fun z => absurd z (by simp), fun _ => let ⟨h1, h2, h3⟩ := h.2 rfl; ⟨h1, h2, by rw [h3]; show S s.1 = S s'.1; rw [hs]⟩⟩
/-- a step is added -/
theorem CO.ad {o : Nat} {x y : Int32} (hC : ∀ a b c ρ ν hn wn π i x, C a b c ρ ν hn wn π → C a b c ρ ν hn wn (u2 π 70 i x)) (h : CO V S lt C (ez + 1) (true, s) nx bk ba fl fa a b c ρ ν hn wn sn σ π) (hx : fl = 0 → nmX o x nx ∧ y = rsF V s.2.2.2.2 o x) : CO V S lt C ez (true, stp s o x) nx bk ba fl fa a b c ρ ν hn wn (sn + 1) (u1 σ sn o) (u2 π 70 sn y) := by
  refine ⟨fun _ => ?_, fun z => absurd z (by simp)⟩
  obtain ⟨h1, h2, h3, h4, h5, h6⟩ := h.1 rfl
  refine ⟨h1, h2, by show s.2.1 + 1 + ez ≤ nx; have : s.2.1 + (ez + 1) ≤ nx := h3; omega, h4, h5, fun z => ?_⟩
  obtain ⟨⟨g1, g2⟩, g3, g4⟩ := h6 z
  have g3' : sn = s.2.1 := g3
  refine ⟨⟨hC _ _ _ _ _ _ _ _ _ _ g1, g2⟩, by rw [g3]; rfl, fun i hi => ?_⟩
  show u1 σ sn o i = u1 s.2.2.1 s.2.1 o i ∧ nmX (u1 σ sn o i) (uI s.2.2.2.1 s.2.1 x i) nx ∧ u2 π 70 sn y 70 i = rsF V s.2.2.2.2 (u1 σ sn o i) (uI s.2.2.2.1 s.2.1 x i)
  rw [← g3']
  by_cases e : i = sn
  · subst e
    rw [u1_s, u1_s, uI_s, u2_s]
    exact ⟨rfl, (hx z).1, (hx z).2⟩
  · rw [u1_i e, u1_i e, uI_i e, u2_i e]
    exact g4 i (by omega)
theorem CO.adf {o : Nat} {x : Int32} {sn' : Nat} {σ' : Nat → Nat} {π' : RH} (h : CO V S lt C (ez + 1) (true, s) nx bk ba fl fa a b c ρ ν hn wn sn σ π) (hf : ¬ fl = 0) : CO V S lt C ez (true, stp s o x) nx bk ba fl fa a b c ρ ν hn wn sn' σ' π' := by
  refine ⟨fun _ => ?_, fun z => absurd z (by simp)⟩
  obtain ⟨h1, h2, h3, h4, h5, h6⟩ := h.1 rfl
  exact ⟨h1, h2, by show s.2.1 + 1 + ez ≤ nx; have : s.2.1 + (ez + 1) ≤ nx := h3; omega, h4, h5, fun z => absurd z hf⟩
theorem CQ.ezm {ez' : Nat} (h : CQ sg τ M j r p tp ln lt K S V C ez q) (he : ez' ≤ ez) : CQ sg τ M j r p tp ln lt K S V C ez' q := by
  obtain ⟨hT, nx, bk, ba, fl, fa, a, b, c, ρ, ν, hn, wn, sn, σ, π, κ, hE, hR, hP, hb, hb2, hO⟩ := h
  exact ⟨hT, _, _, _, _, _, _, _, _, _, _, _, _, _, _, _, _, hE, hR, hP, hb, hb2, hO.ezm he⟩
theorem CQ.any {s' : PS} {ez' : Nat} (h : CQ sg τ M j r p tp ln lt K S V C ez (false, s)) (hs : s'.1 = s.1) : CQ sg τ M j r p tp ln lt K S V C ez' (false, s') := by
  obtain ⟨hT, nx, bk, ba, fl, fa, a, b, c, ρ, ν, hn, wn, sn, σ, π, κ, hE, hR, hP, hb, hb2, hO⟩ := h
  exact ⟨hT, _, _, _, _, _, _, _, _, _, _, _, _, _, _, _, _, hE, hR, hP, hb, hb2, hO.any hs⟩
end COS
