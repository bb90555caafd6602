/-! the reference reads the lines of hauls and waits -/
theorem PR.fls {K : Nat → Nat} {vv : Nat → Int32} {m d : Nat} {q q' : PQ} (h : PR K vv m d q q') : q.1 = false → q' = q := by
  refine h (fun m d q q' => q.1 = false → q' = q) ⟨?_,
   ?_,
   ?_,
   ?_,
   ?_,
   ?_,
   ?_,
   ?_,
   ?_,
   ?_,
   ?_,
   ?_,
   ?_,
   ?_,
   ?_,
   ?_,
   ?_,
   ?_,
   ?_,
   ?_,
   ?_,
   ?_,
   ?_,
   ?_,
   ?_,
   ?_,
   ?_,
   ?_,
   ?_,
   ?_,
   ?_,
   ?_⟩
  · exact fun m d s z => rfl
  · exact fun _ _ _ z => absurd z (by simp)
  · exact fun _ _ _ z => absurd z (by simp)
  · exact fun _ _ _ _ z => absurd z (by simp)
  · exact fun _ _ _ _ z => absurd z (by simp)
  · exact fun _ _ _ _ z => absurd z (by simp)
  · exact fun _ _ _ _ z => absurd z (by simp)
  · exact fun _ _ _ _ _ _ z => absurd z (by simp)
  · exact fun _ _ _ _ z => absurd z (by simp)
  · exact fun _ _ _ _ _ _ z => absurd z (by simp)
  · exact fun _ _ _ _ z => absurd z (by simp)
  · exact fun _ _ _ _ _ _ _ _ _ z => absurd z (by simp)
  · exact fun _ _ _ _ z => absurd z (by simp)
  · exact fun _ _ _ _ _ z => absurd z (by simp)
  · exact fun _ _ _ z => absurd z (by simp)
  · exact fun d s q q2 g1 g2 z => by have e1 := g1 z; subst e1; exact g2 z
  · exact fun _ _ _ _ _ _ _ z => absurd z (by simp)
  · exact fun _ _ _ z => absurd z (by simp)
  · exact fun d s q q2 g1 g2 z => by have e1 := g1 z; subst e1; exact g2 z
  · exact fun _ _ _ _ _ _ _ z => absurd z (by simp)
  · exact fun _ _ _ z => absurd z (by simp)
  · exact fun _ _ _ _ _ _ z => absurd z (by simp)
  · exact fun _ _ _ _ z => absurd z (by simp)
  · exact fun _ _ _ _ _ _ z => absurd z (by simp)
  · exact fun _ _ _ _ z => absurd z (by simp)
  · exact fun _ _ _ _ _ _ _ _ z => absurd z (by simp)
  · exact fun d s q q2 g1 g2 z => by have e1 := g1 z; subst e1; exact g2 z
  · exact fun _ _ _ _ _ _ _ z => absurd z (by simp)
  · exact fun _ _ _ z => absurd z (by simp)
  · exact fun d s q q2 g1 g2 z => by have e1 := g1 z; subst e1; exact g2 z
  · exact fun _ _ _ _ _ _ _ z => absurd z (by simp)
  · exact fun _ _ _ z => absurd z (by simp)
theorem PR.m3 {l : Launch} {D : va_G} {cA : Nat → ClassId} {n0 : Nat} {sg adK adV : Nat → Nat} {sgA smA wdA bS LS : Nat} {xs : Nat → Int32} (hX : SF n0 (XW0 sg adK adV sgA smA wdA n0 bS LS xs)) {m y z s1 s2 n8 hr wr lt : Nat} {B : Nat → Nat} {K : Nat → Nat} {S : Nat → Int32} {V : Nat → Int64} {ω0 w0 : RH} (hTK : TKF B lt K S V ω0) (hmz : m + 7 ≤ z ∨ z + 19 ≤ m) {d : Nat} {q q' : PQ} (hd : d ≤ 8) (z9 : q.1 = true) (hp : PR K (fun t => (V t).toInt32) 3 d q q') {sz : Nat} {τ : TY} {M : ME} {ez : Nat} (hQ : MPl τ M m y z s1 s2 n8 B ω0 w0 hr wr lt (ez) (d) (q.2)) : CT l D cA n0 (XW0 sg adK adV sgA smA wdA n0 bS LS xs) mX13_isSum (10 * (9 - d) + 5) 0 0 sz τ M [.ref m] (fun v' sz' τ' M' => (v' = some (.int (if (q').1 = true then 1 else 0)) ∧ MQQ τ M' m y z s1 s2 n8 B ω0 w0 hr wr lt (ez) (d) (q')) ∧ sz' = sz ∧ τ' = τ ∧ FMZ m z M M') := (hp _ (gm_all hX hTK hmz)).2 z9 hd sz τ M ez hQ
theorem PR.m8 {l : Launch} {D : va_G} {cA : Nat → ClassId} {n0 : Nat} {sg adK adV : Nat → Nat} {sgA smA wdA bS LS : Nat} {xs : Nat → Int32} (hX : SF n0 (XW0 sg adK adV sgA smA wdA n0 bS LS xs)) {m y z s1 s2 n8 hr wr lt : Nat} {B : Nat → Nat} {K : Nat → Nat} {S : Nat → Int32} {V : Nat → Int64} {ω0 w0 : RH} (hTK : TKF B lt K S V ω0) (hmz : m + 7 ≤ z ∨ z + 19 ≤ m) {d : Nat} {q q' : PQ} (hd : d ≤ 8) (z9 : q.1 = true) (hp : PR K (fun t => (V t).toInt32) 8 d q q') {sz : Nat} {τ : TY} {M : ME} {ez : Nat} (hQ : MPl τ M m y z s1 s2 n8 B ω0 w0 hr wr lt (ez) (d) (q.2)) : CT l D cA n0 (XW0 sg adK adV sgA smA wdA n0 bS LS xs) mX13_isTest (10 * (9 - d) + 8) 0 0 sz τ M [.ref m] (fun v' sz' τ' M' => (v' = some (.int (if (q').1 = true then 1 else 0)) ∧ MQQ τ M' m y z s1 s2 n8 B ω0 w0 hr wr lt (ez) (d) (q')) ∧ sz' = sz ∧ τ' = τ ∧ FMZ m z M M') := (hp _ (gm_all hX hTK hmz)).2 z9 hd sz τ M ez hQ
def EXT (s s' : PS) : Prop := s.2.1 ≤ s'.2.1 ∧ ∀ i, i < s.2.1 → s'.2.2.1 i = s.2.2.1 i
def PK (s : PS) (x y : Int32) : Prop := ∃ k, k ≤ s.2.1 ∧ x = nI k ∧ y = nI (psF s.2.2.1 k)
def MW (w1 w0 : RH) (s : PS) (β : RH) (h v : Nat) : Prop := (∀ i, i < h → i < 12 → PK s (β 52 i) (w1 52 i) ∧ PK s (β 53 i) (w1 53 i) ∧ PK s (β 54 i) (w1 54 i)) ∧ (∀ i, i < v → i < 12 → PK s (β 57 i) (w1 57 i) ∧ PK s (β 59 i) (w1 59 i)) ∧ ∀ f i, ¬ f = 71 → ¬ f = 72 → ¬ f = 52 → ¬ f = 53 → ¬ f = 54 → ¬ f = 57 → ¬ f = 59 → w1 f i = w0 f i
section EXS
variable {K : Nat → Nat} {s s' s'' s4 : PS} {x y zz : Int32} {w w1 w0 wb wd β : RH} {h v p f i : Nat}
theorem EXT.rf (s : PS) : EXT s s := ⟨Nat.le_refl _, fun _ _ => rfl⟩
theorem EXT.tr (a : EXT s s') (b : EXT s' s'') : EXT s s'' := ⟨Nat.le_trans a.1 b.1, fun i hi => (b.2 i (Nat.lt_of_lt_of_le hi a.1)).trans (a.2 i hi)⟩
theorem PSM.ext (a : PSM K s s') : EXT s s' := ⟨a.2.1, fun i hi => (a.2.2.1 i hi).1⟩
theorem PSX.ext (a : PSX s s') : EXT s s' := ⟨by rw [a.2.1]; exact Nat.le_refl _, fun i _ => by rw [a.2.2.1]⟩
theorem PK.ext (a : PK s x y) (e : EXT s s') : PK s' x y := by
  obtain ⟨k, h1, h2, h3⟩ := a
  exact ⟨k, Nat.le_trans h1 e.1, h2, by rw [h3, psF_c (σ := s.2.2.1) (σ' := s'.2.2.1) (fun i hi => e.2 i (by omega))]⟩
theorem PK.nw (e : EXT s s') (hx : x = nI s.2.1) (hy : y = nI (psF s.2.2.1 s.2.1)) : PK s' x y := PK.ext ⟨s.2.1, Nat.le_refl _, hx, hy⟩ e
theorem GPw.up {a : Nat} {x : Int32} (g : GPw w s) (h1 : ¬ f = 71) (h2 : ¬ f = 72) : GPw (u2 w f a x) s := ⟨fun i hi => ⟨by rw [u2_f (fun e => h1 e.symm)]; exact (g.1 i hi).1, fun z => by rw [u2_f (fun e => h1 e.symm)]; exact (g.1 i hi).2 z⟩, fun i hi z => by rw [u2_f (fun e => h2 e.symm)]; exact g.2 i hi z⟩
theorem mn12 {h : Nat} (hh : h < 2 ^ 31) : (if (12 : Int32) < nI h then (12 : Int32) else nI h) = nI (min h 12) := by
  by_cases e : h ≤ 12
  · rw [if_neg (show ¬ (12 : Int32) < nI h from fun q => Int32.not_le.mpr q ((nI_leI (a := h) (b := 12) hh (by decide)).mpr e)), Nat.min_eq_left e]
  · rw [if_pos (show (12 : Int32) < nI h from Int32.not_le.mp (fun q => e ((nI_leI (a := h) (b := 12) hh (by decide)).mp q))), Nat.min_eq_right (by omega)]; rfl
theorem MW.ext (a : MW w1 w0 s β h v) (hw : ∀ f i, ¬ f = 71 → ¬ f = 72 → w f i = w1 f i) (e : EXT s s') : MW w w0 s' β h v := by
  obtain ⟨a1, a2, a3⟩ := a
  refine ⟨fun i h1 h2 => ?_, fun i h1 h2 => ?_, fun f i h1 h2 h3 h4 h5 h6 h7 => (hw f i h1 h2).trans (a3 f i h1 h2 h3 h4 h5 h6 h7)⟩
  · rw [hw 52 i (by decide) (by decide), hw 53 i (by decide) (by decide), hw 54 i (by decide) (by decide)]
    obtain ⟨b1, b2, b3⟩ := a1 i h1 h2
    exact ⟨b1.ext e, b2.ext e, b3.ext e⟩
  · rw [hw 57 i (by decide) (by decide), hw 59 i (by decide) (by decide)]
    obtain ⟨b1, b2⟩ := a2 i h1 h2
    exact ⟨b1.ext e, b2.ext e⟩
theorem MW.haul (a : MW w1 w0 s β h v) (hwa : ∀ f i, ¬ f = 71 → ¬ f = 72 → w f i = w1 f i) (hp : p = min h 12) (hb : ∀ f i, ¬ f = 71 → ¬ f = 72 → wb f i = u2 w 52 p x f i) (hd : ∀ f i, ¬ f = 71 → ¬ f = 72 → wd f i = u2 wb 53 p y f i) (e1 : EXT s s4) (e2 : EXT s4 s') (hx : x = nI (psF s.2.2.1 s.2.1)) (hy : y = nI (psF s4.2.2.1 s4.2.1)) (hz : zz = nI (psF s'.2.2.1 s'.2.1)) : MW (u2 wd 54 p zz) w0 s' (beH β h s.2.1 s4.2.1 s'.2.1) (h + 1) v := by
  obtain ⟨a1, a2, a3⟩ := a
  have g : ∀ f i, ¬ f = 71 → ¬ f = 72 → u2 wd 54 p zz f i = u2 (u2 (u2 w1 52 p x) 53 p y) 54 p zz f i := fun f i h1 h2 => by
    by_cases c4 : f = 54 ∧ i = p
    · rw [c4.1, c4.2, u2_s, u2_s]
    · have q4 : ∀ u : RH, u2 u 54 p zz f i = u f i := fun u => by
        by_cases q : f = 54
        · subst q; exact u2_i (fun e => c4 ⟨rfl, e⟩)
        · exact u2_f q
      rw [q4, q4, hd f i h1 h2]
      by_cases c3 : f = 53 ∧ i = p
      · rw [c3.1, c3.2, u2_s, u2_s]
      · have q3 : ∀ u : RH, u2 u 53 p y f i = u f i := fun u => by
          by_cases q : f = 53
          · subst q; exact u2_i (fun e => c3 ⟨rfl, e⟩)
          · exact u2_f q
        rw [q3, q3, hb f i h1 h2]
        by_cases c2 : f = 52 ∧ i = p
        · rw [c2.1, c2.2, u2_s, u2_s]
        · have q2 : ∀ u : RH, u2 u 52 p x f i = u f i := fun u => by
            by_cases q : f = 52
            · subst q; exact u2_i (fun e => c2 ⟨rfl, e⟩)
            · exact u2_f q
          rw [q2, q2, hwa f i h1 h2]
  refine ⟨fun i h1 h2 => ?_, fun i h1 h2 => ?_, fun f i h1 h2 h3 h4 h5 h6 h7 => ?_⟩
  · rw [g 52 i (by decide) (by decide), g 53 i (by decide) (by decide), g 54 i (by decide) (by decide)]
    by_cases e : i = h
    · subst e
      have hp' : p = i := by omega
      subst hp'
      refine ⟨PK.nw (e1.tr e2) (by simp [beH, u2]) (by simp [u2]; exact hx), PK.nw e2 (by simp [beH, u2]) (by simp [u2]; exact hy), PK.nw (EXT.rf _) (by simp [beH, u2]) (by simp [u2]; exact hz)⟩
    · obtain ⟨b1, b2, b3⟩ := a1 i (by omega) h2
      have hp' : ¬ i = p := by omega
      refine ⟨?_, ?_, ?_⟩
      · simpa [beH, u2, e, hp'] using b1.ext (e1.tr e2)
      · simpa [beH, u2, e, hp'] using b2.ext (e1.tr e2)
      · simpa [beH, u2, e, hp'] using b3.ext (e1.tr e2)
  · rw [g 57 i (by decide) (by decide), g 59 i (by decide) (by decide)]
    obtain ⟨b1, b2⟩ := a2 i h1 h2
    exact ⟨by simpa [beH, u2] using b1.ext (e1.tr e2), by simpa [beH, u2] using b2.ext (e1.tr e2)⟩
  · rw [g f i h1 h2, u2_f h5, u2_f h4, u2_f h3]; exact a3 f i h1 h2 h3 h4 h5 h6 h7
theorem MW.wait (a : MW w1 w0 s β h v) (hwa : ∀ f i, ¬ f = 71 → ¬ f = 72 → w f i = w1 f i) (hp : p = min v 12) (hb : ∀ f i, ¬ f = 71 → ¬ f = 72 → wb f i = u2 w 57 p x f i) (e1 : EXT s s') (hx : x = nI (psF s.2.2.1 s.2.1)) (hz : zz = nI (psF s'.2.2.1 s'.2.1)) : MW (u2 wb 59 p zz) w0 s' (beW β v s.2.1 s'.2.1) h (v + 1) := by
  obtain ⟨a1, a2, a3⟩ := a
  have g : ∀ f i, ¬ f = 71 → ¬ f = 72 → u2 wb 59 p zz f i = u2 (u2 w1 57 p x) 59 p zz f i := fun f i h1 h2 => by
    by_cases c4 : f = 59 ∧ i = p
    · rw [c4.1, c4.2, u2_s, u2_s]
    · have q4 : ∀ u : RH, u2 u 59 p zz f i = u f i := fun u => by
        by_cases q : f = 59
        · subst q; exact u2_i (fun e => c4 ⟨rfl, e⟩)
        · exact u2_f q
      rw [q4, q4, hb f i h1 h2]
      by_cases c2 : f = 57 ∧ i = p
      · rw [c2.1, c2.2, u2_s, u2_s]
      · have q2 : ∀ u : RH, u2 u 57 p x f i = u f i := fun u => by
          by_cases q : f = 57
          · subst q; exact u2_i (fun e => c2 ⟨rfl, e⟩)
          · exact u2_f q
        rw [q2, q2, hwa f i h1 h2]
  refine ⟨fun i h1 h2 => ?_, fun i h1 h2 => ?_, fun f i h1 h2 h3 h4 h5 h6 h7 => ?_⟩
  · rw [g 52 i (by decide) (by decide), g 53 i (by decide) (by decide), g 54 i (by decide) (by decide)]
    obtain ⟨b1, b2, b3⟩ := a1 i h1 h2
    exact ⟨by simpa [beW, u2] using b1.ext e1, by simpa [beW, u2] using b2.ext e1, by simpa [beW, u2] using b3.ext e1⟩
  · rw [g 57 i (by decide) (by decide), g 59 i (by decide) (by decide)]
    by_cases e : i = v
    · subst e
      have hp' : p = i := by omega
      subst hp'
      refine ⟨PK.nw e1 (by simp [beW, u2]) (by simp [u2]; exact hx), PK.nw (EXT.rf _) (by simp [beW, u2]) (by simp [u2]; exact hz)⟩
    · obtain ⟨b1, b2⟩ := a2 i (by omega) h2
      have hp' : ¬ i = p := by omega
      exact ⟨by simpa [beW, u2, e, hp'] using b1.ext e1, by simpa [beW, u2, e, hp'] using b2.ext e1⟩
  · rw [g f i h1 h2, u2_f h7, u2_f h6]; exact a3 f i h1 h2 h3 h4 h5 h6 h7
end EXS
def MLn (τ : TY) (M : ME) (m y z s1 s2 n8 : Nat) (B : Nat → Nat) (ω0 w0 : RH) (lt : Nat) (s : PS) (β : RH) : Prop := ∃ w1, MPl τ M m y z s1 s2 n8 B ω0 w1 (cntR s.2.2.2.2 4 s.1) (cntR s.2.2.2.2 5 s.1) lt 0 0 s ∧ MW w1 w0 s β (cntR s.2.2.2.2 4 s.1) (cntR s.2.2.2.2 5 s.1)
def MLQ (τ : TY) (M : ME) (m y z s1 s2 n8 : Nat) (B : Nat → Nat) (ω0 w0 : RH) (lt : Nat) (q : PQ) (β : RH) : Prop := (q.1 = true → MLn τ M m y z s1 s2 n8 B ω0 w0 lt q.2 β) ∧ (q.1 = false → MB τ M m y z s1 s2 n8 B ω0 lt q.2.1)
theorem MLn.mk9 {τ : TY} {M : ME} {m y z s1 s2 n8 lt h v : Nat} {B : Nat → Nat} {ω0 w0 w1 β : RH} {s : PS} (eh : cntR s.2.2.2.2 4 s.1 = h) (ev : cntR s.2.2.2.2 5 s.1 = v) (hW : MW w1 w0 s β h v) (hP : MPl τ M m y z s1 s2 n8 B ω0 w1 h v lt 0 0 s) : MLn τ M m y z s1 s2 n8 B ω0 w0 lt s β := ⟨w1, by rw [eh, ev]; exact hP, by rw [eh, ev]; exact hW⟩
theorem MLQ.tt {τ : TY} {M : ME} {m y z s1 s2 n8 lt : Nat} {B : Nat → Nat} {ω0 w0 β : RH} {q : PQ} (e : q.1 = true) (h : MLn τ M m y z s1 s2 n8 B ω0 w0 lt q.2 β) : MLQ τ M m y z s1 s2 n8 B ω0 w0 lt q β := ⟨fun _ => h, fun z => by rw [e] at z; cases z⟩
theorem MLQ.ff {τ : TY} {M : ME} {m y z s1 s2 n8 lt : Nat} {B : Nat → Nat} {ω0 w0 β : RH} {q : PQ} (e : ¬ q.1 = true) (h : MB τ M m y z s1 s2 n8 B ω0 lt q.2.1) : MLQ τ M m y z s1 s2 n8 B ω0 w0 lt q β := ⟨fun z => absurd z e, fun _ => h⟩
set_option maxHeartbeats 1000000 in
theorem c_X13_isHaulLine {l : Launch} {D : va_G} {cA : Nat → ClassId} {n0 : Nat} {sg adK adV : Nat → Nat} {sgA smA wdA bS LS : Nat} {xs : Nat → Int32} (hX : SF n0 (XW0 sg adK adV sgA smA wdA n0 bS LS xs)) {m y z s1 s2 n8 lt : Nat} {B : Nat → Nat} {K : Nat → Nat} {S : Nat → Int32} {V : Nat → Int64} {ω0 w0 : RH} (hTK : TKF B lt K S V ω0) (hmz : m + 7 ≤ z ∨ z + 19 ≤ m) {s : PS} {β β' : RH} {q' : PQ} (h0 : K s.1 < 45) (hR : HLr K (fun t => (V t).toInt32) s β q' β') {sz : Nat} {τ : TY} {M : ME} (hL : MLn τ M m y z s1 s2 n8 B ω0 w0 lt (s) (β)) : CT l D cA n0 (XW0 sg adK adV sgA smA wdA n0 bS LS xs) mX13_isHaulLine 100 0 0 sz τ M [.ref m] (fun v' sz' τ' M' => (v' = some (.int (if (q').1 = true then 1 else 0)) ∧ MLQ τ M' m y z s1 s2 n8 B ω0 w0 lt (q') (β')) ∧ sz' = sz ∧ τ' = τ ∧ FMZ m z M M') := by
  refine CT.of (ls := [.ref m, UU]) (by decide) (Nat.le_of_ble_eq_true rfl) rfl ?_
  obtain ⟨q4, hp3, hH, hβ⟩ := hR
  subst hβ
  have hH4 : q4.1 = false → q' = q4 := fun z => hH.elim (fun g => by rw [g.1] at z; cases z) (fun g => g.2)
  obtain ⟨w1, hQ, hMW⟩ := hL
  obtain ⟨h, eh⟩ : ∃ h, h = cntR s.2.2.2.2 4 s.1 := ⟨_, rfl⟩
  obtain ⟨v, ev⟩ : ∃ v, v = cntR s.2.2.2.2 5 s.1 := ⟨_, rfl⟩
  rw [← eh, ← ev] at hQ hMW
  have hh : h ≤ s.1 := by rw [eh]; exact cntR_le _
  have hv : v ≤ s.1 := by rw [ev]; exact cntR_le _
  obtain ⟨ω, w, hM, hV, hω, hrl, hwa, hG, hn, ht, hz⟩ := hQ
  have hl := hTK.1.1
  have hlt := hTK.lt ht rfl (by omega) (by omega)
  have hps := (ps_le (σ := s.2.2.1) s.2.1).1
  have hF : FMZ m z M M := FMZ.rf _ _ _
  have hz1 : ∀ i, (adv (rol s s.1 4) 1).1 ≤ i → (adv (rol s s.1 4) 1).2.2.2.2 i = 0 := fun i hi => (uI_i (by have h9 : s.1 + 1 ≤ i := hi; omega)).trans (hz i (Nat.le_trans (Nat.le_succ _) hi))
  refine T_aload0 dX13_isHaulLine_0 rfl ?_
  refine g13_26 _ rfl (hM.t_m) (hM.g_ro) dX13_isHaulLine_1 rfl ?_
  refine T_aload0 dX13_isHaulLine_4 rfl ?_
  refine g13_124 _ rfl (hM.t_m) (hM.g_tk) dX13_isHaulLine_5 rfl ?_
  refine T_iconst (4) dX13_isHaulLine_8 rfl rfl ?_
  refine T_iast _ (hM.t_ro) rfl (by omega) (by decide) dX13_isHaulLine_9 rfl ?_
  refine T_nm (fun M1 e1 => ?_)
  have hM := MV.mv (hM.p_vro (by omega)) e1
  have hV := hV.frU e1 (by omega)
  have hF := hF.up e1 (by omega)
  refine T_aload0 dX13_isHaulLine_10 rfl ?_
  refine T_dup dX13_isHaulLine_11 rfl rfl ?_
  refine g13_124 _ rfl (hM.t_m) (hM.g_tk) dX13_isHaulLine_12 rfl ?_
  refine T_iconst (1) dX13_isHaulLine_15 rfl rfl ?_
  refine T_iadd dX13_isHaulLine_16 rfl ?_
  refine p13_124 rfl (hM.t_m) dX13_isHaulLine_17 rfl ?_
  refine T_nm (fun M2 e2 => ?_)
  have hM := MV.mv (hM.p_tk (n := s.1 + 1) (nI_1 _)) e2
  have hV := hV.frU e2 (by omega)
  have hF := hF.up e2 (by omega)
  refine T_aload0 dX13_isHaulLine_20 rfl ?_
  refine g13_39 _ rfl (hM.t_m) (hM.g_z) dX13_isHaulLine_21 rfl ?_
  refine g13_161 _ rfl (hV.t_q) (hV.g_haulsRead) dX13_isHaulLine_24 rfl ?_
  refine T_bipush (12) dX13_isHaulLine_27 rfl rfl ?_
  refine T_min km13_77 (by decide) (Nat.le_of_ble_eq_true rfl) dX13_isHaulLine_29 rfl ?_
  rw [mn12 (by omega)]
  refine T_istore1 rfl (by decide) dX13_isHaulLine_32 rfl ?_
  refine T_aload0 dX13_isHaulLine_33 rfl ?_
  refine g13_39 _ rfl (hM.t_m) (hM.g_z) dX13_isHaulLine_34 rfl ?_
  refine T_dup dX13_isHaulLine_37 rfl rfl ?_
  refine g13_161 _ rfl (hV.t_q) (hV.g_haulsRead) dX13_isHaulLine_38 rfl ?_
  refine T_iconst (1) dX13_isHaulLine_41 rfl rfl ?_
  refine T_iadd dX13_isHaulLine_42 rfl ?_
  refine p13_161 rfl (hV.t_q) dX13_isHaulLine_43 rfl ?_
  refine T_nm (fun M3 e3 => ?_)
  have hM := hM.frU e3 (by omega)
  have hV := PV.mv (hV.p_haulsRead (n := h + 1) (nI_1 _)) e3
  have hF := hF.up e3 (by omega)
  refine T_aload0 dX13_isHaulLine_46 rfl ?_
  refine g13_39 _ rfl (hM.t_m) (hM.g_z) dX13_isHaulLine_47 rfl ?_
  refine g13_164 _ rfl (hV.t_q) (hV.g_sum) dX13_isHaulLine_50 rfl ?_
  refine T_iload1 dX13_isHaulLine_53 rfl ?_
  refine T_aload0 dX13_isHaulLine_54 rfl ?_
  refine g13_39 _ rfl (hM.t_m) (hM.g_z) dX13_isHaulLine_55 rfl ?_
  refine g13_136 _ rfl (hV.t_q) (hV.g_size) dX13_isHaulLine_58 rfl ?_
  refine T_iast _ (hV.t_sum) rfl (by omega) (by decide) dX13_isHaulLine_61 rfl ?_
  refine T_nm (fun M4 e4 => ?_)
  have hM := hM.frU e4 (by omega)
  have hV := PV.mv (hV.p_vsum (by omega)) e4
  have hF := hF.up e4 (by omega)
  refine T_aload0 dX13_isHaulLine_62 rfl ?_
  refine T_bipush (40) dX13_isHaulLine_63 rfl rfl ?_
  refine T_bipush (14) dX13_isHaulLine_65 rfl rfl ?_
  refine T_cV2 (mq_R hX hTK hmz (by decide) (q := (true, adv (rol s s.1 4) 1)) rfl kc_40 (by decide) (by decide) (MPl.rolad (ez := 0) (q := (true, s)) hM hV hω hrl (fun _ _ _ _ => rfl) (hG.up (by decide) (by decide)) hn hlt hz)) hX k13_157 (Or.inl ⟨_, _, _, _, (hM.t_m), by decide, rfl⟩) (by decide) (Nat.le_of_ble_eq_true rfl) dX13_isHaulLine_67 rfl ?_
  rintro _ _ _ M9 ⟨⟨rfl, hQ9⟩, rfl, rfl, hF9⟩
  have hF := hF.tr hF9
  refine T_if_eq 89 73 dX13_isHaulLine_70 (by decide) rfl (fun c70 => ?_) (fun c70 => ?_)
  ·
    have z9 := ifz0 c70
    refine T_iconst (0) dX13_isHaulLine_89 rfl rfl ?_
    refine T_iret rfl rfl dX13_isHaulLine_90 ?_
    first
      | (have e4 : q4 = (tkR K 43 14 (true, adv (rol s s.1 4) 1)) := hp3.fls (show (lnhq K s).1 = false from fls (show ¬ (lnhq K s).1 = true from by show ¬ (tkQ K 12 (tkR K 43 14 (true, adv (rol s s.1 4) 1))).1 = true; rw [tkQ_n z9]; exact z9)) |>.trans (tkQ_n z9)
         have e6 : q' = (tkR K 43 14 (true, adv (rol s s.1 4) 1)) := (hH4 (by rw [e4]; exact fls z9)).trans e4
         subst e6
         exact ⟨⟨by rw [if_neg z9], MLQ.ff z9 (hQ9.2 (fls z9))⟩, rfl, rfl, hF⟩)
      | (have e4 : q4 = (tkQ K 12 (tkR K 43 14 (true, adv (rol s s.1 4) 1))) := hp3.fls (show (lnhq K s).1 = false from fls z9) |>.trans rfl
         have e6 : q' = (tkQ K 12 (tkR K 43 14 (true, adv (rol s s.1 4) 1))) := (hH4 (by rw [e4]; exact fls z9)).trans e4
         subst e6
         exact ⟨⟨by rw [if_neg z9], MLQ.ff z9 (hQ9.2 (fls z9))⟩, rfl, rfl, hF⟩)
      | (have e6 : q' = q4 := hH4 (fls z9)
         subst e6
         exact ⟨⟨by rw [if_neg z9], MLQ.ff z9 (hQ9.2 (fls z9))⟩, rfl, rfl, hF⟩)
  ·
    have z9 := ifz1 c70
    
    refine T_aload0 dX13_isHaulLine_73 rfl ?_
    refine T_bipush (12) dX13_isHaulLine_74 rfl rfl ?_
    refine T_cV1 (mq_Q hX hTK hmz (by decide) (q := (tkR K 43 14 (true, adv (rol s s.1 4) 1))) z9 kc_12 (by decide) (by decide) (hQ9.1 z9)) hX k13_130 (Or.inl ⟨_, _, _, _, (hM.t_m), by decide, rfl⟩) (by decide) (Nat.le_of_ble_eq_true rfl) dX13_isHaulLine_76 rfl ?_
    rintro _ _ _ M9 ⟨⟨rfl, hQ9⟩, rfl, rfl, hF9⟩
    have hF := hF.tr hF9
    refine T_if_eq 89 82 dX13_isHaulLine_79 (by decide) rfl (fun c79 => ?_) (fun c79 => ?_)
    ·
      have z9 := ifz0 c79
      refine T_iconst (0) dX13_isHaulLine_89 rfl rfl ?_
      refine T_iret rfl rfl dX13_isHaulLine_90 ?_
      first
        | (have e4 : q4 = (tkR K 43 14 (true, adv (rol s s.1 4) 1)) := hp3.fls (show (lnhq K s).1 = false from fls (show ¬ (lnhq K s).1 = true from by show ¬ (tkQ K 12 (tkR K 43 14 (true, adv (rol s s.1 4) 1))).1 = true; rw [tkQ_n z9]; exact z9)) |>.trans (tkQ_n z9)
           have e6 : q' = (tkR K 43 14 (true, adv (rol s s.1 4) 1)) := (hH4 (by rw [e4]; exact fls z9)).trans e4
           subst e6
           exact ⟨⟨by rw [if_neg z9], MLQ.ff z9 (hQ9.2 (fls z9))⟩, rfl, rfl, hF⟩)
        | (have e4 : q4 = (tkQ K 12 (tkR K 43 14 (true, adv (rol s s.1 4) 1))) := hp3.fls (show (lnhq K s).1 = false from fls z9) |>.trans rfl
           have e6 : q' = (tkQ K 12 (tkR K 43 14 (true, adv (rol s s.1 4) 1))) := (hH4 (by rw [e4]; exact fls z9)).trans e4
           subst e6
           exact ⟨⟨by rw [if_neg z9], MLQ.ff z9 (hQ9.2 (fls z9))⟩, rfl, rfl, hF⟩)
        | (have e6 : q' = q4 := hH4 (fls z9)
           subst e6
           exact ⟨⟨by rw [if_neg z9], MLQ.ff z9 (hQ9.2 (fls z9))⟩, rfl, rfl, hF⟩)
    ·
      have z9 := ifz1 c79
      
      refine T_aload0 dX13_isHaulLine_82 rfl ?_
      refine T_cV0 (PR.m3 hX hTK hmz (by decide) (q := (tkQ K 12 (tkR K 43 14 (true, adv (rol s s.1 4) 1)))) z9 hp3 (hQ9.1 z9)) hX k13_167 (Or.inl ⟨_, _, _, _, (hM.t_m), by decide, rfl⟩) (by decide) (Nat.le_of_ble_eq_true rfl) dX13_isHaulLine_83 rfl ?_
      rintro _ _ _ M9 ⟨⟨rfl, hQ9⟩, rfl, rfl, hF9⟩
      have hF := hF.tr hF9
      refine T_if_ne 91 89 dX13_isHaulLine_86 (by decide) rfl (fun c86 => ?_) (fun c86 => ?_)
      ·
        have z9 := ifz1 c86
        have z4_ := z9
        obtain ⟨ω, wb, hM, hV, hω, hrl, hwb, hG, hn, ht, hz⟩ := hQ9.1 z9
        have k0 : ω 80 (q4).2.1 = nI (kkF (K (q4).2.1)) := by rw [hω 80 _ (by decide)]; exact (hTK.2.1 _ ht).1
        have hk := (hTK.2.1 _ ht).2.1
        have hps := (ps_le (σ := (q4).2.2.2.1) (q4).2.2.1).1
        refine T_aload0 dX13_isHaulLine_91 rfl ?_
        refine g13_39 _ rfl (hM.t_m) (hM.g_z) dX13_isHaulLine_92 rfl ?_
        refine g13_170 _ rfl (hV.t_q) (hV.g_sumEnd) dX13_isHaulLine_95 rfl ?_
        refine T_iload1 dX13_isHaulLine_98 rfl ?_
        refine T_aload0 dX13_isHaulLine_99 rfl ?_
        refine g13_39 _ rfl (hM.t_m) (hM.g_z) dX13_isHaulLine_100 rfl ?_
        refine g13_136 _ rfl (hV.t_q) (hV.g_size) dX13_isHaulLine_103 rfl ?_
        refine T_iast _ (hV.t_sumEnd) rfl (by omega) (by decide) dX13_isHaulLine_106 rfl ?_
        refine T_nm (fun M5 e5 => ?_)
        have hM := hM.frU e5 (by omega)
        have hV := PV.mv (hV.p_vsumEnd (by omega)) e5
        have hF := hF.up e5 (by omega)
        refine T_aload0 dX13_isHaulLine_107 rfl ?_
        refine T_bipush (13) dX13_isHaulLine_108 rfl rfl ?_
        refine T_cV1 (c_X13_eat hX hM (by omega) _) hX k13_130 (Or.inl ⟨_, _, _, _, (hM.t_m), by decide, rfl⟩) (by decide) (Nat.le_of_ble_eq_true rfl) dX13_isHaulLine_110 rfl ?_
        rintro _ _ _ M9 ⟨rfl, rfl, rfl, hM9⟩
        have hV := (hV.nx hM9.frame (by omega)).rf
        have hF := hF.fm hM9.frame
        rw [k0] at hM9 ⊢
        refine T_if_eq 125 116 dX13_isHaulLine_113 (by decide) rfl (fun c113 => ?_) (fun c113 => ?_)
        ·
          have e9 := ifz0 c113
          rw [if_neg e9] at hM9
          have e13 : ¬ K q4.2.1 = 13 := fun e => e9 ((kc_13 _ hk.1 hk.2).mpr e)
          have hM := hM9.rf
          have e6 : q4 = q' := hH.elim (fun g => absurd g.2.1 e13) (fun g => g.2.symm)
          subst e6
          refine T_aload0 dX13_isHaulLine_125 rfl ?_
          refine g13_39 _ rfl (hM.t_m) (hM.g_z) dX13_isHaulLine_126 rfl ?_
          refine g13_176 _ rfl (hV.t_q) (hV.g_haulTested) dX13_isHaulLine_129 rfl ?_
          refine T_iload1 dX13_isHaulLine_132 rfl ?_
          refine T_aload0 dX13_isHaulLine_133 rfl ?_
          refine g13_39 _ rfl (hM.t_m) (hM.g_z) dX13_isHaulLine_134 rfl ?_
          refine g13_136 _ rfl (hV.t_q) (hV.g_size) dX13_isHaulLine_137 rfl ?_
          refine T_iast _ (hV.t_haulTested) rfl (by omega) (by decide) dX13_isHaulLine_140 rfl ?_
          refine T_nm (fun M6 e6 => ?_)
          have hM := hM.frU e6 (by omega)
          have hV := PV.mv (hV.p_vhaulTested (by omega)) e6
          have hF := hF.up e6 (by omega)
          refine T_iconst (1) dX13_isHaulLine_141 rfl rfl ?_
          refine T_iret rfl rfl dX13_isHaulLine_142 ?_
          have z4 : q4.1 = true := z4_
          have x3 := hp3.psm z4
          have xs := C45.psm (C45.tq x3.1 (C45.tr9 (tkQ_t x3.1).1 (C45.rf hz1) (by decide) (by decide))) x3.2
          have ex4 : EXT s q4.2 := (PSX.ext ((((PXQ.st s 4).tr).tk) x3.1)).tr (PSM.ext x3.2)
          have eh9 : cntR (adv (rol s s.1 4) 1).2.2.2.2 4 (adv (rol s s.1 4) 1).1 = h + 1 := by
            show cntR (uI s.2.2.2.2 s.1 4) 4 (s.1 + 1) = h + 1
            rw [cntR_y (uI_s _ _ _), cntR_c (uI_c (Nat.le_refl _)), eh]
          have ev9 : cntR (adv (rol s s.1 4) 1).2.2.2.2 5 (adv (rol s s.1 4) 1).1 = v := by
            show cntR (uI s.2.2.2.2 s.1 4) 5 (s.1 + 1) = v
            rw [cntR_n (by rw [uI_s]; decide), cntR_c (uI_c (Nat.le_refl _)), ev]
          rw [← eh]
          first
            | (have hW9 := MW.haul hMW hwa rfl hwb (wd := u2 wb 53 (min h 12) _) (fun _ _ _ _ => rfl) ex4 (EXT.rf _) rfl rfl rfl
               exact ⟨⟨by rw [if_pos z4], MLQ.tt z4 (MLn.mk9 (xs.1.1.trans eh9) (xs.1.2.trans ev9) hW9 ⟨ω, _, hM.rf, hV.rf, hω, hrl, (fun _ _ _ _ => rfl), (hG.up (by decide) (by decide)).up (by decide) (by decide), hn, ht, hz⟩)⟩, rfl, rfl, hF⟩)
            | (have hW9 := MW.haul hMW hwa rfl hwb hwd ex4 (PSM.ext ((PSM.ad1 q4.2 1).tr (hp6.psm z9).2)) rfl rfl rfl
               have xs' := xs.psm ((PSM.ad1 q4.2 1).tr (hp6.psm z9).2)
               exact ⟨⟨by rw [if_pos z9], MLQ.tt z9 (MLn.mk9 (xs'.1.1.trans eh9) (xs'.1.2.trans ev9) hW9 ⟨ω, _, hM.rf, hV.rf, hω, hrl, (fun _ _ _ _ => rfl), hG.up (by decide) (by decide), hn, ht, hz⟩)⟩, rfl, rfl, hF⟩)
        ·
          have e9 := ifz1 c113
          rw [if_pos e9] at hM9
          have e13 := (kc_13 _ hk.1 hk.2).mp e9
          have hp6 := hH.elim (fun g => g.2.2) (fun g => absurd ⟨z4_, e13⟩ g.1)
          refine T_aload0 dX13_isHaulLine_116 rfl ?_
          refine T_cV0 (PR.m8 hX hTK hmz (by decide) (q := (true, adv q4.2 1)) rfl hp6 ⟨ω, _, hM9.rf, hV.rf, hω, hrl, (fun _ _ _ _ => rfl), hG.up (by decide) (by decide), (by show q4.2.2.1 + 0 ≤ q4.2.1 + 1; omega), hTK.lt ht e13 (by decide) (by decide), (fun i hi => hz i (Nat.le_trans (Nat.le_succ _) hi))⟩) hX k13_173 (Or.inl ⟨_, _, _, _, (hM.t_m), by decide, rfl⟩) (by decide) (Nat.le_of_ble_eq_true rfl) dX13_isHaulLine_117 rfl ?_
          rintro _ _ _ M9 ⟨⟨rfl, hQ9⟩, rfl, rfl, hF9⟩
          have hF := hF.tr hF9
          refine T_if_ne 125 123 dX13_isHaulLine_120 (by decide) rfl (fun c120 => ?_) (fun c120 => ?_)
          ·
            have z9 := ifz1 c120
            obtain ⟨ω, wd, hM, hV, hω, hrl, hwd, hG, hn, ht, hz⟩ := hQ9.1 z9
            have k0 : ω 80 (q').2.1 = nI (kkF (K (q').2.1)) := by rw [hω 80 _ (by decide)]; exact (hTK.2.1 _ ht).1
            have hk := (hTK.2.1 _ ht).2.1
            have hps := (ps_le (σ := (q').2.2.2.1) (q').2.2.1).1
            refine T_aload0 dX13_isHaulLine_125 rfl ?_
            refine g13_39 _ rfl (hM.t_m) (hM.g_z) dX13_isHaulLine_126 rfl ?_
            refine g13_176 _ rfl (hV.t_q) (hV.g_haulTested) dX13_isHaulLine_129 rfl ?_
            refine T_iload1 dX13_isHaulLine_132 rfl ?_
            refine T_aload0 dX13_isHaulLine_133 rfl ?_
            refine g13_39 _ rfl (hM.t_m) (hM.g_z) dX13_isHaulLine_134 rfl ?_
            refine g13_136 _ rfl (hV.t_q) (hV.g_size) dX13_isHaulLine_137 rfl ?_
            refine T_iast _ (hV.t_haulTested) rfl (by omega) (by decide) dX13_isHaulLine_140 rfl ?_
            refine T_nm (fun M7 e7 => ?_)
            have hM := hM.frU e7 (by omega)
            have hV := PV.mv (hV.p_vhaulTested (by omega)) e7
            have hF := hF.up e7 (by omega)
            refine T_iconst (1) dX13_isHaulLine_141 rfl rfl ?_
            refine T_iret rfl rfl dX13_isHaulLine_142 ?_
            have z4 : q4.1 = true := z4_
            have x3 := hp3.psm z4
            have xs := C45.psm (C45.tq x3.1 (C45.tr9 (tkQ_t x3.1).1 (C45.rf hz1) (by decide) (by decide))) x3.2
            have ex4 : EXT s q4.2 := (PSX.ext ((((PXQ.st s 4).tr).tk) x3.1)).tr (PSM.ext x3.2)
            have eh9 : cntR (adv (rol s s.1 4) 1).2.2.2.2 4 (adv (rol s s.1 4) 1).1 = h + 1 := by
              show cntR (uI s.2.2.2.2 s.1 4) 4 (s.1 + 1) = h + 1
              rw [cntR_y (uI_s _ _ _), cntR_c (uI_c (Nat.le_refl _)), eh]
            have ev9 : cntR (adv (rol s s.1 4) 1).2.2.2.2 5 (adv (rol s s.1 4) 1).1 = v := by
              show cntR (uI s.2.2.2.2 s.1 4) 5 (s.1 + 1) = v
              rw [cntR_n (by rw [uI_s]; decide), cntR_c (uI_c (Nat.le_refl _)), ev]
            rw [← eh]
            first
              | (have hW9 := MW.haul hMW hwa rfl hwb (wd := u2 wb 53 (min h 12) _) (fun _ _ _ _ => rfl) ex4 (EXT.rf _) rfl rfl rfl
                 exact ⟨⟨by rw [if_pos z4], MLQ.tt z4 (MLn.mk9 (xs.1.1.trans eh9) (xs.1.2.trans ev9) hW9 ⟨ω, _, hM.rf, hV.rf, hω, hrl, (fun _ _ _ _ => rfl), (hG.up (by decide) (by decide)).up (by decide) (by decide), hn, ht, hz⟩)⟩, rfl, rfl, hF⟩)
              | (have hW9 := MW.haul hMW hwa rfl hwb hwd ex4 (PSM.ext ((PSM.ad1 q4.2 1).tr (hp6.psm z9).2)) rfl rfl rfl
                 have xs' := xs.psm ((PSM.ad1 q4.2 1).tr (hp6.psm z9).2)
                 exact ⟨⟨by rw [if_pos z9], MLQ.tt z9 (MLn.mk9 (xs'.1.1.trans eh9) (xs'.1.2.trans ev9) hW9 ⟨ω, _, hM.rf, hV.rf, hω, hrl, (fun _ _ _ _ => rfl), hG.up (by decide) (by decide), hn, ht, hz⟩)⟩, rfl, rfl, hF⟩)
          ·
            have z9 := ifz0 (by first | exact c120 | exact Decidable.not_not.mp c120)
            refine T_iconst (0) dX13_isHaulLine_123 rfl rfl ?_
            refine T_iret rfl rfl dX13_isHaulLine_124 ?_
            exact ⟨⟨by rw [if_neg z9], MLQ.ff z9 (hQ9.2 (fls z9))⟩, rfl, rfl, hF⟩
      ·
        have z9 := ifz0 (by first | exact c86 | exact Decidable.not_not.mp c86)
        refine T_iconst (0) dX13_isHaulLine_89 rfl rfl ?_
        refine T_iret rfl rfl dX13_isHaulLine_90 ?_
        first
          | (have e4 : q4 = (tkR K 43 14 (true, adv (rol s s.1 4) 1)) := hp3.fls (show (lnhq K s).1 = false from fls (show ¬ (lnhq K s).1 = true from by show ¬ (tkQ K 12 (tkR K 43 14 (true, adv (rol s s.1 4) 1))).1 = true; rw [tkQ_n z9]; exact z9)) |>.trans (tkQ_n z9)
             have e6 : q' = (tkR K 43 14 (true, adv (rol s s.1 4) 1)) := (hH4 (by rw [e4]; exact fls z9)).trans e4
             subst e6
             exact ⟨⟨by rw [if_neg z9], MLQ.ff z9 (hQ9.2 (fls z9))⟩, rfl, rfl, hF⟩)
          | (have e4 : q4 = (tkQ K 12 (tkR K 43 14 (true, adv (rol s s.1 4) 1))) := hp3.fls (show (lnhq K s).1 = false from fls z9) |>.trans rfl
             have e6 : q' = (tkQ K 12 (tkR K 43 14 (true, adv (rol s s.1 4) 1))) := (hH4 (by rw [e4]; exact fls z9)).trans e4
             subst e6
             exact ⟨⟨by rw [if_neg z9], MLQ.ff z9 (hQ9.2 (fls z9))⟩, rfl, rfl, hF⟩)
          | (have e6 : q' = q4 := hH4 (fls z9)
             subst e6
             exact ⟨⟨by rw [if_neg z9], MLQ.ff z9 (hQ9.2 (fls z9))⟩, rfl, rfl, hF⟩)
