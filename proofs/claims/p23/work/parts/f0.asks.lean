/-! the class's calls, as the law makes them -/
theorem T_joinN {l : Launch} {D : va_G} {cA : Nat → ClassId} {n0 : Nat} {XW : State → Heap → Prop} {nm : MI} {d bk bn sz : Nat} {τ : TY} {M : ME} {Q : QT} {QX : QXT} {ls st : List Value} {pc : Nat} (J : Nat) (h : T l D cA n0 XW nm d bk bn sz τ M J ls st Q QX → T l D cA n0 XW nm d bk bn sz τ M pc ls st Q QX) (k : T l D cA n0 XW nm d bk bn sz τ M J ls st Q QX) : T l D cA n0 XW nm d bk bn sz τ M pc ls st Q QX := h k
theorem hz_in {v n : Nat} (h : v < n) (hn : n < 1000) : ¬ hasI (nI v) (nI n) = 0 := by
  rw [hasI_t rfl rfl h (by omega)]; decide
theorem CS.abc {sg : Nat → Nat} {τ : TY} {M : ME} {x r p r2 p2 n8 a b c hc wc sc : Nat} {ρ π : RH} {ν : NU} {σ : Nat → Nat} {B : Nat → Nat} {fa : Int32} (hC : CS sg τ M x r p r2 p2 n8 a b c hc wc sc ρ ν π σ B fa) : a ≤ 8 ∧ b ≤ 6 ∧ c ≤ 20 := hC.2.2.1.ok
theorem q_count {l : Launch} {D : va_G} {cA : Nat → ClassId} {n0 : Nat} {sg adK adV : Nat → Nat} {sgA smA wdA bS LS : Nat} {xs : Nat → Int32} (hX : SF n0 (XW0 sg adK adV sgA smA wdA n0 bS LS xs)) (hl : l.stackTraces = false) {nm : MI} {d bk bn sz : Nat} {τ : TY} {M : ME} {Q : QT} {QX : QXT} {ls rest : List Value} {pc pc' idx : Nat} {x r p r2 p2 n8 a b c hc wc sc : Nat} {ρ π : RH} {ν : NU} {σ : Nat → Nat} {B : Nat → Nat} {fa : Int32} (hC : CS sg τ M x r p r2 p2 n8 a b c hc wc sc ρ ν π σ B fa) {k : Nat} (hk : k < 13) (hw : WV mX10_count nm.y.cls idx 1) (hdd : 8 ≤ d) (hcat : (rest.map fun v => v.category).sum ≤ 8) (hd : decode nm.cc pc = .ok (.invokevirtual idx, 3)) (hp : pc + 3 = pc') (kk : T l D cA n0 (XW0 sg adK adV sgA smA wdA n0 bS LS xs) nm d bk bn sz τ M pc' ls (.int (cntF a b c n8 ρ k) :: rest) Q QX) : T l D cA n0 (XW0 sg adK adV sgA smA wdA n0 bS LS xs) nm d (bk + 1) (bn + 6) sz τ M pc ls (.int (nI k) :: .ref x :: rest) Q QX := by
  obtain ⟨hlay, ⟨ω, hV, hfa⟩, hR, ⟨κ9, hP9⟩, ⟨a9, b9, c9, ρ9, ν9, hA9⟩, -⟩ := id hC
  refine T_cXV1 (c_X10_count hX hl hV hR _) hX hw (Or.inl ⟨_, _, _, _, hV.t_x, by decide, rfl⟩) hdd hcat hd hp ?_ ?_
  · rintro _ _ _ _ ⟨⟨rfl, -⟩, rfl, rfl, rfl⟩
    rw [nI_cl (by omega)]
    exact kk
  · rintro _ _ _ _ _ ⟨⟨-, hbad⟩, -⟩ _
    exact absurd hbad (ii_in (n := 12) (by omega) (by decide))
theorem q_stretch {l : Launch} {D : va_G} {cA : Nat → ClassId} {n0 : Nat} {sg adK adV : Nat → Nat} {sgA smA wdA bS LS : Nat} {xs : Nat → Int32} (hX : SF n0 (XW0 sg adK adV sgA smA wdA n0 bS LS xs)) (hl : l.stackTraces = false) {nm : MI} {d bk bn sz : Nat} {τ : TY} {M : ME} {Q : QT} {QX : QXT} {ls rest : List Value} {pc pc' idx : Nat} {x r p r2 p2 n8 a b c hc wc sc : Nat} {ρ π : RH} {ν : NU} {σ : Nat → Nat} {B : Nat → Nat} {fa : Int32} (hC : CS sg τ M x r p r2 p2 n8 a b c hc wc sc ρ ν π σ B fa) {h k : Nat} (hh : h < a) (hk : k < 5) (hw : WV mX10_stretch nm.y.cls idx 2) (hdd : 8 ≤ d) (hcat : (rest.map fun v => v.category).sum ≤ 8) (hd : decode nm.cc pc = .ok (.invokevirtual idx, 3)) (hp : pc + 3 = pc') (kk : T l D cA n0 (XW0 sg adK adV sgA smA wdA n0 bS LS xs) nm d bk bn sz τ M pc' ls (.int (stF b c ρ h k) :: rest) Q QX) : T l D cA n0 (XW0 sg adK adV sgA smA wdA n0 bS LS xs) nm d (bk + 2) (bn + 12) sz τ M pc ls (.int (nI k) :: .int (nI h) :: .ref x :: rest) Q QX := by
  obtain ⟨hlay, ⟨ω, hV, hfa⟩, hR, ⟨κ9, hP9⟩, ⟨a9, b9, c9, ρ9, ν9, hA9⟩, -⟩ := id hC
  refine T_cXV2 (c_X10_stretch hX hl hV hR _ _) hX hw (Or.inl ⟨_, _, _, _, hV.t_x, by decide, rfl⟩) hdd hcat hd hp ?_ ?_
  · rintro _ _ _ _ ⟨⟨rfl, -⟩, rfl, rfl, rfl⟩
    have hb9 := hC.abc
    rw [nI_cl (by omega), nI_cl (by omega)]
    exact kk
  · rintro _ _ _ _ _ ⟨⟨-, hbad | hbad⟩, -⟩ _
    · exact absurd hbad (hz_in hh (by have := hC.abc; omega))
    · exact absurd hbad (ii_in (n := 4) (by omega) (by decide))
theorem q_horse {l : Launch} {D : va_G} {cA : Nat → ClassId} {n0 : Nat} {sg adK adV : Nat → Nat} {sgA smA wdA bS LS : Nat} {xs : Nat → Int32} (hX : SF n0 (XW0 sg adK adV sgA smA wdA n0 bS LS xs)) (hl : l.stackTraces = false) {nm : MI} {d bk bn sz : Nat} {τ : TY} {M : ME} {Q : QT} {QX : QXT} {ls rest : List Value} {pc pc' idx : Nat} {x r p r2 p2 n8 a b c hc wc sc : Nat} {ρ π : RH} {ν : NU} {σ : Nat → Nat} {B : Nat → Nat} {fa : Int32} (hC : CS sg τ M x r p r2 p2 n8 a b c hc wc sc ρ ν π σ B fa) (hi : RI a b c ρ) {h k : Nat} (hh : h < b) (hk : k < 10) (hw : WV mX10_horse nm.y.cls idx 2) (hdd : 8 ≤ d) (hcat : (rest.map fun v => v.category).sum ≤ 8) (hd : decode nm.cc pc = .ok (.invokevirtual idx, 3)) (hp : pc + 3 = pc') (kk : T l D cA n0 (XW0 sg adK adV sgA smA wdA n0 bS LS xs) nm d bk bn sz τ M pc' ls (.int (hsF c ρ h k) :: rest) Q QX) : T l D cA n0 (XW0 sg adK adV sgA smA wdA n0 bS LS xs) nm d (bk + 2) (bn + 12) sz τ M pc ls (.int (nI k) :: .int (nI h) :: .ref x :: rest) Q QX := by
  obtain ⟨hlay, ⟨ω, hV, hfa⟩, hR, ⟨κ9, hP9⟩, ⟨a9, b9, c9, ρ9, ν9, hA9⟩, -⟩ := id hC
  refine T_cXV2 (c_X10_horse hX hl hV hR hi _ _) hX hw (Or.inl ⟨_, _, _, _, hV.t_x, by decide, rfl⟩) hdd hcat hd hp ?_ ?_
  · rintro _ _ _ _ ⟨⟨rfl, -⟩, rfl, rfl, rfl⟩
    have hb9 := hC.abc
    rw [nI_cl (by omega), nI_cl (by omega)]
    exact kk
  · rintro _ _ _ _ _ ⟨⟨-, hbad | hbad⟩, -⟩ _
    · exact absurd hbad (hz_in hh (by have := hC.abc; omega))
    · exact absurd hbad (ii_in (n := 9) (by omega) (by decide))
theorem q_log {l : Launch} {D : va_G} {cA : Nat → ClassId} {n0 : Nat} {sg adK adV : Nat → Nat} {sgA smA wdA bS LS : Nat} {xs : Nat → Int32} (hX : SF n0 (XW0 sg adK adV sgA smA wdA n0 bS LS xs)) (hl : l.stackTraces = false) {nm : MI} {d bk bn sz : Nat} {τ : TY} {M : ME} {Q : QT} {QX : QXT} {ls rest : List Value} {pc pc' idx : Nat} {x r p r2 p2 n8 a b c hc wc sc : Nat} {ρ π : RH} {ν : NU} {σ : Nat → Nat} {B : Nat → Nat} {fa : Int32} (hC : CS sg τ M x r p r2 p2 n8 a b c hc wc sc ρ ν π σ B fa) {h k : Nat} (hh : h < c) (hk : k < 4) (hw : WV mX10_log nm.y.cls idx 2) (hdd : 8 ≤ d) (hcat : (rest.map fun v => v.category).sum ≤ 8) (hd : decode nm.cc pc = .ok (.invokevirtual idx, 3)) (hp : pc + 3 = pc') (kk : T l D cA n0 (XW0 sg adK adV sgA smA wdA n0 bS LS xs) nm d bk bn sz τ M pc' ls (.int (lgF ρ h k) :: rest) Q QX) : T l D cA n0 (XW0 sg adK adV sgA smA wdA n0 bS LS xs) nm d (bk + 2) (bn + 12) sz τ M pc ls (.int (nI k) :: .int (nI h) :: .ref x :: rest) Q QX := by
  obtain ⟨hlay, ⟨ω, hV, hfa⟩, hR, ⟨κ9, hP9⟩, ⟨a9, b9, c9, ρ9, ν9, hA9⟩, -⟩ := id hC
  refine T_cXV2 (c_X10_log hX hl hV hR _ _) hX hw (Or.inl ⟨_, _, _, _, hV.t_x, by decide, rfl⟩) hdd hcat hd hp ?_ ?_
  · rintro _ _ _ _ ⟨⟨rfl, -⟩, rfl, rfl, rfl⟩
    have hb9 := hC.abc
    rw [nI_cl (by omega), nI_cl (by omega)]
    exact kk
  · rintro _ _ _ _ _ ⟨⟨-, hbad | hbad⟩, -⟩ _
    · exact absurd hbad (hz_in hh (by have := hC.abc; omega))
    · exact absurd hbad (ii_in (n := 3) (by omega) (by decide))
theorem q_needs {l : Launch} {D : va_G} {cA : Nat → ClassId} {n0 : Nat} {sg adK adV : Nat → Nat} {sgA smA wdA bS LS : Nat} {xs : Nat → Int32} (hX : SF n0 (XW0 sg adK adV sgA smA wdA n0 bS LS xs)) (hl : l.stackTraces = false) {nm : MI} {d bk bn sz : Nat} {τ : TY} {M : ME} {Q : QT} {QX : QXT} {ls rest : List Value} {pc pc' idx : Nat} {x r p r2 p2 n8 a b c hc wc sc : Nat} {ρ π : RH} {ν : NU} {σ : Nat → Nat} {B : Nat → Nat} {fa : Int32} (hC : CS sg τ M x r p r2 p2 n8 a b c hc wc sc ρ ν π σ B fa) {h t : Nat} (hh : h < b) (ht : t < a) (hw : WV mX10_needs nm.y.cls idx 2) (hdd : 8 ≤ d) (hcat : (rest.map fun v => v.category).sum ≤ 8) (hd : decode nm.cc pc = .ok (.invokevirtual idx, 3)) (hp : pc + 3 = pc') (kk : T l D cA n0 (XW0 sg adK adV sgA smA wdA n0 bS LS xs) nm d bk bn sz τ M pc' ls (.int (needF c ρ (nI h) t) :: rest) Q QX) : T l D cA n0 (XW0 sg adK adV sgA smA wdA n0 bS LS xs) nm d (bk + 2) (bn + 12) sz τ M pc ls (.int (nI t) :: .int (nI h) :: .ref x :: rest) Q QX := by
  obtain ⟨hlay, ⟨ω, hV, hfa⟩, hR, ⟨κ9, hP9⟩, ⟨a9, b9, c9, ρ9, ν9, hA9⟩, -⟩ := id hC
  refine T_cXV2 (c_X10_needs hX hl hV hR _ _) hX hw (Or.inl ⟨_, _, _, _, hV.t_x, by decide, rfl⟩) hdd hcat hd hp ?_ ?_
  · rintro _ _ _ _ ⟨⟨rfl, -⟩, rfl, rfl, rfl⟩
    have hb9 := hC.abc
    rw [nI_cl (by omega)]
    exact kk
  · rintro _ _ _ _ _ ⟨⟨-, hbad | hbad⟩, -⟩ _
    · exact absurd hbad (hz_in hh (by have := hC.abc; omega))
    · exact absurd hbad (hz_in ht (by have := hC.abc; omega))
theorem q_mean {l : Launch} {D : va_G} {cA : Nat → ClassId} {n0 : Nat} {sg adK adV : Nat → Nat} {sgA smA wdA bS LS : Nat} {xs : Nat → Int32} (hX : SF n0 (XW0 sg adK adV sgA smA wdA n0 bS LS xs)) (hl : l.stackTraces = false) {nm : MI} {d bk bn sz : Nat} {τ : TY} {M : ME} {Q : QT} {QX : QXT} {ls rest : List Value} {pc pc' idx : Nat} {x r p r2 p2 n8 a b c hc wc sc : Nat} {ρ π : RH} {ν : NU} {σ : Nat → Nat} {B : Nat → Nat} {fa : Int32} (hC : CS sg τ M x r p r2 p2 n8 a b c hc wc sc ρ ν π σ B fa) (hi : RI a b c ρ) (hw : WV mX10_mean nm.y.cls idx 0) (hdd : 3 ≤ d) (hcat : (rest.map fun v => v.category).sum ≤ 8) (hd : decode nm.cc pc = .ok (.invokevirtual idx, 3)) (hp : pc + 3 = pc') (kk : T l D cA n0 (XW0 sg adK adV sgA smA wdA n0 bS LS xs) nm d bk bn sz τ M pc' ls (.double (meF c ρ) :: rest) Q QX) : T l D cA n0 (XW0 sg adK adV sgA smA wdA n0 bS LS xs) nm d (bk + 0) (bn + 0) sz τ M pc ls (.ref x :: rest) Q QX := by
  obtain ⟨hlay, ⟨ω, hV, hfa⟩, hR, ⟨κ9, hP9⟩, ⟨a9, b9, c9, ρ9, ν9, hA9⟩, -⟩ := id hC
  refine T_cV0 (c_X10_mean hX hV hR hi) hX hw (Or.inl ⟨_, _, _, _, hV.t_x, by decide, rfl⟩) hdd hcat hd hp ?_
  · rintro _ _ _ _ ⟨rfl, rfl, rfl, rfl⟩
    exact kk
theorem q_digest {l : Launch} {D : va_G} {cA : Nat → ClassId} {n0 : Nat} {sg adK adV : Nat → Nat} {sgA smA wdA bS LS : Nat} {xs : Nat → Int32} (hX : SF n0 (XW0 sg adK adV sgA smA wdA n0 bS LS xs)) (hl : l.stackTraces = false) {nm : MI} {d bk bn sz : Nat} {τ : TY} {M : ME} {Q : QT} {QX : QXT} {ls rest : List Value} {pc pc' idx : Nat} {x r p r2 p2 n8 a b c hc wc sc : Nat} {ρ π : RH} {ν : NU} {σ : Nat → Nat} {B : Nat → Nat} {fa : Int32} (hC : CS sg τ M x r p r2 p2 n8 a b c hc wc sc ρ ν π σ B fa) (hi : RI a b c ρ) (hw : WV mX10_digest nm.y.cls idx 0) (hdd : 9 ≤ d) (hcat : (rest.map fun v => v.category).sum ≤ 8) (hd : decode nm.cc pc = .ok (.invokevirtual idx, 3)) (hp : pc + 3 = pc') (kk : T l D cA n0 (XW0 sg adK adV sgA smA wdA n0 bS LS xs) nm d bk bn sz τ M pc' ls (.long (dgW a b c n8 ρ) :: rest) Q QX) : T l D cA n0 (XW0 sg adK adV sgA smA wdA n0 bS LS xs) nm d (bk + 13) (bn + 78) sz τ M pc ls (.ref x :: rest) Q QX := by
  obtain ⟨hlay, ⟨ω, hV, hfa⟩, hR, ⟨κ9, hP9⟩, ⟨a9, b9, c9, ρ9, ν9, hA9⟩, -⟩ := id hC
  refine T_cV0 (c_X10_digest hX hl hV hR hi) hX hw (Or.inl ⟨_, _, _, _, hV.t_x, by decide, rfl⟩) hdd hcat hd hp ?_
  · rintro _ _ _ _ ⟨rfl, rfl, rfl, rfl⟩
    exact kk
theorem q_arrives {l : Launch} {D : va_G} {cA : Nat → ClassId} {n0 : Nat} {sg adK adV : Nat → Nat} {sgA smA wdA bS LS : Nat} {xs : Nat → Int32} (hX : SF n0 (XW0 sg adK adV sgA smA wdA n0 bS LS xs)) (hl : l.stackTraces = false) {nm : MI} {d bk bn sz : Nat} {τ : TY} {M : ME} {Q : QT} {QX : QXT} {ls rest : List Value} {pc pc' idx : Nat} {x r p r2 p2 n8 a b c hc wc sc : Nat} {ρ π : RH} {ν : NU} {σ : Nat → Nat} {B : Nat → Nat} {fa : Int32} (hC : CS sg τ M x r p r2 p2 n8 a b c hc wc sc ρ ν π σ B fa) (hi : RI a b c ρ) (ho : PlOK a b hc wc σ π) {h : Nat} (hh : h < c) (hw : WV mX10_arrives nm.y.cls idx 1) (hdd : 10 ≤ d) (hcat : (rest.map fun v => v.category).sum ≤ 8) (hd : decode nm.cc pc = .ok (.invokevirtual idx, 3)) (hp : pc + 3 = pc') (kk : ∀ M', CS sg τ M' x r p r2 p2 n8 a b c hc wc sc (ρ) ν π σ B fa → (∀ q, q < x ∨ x + 144 ≤ q → M' q = M q) → T l D cA n0 (XW0 sg adK adV sgA smA wdA n0 bS LS xs) nm d bk bn sz τ M' pc' ls (.int (arG a b c hc wc σ π ρ h 0 201) :: rest) Q QX) : T l D cA n0 (XW0 sg adK adV sgA smA wdA n0 bS LS xs) nm d (bk + 1) (bn + 6) sz τ M pc ls (.int (nI h) :: .ref x :: rest) Q QX := by
  obtain ⟨hlay, ⟨ω, hV, hfa⟩, hR, ⟨κ9, hP9⟩, ⟨a9, b9, c9, ρ9, ν9, hA9⟩, -⟩ := id hC
  refine T_cXV1 (c_X10_arrives hX hl hV hR hP9 ho hi (by omega) (by omega) hA9 (by omega) (by omega) (by omega) _) hX hw (Or.inl ⟨_, _, _, _, hV.t_x, by decide, rfl⟩) hdd hcat hd hp ?_ ?_
  · rintro _ _ _ M1 ⟨⟨rfl, -⟩, hs⟩
    have hb9 := hC.abc
    obtain ⟨rfl, rfl, hC1, hf1⟩ := hC.setSB hs
    have e9 := kk M1 hC1 hf1
    rw [nI_cl (by omega)]
    exact e9
  · rintro _ _ _ _ _ ⟨⟨-, hbad⟩, -⟩ _
    exact absurd hbad (hz_in hh (by have := hC.abc; omega))
theorem q_breaks {l : Launch} {D : va_G} {cA : Nat → ClassId} {n0 : Nat} {sg adK adV : Nat → Nat} {sgA smA wdA bS LS : Nat} {xs : Nat → Int32} (hX : SF n0 (XW0 sg adK adV sgA smA wdA n0 bS LS xs)) (hl : l.stackTraces = false) {nm : MI} {d bk bn sz : Nat} {τ : TY} {M : ME} {Q : QT} {QX : QXT} {ls rest : List Value} {pc pc' idx : Nat} {x r p r2 p2 n8 a b c hc wc sc : Nat} {ρ π : RH} {ν : NU} {σ : Nat → Nat} {B : Nat → Nat} {fa : Int32} (hC : CS sg τ M x r p r2 p2 n8 a b c hc wc sc ρ ν π σ B fa) (hi : RI a b c ρ) (ho : PlOK a b hc wc σ π) {h : Nat} (hh : h < b) (hw : WV mX10_breaks nm.y.cls idx 1) (hdd : 10 ≤ d) (hcat : (rest.map fun v => v.category).sum ≤ 8) (hd : decode nm.cc pc = .ok (.invokevirtual idx, 3)) (hp : pc + 3 = pc') (kk : ∀ M', CS sg τ M' x r p r2 p2 n8 a b c hc wc sc (ρ) ν π σ B fa → (∀ q, q < x ∨ x + 144 ≤ q → M' q = M q) → T l D cA n0 (XW0 sg adK adV sgA smA wdA n0 bS LS xs) nm d bk bn sz τ M' pc' ls (.int (brG a b c hc wc σ π ρ h 1 200) :: rest) Q QX) : T l D cA n0 (XW0 sg adK adV sgA smA wdA n0 bS LS xs) nm d (bk + 1) (bn + 6) sz τ M pc ls (.int (nI h) :: .ref x :: rest) Q QX := by
  obtain ⟨hlay, ⟨ω, hV, hfa⟩, hR, ⟨κ9, hP9⟩, ⟨a9, b9, c9, ρ9, ν9, hA9⟩, -⟩ := id hC
  refine T_cXV1 (c_X10_breaks hX hl hV hR hP9 ho hi (by omega) (by omega) hA9 (by omega) (by omega) (by omega) _) hX hw (Or.inl ⟨_, _, _, _, hV.t_x, by decide, rfl⟩) hdd hcat hd hp ?_ ?_
  · rintro _ _ _ M1 ⟨⟨rfl, -⟩, hs⟩
    have hb9 := hC.abc
    obtain ⟨rfl, rfl, hC1, hf1⟩ := hC.setSB hs
    have e9 := kk M1 hC1 hf1
    rw [nI_cl (by omega)]
    exact e9
  · rintro _ _ _ _ _ ⟨⟨-, hbad⟩, -⟩ _
    exact absurd hbad (hz_in hh (by have := hC.abc; omega))
theorem ii_1in {j n : Nat} (h0 : 1 ≤ j) (h : j ≤ n) (hn : n ≤ 2000) : ¬ iiF (nI j) 1 (nI n) = 0 := by
  unfold iiF
  rw [if_pos ⟨(nI_leI (a := 1) (by decide) (by omega)).mpr h0, (nI_leI (by omega) (by omega)).mpr h⟩]
  decide
theorem q_foresee {l : Launch} {D : va_G} {cA : Nat → ClassId} {n0 : Nat} {sg adK adV : Nat → Nat} {sgA smA wdA bS LS : Nat} {xs : Nat → Int32} (hX : SF n0 (XW0 sg adK adV sgA smA wdA n0 bS LS xs)) (hl : l.stackTraces = false) {nm : MI} {d bk bn sz : Nat} {τ : TY} {M : ME} {Q : QT} {QX : QXT} {ls rest : List Value} {pc pc' idx : Nat} {x r p r2 p2 n8 a b c hc wc sc : Nat} {ρ π : RH} {ν : NU} {σ : Nat → Nat} {B : Nat → Nat} {fa : Int32} (hC : CS sg τ M x r p r2 p2 n8 a b c hc wc sc ρ ν π σ B fa) (hi : RI a b c ρ) (ho : PlOK a b hc wc σ π) {k : Nat} (hk : k < 4) (hw : WV mX10_foresee nm.y.cls idx 2) (hdd : 10 ≤ d) (hcat : (rest.map fun v => v.category).sum ≤ 8) (hd : decode nm.cc pc = .ok (.invokevirtual idx, 3)) (hp : pc + 3 = pc') (kk : ∀ M', CS sg τ M' x r p r2 p2 n8 a b c hc wc sc (ρ) ν π σ B fa → (∀ q, q < x ∨ x + 144 ≤ q → M' q = M q) → T l D cA n0 (XW0 sg adK adV sgA smA wdA n0 bS LS xs) nm d bk bn sz τ M' pc' ls (.int (fsF a b c hc wc σ π ρ 1 k) :: rest) Q QX) : T l D cA n0 (XW0 sg adK adV sgA smA wdA n0 bS LS xs) nm d (bk + 2) (bn + 12) sz τ M pc ls (.int (nI k) :: .int (nI 1) :: .ref x :: rest) Q QX := by
  obtain ⟨hlay, ⟨ω, hV, hfa⟩, hR, ⟨κ9, hP9⟩, ⟨a9, b9, c9, ρ9, ν9, hA9⟩, -⟩ := id hC
  refine T_cXV2 (c_X10_foresee hX hl hV hR hP9 ho hi (by omega) (by omega) hA9 (by omega) (by omega) (by omega) _ _) hX hw (Or.inl ⟨_, _, _, _, hV.t_x, by decide, rfl⟩) hdd hcat hd hp ?_ ?_
  · rintro _ _ _ M1 ⟨⟨rfl, -⟩, hs⟩
    have hb9 := hC.abc
    obtain ⟨rfl, rfl, hC1, hf1⟩ := hC.setSB hs
    have e9 := kk M1 hC1 hf1
    rw [nI_cl (j := 1) (by omega), nI_cl (j := k) (by omega)]
    exact e9
  · rintro _ _ _ _ _ ⟨⟨-, hbad⟩ | ⟨-, -, hbad⟩, -⟩ _
    · exact absurd hbad (ii_1in (j := 1) (n := 120) (by decide) (by decide) (by decide))
    · exact absurd hbad (ii_in (n := 3) (by omega) (by decide))
theorem q_advise {l : Launch} {D : va_G} {cA : Nat → ClassId} {n0 : Nat} {sg adK adV : Nat → Nat} {sgA smA wdA bS LS : Nat} {xs : Nat → Int32} (hX : SF n0 (XW0 sg adK adV sgA smA wdA n0 bS LS xs)) (hl : l.stackTraces = false) {nm : MI} {d bk bn sz : Nat} {τ : TY} {M : ME} {Q : QT} {QX : QXT} {ls rest : List Value} {pc pc' idx : Nat} {x r p r2 p2 n8 a b c hc wc sc : Nat} {ρ π : RH} {ν : NU} {σ : Nat → Nat} {B : Nat → Nat} {fa : Int32} (hC : CS sg τ M x r p r2 p2 n8 a b c hc wc sc ρ ν π σ B fa) (hi : RI a b c ρ) (ho : PlOK a b hc wc σ π)  (hw : WV mX10_advise nm.y.cls idx 1) (hdd : 10 ≤ d) (hcat : (rest.map fun v => v.category).sum ≤ 8) (hd : decode nm.cc pc = .ok (.invokevirtual idx, 3)) (hp : pc + 3 = pc') (kk : ∀ M', CS sg τ M' x r p r2 p2 n8 a b c hc wc sc (ρ) ν π σ B fa → (∀ q, q < x ∨ x + 144 ≤ q → M' q = M q) → T l D cA n0 (XW0 sg adK adV sgA smA wdA n0 bS LS xs) nm d bk bn sz τ M' pc' ls (.int ((adS a b c hc wc σ π ρ 12 7).1) :: rest) Q QX) : T l D cA n0 (XW0 sg adK adV sgA smA wdA n0 bS LS xs) nm d (bk + 1) (bn + 6) sz τ M pc ls (.int (nI 12) :: .ref x :: rest) Q QX := by
  obtain ⟨hlay, ⟨ω, hV, hfa⟩, hR, ⟨κ9, hP9⟩, ⟨a9, b9, c9, ρ9, ν9, hA9⟩, -⟩ := id hC
  refine T_cXV1 (c_X10_advise hX hl hV hR hP9 ho hi (by omega) (by omega) hA9 (by omega) (by omega) (by omega) _) hX hw (Or.inl ⟨_, _, _, _, hV.t_x, by decide, rfl⟩) hdd hcat hd hp ?_ ?_
  · rintro _ _ _ M1 ⟨⟨rfl, -⟩, hs⟩
    have hb9 := hC.abc
    obtain ⟨rfl, rfl, hC1, hf1⟩ := hC.setSB hs
    have e9 := kk M1 hC1 hf1
    rw [nI_cl (j := 12) (by omega)]
    exact e9
  · rintro _ _ _ _ _ ⟨⟨-, hbad⟩, -⟩ _
    exact absurd hbad (ii_1in (j := 12) (n := 80) (by decide) (by decide) (by decide))
theorem q_choose {l : Launch} {D : va_G} {cA : Nat → ClassId} {n0 : Nat} {sg adK adV : Nat → Nat} {sgA smA wdA bS LS : Nat} {xs : Nat → Int32} (hX : SF n0 (XW0 sg adK adV sgA smA wdA n0 bS LS xs)) (hl : l.stackTraces = false) {nm : MI} {d bk bn sz : Nat} {τ : TY} {M : ME} {Q : QT} {QX : QXT} {ls rest : List Value} {pc pc' idx : Nat} {x r p r2 p2 n8 a b c hc wc sc : Nat} {ρ π : RH} {ν : NU} {σ : Nat → Nat} {B : Nat → Nat} {fa : Int32} (hC : CS sg τ M x r p r2 p2 n8 a b c hc wc sc ρ ν π σ B fa) (hi : RI a b c ρ) (ho : PlOK a b hc wc σ π)  (hw : WV mX10_choose nm.y.cls idx 1) (hdd : 10 ≤ d) (hcat : (rest.map fun v => v.category).sum ≤ 8) (hd : decode nm.cc pc = .ok (.invokevirtual idx, 3)) (hp : pc + 3 = pc') (kk : ∀ M', CS sg τ M' x r p r2 p2 n8 a b c hc wc sc (ρ) ν π σ B fa → (∀ q, q < x ∨ x + 144 ≤ q → M' q = M q) → T l D cA n0 (XW0 sg adK adV sgA smA wdA n0 bS LS xs) nm d bk bn sz τ M' pc' ls (.int ((chS a b c hc wc σ π ρ 24 b).1) :: rest) Q QX) : T l D cA n0 (XW0 sg adK adV sgA smA wdA n0 bS LS xs) nm d (bk + 1) (bn + 6) sz τ M pc ls (.int (nI 24) :: .ref x :: rest) Q QX := by
  obtain ⟨hlay, ⟨ω, hV, hfa⟩, hR, ⟨κ9, hP9⟩, ⟨a9, b9, c9, ρ9, ν9, hA9⟩, -⟩ := id hC
  refine T_cXV1 (c_X10_choose hX hl hV hR hP9 ho hi (by omega) (by omega) hA9 (by omega) (by omega) (by omega) _) hX hw (Or.inl ⟨_, _, _, _, hV.t_x, by decide, rfl⟩) hdd hcat hd hp ?_ ?_
  · rintro _ _ _ M1 ⟨⟨rfl, -⟩, hs⟩
    have hb9 := hC.abc
    obtain ⟨rfl, rfl, hC1, hf1⟩ := hC.setSB hs
    have e9 := kk M1 hC1 hf1
    rw [nI_cl (j := 24) (by omega)]
    exact e9
  · rintro _ _ _ _ _ ⟨⟨-, hbad⟩, -⟩ _
    exact absurd hbad (ii_1in (j := 24) (n := 80) (by decide) (by decide) (by decide))
theorem q_pass {l : Launch} {D : va_G} {cA : Nat → ClassId} {n0 : Nat} {sg adK adV : Nat → Nat} {sgA smA wdA bS LS : Nat} {xs : Nat → Int32} (hX : SF n0 (XW0 sg adK adV sgA smA wdA n0 bS LS xs)) (hl : l.stackTraces = false) {nm : MI} {d bk bn sz : Nat} {τ : TY} {M : ME} {Q : QT} {QX : QXT} {ls rest : List Value} {pc pc' idx : Nat} {x r p r2 p2 n8 a b c hc wc sc : Nat} {ρ π : RH} {ν : NU} {σ : Nat → Nat} {B : Nat → Nat} {fa : Int32} (hC : CS sg τ M x r p r2 p2 n8 a b c hc wc sc ρ ν π σ B fa) (hi : RI a b c ρ) (ho : PlOK a b hc wc σ π) (hw : WV mX10_pass nm.y.cls idx 1) (hdd : 10 ≤ d) (hcat : (rest.map fun v => v.category).sum ≤ 8) (hd : decode nm.cc pc = .ok (.invokevirtual idx, 3)) (hp : pc + 3 = pc') (kk : ∀ M', CS sg τ M' x r p r2 p2 n8 a b c hc wc sc (hrC a b c hc wc σ π ρ) ν π σ B fa → (∀ q, q < x ∨ x + 144 ≤ q → M' q = M q) → T l D cA n0 (XW0 sg adK adV sgA smA wdA n0 bS LS xs) nm d bk bn sz τ M' pc' ls (.int (wOf c (hrC a b c hc wc σ π ρ) 3 - wOf c ρ 3) :: rest) Q QX) : T l D cA n0 (XW0 sg adK adV sgA smA wdA n0 bS LS xs) nm d (bk + 1) (bn + 6) sz τ M pc ls (.int (nI 1) :: .ref x :: rest) Q QX := by
  obtain ⟨hlay, ⟨ω, hV, hfa⟩, hR, ⟨κ9, hP9⟩, ⟨a9, b9, c9, ρ9, ν9, hA9⟩, -⟩ := id hC
  refine T_cXV1 (c_X10_pass hX hl hV hR hP9 ho hi (by omega) (by omega) _) hX hw (Or.inl ⟨_, _, _, _, hV.t_x, by decide, rfl⟩) hdd hcat hd hp ?_ ?_
  · rintro _ _ _ M1 ⟨⟨rfl, -⟩, rfl, rfl, hP1, hR1, hF1⟩
    rw [nI_cl (j := 1) (by omega)] at hR1
    rw [nI_cl (j := 1) (by omega)]
    exact kk M1 (hC.setRP hR1 hP1 hF1) (fun q hq => hF1 q (by omega) (by omega))
  · rintro _ _ _ _ _ ⟨⟨-, hbad⟩, -⟩ _
    exact absurd hbad (ii_1in (j := 1) (n := 120) (by decide) (by decide) (by decide))
theorem q_setWeather {l : Launch} {D : va_G} {cA : Nat → ClassId} {n0 : Nat} {sg adK adV : Nat → Nat} {sgA smA wdA bS LS : Nat} {xs : Nat → Int32} (hX : SF n0 (XW0 sg adK adV sgA smA wdA n0 bS LS xs)) (hl : l.stackTraces = false) {nm : MI} {d bk bn sz : Nat} {τ : TY} {M : ME} {Q : QT} {QX : QXT} {ls rest : List Value} {pc pc' idx : Nat} {x r p r2 p2 n8 a b c hc wc sc : Nat} {ρ π : RH} {ν : NU} {σ : Nat → Nat} {B : Nat → Nat} {fa : Int32} (hC : CS sg τ M x r p r2 p2 n8 a b c hc wc sc ρ ν π σ B fa) {w : Int32} (hw9 : -3 ≤ w ∧ w ≤ 3) (hw : WV mX10_setWeather nm.y.cls idx 1) (hdd : 8 ≤ d) (hcat : (rest.map fun v => v.category).sum ≤ 8) (hd : decode nm.cc pc = .ok (.invokevirtual idx, 3)) (hp : pc + 3 = pc') (kk : ∀ M', CS sg τ M' x r p r2 p2 n8 a b c hc wc sc (u2 ρ 7 0 w) ν π σ B fa → (∀ q, q < x ∨ x + 144 ≤ q → M' q = M q) → T l D cA n0 (XW0 sg adK adV sgA smA wdA n0 bS LS xs) nm d bk bn sz τ M' pc' ls (.int (ρ 7 0) :: rest) Q QX) : T l D cA n0 (XW0 sg adK adV sgA smA wdA n0 bS LS xs) nm d (bk + 1) (bn + 6) sz τ M pc ls (.int w :: .ref x :: rest) Q QX := by
  obtain ⟨hlay, ⟨ω, hV, hfa⟩, hR, ⟨κ9, hP9⟩, ⟨a9, b9, c9, ρ9, ν9, hA9⟩, -⟩ := id hC
  refine T_cXV1 (c_X10_setWeather hX hl hV hR (by omega) _) hX hw (Or.inl ⟨_, _, _, _, hV.t_x, by decide, rfl⟩) hdd hcat hd hp ?_ ?_
  · rintro _ _ _ M1 ⟨⟨rfl, -⟩, rfl, rfl, hR1⟩
    exact kk M1 (hC.setR hR1) (fun q hq => hR1.frame q (by omega))
  · rintro _ _ _ _ _ ⟨⟨-, hbad⟩, -⟩ _
    unfold iiF at hbad
    rw [if_pos hw9] at hbad
    exact absurd hbad (by decide)
theorem q_forge {l : Launch} {D : va_G} {cA : Nat → ClassId} {n0 : Nat} {sg adK adV : Nat → Nat} {sgA smA wdA bS LS : Nat} {xs : Nat → Int32} (hX : SF n0 (XW0 sg adK adV sgA smA wdA n0 bS LS xs)) (hl : l.stackTraces = false) {nm : MI} {d bk bn sz : Nat} {τ : TY} {M : ME} {Q : QT} {QX : QXT} {ls rest : List Value} {pc pc' idx : Nat} {x r p r2 p2 n8 a b c hc wc sc : Nat} {ρ π : RH} {ν : NU} {σ : Nat → Nat} {B : Nat → Nat} {fa : Int32} (hC : CS sg τ M x r p r2 p2 n8 a b c hc wc sc ρ ν π σ B fa) {h w : Nat} (hh : h < b) (hw9 : 1 ≤ w ∧ w ≤ 9) (hw : WV mX10_forge nm.y.cls idx 2) (hdd : 8 ≤ d) (hcat : (rest.map fun v => v.category).sum ≤ 8) (hd : decode nm.cc pc = .ok (.invokevirtual idx, 3)) (hp : pc + 3 = pc') (kk : ∀ M', CS sg τ M' x r p r2 p2 n8 a b c hc wc sc (u2 ρ 12 h (minI (ρ 12 h + nI w) 9)) ν π σ B fa → (∀ q, q < x ∨ x + 144 ≤ q → M' q = M q) → T l D cA n0 (XW0 sg adK adV sgA smA wdA n0 bS LS xs) nm d bk bn sz τ M' pc' ls (.int (minI (ρ 12 h + nI w) 9) :: rest) Q QX) : T l D cA n0 (XW0 sg adK adV sgA smA wdA n0 bS LS xs) nm d (bk + 2) (bn + 12) sz τ M pc ls (.int (nI w) :: .int (nI h) :: .ref x :: rest) Q QX := by
  obtain ⟨hlay, ⟨ω, hV, hfa⟩, hR, ⟨κ9, hP9⟩, ⟨a9, b9, c9, ρ9, ν9, hA9⟩, -⟩ := id hC
  refine T_cXV2 (c_X10_forge hX hl hV hR (by omega) _ _) hX hw (Or.inl ⟨_, _, _, _, hV.t_x, by decide, rfl⟩) hdd hcat hd hp ?_ ?_
  · rintro _ _ _ M1 ⟨⟨rfl, -⟩, rfl, rfl, hR1⟩
    have hb9 := hC.abc
    rw [nI_cl (j := h) (by omega)] at hR1
    rw [nI_cl (j := h) (by omega)]
    exact kk M1 (hC.setR hR1) (fun q hq => hR1.frame q (by omega))
  · rintro _ _ _ _ _ ⟨⟨-, hbad⟩ | ⟨-, -, hbad⟩, -⟩ _
    · exact absurd hbad (hz_in hh (by have := hC.abc; omega))
    · exact absurd hbad (ii_1in (n := 9) hw9.1 hw9.2 (by decide))
theorem q_clear {l : Launch} {D : va_G} {cA : Nat → ClassId} {n0 : Nat} {sg adK adV : Nat → Nat} {sgA smA wdA bS LS : Nat} {xs : Nat → Int32} (hX : SF n0 (XW0 sg adK adV sgA smA wdA n0 bS LS xs)) (hl : l.stackTraces = false) {nm : MI} {d bk bn sz : Nat} {τ : TY} {M : ME} {Q : QT} {QX : QXT} {ls rest : List Value} {pc pc' idx : Nat} {x r p r2 p2 n8 a b c hc wc sc : Nat} {ρ π : RH} {ν : NU} {σ : Nat → Nat} {B : Nat → Nat} {fa : Int32} (hC : CS sg τ M x r p r2 p2 n8 a b c hc wc sc ρ ν π σ B fa) {t : Nat} (ht : t < a) (hw : WV mX10_clear nm.y.cls idx 1) (hdd : 8 ≤ d) (hcat : (rest.map fun v => v.category).sum ≤ 8) (hd : decode nm.cc pc = .ok (.invokevirtual idx, 3)) (hp : pc + 3 = pc') (kk : ∀ M', CS sg τ M' x r p r2 p2 n8 a b c hc wc sc (mpL ρ 2 (nI t) 0 (-1) c) ν π σ B fa → (∀ q, q < x ∨ x + 144 ≤ q → M' q = M q) → T l D cA n0 (XW0 sg adK adV sgA smA wdA n0 bS LS xs) nm d bk bn sz τ M' pc' ls (.int (flOf c ρ (nI t)) :: rest) Q QX) : T l D cA n0 (XW0 sg adK adV sgA smA wdA n0 bS LS xs) nm d (bk + 1) (bn + 6) sz τ M pc ls (.int (nI t) :: .ref x :: rest) Q QX := by
  obtain ⟨hlay, ⟨ω, hV, hfa⟩, hR, ⟨κ9, hP9⟩, ⟨a9, b9, c9, ρ9, ν9, hA9⟩, -⟩ := id hC
  refine T_cXV1 (c_X10_clear hX hl hV hR (by omega) _) hX hw (Or.inl ⟨_, _, _, _, hV.t_x, by decide, rfl⟩) hdd hcat hd hp ?_ ?_
  · rintro _ _ _ M1 ⟨⟨rfl, -⟩, rfl, rfl, hR1⟩
    exact kk M1 (hC.setR hR1) (fun q hq => hR1.frame q (by omega))
  · rintro _ _ _ _ _ ⟨⟨-, hbad⟩, -⟩ _
    exact absurd hbad (hz_in ht (by have := hC.abc; omega))
