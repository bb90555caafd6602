/-! the reference reads the whole list -/
theorem lnst_x {K : Nat → Nat} {s : PS} (z : (lnst K s).1 = true) : PSX s (lnst K s).2 := by
    have st : ∀ {q : PQ} {k : Nat}, (tkQ K k q).1 = true → PSX s q.2 → PSX s (tkQ K k q).2 := fun z g => by rw [(tkQ_t z).2.2]; exact g.ad
    have sr : ∀ {q : PQ} {k : Nat} {x : Int32}, (tkR K k x q).1 = true → PSX s q.2 → PSX s (tkR K k x q).2 := fun z g => by rw [(tkR_t z).2.2]; exact g.ro
    have so : ∀ {q : PQ} {k : Nat} {x : Int32}, PSX s q.2 → PSX s (opR K k x q).2 := fun {q k x} g => by
      unfold opR; split
      · exact g.ro
      · exact g
    have y8 : ((tkR K 44 8 ((tkQ K 3 ((tkR K 44 7 ((opR K 35 19 ((tkQ K 2 ((tkR K 44 6 ((tkQ K 1 ((tkR K 43 1 ((true, adv s 1)))))))))))))))))).1 = true := z
    have y7 : ((tkQ K 3 ((tkR K 44 7 ((opR K 35 19 ((tkQ K 2 ((tkR K 44 6 ((tkQ K 1 ((tkR K 43 1 ((true, adv s 1)))))))))))))))).1 = true := (tkR_t y8).1
    have y6 : ((tkR K 44 7 ((opR K 35 19 ((tkQ K 2 ((tkR K 44 6 ((tkQ K 1 ((tkR K 43 1 ((true, adv s 1)))))))))))))).1 = true := (tkQ_t y7).1
    have y5 : ((opR K 35 19 ((tkQ K 2 ((tkR K 44 6 ((tkQ K 1 ((tkR K 43 1 ((true, adv s 1)))))))))))).1 = true := (tkR_t y6).1
    have y4 : ((tkQ K 2 ((tkR K 44 6 ((tkQ K 1 ((tkR K 43 1 ((true, adv s 1)))))))))).1 = true := opR_1 y5
    have y3 : ((tkR K 44 6 ((tkQ K 1 ((tkR K 43 1 ((true, adv s 1)))))))).1 = true := (tkQ_t y4).1
    have y2 : ((tkQ K 1 ((tkR K 43 1 ((true, adv s 1)))))).1 = true := (tkR_t y3).1
    have y1 : ((tkR K 43 1 ((true, adv s 1)))).1 = true := (tkQ_t y2).1
    have x0 : PSX s (adv s 1) := (PSX.rf s).ad
    have x1 : PSX s ((tkR K 43 1 ((true, adv s 1)))).2 := sr y1 x0
    have x2 : PSX s ((tkQ K 1 ((tkR K 43 1 ((true, adv s 1)))))).2 := st y2 x1
    have x3 : PSX s ((tkR K 44 6 ((tkQ K 1 ((tkR K 43 1 ((true, adv s 1)))))))).2 := sr y3 x2
    have x4 : PSX s ((tkQ K 2 ((tkR K 44 6 ((tkQ K 1 ((tkR K 43 1 ((true, adv s 1)))))))))).2 := st y4 x3
    have x5 : PSX s ((opR K 35 19 ((tkQ K 2 ((tkR K 44 6 ((tkQ K 1 ((tkR K 43 1 ((true, adv s 1)))))))))))).2 := so x4
    have x6 : PSX s ((tkR K 44 7 ((opR K 35 19 ((tkQ K 2 ((tkR K 44 6 ((tkQ K 1 ((tkR K 43 1 ((true, adv s 1)))))))))))))).2 := sr y6 x5
    have x7 : PSX s ((tkQ K 3 ((tkR K 44 7 ((opR K 35 19 ((tkQ K 2 ((tkR K 44 6 ((tkQ K 1 ((tkR K 43 1 ((true, adv s 1)))))))))))))))).2 := st y7 x6
    have x8 : PSX s ((tkR K 44 8 ((tkQ K 3 ((tkR K 44 7 ((opR K 35 19 ((tkQ K 2 ((tkR K 44 6 ((tkQ K 1 ((tkR K 43 1 ((true, adv s 1)))))))))))))))))).2 := sr y8 x7
    exact x8
theorem cn_X13_isStretchLine {l : Launch} {D : va_G} {cA : Nat → ClassId} {n0 : Nat} {sg adK adV : Nat → Nat} {sgA smA wdA bS LS : Nat} {xs : Nat → Int32} (hX : SF n0 (XW0 sg adK adV sgA smA wdA n0 bS LS xs)) {m y z s1 s2 n8 lt : Nat} {B : Nat → Nat} {K : Nat → Nat} {S : Nat → Int32} {V : Nat → Int64} {ω0 w0 : RH} (hTK : TKF B lt K S V ω0) (hmz : m + 7 ≤ z ∨ z + 19 ≤ m) {s : PS} {β : RH} (h0 : K s.1 < 45) {sz : Nat} {τ : TY} {M : ME} (hL : MLn τ M m y z s1 s2 n8 B ω0 w0 lt (s) (β)) : CT l D cA n0 (XW0 sg adK adV sgA smA wdA n0 bS LS xs) mX13_isStretchLine 6 0 0 sz τ M [.ref m] (fun v' sz' τ' M' => (v' = some (.int (if (lnst K s).1 = true then 1 else 0)) ∧ MLQ τ M' m y z s1 s2 n8 B ω0 w0 lt (lnst K s) (β)) ∧ sz' = sz ∧ τ' = τ ∧ FMZ m z M M') := by
  obtain ⟨w1, hQ, hMW⟩ := hL
  have hz : ∀ i, s.1 ≤ i → s.2.2.2.2 i = 0 := let ⟨_, _, _, _, _, _, _, _, _, _, hz⟩ := hQ; hz
  refine (c_X13_isStretchLine hX hTK hmz h0 hQ).wk ?_
  rintro v9 sz9 τ9 M9 ⟨⟨e1, hQ9⟩, e2, e3, hF⟩
  refine ⟨⟨e1, fun z9 => ?_, hQ9.2⟩, e2, e3, hF⟩
  have hc := lnst_c hz z9
  exact MLn.mk9 hc.1.1 hc.1.2 (hMW.ext (fun _ _ _ _ => rfl) (lnst_x z9).ext) (hQ9.1 z9)
theorem lnho_x {K : Nat → Nat} {s : PS} (z : (lnho K s).1 = true) : PSX s (lnho K s).2 := by
    have st : ∀ {q : PQ} {k : Nat}, (tkQ K k q).1 = true → PSX s q.2 → PSX s (tkQ K k q).2 := fun z g => by rw [(tkQ_t z).2.2]; exact g.ad
    have sr : ∀ {q : PQ} {k : Nat} {x : Int32}, (tkR K k x q).1 = true → PSX s q.2 → PSX s (tkR K k x q).2 := fun z g => by rw [(tkR_t z).2.2]; exact g.ro
    have so : ∀ {q : PQ} {k : Nat} {x : Int32}, PSX s q.2 → PSX s (opR K k x q).2 := fun {q k x} g => by
      unfold opR; split
      · exact g.ro
      · exact g
    have y8 : ((opR K 8 12 ((tkR K 44 11 ((tkQ K 7 ((tkR K 44 10 ((tkQ K 6 ((tkR K 44 9 ((tkQ K 5 ((tkR K 43 2 ((true, adv s 1)))))))))))))))))).1 = true := z
    have y7 : ((tkR K 44 11 ((tkQ K 7 ((tkR K 44 10 ((tkQ K 6 ((tkR K 44 9 ((tkQ K 5 ((tkR K 43 2 ((true, adv s 1)))))))))))))))).1 = true := opR_1 y8
    have y6 : ((tkQ K 7 ((tkR K 44 10 ((tkQ K 6 ((tkR K 44 9 ((tkQ K 5 ((tkR K 43 2 ((true, adv s 1)))))))))))))).1 = true := (tkR_t y7).1
    have y5 : ((tkR K 44 10 ((tkQ K 6 ((tkR K 44 9 ((tkQ K 5 ((tkR K 43 2 ((true, adv s 1)))))))))))).1 = true := (tkQ_t y6).1
    have y4 : ((tkQ K 6 ((tkR K 44 9 ((tkQ K 5 ((tkR K 43 2 ((true, adv s 1)))))))))).1 = true := (tkR_t y5).1
    have y3 : ((tkR K 44 9 ((tkQ K 5 ((tkR K 43 2 ((true, adv s 1)))))))).1 = true := (tkQ_t y4).1
    have y2 : ((tkQ K 5 ((tkR K 43 2 ((true, adv s 1)))))).1 = true := (tkR_t y3).1
    have y1 : ((tkR K 43 2 ((true, adv s 1)))).1 = true := (tkQ_t y2).1
    have x0 : PSX s (adv s 1) := (PSX.rf s).ad
    have x1 : PSX s ((tkR K 43 2 ((true, adv s 1)))).2 := sr y1 x0
    have x2 : PSX s ((tkQ K 5 ((tkR K 43 2 ((true, adv s 1)))))).2 := st y2 x1
    have x3 : PSX s ((tkR K 44 9 ((tkQ K 5 ((tkR K 43 2 ((true, adv s 1)))))))).2 := sr y3 x2
    have x4 : PSX s ((tkQ K 6 ((tkR K 44 9 ((tkQ K 5 ((tkR K 43 2 ((true, adv s 1)))))))))).2 := st y4 x3
    have x5 : PSX s ((tkR K 44 10 ((tkQ K 6 ((tkR K 44 9 ((tkQ K 5 ((tkR K 43 2 ((true, adv s 1)))))))))))).2 := sr y5 x4
    have x6 : PSX s ((tkQ K 7 ((tkR K 44 10 ((tkQ K 6 ((tkR K 44 9 ((tkQ K 5 ((tkR K 43 2 ((true, adv s 1)))))))))))))).2 := st y6 x5
    have x7 : PSX s ((tkR K 44 11 ((tkQ K 7 ((tkR K 44 10 ((tkQ K 6 ((tkR K 44 9 ((tkQ K 5 ((tkR K 43 2 ((true, adv s 1)))))))))))))))).2 := sr y7 x6
    have x8 : PSX s ((opR K 8 12 ((tkR K 44 11 ((tkQ K 7 ((tkR K 44 10 ((tkQ K 6 ((tkR K 44 9 ((tkQ K 5 ((tkR K 43 2 ((true, adv s 1)))))))))))))))))).2 := so x7
    exact x8
theorem cn_X13_isHorseLine {l : Launch} {D : va_G} {cA : Nat → ClassId} {n0 : Nat} {sg adK adV : Nat → Nat} {sgA smA wdA bS LS : Nat} {xs : Nat → Int32} (hX : SF n0 (XW0 sg adK adV sgA smA wdA n0 bS LS xs)) {m y z s1 s2 n8 lt : Nat} {B : Nat → Nat} {K : Nat → Nat} {S : Nat → Int32} {V : Nat → Int64} {ω0 w0 : RH} (hTK : TKF B lt K S V ω0) (hmz : m + 7 ≤ z ∨ z + 19 ≤ m) {s : PS} {β : RH} (h0 : K s.1 < 45) {sz : Nat} {τ : TY} {M : ME} (hL : MLn τ M m y z s1 s2 n8 B ω0 w0 lt (s) (β)) : CT l D cA n0 (XW0 sg adK adV sgA smA wdA n0 bS LS xs) mX13_isHorseLine 6 0 0 sz τ M [.ref m] (fun v' sz' τ' M' => (v' = some (.int (if (lnho K s).1 = true then 1 else 0)) ∧ MLQ τ M' m y z s1 s2 n8 B ω0 w0 lt (lnho K s) (β)) ∧ sz' = sz ∧ τ' = τ ∧ FMZ m z M M') := by
  obtain ⟨w1, hQ, hMW⟩ := hL
  have hz : ∀ i, s.1 ≤ i → s.2.2.2.2 i = 0 := let ⟨_, _, _, _, _, _, _, _, _, _, hz⟩ := hQ; hz
  refine (c_X13_isHorseLine hX hTK hmz h0 hQ).wk ?_
  rintro v9 sz9 τ9 M9 ⟨⟨e1, hQ9⟩, e2, e3, hF⟩
  refine ⟨⟨e1, fun z9 => ?_, hQ9.2⟩, e2, e3, hF⟩
  have hc := lnho_c hz z9
  exact MLn.mk9 hc.1.1 hc.1.2 (hMW.ext (fun _ _ _ _ => rfl) (lnho_x z9).ext) (hQ9.1 z9)
theorem lnlo_x {K : Nat → Nat} {s : PS} (z : (lnlo K s).1 = true) : PSX s (lnlo K s).2 := by
    have st : ∀ {q : PQ} {k : Nat}, (tkQ K k q).1 = true → PSX s q.2 → PSX s (tkQ K k q).2 := fun z g => by rw [(tkQ_t z).2.2]; exact g.ad
    have sr : ∀ {q : PQ} {k : Nat} {x : Int32}, (tkR K k x q).1 = true → PSX s q.2 → PSX s (tkR K k x q).2 := fun z g => by rw [(tkR_t z).2.2]; exact g.ro
    have so : ∀ {q : PQ} {k : Nat} {x : Int32}, PSX s q.2 → PSX s (opR K k x q).2 := fun {q k x} g => by
      unfold opR; split
      · exact g.ro
      · exact g
    have y3 : ((tkR K 44 13 ((tkQ K 10 ((tkR K 43 3 ((true, adv s 1)))))))).1 = true := z
    have y2 : ((tkQ K 10 ((tkR K 43 3 ((true, adv s 1)))))).1 = true := (tkR_t y3).1
    have y1 : ((tkR K 43 3 ((true, adv s 1)))).1 = true := (tkQ_t y2).1
    have x0 : PSX s (adv s 1) := (PSX.rf s).ad
    have x1 : PSX s ((tkR K 43 3 ((true, adv s 1)))).2 := sr y1 x0
    have x2 : PSX s ((tkQ K 10 ((tkR K 43 3 ((true, adv s 1)))))).2 := st y2 x1
    have x3 : PSX s ((tkR K 44 13 ((tkQ K 10 ((tkR K 43 3 ((true, adv s 1)))))))).2 := sr y3 x2
    exact x3
theorem cn_X13_isLogLine {l : Launch} {D : va_G} {cA : Nat → ClassId} {n0 : Nat} {sg adK adV : Nat → Nat} {sgA smA wdA bS LS : Nat} {xs : Nat → Int32} (hX : SF n0 (XW0 sg adK adV sgA smA wdA n0 bS LS xs)) {m y z s1 s2 n8 lt : Nat} {B : Nat → Nat} {K : Nat → Nat} {S : Nat → Int32} {V : Nat → Int64} {ω0 w0 : RH} (hTK : TKF B lt K S V ω0) (hmz : m + 7 ≤ z ∨ z + 19 ≤ m) {s : PS} {β : RH} (h0 : K s.1 < 45) {sz : Nat} {τ : TY} {M : ME} (hL : MLn τ M m y z s1 s2 n8 B ω0 w0 lt (s) (β)) : CT l D cA n0 (XW0 sg adK adV sgA smA wdA n0 bS LS xs) mX13_isLogLine 6 0 0 sz τ M [.ref m] (fun v' sz' τ' M' => (v' = some (.int (if (lnlo K s).1 = true then 1 else 0)) ∧ MLQ τ M' m y z s1 s2 n8 B ω0 w0 lt (lnlo K s) (β)) ∧ sz' = sz ∧ τ' = τ ∧ FMZ m z M M') := by
  obtain ⟨w1, hQ, hMW⟩ := hL
  have hz : ∀ i, s.1 ≤ i → s.2.2.2.2 i = 0 := let ⟨_, _, _, _, _, _, _, _, _, _, hz⟩ := hQ; hz
  refine (c_X13_isLogLine hX hTK hmz h0 hQ).wk ?_
  rintro v9 sz9 τ9 M9 ⟨⟨e1, hQ9⟩, e2, e3, hF⟩
  refine ⟨⟨e1, fun z9 => ?_, hQ9.2⟩, e2, e3, hF⟩
  have hc := lnlo_c hz z9
  exact MLn.mk9 hc.1.1 hc.1.2 (hMW.ext (fun _ _ _ _ => rfl) (lnlo_x z9).ext) (hQ9.1 z9)
theorem MLn.tk {τ τ1 : TY} {M M1 : ME} {m y z s1 s2 n8 lt k : Nat} {B : Nat → Nat} {K : Nat → Nat} {ω0 w0 w9 β : RH} {q0 : PQ} (hP : MPl τ M m y z s1 s2 n8 B ω0 w9 (cntR q0.2.2.2.2.2 4 q0.2.1) (cntR q0.2.2.2.2.2 5 q0.2.1) lt 0 0 q0.2) (hW : MW w9 w0 q0.2 β (cntR q0.2.2.2.2.2 4 q0.2.1) (cntR q0.2.2.2.2.2 5 q0.2.1)) (z8 : (tkQ K k q0).1 = true) (hP2 : MPl τ1 M1 m y z s1 s2 n8 B ω0 w9 (cntR q0.2.2.2.2.2 4 q0.2.1) (cntR q0.2.2.2.2.2 5 q0.2.1) lt 0 0 (tkQ K k q0).2) : MLn τ1 M1 m y z s1 s2 n8 B ω0 w0 lt (tkQ K k q0).2 β := by
  have hz : ∀ i, q0.2.1 ≤ i → q0.2.2.2.2.2 i = 0 := let ⟨_, _, _, _, _, _, _, _, _, _, hz⟩ := hP; hz
  have hc := C45.tq z8 (C45.rf hz)
  exact MLn.mk9 hc.1.1 hc.1.2 (hW.ext (fun _ _ _ _ => rfl) (PSM.ext (tkQ_m z8).2)) hP2
set_option maxHeartbeats 1000000 in
theorem gp_st {l : Launch} {D : va_G} {cA : Nat → ClassId} {n0 : Nat} {sg adK adV : Nat → Nat} {sgA smA wdA bS LS : Nat} {xs : Nat → Int32} (hX : SF n0 (XW0 sg adK adV sgA smA wdA n0 bS LS xs)) {m y z s1 s2 n8 lt : Nat} {B : Nat → Nat} {K : Nat → Nat} {S : Nat → Int32} {V : Nat → Int64} {ω0 w0 : RH} (hTK : TKF B lt K S V ω0) (hmz : m + 7 ≤ z ∨ z + 19 ≤ m) {s : PS} {β β2 : RH} {q2 : PQ} (e0 : K s.1 = 0) (hR1 : (tkQ K 32 (lnst K s)).1 = false → q2 = tkQ K 32 (lnst K s) ∧ β2 = β) (hR2 : (tkQ K 32 (lnst K s)).1 = true → ∀ (sz : Nat) (τ : TY) (M : ME) (u : Value), MLn τ M m y z s1 s2 n8 B ω0 w0 lt ((tkQ K 32 (lnst K s)).2) (β) → ∀ M0 : ME, FMZ m z M0 M → T l D cA n0 (XW0 sg adK adV sgA smA wdA n0 bS LS xs) mX13_isPlan 101 0 0 sz τ M 0 [.ref m, u] [] (fun v' sz' τ' M' => (v' = some (.int (if (q2).1 = true then 1 else 0)) ∧ MLQ τ M' m y z s1 s2 n8 B ω0 w0 lt (q2) (β2)) ∧ sz' = sz ∧ τ' = τ ∧ FMZ m z M0 M') (fun _ _ _ _ => False)) {sz : Nat} {τ : TY} {M M0 : ME} {u : Value} (hL : MLn τ M m y z s1 s2 n8 B ω0 w0 lt (s) (β)) (hF : FMZ m z M0 M) : T l D cA n0 (XW0 sg adK adV sgA smA wdA n0 bS LS xs) mX13_isPlan 101 0 0 sz τ M 0 [.ref m, u] [] (fun v' sz' τ' M' => (v' = some (.int (if (q2).1 = true then 1 else 0)) ∧ MLQ τ M' m y z s1 s2 n8 B ω0 w0 lt (q2) (β2)) ∧ sz' = sz ∧ τ' = τ ∧ FMZ m z M0 M') (fun _ _ _ _ => False) := by
  obtain ⟨w1, ⟨ω, w, hM, hV, hω, hrl, hwa, hG, hn, ht, hz⟩, hMW⟩ := id hL
  have hl := hTK.1.1
  have k0 : ω 80 s.1 = nI (kkF (K s.1)) := by rw [hω 80 _ (by decide)]; exact (hTK.2.1 _ ht).1
  have hk := (hTK.2.1 _ ht).2.1
  have z0 := hTK.1.2
  refine T_aload0 dX13_isPlan_0 rfl ?_
  refine T_sipush (900) dX13_isPlan_1 rfl rfl ?_
  refine T_cV1 (c_X13_is hX hM (by omega) _) hX k13_127 (Or.inl ⟨_, _, _, _, (hM.t_m), by decide, rfl⟩) (by omega) (Nat.le_of_ble_eq_true rfl) dX13_isPlan_4 rfl ?_
  rintro _ _ _ _ ⟨rfl, rfl, rfl, rfl⟩
  rw [k0, if_neg (fun e => absurd ((kc_900 _ hk.1 hk.2).mp e) (by omega))]
  refine T_if_ne_f 112 10 dX13_isPlan_7 (by decide) rfl rfl ?_
  refine T_aload0 dX13_isPlan_10 rfl ?_
  refine T_iconst (0) dX13_isPlan_11 rfl rfl ?_
  refine T_cV1 (c_X13_is hX hM (by omega) _) hX k13_127 (Or.inl ⟨_, _, _, _, (hM.t_m), by decide, rfl⟩) (by omega) (Nat.le_of_ble_eq_true rfl) dX13_isPlan_12 rfl ?_
  rintro _ _ _ _ ⟨rfl, rfl, rfl, rfl⟩
  rw [k0, if_pos ((kc_0 _ hk.1 hk.2).mpr e0)]
  refine T_if_eq_f 25 18 dX13_isPlan_15 (by decide) rfl (by decide) ?_
  refine T_aload0 dX13_isPlan_18 rfl ?_
  refine T_cV0 (cn_X13_isStretchLine hX hTK hmz (by omega) hL) hX k13_137 (Or.inl ⟨_, _, _, _, (hM.t_m), by decide, rfl⟩) (by omega) (Nat.le_of_ble_eq_true rfl) dX13_isPlan_19 rfl ?_
  rintro _ _ _ M9 ⟨⟨rfl, hL9⟩, rfl, rfl, hF9⟩
  have hF := hF.tr hF9
  refine T_goto 93 dX13_isPlan_22 (by decide) ?_
  refine T_istore1 rfl (by decide) dX13_isPlan_93 rfl ?_
  refine T_iload1 dX13_isPlan_94 rfl ?_
  refine T_if_eq 107 98 dX13_isPlan_95 (by decide) rfl (fun c95 => ?_) (fun c95 => ?_)
  ·
    have z9 := ifz0 c95
    refine T_iconst (0) dX13_isPlan_107 rfl rfl ?_
    refine T_iret rfl rfl dX13_isPlan_108 ?_
    first
      | (obtain ⟨rfl, rfl⟩ := hR1 (fls z7)
         exact ⟨⟨by rw [if_neg z7], MLQ.ff z7 (hQ9.2 (fls z7))⟩, rfl, rfl, hF⟩)
      | (have e1 : tkQ K 32 (lnst K s) = (lnst K s) := tkQ_n z9
         rw [e1] at hR1
         obtain ⟨rfl, rfl⟩ := hR1 (fls z9)
         exact ⟨⟨by rw [if_neg z9], MLQ.ff z9 (hL9.2 (fls z9))⟩, rfl, rfl, hF⟩)
  ·
    have z9 := ifz1 c95
    obtain ⟨w9, hP9, hW9⟩ := hL9.1 z9
    refine T_aload0 dX13_isPlan_98 rfl ?_
    refine T_bipush (59) dX13_isPlan_99 rfl rfl ?_
    refine T_cV1 (mq_S hX hTK hmz (by decide) (q := (lnst K s)) (k := 32) (c := 59) z9 (by decide +kernel) (by decide) (by decide) hP9) hX k13_153 (Or.inl ⟨_, _, _, _, (hM.t_m), by decide, rfl⟩) (by omega) (Nat.le_of_ble_eq_true rfl) dX13_isPlan_101 rfl ?_
    rintro _ _ _ M9 ⟨⟨rfl, hQ9⟩, rfl, rfl, hF9⟩
    have hF := hF.tr hF9
    refine T_if_ne 109 107 dX13_isPlan_104 (by decide) rfl (fun c104 => ?_) (fun c104 => ?_)
    ·
      have z7 := ifz1 c104
      
      refine T_goto 0 dX13_isPlan_109 (by decide) ?_
      exact hR2 z7 _ _ _ _ (MLn.tk hP9 hW9 z7 (hQ9.1 z7)) _ hF
    ·
      have z7 := ifz0 (by first | exact c104 | exact Decidable.not_not.mp c104)
      refine T_iconst (0) dX13_isPlan_107 rfl rfl ?_
      refine T_iret rfl rfl dX13_isPlan_108 ?_
      first
        | (obtain ⟨rfl, rfl⟩ := hR1 (fls z7)
           exact ⟨⟨by rw [if_neg z7], MLQ.ff z7 (hQ9.2 (fls z7))⟩, rfl, rfl, hF⟩)
        | (have e1 : tkQ K 32 (lnst K s) = (lnst K s) := tkQ_n z9
           rw [e1] at hR1
           obtain ⟨rfl, rfl⟩ := hR1 (fls z9)
           exact ⟨⟨by rw [if_neg z9], MLQ.ff z9 (hL9.2 (fls z9))⟩, rfl, rfl, hF⟩)
set_option maxHeartbeats 1000000 in
theorem gp_ho {l : Launch} {D : va_G} {cA : Nat → ClassId} {n0 : Nat} {sg adK adV : Nat → Nat} {sgA smA wdA bS LS : Nat} {xs : Nat → Int32} (hX : SF n0 (XW0 sg adK adV sgA smA wdA n0 bS LS xs)) {m y z s1 s2 n8 lt : Nat} {B : Nat → Nat} {K : Nat → Nat} {S : Nat → Int32} {V : Nat → Int64} {ω0 w0 : RH} (hTK : TKF B lt K S V ω0) (hmz : m + 7 ≤ z ∨ z + 19 ≤ m) {s : PS} {β β2 : RH} {q2 : PQ} (e0 : K s.1 = 4) (hR1 : (tkQ K 32 (lnho K s)).1 = false → q2 = tkQ K 32 (lnho K s) ∧ β2 = β) (hR2 : (tkQ K 32 (lnho K s)).1 = true → ∀ (sz : Nat) (τ : TY) (M : ME) (u : Value), MLn τ M m y z s1 s2 n8 B ω0 w0 lt ((tkQ K 32 (lnho K s)).2) (β) → ∀ M0 : ME, FMZ m z M0 M → T l D cA n0 (XW0 sg adK adV sgA smA wdA n0 bS LS xs) mX13_isPlan 101 0 0 sz τ M 0 [.ref m, u] [] (fun v' sz' τ' M' => (v' = some (.int (if (q2).1 = true then 1 else 0)) ∧ MLQ τ M' m y z s1 s2 n8 B ω0 w0 lt (q2) (β2)) ∧ sz' = sz ∧ τ' = τ ∧ FMZ m z M0 M') (fun _ _ _ _ => False)) {sz : Nat} {τ : TY} {M M0 : ME} {u : Value} (hL : MLn τ M m y z s1 s2 n8 B ω0 w0 lt (s) (β)) (hF : FMZ m z M0 M) : T l D cA n0 (XW0 sg adK adV sgA smA wdA n0 bS LS xs) mX13_isPlan 101 0 0 sz τ M 0 [.ref m, u] [] (fun v' sz' τ' M' => (v' = some (.int (if (q2).1 = true then 1 else 0)) ∧ MLQ τ M' m y z s1 s2 n8 B ω0 w0 lt (q2) (β2)) ∧ sz' = sz ∧ τ' = τ ∧ FMZ m z M0 M') (fun _ _ _ _ => False) := by
  obtain ⟨w1, ⟨ω, w, hM, hV, hω, hrl, hwa, hG, hn, ht, hz⟩, hMW⟩ := id hL
  have hl := hTK.1.1
  have k0 : ω 80 s.1 = nI (kkF (K s.1)) := by rw [hω 80 _ (by decide)]; exact (hTK.2.1 _ ht).1
  have hk := (hTK.2.1 _ ht).2.1
  have z0 := hTK.1.2
  refine T_aload0 dX13_isPlan_0 rfl ?_
  refine T_sipush (900) dX13_isPlan_1 rfl rfl ?_
  refine T_cV1 (c_X13_is hX hM (by omega) _) hX k13_127 (Or.inl ⟨_, _, _, _, (hM.t_m), by decide, rfl⟩) (by omega) (Nat.le_of_ble_eq_true rfl) dX13_isPlan_4 rfl ?_
  rintro _ _ _ _ ⟨rfl, rfl, rfl, rfl⟩
  rw [k0, if_neg (fun e => absurd ((kc_900 _ hk.1 hk.2).mp e) (by omega))]
  refine T_if_ne_f 112 10 dX13_isPlan_7 (by decide) rfl rfl ?_
  refine T_aload0 dX13_isPlan_10 rfl ?_
  refine T_iconst (0) dX13_isPlan_11 rfl rfl ?_
  refine T_cV1 (c_X13_is hX hM (by omega) _) hX k13_127 (Or.inl ⟨_, _, _, _, (hM.t_m), by decide, rfl⟩) (by omega) (Nat.le_of_ble_eq_true rfl) dX13_isPlan_12 rfl ?_
  rintro _ _ _ _ ⟨rfl, rfl, rfl, rfl⟩
  rw [k0, if_neg (fun e => absurd ((kc_0 _ hk.1 hk.2).mp e) (by omega))]
  refine T_if_eq_t 25 dX13_isPlan_15 (by decide) rfl ?_
  refine T_aload0 dX13_isPlan_25 rfl ?_
  refine T_iconst (4) dX13_isPlan_26 rfl rfl ?_
  refine T_cV1 (c_X13_is hX hM (by omega) _) hX k13_127 (Or.inl ⟨_, _, _, _, (hM.t_m), by decide, rfl⟩) (by omega) (Nat.le_of_ble_eq_true rfl) dX13_isPlan_27 rfl ?_
  rintro _ _ _ _ ⟨rfl, rfl, rfl, rfl⟩
  rw [k0, if_pos ((kc_4 _ hk.1 hk.2).mpr e0)]
  refine T_if_eq_f 40 33 dX13_isPlan_30 (by decide) rfl (by decide) ?_
  refine T_aload0 dX13_isPlan_33 rfl ?_
  refine T_cV0 (cn_X13_isHorseLine hX hTK hmz (by omega) hL) hX k13_141 (Or.inl ⟨_, _, _, _, (hM.t_m), by decide, rfl⟩) (by omega) (Nat.le_of_ble_eq_true rfl) dX13_isPlan_34 rfl ?_
  rintro _ _ _ M9 ⟨⟨rfl, hL9⟩, rfl, rfl, hF9⟩
  have hF := hF.tr hF9
  refine T_goto 93 dX13_isPlan_37 (by decide) ?_
  refine T_istore1 rfl (by decide) dX13_isPlan_93 rfl ?_
  refine T_iload1 dX13_isPlan_94 rfl ?_
  refine T_if_eq 107 98 dX13_isPlan_95 (by decide) rfl (fun c95 => ?_) (fun c95 => ?_)
  ·
    have z9 := ifz0 c95
    refine T_iconst (0) dX13_isPlan_107 rfl rfl ?_
    refine T_iret rfl rfl dX13_isPlan_108 ?_
    first
      | (obtain ⟨rfl, rfl⟩ := hR1 (fls z7)
         exact ⟨⟨by rw [if_neg z7], MLQ.ff z7 (hQ9.2 (fls z7))⟩, rfl, rfl, hF⟩)
      | (have e1 : tkQ K 32 (lnho K s) = (lnho K s) := tkQ_n z9
         rw [e1] at hR1
         obtain ⟨rfl, rfl⟩ := hR1 (fls z9)
         exact ⟨⟨by rw [if_neg z9], MLQ.ff z9 (hL9.2 (fls z9))⟩, rfl, rfl, hF⟩)
  ·
    have z9 := ifz1 c95
    obtain ⟨w9, hP9, hW9⟩ := hL9.1 z9
    refine T_aload0 dX13_isPlan_98 rfl ?_
    refine T_bipush (59) dX13_isPlan_99 rfl rfl ?_
    refine T_cV1 (mq_S hX hTK hmz (by decide) (q := (lnho K s)) (k := 32) (c := 59) z9 (by decide +kernel) (by decide) (by decide) hP9) hX k13_153 (Or.inl ⟨_, _, _, _, (hM.t_m), by decide, rfl⟩) (by omega) (Nat.le_of_ble_eq_true rfl) dX13_isPlan_101 rfl ?_
    rintro _ _ _ M9 ⟨⟨rfl, hQ9⟩, rfl, rfl, hF9⟩
    have hF := hF.tr hF9
    refine T_if_ne 109 107 dX13_isPlan_104 (by decide) rfl (fun c104 => ?_) (fun c104 => ?_)
    ·
      have z7 := ifz1 c104
      
      refine T_goto 0 dX13_isPlan_109 (by decide) ?_
      exact hR2 z7 _ _ _ _ (MLn.tk hP9 hW9 z7 (hQ9.1 z7)) _ hF
    ·
      have z7 := ifz0 (by first | exact c104 | exact Decidable.not_not.mp c104)
      refine T_iconst (0) dX13_isPlan_107 rfl rfl ?_
      refine T_iret rfl rfl dX13_isPlan_108 ?_
      first
        | (obtain ⟨rfl, rfl⟩ := hR1 (fls z7)
           exact ⟨⟨by rw [if_neg z7], MLQ.ff z7 (hQ9.2 (fls z7))⟩, rfl, rfl, hF⟩)
        | (have e1 : tkQ K 32 (lnho K s) = (lnho K s) := tkQ_n z9
           rw [e1] at hR1
           obtain ⟨rfl, rfl⟩ := hR1 (fls z9)
           exact ⟨⟨by rw [if_neg z9], MLQ.ff z9 (hL9.2 (fls z9))⟩, rfl, rfl, hF⟩)
set_option maxHeartbeats 1000000 in
theorem gp_lo {l : Launch} {D : va_G} {cA : Nat → ClassId} {n0 : Nat} {sg adK adV : Nat → Nat} {sgA smA wdA bS LS : Nat} {xs : Nat → Int32} (hX : SF n0 (XW0 sg adK adV sgA smA wdA n0 bS LS xs)) {m y z s1 s2 n8 lt : Nat} {B : Nat → Nat} {K : Nat → Nat} {S : Nat → Int32} {V : Nat → Int64} {ω0 w0 : RH} (hTK : TKF B lt K S V ω0) (hmz : m + 7 ≤ z ∨ z + 19 ≤ m) {s : PS} {β β2 : RH} {q2 : PQ} (e0 : K s.1 = 9) (hR1 : (tkQ K 32 (lnlo K s)).1 = false → q2 = tkQ K 32 (lnlo K s) ∧ β2 = β) (hR2 : (tkQ K 32 (lnlo K s)).1 = true → ∀ (sz : Nat) (τ : TY) (M : ME) (u : Value), MLn τ M m y z s1 s2 n8 B ω0 w0 lt ((tkQ K 32 (lnlo K s)).2) (β) → ∀ M0 : ME, FMZ m z M0 M → T l D cA n0 (XW0 sg adK adV sgA smA wdA n0 bS LS xs) mX13_isPlan 101 0 0 sz τ M 0 [.ref m, u] [] (fun v' sz' τ' M' => (v' = some (.int (if (q2).1 = true then 1 else 0)) ∧ MLQ τ M' m y z s1 s2 n8 B ω0 w0 lt (q2) (β2)) ∧ sz' = sz ∧ τ' = τ ∧ FMZ m z M0 M') (fun _ _ _ _ => False)) {sz : Nat} {τ : TY} {M M0 : ME} {u : Value} (hL : MLn τ M m y z s1 s2 n8 B ω0 w0 lt (s) (β)) (hF : FMZ m z M0 M) : T l D cA n0 (XW0 sg adK adV sgA smA wdA n0 bS LS xs) mX13_isPlan 101 0 0 sz τ M 0 [.ref m, u] [] (fun v' sz' τ' M' => (v' = some (.int (if (q2).1 = true then 1 else 0)) ∧ MLQ τ M' m y z s1 s2 n8 B ω0 w0 lt (q2) (β2)) ∧ sz' = sz ∧ τ' = τ ∧ FMZ m z M0 M') (fun _ _ _ _ => False) := by
  obtain ⟨w1, ⟨ω, w, hM, hV, hω, hrl, hwa, hG, hn, ht, hz⟩, hMW⟩ := id hL
  have hl := hTK.1.1
  have k0 : ω 80 s.1 = nI (kkF (K s.1)) := by rw [hω 80 _ (by decide)]; exact (hTK.2.1 _ ht).1
  have hk := (hTK.2.1 _ ht).2.1
  have z0 := hTK.1.2
  refine T_aload0 dX13_isPlan_0 rfl ?_
  refine T_sipush (900) dX13_isPlan_1 rfl rfl ?_
  refine T_cV1 (c_X13_is hX hM (by omega) _) hX k13_127 (Or.inl ⟨_, _, _, _, (hM.t_m), by decide, rfl⟩) (by omega) (Nat.le_of_ble_eq_true rfl) dX13_isPlan_4 rfl ?_
  rintro _ _ _ _ ⟨rfl, rfl, rfl, rfl⟩
  rw [k0, if_neg (fun e => absurd ((kc_900 _ hk.1 hk.2).mp e) (by omega))]
  refine T_if_ne_f 112 10 dX13_isPlan_7 (by decide) rfl rfl ?_
  refine T_aload0 dX13_isPlan_10 rfl ?_
  refine T_iconst (0) dX13_isPlan_11 rfl rfl ?_
  refine T_cV1 (c_X13_is hX hM (by omega) _) hX k13_127 (Or.inl ⟨_, _, _, _, (hM.t_m), by decide, rfl⟩) (by omega) (Nat.le_of_ble_eq_true rfl) dX13_isPlan_12 rfl ?_
  rintro _ _ _ _ ⟨rfl, rfl, rfl, rfl⟩
  rw [k0, if_neg (fun e => absurd ((kc_0 _ hk.1 hk.2).mp e) (by omega))]
  refine T_if_eq_t 25 dX13_isPlan_15 (by decide) rfl ?_
  refine T_aload0 dX13_isPlan_25 rfl ?_
  refine T_iconst (4) dX13_isPlan_26 rfl rfl ?_
  refine T_cV1 (c_X13_is hX hM (by omega) _) hX k13_127 (Or.inl ⟨_, _, _, _, (hM.t_m), by decide, rfl⟩) (by omega) (Nat.le_of_ble_eq_true rfl) dX13_isPlan_27 rfl ?_
  rintro _ _ _ _ ⟨rfl, rfl, rfl, rfl⟩
  rw [k0, if_neg (fun e => absurd ((kc_4 _ hk.1 hk.2).mp e) (by omega))]
  refine T_if_eq_t 40 dX13_isPlan_30 (by decide) rfl ?_
  refine T_aload0 dX13_isPlan_40 rfl ?_
  refine T_bipush (9) dX13_isPlan_41 rfl rfl ?_
  refine T_cV1 (c_X13_is hX hM (by omega) _) hX k13_127 (Or.inl ⟨_, _, _, _, (hM.t_m), by decide, rfl⟩) (by omega) (Nat.le_of_ble_eq_true rfl) dX13_isPlan_43 rfl ?_
  rintro _ _ _ _ ⟨rfl, rfl, rfl, rfl⟩
  rw [k0, if_pos ((kc_9 _ hk.1 hk.2).mpr e0)]
  refine T_if_eq_f 56 49 dX13_isPlan_46 (by decide) rfl (by decide) ?_
  refine T_aload0 dX13_isPlan_49 rfl ?_
  refine T_cV0 (cn_X13_isLogLine hX hTK hmz (by omega) hL) hX k13_144 (Or.inl ⟨_, _, _, _, (hM.t_m), by decide, rfl⟩) (by omega) (Nat.le_of_ble_eq_true rfl) dX13_isPlan_50 rfl ?_
  rintro _ _ _ M9 ⟨⟨rfl, hL9⟩, rfl, rfl, hF9⟩
  have hF := hF.tr hF9
  refine T_goto 93 dX13_isPlan_53 (by decide) ?_
  refine T_istore1 rfl (by decide) dX13_isPlan_93 rfl ?_
  refine T_iload1 dX13_isPlan_94 rfl ?_
  refine T_if_eq 107 98 dX13_isPlan_95 (by decide) rfl (fun c95 => ?_) (fun c95 => ?_)
  ·
    have z9 := ifz0 c95
    refine T_iconst (0) dX13_isPlan_107 rfl rfl ?_
    refine T_iret rfl rfl dX13_isPlan_108 ?_
    first
      | (obtain ⟨rfl, rfl⟩ := hR1 (fls z7)
         exact ⟨⟨by rw [if_neg z7], MLQ.ff z7 (hQ9.2 (fls z7))⟩, rfl, rfl, hF⟩)
      | (have e1 : tkQ K 32 (lnlo K s) = (lnlo K s) := tkQ_n z9
         rw [e1] at hR1
         obtain ⟨rfl, rfl⟩ := hR1 (fls z9)
         exact ⟨⟨by rw [if_neg z9], MLQ.ff z9 (hL9.2 (fls z9))⟩, rfl, rfl, hF⟩)
  ·
    have z9 := ifz1 c95
    obtain ⟨w9, hP9, hW9⟩ := hL9.1 z9
    refine T_aload0 dX13_isPlan_98 rfl ?_
    refine T_bipush (59) dX13_isPlan_99 rfl rfl ?_
    refine T_cV1 (mq_S hX hTK hmz (by decide) (q := (lnlo K s)) (k := 32) (c := 59) z9 (by decide +kernel) (by decide) (by decide) hP9) hX k13_153 (Or.inl ⟨_, _, _, _, (hM.t_m), by decide, rfl⟩) (by omega) (Nat.le_of_ble_eq_true rfl) dX13_isPlan_101 rfl ?_
    rintro _ _ _ M9 ⟨⟨rfl, hQ9⟩, rfl, rfl, hF9⟩
    have hF := hF.tr hF9
    refine T_if_ne 109 107 dX13_isPlan_104 (by decide) rfl (fun c104 => ?_) (fun c104 => ?_)
    ·
      have z7 := ifz1 c104
      
      refine T_goto 0 dX13_isPlan_109 (by decide) ?_
      exact hR2 z7 _ _ _ _ (MLn.tk hP9 hW9 z7 (hQ9.1 z7)) _ hF
    ·
      have z7 := ifz0 (by first | exact c104 | exact Decidable.not_not.mp c104)
      refine T_iconst (0) dX13_isPlan_107 rfl rfl ?_
      refine T_iret rfl rfl dX13_isPlan_108 ?_
      first
        | (obtain ⟨rfl, rfl⟩ := hR1 (fls z7)
           exact ⟨⟨by rw [if_neg z7], MLQ.ff z7 (hQ9.2 (fls z7))⟩, rfl, rfl, hF⟩)
        | (have e1 : tkQ K 32 (lnlo K s) = (lnlo K s) := tkQ_n z9
           rw [e1] at hR1
           obtain ⟨rfl, rfl⟩ := hR1 (fls z9)
           exact ⟨⟨by rw [if_neg z9], MLQ.ff z9 (hL9.2 (fls z9))⟩, rfl, rfl, hF⟩)
set_option maxHeartbeats 1000000 in
theorem gp_ha {l : Launch} {D : va_G} {cA : Nat → ClassId} {n0 : Nat} {sg adK adV : Nat → Nat} {sgA smA wdA bS LS : Nat} {xs : Nat → Int32} (hX : SF n0 (XW0 sg adK adV sgA smA wdA n0 bS LS xs)) {m y z s1 s2 n8 lt : Nat} {B : Nat → Nat} {K : Nat → Nat} {S : Nat → Int32} {V : Nat → Int64} {ω0 w0 : RH} (hTK : TKF B lt K S V ω0) (hmz : m + 7 ≤ z ∨ z + 19 ≤ m) {s : PS} {β β1 β2 : RH} {q0 q2 : PQ} (e0 : K s.1 = 11) (hR : HLr K (fun t => (V t).toInt32) s β q0 β1) (hR1 : (tkQ K 32 q0).1 = false → q2 = tkQ K 32 q0 ∧ β2 = β1) (hR2 : (tkQ K 32 q0).1 = true → ∀ (sz : Nat) (τ : TY) (M : ME) (u : Value), MLn τ M m y z s1 s2 n8 B ω0 w0 lt ((tkQ K 32 q0).2) (β1) → ∀ M0 : ME, FMZ m z M0 M → T l D cA n0 (XW0 sg adK adV sgA smA wdA n0 bS LS xs) mX13_isPlan 101 0 0 sz τ M 0 [.ref m, u] [] (fun v' sz' τ' M' => (v' = some (.int (if (q2).1 = true then 1 else 0)) ∧ MLQ τ M' m y z s1 s2 n8 B ω0 w0 lt (q2) (β2)) ∧ sz' = sz ∧ τ' = τ ∧ FMZ m z M0 M') (fun _ _ _ _ => False)) {sz : Nat} {τ : TY} {M M0 : ME} {u : Value} (hL : MLn τ M m y z s1 s2 n8 B ω0 w0 lt (s) (β)) (hF : FMZ m z M0 M) : T l D cA n0 (XW0 sg adK adV sgA smA wdA n0 bS LS xs) mX13_isPlan 101 0 0 sz τ M 0 [.ref m, u] [] (fun v' sz' τ' M' => (v' = some (.int (if (q2).1 = true then 1 else 0)) ∧ MLQ τ M' m y z s1 s2 n8 B ω0 w0 lt (q2) (β2)) ∧ sz' = sz ∧ τ' = τ ∧ FMZ m z M0 M') (fun _ _ _ _ => False) := by
  obtain ⟨w1, ⟨ω, w, hM, hV, hω, hrl, hwa, hG, hn, ht, hz⟩, hMW⟩ := id hL
  have hl := hTK.1.1
  have k0 : ω 80 s.1 = nI (kkF (K s.1)) := by rw [hω 80 _ (by decide)]; exact (hTK.2.1 _ ht).1
  have hk := (hTK.2.1 _ ht).2.1
  have z0 := hTK.1.2
  refine T_aload0 dX13_isPlan_0 rfl ?_
  refine T_sipush (900) dX13_isPlan_1 rfl rfl ?_
  refine T_cV1 (c_X13_is hX hM (by omega) _) hX k13_127 (Or.inl ⟨_, _, _, _, (hM.t_m), by decide, rfl⟩) (by omega) (Nat.le_of_ble_eq_true rfl) dX13_isPlan_4 rfl ?_
  rintro _ _ _ _ ⟨rfl, rfl, rfl, rfl⟩
  rw [k0, if_neg (fun e => absurd ((kc_900 _ hk.1 hk.2).mp e) (by omega))]
  refine T_if_ne_f 112 10 dX13_isPlan_7 (by decide) rfl rfl ?_
  refine T_aload0 dX13_isPlan_10 rfl ?_
  refine T_iconst (0) dX13_isPlan_11 rfl rfl ?_
  refine T_cV1 (c_X13_is hX hM (by omega) _) hX k13_127 (Or.inl ⟨_, _, _, _, (hM.t_m), by decide, rfl⟩) (by omega) (Nat.le_of_ble_eq_true rfl) dX13_isPlan_12 rfl ?_
  rintro _ _ _ _ ⟨rfl, rfl, rfl, rfl⟩
  rw [k0, if_neg (fun e => absurd ((kc_0 _ hk.1 hk.2).mp e) (by omega))]
  refine T_if_eq_t 25 dX13_isPlan_15 (by decide) rfl ?_
  refine T_aload0 dX13_isPlan_25 rfl ?_
  refine T_iconst (4) dX13_isPlan_26 rfl rfl ?_
  refine T_cV1 (c_X13_is hX hM (by omega) _) hX k13_127 (Or.inl ⟨_, _, _, _, (hM.t_m), by decide, rfl⟩) (by omega) (Nat.le_of_ble_eq_true rfl) dX13_isPlan_27 rfl ?_
  rintro _ _ _ _ ⟨rfl, rfl, rfl, rfl⟩
  rw [k0, if_neg (fun e => absurd ((kc_4 _ hk.1 hk.2).mp e) (by omega))]
  refine T_if_eq_t 40 dX13_isPlan_30 (by decide) rfl ?_
  refine T_aload0 dX13_isPlan_40 rfl ?_
  refine T_bipush (9) dX13_isPlan_41 rfl rfl ?_
  refine T_cV1 (c_X13_is hX hM (by omega) _) hX k13_127 (Or.inl ⟨_, _, _, _, (hM.t_m), by decide, rfl⟩) (by omega) (Nat.le_of_ble_eq_true rfl) dX13_isPlan_43 rfl ?_
  rintro _ _ _ _ ⟨rfl, rfl, rfl, rfl⟩
  rw [k0, if_neg (fun e => absurd ((kc_9 _ hk.1 hk.2).mp e) (by omega))]
  refine T_if_eq_t 56 dX13_isPlan_46 (by decide) rfl ?_
  refine T_aload0 dX13_isPlan_56 rfl ?_
  refine T_bipush (11) dX13_isPlan_57 rfl rfl ?_
  refine T_cV1 (c_X13_is hX hM (by omega) _) hX k13_127 (Or.inl ⟨_, _, _, _, (hM.t_m), by decide, rfl⟩) (by omega) (Nat.le_of_ble_eq_true rfl) dX13_isPlan_59 rfl ?_
  rintro _ _ _ _ ⟨rfl, rfl, rfl, rfl⟩
  rw [k0, if_pos ((kc_11 _ hk.1 hk.2).mpr e0)]
  refine T_if_eq_f 72 65 dX13_isPlan_62 (by decide) rfl (by decide) ?_
  refine T_aload0 dX13_isPlan_65 rfl ?_
  refine T_cV0 (c_X13_isHaulLine hX hTK hmz (by omega) hR hL) hX k13_147 (Or.inl ⟨_, _, _, _, (hM.t_m), by decide, rfl⟩) (by omega) (Nat.le_of_ble_eq_true rfl) dX13_isPlan_66 rfl ?_
  rintro _ _ _ M9 ⟨⟨rfl, hL9⟩, rfl, rfl, hF9⟩
  have hF := hF.tr hF9
  refine T_goto 93 dX13_isPlan_69 (by decide) ?_
  refine T_istore1 rfl (by decide) dX13_isPlan_93 rfl ?_
  refine T_iload1 dX13_isPlan_94 rfl ?_
  refine T_if_eq 107 98 dX13_isPlan_95 (by decide) rfl (fun c95 => ?_) (fun c95 => ?_)
  ·
    have z9 := ifz0 c95
    refine T_iconst (0) dX13_isPlan_107 rfl rfl ?_
    refine T_iret rfl rfl dX13_isPlan_108 ?_
    first
      | (obtain ⟨rfl, rfl⟩ := hR1 (fls z7)
         exact ⟨⟨by rw [if_neg z7], MLQ.ff z7 (hQ9.2 (fls z7))⟩, rfl, rfl, hF⟩)
      | (have e1 : tkQ K 32 q0 = q0 := tkQ_n z9
         rw [e1] at hR1
         obtain ⟨rfl, rfl⟩ := hR1 (fls z9)
         exact ⟨⟨by rw [if_neg z9], MLQ.ff z9 (hL9.2 (fls z9))⟩, rfl, rfl, hF⟩)
  ·
    have z9 := ifz1 c95
    obtain ⟨w9, hP9, hW9⟩ := hL9.1 z9
    refine T_aload0 dX13_isPlan_98 rfl ?_
    refine T_bipush (59) dX13_isPlan_99 rfl rfl ?_
    refine T_cV1 (mq_S hX hTK hmz (by decide) (q := q0) (k := 32) (c := 59) z9 (by decide +kernel) (by decide) (by decide) hP9) hX k13_153 (Or.inl ⟨_, _, _, _, (hM.t_m), by decide, rfl⟩) (by omega) (Nat.le_of_ble_eq_true rfl) dX13_isPlan_101 rfl ?_
    rintro _ _ _ M9 ⟨⟨rfl, hQ9⟩, rfl, rfl, hF9⟩
    have hF := hF.tr hF9
    refine T_if_ne 109 107 dX13_isPlan_104 (by decide) rfl (fun c104 => ?_) (fun c104 => ?_)
    ·
      have z7 := ifz1 c104
      
      refine T_goto 0 dX13_isPlan_109 (by decide) ?_
      exact hR2 z7 _ _ _ _ (MLn.tk hP9 hW9 z7 (hQ9.1 z7)) _ hF
    ·
      have z7 := ifz0 (by first | exact c104 | exact Decidable.not_not.mp c104)
      refine T_iconst (0) dX13_isPlan_107 rfl rfl ?_
      refine T_iret rfl rfl dX13_isPlan_108 ?_
      first
        | (obtain ⟨rfl, rfl⟩ := hR1 (fls z7)
           exact ⟨⟨by rw [if_neg z7], MLQ.ff z7 (hQ9.2 (fls z7))⟩, rfl, rfl, hF⟩)
        | (have e1 : tkQ K 32 q0 = q0 := tkQ_n z9
           rw [e1] at hR1
           obtain ⟨rfl, rfl⟩ := hR1 (fls z9)
           exact ⟨⟨by rw [if_neg z9], MLQ.ff z9 (hL9.2 (fls z9))⟩, rfl, rfl, hF⟩)
set_option maxHeartbeats 1000000 in
theorem gp_wa {l : Launch} {D : va_G} {cA : Nat → ClassId} {n0 : Nat} {sg adK adV : Nat → Nat} {sgA smA wdA bS LS : Nat} {xs : Nat → Int32} (hX : SF n0 (XW0 sg adK adV sgA smA wdA n0 bS LS xs)) {m y z s1 s2 n8 lt : Nat} {B : Nat → Nat} {K : Nat → Nat} {S : Nat → Int32} {V : Nat → Int64} {ω0 w0 : RH} (hTK : TKF B lt K S V ω0) (hmz : m + 7 ≤ z ∨ z + 19 ≤ m) {s : PS} {β β1 β2 : RH} {q0 q2 : PQ} (e0 : K s.1 = 14) (hR : WLr K (fun t => (V t).toInt32) s β q0 β1) (hR1 : (tkQ K 32 q0).1 = false → q2 = tkQ K 32 q0 ∧ β2 = β1) (hR2 : (tkQ K 32 q0).1 = true → ∀ (sz : Nat) (τ : TY) (M : ME) (u : Value), MLn τ M m y z s1 s2 n8 B ω0 w0 lt ((tkQ K 32 q0).2) (β1) → ∀ M0 : ME, FMZ m z M0 M → T l D cA n0 (XW0 sg adK adV sgA smA wdA n0 bS LS xs) mX13_isPlan 101 0 0 sz τ M 0 [.ref m, u] [] (fun v' sz' τ' M' => (v' = some (.int (if (q2).1 = true then 1 else 0)) ∧ MLQ τ M' m y z s1 s2 n8 B ω0 w0 lt (q2) (β2)) ∧ sz' = sz ∧ τ' = τ ∧ FMZ m z M0 M') (fun _ _ _ _ => False)) {sz : Nat} {τ : TY} {M M0 : ME} {u : Value} (hL : MLn τ M m y z s1 s2 n8 B ω0 w0 lt (s) (β)) (hF : FMZ m z M0 M) : T l D cA n0 (XW0 sg adK adV sgA smA wdA n0 bS LS xs) mX13_isPlan 101 0 0 sz τ M 0 [.ref m, u] [] (fun v' sz' τ' M' => (v' = some (.int (if (q2).1 = true then 1 else 0)) ∧ MLQ τ M' m y z s1 s2 n8 B ω0 w0 lt (q2) (β2)) ∧ sz' = sz ∧ τ' = τ ∧ FMZ m z M0 M') (fun _ _ _ _ => False) := by
  obtain ⟨w1, ⟨ω, w, hM, hV, hω, hrl, hwa, hG, hn, ht, hz⟩, hMW⟩ := id hL
  have hl := hTK.1.1
  have k0 : ω 80 s.1 = nI (kkF (K s.1)) := by rw [hω 80 _ (by decide)]; exact (hTK.2.1 _ ht).1
  have hk := (hTK.2.1 _ ht).2.1
  have z0 := hTK.1.2
  refine T_aload0 dX13_isPlan_0 rfl ?_
  refine T_sipush (900) dX13_isPlan_1 rfl rfl ?_
  refine T_cV1 (c_X13_is hX hM (by omega) _) hX k13_127 (Or.inl ⟨_, _, _, _, (hM.t_m), by decide, rfl⟩) (by omega) (Nat.le_of_ble_eq_true rfl) dX13_isPlan_4 rfl ?_
  rintro _ _ _ _ ⟨rfl, rfl, rfl, rfl⟩
  rw [k0, if_neg (fun e => absurd ((kc_900 _ hk.1 hk.2).mp e) (by omega))]
  refine T_if_ne_f 112 10 dX13_isPlan_7 (by decide) rfl rfl ?_
  refine T_aload0 dX13_isPlan_10 rfl ?_
  refine T_iconst (0) dX13_isPlan_11 rfl rfl ?_
  refine T_cV1 (c_X13_is hX hM (by omega) _) hX k13_127 (Or.inl ⟨_, _, _, _, (hM.t_m), by decide, rfl⟩) (by omega) (Nat.le_of_ble_eq_true rfl) dX13_isPlan_12 rfl ?_
  rintro _ _ _ _ ⟨rfl, rfl, rfl, rfl⟩
  rw [k0, if_neg (fun e => absurd ((kc_0 _ hk.1 hk.2).mp e) (by omega))]
  refine T_if_eq_t 25 dX13_isPlan_15 (by decide) rfl ?_
  refine T_aload0 dX13_isPlan_25 rfl ?_
  refine T_iconst (4) dX13_isPlan_26 rfl rfl ?_
  refine T_cV1 (c_X13_is hX hM (by omega) _) hX k13_127 (Or.inl ⟨_, _, _, _, (hM.t_m), by decide, rfl⟩) (by omega) (Nat.le_of_ble_eq_true rfl) dX13_isPlan_27 rfl ?_
  rintro _ _ _ _ ⟨rfl, rfl, rfl, rfl⟩
  rw [k0, if_neg (fun e => absurd ((kc_4 _ hk.1 hk.2).mp e) (by omega))]
  refine T_if_eq_t 40 dX13_isPlan_30 (by decide) rfl ?_
  refine T_aload0 dX13_isPlan_40 rfl ?_
  refine T_bipush (9) dX13_isPlan_41 rfl rfl ?_
  refine T_cV1 (c_X13_is hX hM (by omega) _) hX k13_127 (Or.inl ⟨_, _, _, _, (hM.t_m), by decide, rfl⟩) (by omega) (Nat.le_of_ble_eq_true rfl) dX13_isPlan_43 rfl ?_
  rintro _ _ _ _ ⟨rfl, rfl, rfl, rfl⟩
  rw [k0, if_neg (fun e => absurd ((kc_9 _ hk.1 hk.2).mp e) (by omega))]
  refine T_if_eq_t 56 dX13_isPlan_46 (by decide) rfl ?_
  refine T_aload0 dX13_isPlan_56 rfl ?_
  refine T_bipush (11) dX13_isPlan_57 rfl rfl ?_
  refine T_cV1 (c_X13_is hX hM (by omega) _) hX k13_127 (Or.inl ⟨_, _, _, _, (hM.t_m), by decide, rfl⟩) (by omega) (Nat.le_of_ble_eq_true rfl) dX13_isPlan_59 rfl ?_
  rintro _ _ _ _ ⟨rfl, rfl, rfl, rfl⟩
  rw [k0, if_neg (fun e => absurd ((kc_11 _ hk.1 hk.2).mp e) (by omega))]
  refine T_if_eq_t 72 dX13_isPlan_62 (by decide) rfl ?_
  refine T_aload0 dX13_isPlan_72 rfl ?_
  refine T_bipush (14) dX13_isPlan_73 rfl rfl ?_
  refine T_cV1 (c_X13_is hX hM (by omega) _) hX k13_127 (Or.inl ⟨_, _, _, _, (hM.t_m), by decide, rfl⟩) (by omega) (Nat.le_of_ble_eq_true rfl) dX13_isPlan_75 rfl ?_
  rintro _ _ _ _ ⟨rfl, rfl, rfl, rfl⟩
  rw [k0, if_pos ((kc_14 _ hk.1 hk.2).mpr e0)]
  refine T_if_eq_f 92 81 dX13_isPlan_78 (by decide) rfl (by decide) ?_
  refine T_aload0 dX13_isPlan_81 rfl ?_
  refine T_cV0 (c_X13_isWaitLine hX hTK hmz (by omega) hR hL) hX k13_150 (Or.inl ⟨_, _, _, _, (hM.t_m), by decide, rfl⟩) (by omega) (Nat.le_of_ble_eq_true rfl) dX13_isPlan_82 rfl ?_
  rintro _ _ _ M9 ⟨⟨rfl, hL9⟩, rfl, rfl, hF9⟩
  have hF := hF.tr hF9
  refine T_if_eq 92 88 dX13_isPlan_85 (by decide) rfl (fun c85 => ?_) (fun c85 => ?_)
  ·
    have z9 := ifz0 c85
    refine T_iconst (0) dX13_isPlan_92 rfl rfl ?_
    refine T_istore1 rfl (by decide) dX13_isPlan_93 rfl ?_
    refine T_iload1 dX13_isPlan_94 rfl ?_
    refine T_if_eq_t 107 dX13_isPlan_95 (by decide) rfl ?_
    refine T_iconst (0) dX13_isPlan_107 rfl rfl ?_
    refine T_iret rfl rfl dX13_isPlan_108 ?_
    first
      | (obtain ⟨rfl, rfl⟩ := hR1 (fls z7)
         exact ⟨⟨by rw [if_neg z7], MLQ.ff z7 (hQ9.2 (fls z7))⟩, rfl, rfl, hF⟩)
      | (have e1 : tkQ K 32 q0 = q0 := tkQ_n z9
         rw [e1] at hR1
         obtain ⟨rfl, rfl⟩ := hR1 (fls z9)
         exact ⟨⟨by rw [if_neg z9], MLQ.ff z9 (hL9.2 (fls z9))⟩, rfl, rfl, hF⟩)
  ·
    have z9 := ifz1 c85
    obtain ⟨w9, hP9, hW9⟩ := hL9.1 z9
    refine T_iconst (1) dX13_isPlan_88 rfl rfl ?_
    refine T_goto 93 dX13_isPlan_89 (by decide) ?_
    refine T_istore1 rfl (by decide) dX13_isPlan_93 rfl ?_
    refine T_iload1 dX13_isPlan_94 rfl ?_
    refine T_if_eq_f 107 98 dX13_isPlan_95 (by decide) rfl (by decide) ?_
    refine T_aload0 dX13_isPlan_98 rfl ?_
    refine T_bipush (59) dX13_isPlan_99 rfl rfl ?_
    refine T_cV1 (mq_S hX hTK hmz (by decide) (q := q0) (k := 32) (c := 59) z9 (by decide +kernel) (by decide) (by decide) hP9) hX k13_153 (Or.inl ⟨_, _, _, _, (hM.t_m), by decide, rfl⟩) (by omega) (Nat.le_of_ble_eq_true rfl) dX13_isPlan_101 rfl ?_
    rintro _ _ _ M9 ⟨⟨rfl, hQ9⟩, rfl, rfl, hF9⟩
    have hF := hF.tr hF9
    refine T_if_ne 109 107 dX13_isPlan_104 (by decide) rfl (fun c104 => ?_) (fun c104 => ?_)
    ·
      have z7 := ifz1 c104
      
      refine T_goto 0 dX13_isPlan_109 (by decide) ?_
      exact hR2 z7 _ _ _ _ (MLn.tk hP9 hW9 z7 (hQ9.1 z7)) _ hF
    ·
      have z7 := ifz0 (by first | exact c104 | exact Decidable.not_not.mp c104)
      refine T_iconst (0) dX13_isPlan_107 rfl rfl ?_
      refine T_iret rfl rfl dX13_isPlan_108 ?_
      first
        | (obtain ⟨rfl, rfl⟩ := hR1 (fls z7)
           exact ⟨⟨by rw [if_neg z7], MLQ.ff z7 (hQ9.2 (fls z7))⟩, rfl, rfl, hF⟩)
        | (have e1 : tkQ K 32 q0 = q0 := tkQ_n z9
           rw [e1] at hR1
           obtain ⟨rfl, rfl⟩ := hR1 (fls z9)
           exact ⟨⟨by rw [if_neg z9], MLQ.ff z9 (hL9.2 (fls z9))⟩, rfl, rfl, hF⟩)
set_option maxHeartbeats 1000000 in
theorem gp_no {l : Launch} {D : va_G} {cA : Nat → ClassId} {n0 : Nat} {sg adK adV : Nat → Nat} {sgA smA wdA bS LS : Nat} {xs : Nat → Int32} (hX : SF n0 (XW0 sg adK adV sgA smA wdA n0 bS LS xs)) {m y z s1 s2 n8 lt : Nat} {B : Nat → Nat} {K : Nat → Nat} {S : Nat → Int32} {V : Nat → Int64} {ω0 w0 : RH} (hTK : TKF B lt K S V ω0) (hmz : m + 7 ≤ z ∨ z + 19 ≤ m) {s : PS} {β β2 : RH} {q2 : PQ} (e45 : ¬ K s.1 = 45) (e0 : ¬ (K s.1 = 0 ∨ K s.1 = 4 ∨ K s.1 = 9 ∨ K s.1 = 11 ∨ K s.1 = 14)) (hR1 : q2 = (false, s)) {sz : Nat} {τ : TY} {M M0 : ME} {u : Value} (hL : MLn τ M m y z s1 s2 n8 B ω0 w0 lt (s) (β)) (hF : FMZ m z M0 M) : T l D cA n0 (XW0 sg adK adV sgA smA wdA n0 bS LS xs) mX13_isPlan 101 0 0 sz τ M 0 [.ref m, u] [] (fun v' sz' τ' M' => (v' = some (.int (if (q2).1 = true then 1 else 0)) ∧ MLQ τ M' m y z s1 s2 n8 B ω0 w0 lt (q2) (β2)) ∧ sz' = sz ∧ τ' = τ ∧ FMZ m z M0 M') (fun _ _ _ _ => False) := by
  obtain ⟨w1, ⟨ω, w, hM, hV, hω, hrl, hwa, hG, hn, ht, hz⟩, hMW⟩ := id hL
  have hl := hTK.1.1
  have k0 : ω 80 s.1 = nI (kkF (K s.1)) := by rw [hω 80 _ (by decide)]; exact (hTK.2.1 _ ht).1
  have hk := (hTK.2.1 _ ht).2.1
  refine T_aload0 dX13_isPlan_0 rfl ?_
  refine T_sipush (900) dX13_isPlan_1 rfl rfl ?_
  refine T_cV1 (c_X13_is hX hM (by omega) _) hX k13_127 (Or.inl ⟨_, _, _, _, (hM.t_m), by decide, rfl⟩) (by omega) (Nat.le_of_ble_eq_true rfl) dX13_isPlan_4 rfl ?_
  rintro _ _ _ _ ⟨rfl, rfl, rfl, rfl⟩
  rw [k0, if_neg (fun e => absurd ((kc_900 _ hk.1 hk.2).mp e) (by omega))]
  refine T_if_ne_f 112 10 dX13_isPlan_7 (by decide) rfl rfl ?_
  refine T_aload0 dX13_isPlan_10 rfl ?_
  refine T_iconst (0) dX13_isPlan_11 rfl rfl ?_
  refine T_cV1 (c_X13_is hX hM (by omega) _) hX k13_127 (Or.inl ⟨_, _, _, _, (hM.t_m), by decide, rfl⟩) (by omega) (Nat.le_of_ble_eq_true rfl) dX13_isPlan_12 rfl ?_
  rintro _ _ _ _ ⟨rfl, rfl, rfl, rfl⟩
  rw [k0, if_neg (fun e => absurd ((kc_0 _ hk.1 hk.2).mp e) (by omega))]
  refine T_if_eq_t 25 dX13_isPlan_15 (by decide) rfl ?_
  refine T_aload0 dX13_isPlan_25 rfl ?_
  refine T_iconst (4) dX13_isPlan_26 rfl rfl ?_
  refine T_cV1 (c_X13_is hX hM (by omega) _) hX k13_127 (Or.inl ⟨_, _, _, _, (hM.t_m), by decide, rfl⟩) (by omega) (Nat.le_of_ble_eq_true rfl) dX13_isPlan_27 rfl ?_
  rintro _ _ _ _ ⟨rfl, rfl, rfl, rfl⟩
  rw [k0, if_neg (fun e => absurd ((kc_4 _ hk.1 hk.2).mp e) (by omega))]
  refine T_if_eq_t 40 dX13_isPlan_30 (by decide) rfl ?_
  refine T_aload0 dX13_isPlan_40 rfl ?_
  refine T_bipush (9) dX13_isPlan_41 rfl rfl ?_
  refine T_cV1 (c_X13_is hX hM (by omega) _) hX k13_127 (Or.inl ⟨_, _, _, _, (hM.t_m), by decide, rfl⟩) (by omega) (Nat.le_of_ble_eq_true rfl) dX13_isPlan_43 rfl ?_
  rintro _ _ _ _ ⟨rfl, rfl, rfl, rfl⟩
  rw [k0, if_neg (fun e => absurd ((kc_9 _ hk.1 hk.2).mp e) (by omega))]
  refine T_if_eq_t 56 dX13_isPlan_46 (by decide) rfl ?_
  refine T_aload0 dX13_isPlan_56 rfl ?_
  refine T_bipush (11) dX13_isPlan_57 rfl rfl ?_
  refine T_cV1 (c_X13_is hX hM (by omega) _) hX k13_127 (Or.inl ⟨_, _, _, _, (hM.t_m), by decide, rfl⟩) (by omega) (Nat.le_of_ble_eq_true rfl) dX13_isPlan_59 rfl ?_
  rintro _ _ _ _ ⟨rfl, rfl, rfl, rfl⟩
  rw [k0, if_neg (fun e => absurd ((kc_11 _ hk.1 hk.2).mp e) (by omega))]
  refine T_if_eq_t 72 dX13_isPlan_62 (by decide) rfl ?_
  refine T_aload0 dX13_isPlan_72 rfl ?_
  refine T_bipush (14) dX13_isPlan_73 rfl rfl ?_
  refine T_cV1 (c_X13_is hX hM (by omega) _) hX k13_127 (Or.inl ⟨_, _, _, _, (hM.t_m), by decide, rfl⟩) (by omega) (Nat.le_of_ble_eq_true rfl) dX13_isPlan_75 rfl ?_
  rintro _ _ _ _ ⟨rfl, rfl, rfl, rfl⟩
  rw [k0, if_neg (fun e => absurd ((kc_14 _ hk.1 hk.2).mp e) (by omega))]
  refine T_if_eq_t 92 dX13_isPlan_78 (by decide) rfl ?_
  refine T_iconst (0) dX13_isPlan_92 rfl rfl ?_
  refine T_istore1 rfl (by decide) dX13_isPlan_93 rfl ?_
  refine T_iload1 dX13_isPlan_94 rfl ?_
  refine T_if_eq_t 107 dX13_isPlan_95 (by decide) rfl ?_
  refine T_iconst (0) dX13_isPlan_107 rfl rfl ?_
  refine T_iret rfl rfl dX13_isPlan_108 ?_
  subst hR1
  exact ⟨⟨rfl, MLQ.ff (q := (false, s)) (by simp) ⟨ht, _, _, _, _, _, _, _, _, _, _, _, _, hM.rf, hV.rf, hω⟩⟩, rfl, rfl, hF⟩
set_option maxHeartbeats 1000000 in
theorem gp_en {l : Launch} {D : va_G} {cA : Nat → ClassId} {n0 : Nat} {sg adK adV : Nat → Nat} {sgA smA wdA bS LS : Nat} {xs : Nat → Int32} (hX : SF n0 (XW0 sg adK adV sgA smA wdA n0 bS LS xs)) {m y z s1 s2 n8 lt : Nat} {B : Nat → Nat} {K : Nat → Nat} {S : Nat → Int32} {V : Nat → Int64} {ω0 w0 : RH} (hTK : TKF B lt K S V ω0) (hmz : m + 7 ≤ z ∨ z + 19 ≤ m) {s : PS} {β : RH} (e45 : K s.1 = 45) {sz : Nat} {τ : TY} {M M0 : ME} {u : Value} (hL : MLn τ M m y z s1 s2 n8 B ω0 w0 lt (s) (β)) (hF : FMZ m z M0 M) : T l D cA n0 (XW0 sg adK adV sgA smA wdA n0 bS LS xs) mX13_isPlan 101 0 0 sz τ M 0 [.ref m, u] [] (fun v' sz' τ' M' => (v' = some (.int (if ((true, s)).1 = true then 1 else 0)) ∧ MLQ τ M' m y z s1 s2 n8 B ω0 w0 lt ((true, s)) (β)) ∧ sz' = sz ∧ τ' = τ ∧ FMZ m z M0 M') (fun _ _ _ _ => False) := by
  obtain ⟨w1, ⟨ω, w, hM, hV, hω, hrl, hwa, hG, hn, ht, hz⟩, hMW⟩ := id hL
  have hl := hTK.1.1
  have k0 : ω 80 s.1 = nI (kkF (K s.1)) := by rw [hω 80 _ (by decide)]; exact (hTK.2.1 _ ht).1
  have hk := (hTK.2.1 _ ht).2.1
  refine T_aload0 dX13_isPlan_0 rfl ?_
  refine T_sipush (900) dX13_isPlan_1 rfl rfl ?_
  refine T_cV1 (c_X13_is hX hM (by omega) _) hX k13_127 (Or.inl ⟨_, _, _, _, (hM.t_m), by decide, rfl⟩) (by omega) (Nat.le_of_ble_eq_true rfl) dX13_isPlan_4 rfl ?_
  rintro _ _ _ _ ⟨rfl, rfl, rfl, rfl⟩
  rw [k0, if_pos ((kc_900 _ hk.1 hk.2).mpr e45)]
  refine T_if_ne_t 112 dX13_isPlan_7 (by decide) (by decide) ?_
  refine T_iconst (1) dX13_isPlan_112 rfl rfl ?_
  refine T_iret rfl rfl dX13_isPlan_113 ?_
  exact ⟨⟨rfl, MLQ.tt rfl hL⟩, rfl, rfl, hF⟩
def RPD (l : Launch) (D : va_G) (cA : Nat → ClassId) (n0 : Nat) (sg adK adV : Nat → Nat) (sgA smA wdA bS LS : Nat) (xs : Nat → Int32) (m y z s1 s2 n8 lt : Nat) (B : Nat → Nat) (K : Nat → Nat) (ω0 w0 : RH) (q : PQ) (β : RH) (q2 : PQ) (β2 : RH) : Prop := (q.1 = false → q2 = q ∧ β2 = β) ∧ (q.1 = true → ∀ (sz : Nat) (τ : TY) (M : ME) (u : Value), MLn τ M m y z s1 s2 n8 B ω0 w0 lt (q.2) (β) → ∀ M0 : ME, FMZ m z M0 M → T l D cA n0 (XW0 sg adK adV sgA smA wdA n0 bS LS xs) mX13_isPlan 101 0 0 sz τ M 0 [.ref m, u] [] (fun v' sz' τ' M' => (v' = some (.int (if (q2).1 = true then 1 else 0)) ∧ MLQ τ M' m y z s1 s2 n8 B ω0 w0 lt (q2) (β2)) ∧ sz' = sz ∧ τ' = τ ∧ FMZ m z M0 M') (fun _ _ _ _ => False))
theorem gp_all {l : Launch} {D : va_G} {cA : Nat → ClassId} {n0 : Nat} {sg adK adV : Nat → Nat} {sgA smA wdA bS LS : Nat} {xs : Nat → Int32} (hX : SF n0 (XW0 sg adK adV sgA smA wdA n0 bS LS xs)) {m y z s1 s2 n8 lt : Nat} {B : Nat → Nat} {K : Nat → Nat} {S : Nat → Int32} {V : Nat → Int64} {ω0 w0 : RH} (hTK : TKF B lt K S V ω0) (hmz : m + 7 ≤ z ∨ z + 19 ≤ m) : LSc K (fun t => (V t).toInt32) (RPD l D cA n0 sg adK adV sgA smA wdA bS LS xs m y z s1 s2 n8 lt B K ω0 w0) := by
  refine ⟨fun s β => ⟨fun _ => ⟨rfl, rfl⟩, fun z => absurd z (by simp)⟩, fun s β e45 => ⟨fun z => absurd z (by simp), fun _ sz τ M u hL M0 hF => gp_en hX hTK hmz e45 hL hF⟩, fun s β q1 β1 q2 β2 e45 hl hR => ?_⟩
  rcases hl with ⟨e0, rfl, rfl⟩ | ⟨e0, rfl, rfl⟩ | ⟨e0, rfl, rfl⟩ | ⟨e0, q0, h0, rfl⟩ | ⟨e0, q0, h0, rfl⟩ | ⟨e0, rfl, rfl⟩
  · exact ⟨fun z => absurd z (by simp), fun _ sz τ M u hL M0 hF => gp_st hX hTK hmz e0 hR.1 hR.2 hL hF⟩
  · exact ⟨fun z => absurd z (by simp), fun _ sz τ M u hL M0 hF => gp_ho hX hTK hmz e0 hR.1 hR.2 hL hF⟩
  · exact ⟨fun z => absurd z (by simp), fun _ sz τ M u hL M0 hF => gp_lo hX hTK hmz e0 hR.1 hR.2 hL hF⟩
  · exact ⟨fun z => absurd z (by simp), fun _ sz τ M u hL M0 hF => gp_ha hX hTK hmz e0 h0 hR.1 hR.2 hL hF⟩
  · exact ⟨fun z => absurd z (by simp), fun _ sz τ M u hL M0 hF => gp_wa hX hTK hmz e0 h0 hR.1 hR.2 hL hF⟩
  · exact ⟨fun z => absurd z (by simp), fun _ sz τ M u hL M0 hF => gp_no hX hTK hmz e45 e0 (hR.1 rfl).1 hL hF⟩
theorem c_X13_isPlan {l : Launch} {D : va_G} {cA : Nat → ClassId} {n0 : Nat} {sg adK adV : Nat → Nat} {sgA smA wdA bS LS : Nat} {xs : Nat → Int32} (hX : SF n0 (XW0 sg adK adV sgA smA wdA n0 bS LS xs)) {m y z s1 s2 n8 lt : Nat} {B : Nat → Nat} {K : Nat → Nat} {S : Nat → Int32} {V : Nat → Int64} {ω0 w0 : RH} (hTK : TKF B lt K S V ω0) (hmz : m + 7 ≤ z ∨ z + 19 ≤ m) {s : PS} {β β2 : RH} {q2 : PQ} (h : LSr K (fun t => (V t).toInt32) (true, s) β q2 β2) {sz : Nat} {τ : TY} {M : ME} (hL : MLn τ M m y z s1 s2 n8 B ω0 w0 lt (s) (β)) : CT l D cA n0 (XW0 sg adK adV sgA smA wdA n0 bS LS xs) mX13_isPlan 101 0 0 sz τ M [.ref m] (fun v' sz' τ' M' => (v' = some (.int (if (q2).1 = true then 1 else 0)) ∧ MLQ τ M' m y z s1 s2 n8 B ω0 w0 lt (q2) (β2)) ∧ sz' = sz ∧ τ' = τ ∧ FMZ m z M M') := by
  refine CT.of (ls := [.ref m, UU]) (by decide) (Nat.le_of_ble_eq_true rfl) rfl ?_
  exact (h _ (gp_all hX hTK hmz)).2 rfl _ _ _ _ hL _ (FMZ.rf _ _ _)
