/-! read, teach: the class is told a list -/
def pq0 : PQ := (true, ((0 : Nat), (0 : Nat), (fun _ => (0 : Nat)), (fun _ => (0 : Int32)), (fun _ => (0 : Int32))))
def be0 : RH := fun _ _ => 0
theorem LC.zero {V : Nat → Int64} {ρ π : RH} {ν : NU} {σ : Nat → Nat} (h : ρ 8 0 = 0) : LC V pq0.2 be0 0 0 0 ρ ν 0 0 0 σ π :=
  ⟨fun _ _ => 0, ⟨rfl, rfl, rfl, rfl, rfl, rfl⟩, ⟨fun k hk => absurd hk (Nat.not_lt_zero _), fun k hk => absurd hk (Nat.not_lt_zero _), fun k hk => absurd hk (Nat.not_lt_zero _)⟩, ⟨fun i hi => absurd hi (Nat.not_lt_zero _), fun i hi => absurd hi (Nat.not_lt_zero _), fun i hi => absurd hi (Nat.not_lt_zero _), h, fun i hi => absurd hi (Nat.not_lt_zero _), fun i hi => absurd hi (Nat.not_lt_zero _), fun _ _ => rfl⟩, rfl, fun i hi => absurd hi (Nat.not_lt_zero _)⟩
/-- outside of the reader, its tokens, a road and a plan nothing has changed -/
def Fr5 (j r p : Nat) (M M1 : ME) : Prop := ∀ q, ¬ (j ≤ q ∧ q < j + 5) → ¬ (r ≤ q ∧ q < r + 38) → ¬ (p ≤ q ∧ q < p + 30) → M1 q = M q
theorem Fr5.of3 {j r p : Nat} {M M1 : ME} (h : Fr3 j r p M M1) : Fr5 j r p M M1 := fun q h1 h2 h3 => h q (fun e => h1 (by omega)) h2 h3
theorem Fr5.tr {j r p : Nat} {M M1 M2 : ME} (h : Fr5 j r p M M1) (e : Fr5 j r p M1 M2) : Fr5 j r p M M2 := fun q a b c => (e q a b c).trans (h q a b c)
theorem Fr5.fr {j r p lo hi : Nat} {M M1 M2 : ME} (h : Fr5 j r p M M1) (e : Fr lo hi M1 M2) (ha : (j ≤ lo ∧ hi ≤ j + 5) ∨ (r ≤ lo ∧ hi ≤ r + 38) ∨ (p ≤ lo ∧ hi ≤ p + 30)) : Fr5 j r p M M2 := fun q h1 h2 h3 => (e q (by omega)).trans (h q h1 h2 h3)
theorem Toks.hK {B : Nat → Nat} {ln lt : Nat} {σ : Nat → Nat} {st : Nat → Int32} {vl : Nat → Int64} (h : Toks B ln lt σ st vl) : (∀ i, i ≤ lt → σ i < 48) ∧ (σ lt = 45 ∨ σ lt = 46) := by
  obtain ⟨h1, h2, h3, h4, h5⟩ := h
  have h6 : σ lt = 45 ∨ σ lt = 46 := by
    rw [h5]
    by_cases e : tP B ln lt < ln
    · rw [if_pos e]; exact Or.inr rfl
    · rw [if_neg e]; exact Or.inl rfl
  refine ⟨fun i hi => ?_, h6⟩
  by_cases e : i = lt
  · subst e; omega
  · rw [(h2 i (by omega)).2.1]; exact tkK_48
set_option maxHeartbeats 1000000 in
theorem c_X5_read {l : Launch} {D : va_G} {cA : Nat → ClassId} {n0 : Nat} {sg adK adV : Nat → Nat} {sgA smA wdA bS LS : Nat} {xs : Nat → Int32} (hX : SF n0 (XW0 sg adK adV sgA smA wdA n0 bS LS xs)) {sz : Nat} {τ : TY} {N1 N2 N3 N4 N5 M : ME} {j r p r0 p0 tp tp0 ln ln0 lt0 nx a b c hn wn sn : Nat} {K0 : Nat → Nat} {S0 : Nat → Int32} {V0 : Nat → Int64} {bk ba fl fa : Int32} {ρ π : RH} {ν : NU} {σ : Nat → Nat} {κ : Nat → Int32} {B : Nat → Nat} (hE : RV τ N1 M j r0 p0 nx bk ba fl fa) (hT : TM τ N2 M (j + 1) sg tp0 ln0 lt0 K0 S0 V0) (hR : LM τ N3 M r a b c ρ ν) (hP : PM τ N4 M p sg hn wn sn π σ κ) (hB : BM τ N5 M tp B) (hB8 : ∀ i, B i < 256) (hl2 : ln ≤ 2000) (hd : (j + 5 ≤ r ∨ r + 38 ≤ j) ∧ (j + 5 ≤ p ∨ p + 30 ≤ j) ∧ (p + 30 ≤ r ∨ r + 38 ≤ p)) (hdt : (tp < j ∨ j + 5 ≤ tp) ∧ (tp < r ∨ r + 38 ≤ tp) ∧ (tp < p ∨ p + 30 ≤ tp)) : CT l D cA n0 (XW0 sg adK adV sgA smA wdA n0 bS LS xs) mX5_read 102 0 0 sz τ M [.ref j, .ref tp, .int (nI ln), .ref r, .ref p] (fun v' sz' τ' M' => sz' = sz ∧ τ' = τ ∧ (∃ lt K S V q' β', Toks B ln lt K S V ∧ LSr K (fun t => (V t).toInt32) pq0 be0 q' β' ∧ v' = some (.int (if q'.1 = true then (flF V S q'.2.2.2.2.2 q'.2.1).1 else 1)) ∧ (q'.1 = true → K q'.2.1 = 45) ∧ LQ sg τ M' j r p tp ln lt K S V q' β') ∧ Fr5 j r p M M') := by
  refine CT.of (ls := [.ref j, .ref tp, .int (nI ln), .ref r, .ref p, UU]) (by decide) (Nat.le_of_ble_eq_true rfl) rfl ?_
  have hF : Fr5 j r p M M := fun _ _ _ _ => rfl
  refine T_aload0 dX5_read_0 rfl ?_
  refine T_aload3 dX5_read_1 rfl ?_
  refine T_aload4 dX5_read_2 rfl ?_
  refine T_cV2 (c_X5_begin hX hE hR hP (by omega) (by omega) (by omega)) hX k5_43 (Or.inl ⟨_, _, _, _, (hE.t_j), by decide, rfl⟩) (by decide) (Nat.le_of_ble_eq_true rfl) dX5_read_4 rfl ?_
  rintro _ _ _ M9 ⟨rfl, rfl, rfl, hE, hR, hP, hF9⟩
  have hT := hT.fr (fun b h1 h2 => hF9 b (by omega) (by omega) (by omega))
  have hB := hB.fr (fun b h1 h2 => hF9 b (by omega) (by omega) (by omega))
  have hF := hF.tr (Fr5.of3 hF9)
  refine T_aload0 dX5_read_7 rfl ?_
  refine g5_12 _ rfl (hE.t_j) (hE.g_tk) dX5_read_8 rfl ?_
  refine T_aload1 dX5_read_11 rfl ?_
  refine T_iload2 dX5_read_12 rfl ?_
  refine T_cV2 (c_X9_scan hX hT.rf hB hB8 hl2 (by omega)) hX k5_47 (Or.inl ⟨_, _, _, _, (hT.t_t), by decide, rfl⟩) (by decide) (Nat.le_of_ble_eq_true rfl) dX5_read_13 rfl ?_
  rintro _ _ _ M8 ⟨rfl, rfl, rfl, lt, K, S, V, hT9, hTk⟩
  have hE := hE.nx hT9.frame (by omega)
  have hR := hR.nx hT9.frame (by omega)
  have hP := hP.nx hT9.frame (by omega)
  have hF := hF.fr hT9.frame (by omega)
  refine T_iconst (0) dX5_read_16 rfl rfl ?_
  refine T_istore5 rfl (by decide) dX5_read_17 rfl ?_
  have hL := (show LQ sg _ _ j r p tp ln lt K S V pq0 be0 from ⟨hT9.rf, ⟨0, 0, -1, 0, -1, hE.rf, ⟨Nat.zero_le _, Or.inl rfl⟩, fun _ => ⟨rfl, rfl, fun _ _ => rfl, rfl⟩, fun z => absurd z (by decide)⟩, 0, 0, 0, _, ν, 0, 0, 0, σ, π, κ, hR.rf, hP.rf, ⟨Nat.zero_le _, Nat.zero_le _, Nat.zero_le _⟩, fun _ => ⟨Nat.le_refl _, fun _ => LC.zero (u2_s _ _ _ _)⟩⟩)
  refine T_cons ?_ (L_X5_read hX hd hTk.1 hTk.hK.1 hTk.hK.2 (lt + 3) 0 (lt + 2) _ pq0 be0 hL (Fr3.rf _ _ _ _) (fun _ => Nat.zero_le _) (by omega) (fun _ => by omega) (by omega))
  rintro v9 sz9 τ9 M9' ⟨e1, e2, ⟨q9, β9, hl9, hv9, he9, hq9⟩, hF9'⟩
  exact ⟨e1, e2, ⟨lt, K, S, V, q9, β9, hTk, hl9, hv9, he9, hq9⟩, hF.tr (Fr5.of3 hF9')⟩
set_option maxHeartbeats 1000000 in
theorem rq_errorPlace {l : Launch} {D : va_G} {cA : Nat → ClassId} {n0 : Nat} {sg adK adV : Nat → Nat} {sgA smA wdA bS LS : Nat} {xs : Nat → Int32} (hX : SF n0 (XW0 sg adK adV sgA smA wdA n0 bS LS xs)) {sz : Nat} {τ : TY} {N2 M : ME} {j r p tp ln lt : Nat} {K : Nat → Nat} {S : Nat → Int32} {V : Nat → Int64} {q : PQ} (hT : TM τ N2 M (j + 1) sg tp ln lt K S V) (hQ : RQ τ M j r p lt S V q) : CT l D cA n0 (XW0 sg adK adV sgA smA wdA n0 bS LS xs) mX5_errorPlace 1 0 0 sz τ M [.ref j] (ROq (.int (if q.1 = true then (flF V S q.2.2.2.2.2 q.2.1).2 else S q.2.1)) sz τ M) := by
  obtain ⟨nx, bk, ba, fl, fa, hE, hO⟩ := hQ
  refine (c_X5_errorPlace hX hE hT).wk ?_
  rintro _ _ _ _ ⟨rfl, rfl, rfl, rfl⟩
  refine ⟨congrArg (fun z => some (Value.int z)) ?_, rfl, rfl, rfl⟩
  obtain ⟨g, s⟩ := q
  cases g with
  | true =>
    obtain ⟨h1, h2, h3, h4⟩ := hO.2.1 rfl
    have h1' : nx = s.1 := h1
    subst h1'
    rw [if_pos h2, if_pos rfl]
    show fa = (flF V S s.2.2.2.2 s.1).2
    have h4' : flF V S s.2.2.2.2 s.1 = (fl, fa) := h4
    rw [h4']
  | false =>
    obtain ⟨h1, h2, h3⟩ := hO.2.2 rfl
    rw [if_neg (by rw [h2]; decide), if_neg (by simp)]
    exact h3
set_option maxHeartbeats 1000000 in
theorem c_X10_adoptSpare {l : Launch} {D : va_G} {cA : Nat → ClassId} {n0 : Nat} {sg adK adV : Nat → Nat} {sgA smA wdA bS LS : Nat} {xs : Nat → Int32} (hX : SF n0 (XW0 sg adK adV sgA smA wdA n0 bS LS xs)) {sz : Nat} {τ : TY} {N1 N2 N3 M : ME} {x r p r2 p2 n8 a b c a2 b2 c2 : Nat} {ω ρ ρ2 : RH} {ν ν2 : NU} (hV : FV τ N1 M x r p r2 p2 n8 ω) (hR : LM τ N2 M r a b c ρ ν) (hA : LM τ N3 M r2 a2 b2 c2 ρ2 ν2) (hd3 : r + 38 ≤ r2 ∨ r2 + 38 ≤ r) (hx : r + 38 ≤ x ∨ x + 1 ≤ r) (hx2 : r2 + 38 ≤ x ∨ x + 1 ≤ r2) : CT l D cA n0 (XW0 sg adK adV sgA smA wdA n0 bS LS xs) mX10_adoptSpare 1 0 0 sz τ M [.ref x] (fun v' sz' τ' M' => v' = none ∧ sz' = sz ∧ τ' = τ ∧ FV τ M' M' x r2 p2 r p n8 ω ∧ LM τ M' M' r2 a2 b2 c2 (u2 (u2 ρ2 6 0 (ρ 6 0)) 7 0 (ρ 7 0)) ν2 ∧ (∀ q, q ≠ x → ¬ (r2 ≤ q ∧ q < r2 + 38) → M' q = M q)) := by
  refine CT.of (ls := [.ref x, UU, UU]) (by decide) (Nat.le_of_ble_eq_true rfl) rfl ?_
  have hF : ∀ q, q ≠ x → ¬ (r2 ≤ q ∧ q < r2 + 38) → M q = M q := fun _ _ _ => rfl
  refine T_aload0 dX10_adoptSpare_0 rfl ?_
  refine g10_34 _ rfl (hV.t_x) (hV.g_r2) dX10_adoptSpare_1 rfl ?_
  refine T_aload0 dX10_adoptSpare_4 rfl ?_
  refine g10_23 _ rfl (hV.t_x) (hV.g_r) dX10_adoptSpare_5 rfl ?_
  first | refine g10_75 _ rfl hR.t hR.r6 dX10_adoptSpare_8 rfl ?_ | refine g10_75 _ rfl hA.t hA.r6 dX10_adoptSpare_8 rfl ?_
  first | refine p10_75 rfl hR.t dX10_adoptSpare_11 rfl ?_ | refine p10_75 rfl hA.t dX10_adoptSpare_11 rfl ?_
  refine T_nm (fun M1 e1 => ?_)
  have hV := hV.frU e1 (by omega)
  have hR := hR.frU e1 (by omega)
  have hA := LM.mv (hA.pr (by omega)) e1
  have hF : ∀ q, q ≠ x → ¬ (r2 ≤ q ∧ q < r2 + 38) → M1 q = M q := fun q g1 g2 => (by rw [e1]; exact (up_a (by omega)).trans (hF q g1 g2))
  refine T_aload0 dX10_adoptSpare_14 rfl ?_
  refine g10_34 _ rfl (hV.t_x) (hV.g_r2) dX10_adoptSpare_15 rfl ?_
  refine T_aload0 dX10_adoptSpare_18 rfl ?_
  refine g10_23 _ rfl (hV.t_x) (hV.g_r) dX10_adoptSpare_19 rfl ?_
  first | refine g10_78 _ rfl hR.t hR.r7 dX10_adoptSpare_22 rfl ?_ | refine g10_78 _ rfl hA.t hA.r7 dX10_adoptSpare_22 rfl ?_
  first | refine p10_78 rfl hR.t dX10_adoptSpare_25 rfl ?_ | refine p10_78 rfl hA.t dX10_adoptSpare_25 rfl ?_
  refine T_nm (fun M2 e2 => ?_)
  have hV := hV.frU e2 (by omega)
  have hR := hR.frU e2 (by omega)
  have hA := LM.mv (hA.pr (by omega)) e2
  have hF : ∀ q, q ≠ x → ¬ (r2 ≤ q ∧ q < r2 + 38) → M2 q = M q := fun q g1 g2 => (by rw [e2]; exact (up_a (by omega)).trans (hF q g1 g2))
  refine T_aload0 dX10_adoptSpare_28 rfl ?_
  refine g10_23 _ rfl (hV.t_x) (hV.g_r) dX10_adoptSpare_29 rfl ?_
  refine T_astore1 rfl (by decide) dX10_adoptSpare_32 rfl ?_
  refine T_aload0 dX10_adoptSpare_33 rfl ?_
  refine T_aload0 dX10_adoptSpare_34 rfl ?_
  refine g10_34 _ rfl (hV.t_x) (hV.g_r2) dX10_adoptSpare_35 rfl ?_
  refine p10_23 rfl (hV.t_x) dX10_adoptSpare_38 rfl ?_
  refine T_nm (fun M3 e3 => ?_)
  have hV := FV.mv hV.p_r e3
  have hR := hR.frU e3 (by omega)
  have hA := hA.frU e3 (by omega)
  have hF : ∀ q, q ≠ x → ¬ (r2 ≤ q ∧ q < r2 + 38) → M3 q = M q := fun q g1 g2 => (by rw [e3]; exact (up_a (by omega)).trans (hF q g1 g2))
  refine T_aload0 dX10_adoptSpare_41 rfl ?_
  refine T_aload1 dX10_adoptSpare_42 rfl ?_
  refine p10_34 rfl (hV.t_x) dX10_adoptSpare_43 rfl ?_
  refine T_nm (fun M4 e4 => ?_)
  have hV := FV.mv hV.p_r2 e4
  have hR := hR.frU e4 (by omega)
  have hA := hA.frU e4 (by omega)
  have hF : ∀ q, q ≠ x → ¬ (r2 ≤ q ∧ q < r2 + 38) → M4 q = M q := fun q g1 g2 => (by rw [e4]; exact (up_a (by omega)).trans (hF q g1 g2))
  refine T_aload0 dX10_adoptSpare_46 rfl ?_
  refine g10_30 _ rfl (hV.t_x) (hV.g_p) dX10_adoptSpare_47 rfl ?_
  refine T_astore2 rfl (by decide) dX10_adoptSpare_50 rfl ?_
  refine T_aload0 dX10_adoptSpare_51 rfl ?_
  refine T_aload0 dX10_adoptSpare_52 rfl ?_
  refine g10_37 _ rfl (hV.t_x) (hV.g_p2) dX10_adoptSpare_53 rfl ?_
  refine p10_30 rfl (hV.t_x) dX10_adoptSpare_56 rfl ?_
  refine T_nm (fun M5 e5 => ?_)
  have hV := FV.mv hV.p_p e5
  have hR := hR.frU e5 (by omega)
  have hA := hA.frU e5 (by omega)
  have hF : ∀ q, q ≠ x → ¬ (r2 ≤ q ∧ q < r2 + 38) → M5 q = M q := fun q g1 g2 => (by rw [e5]; exact (up_a (by omega)).trans (hF q g1 g2))
  refine T_aload0 dX10_adoptSpare_59 rfl ?_
  refine T_aload2 dX10_adoptSpare_60 rfl ?_
  refine p10_37 rfl (hV.t_x) dX10_adoptSpare_61 rfl ?_
  refine T_nm (fun M6 e6 => ?_)
  have hV := FV.mv hV.p_p2 e6
  have hR := hR.frU e6 (by omega)
  have hA := hA.frU e6 (by omega)
  have hF : ∀ q, q ≠ x → ¬ (r2 ≤ q ∧ q < r2 + 38) → M6 q = M q := fun q g1 g2 => (by rw [e6]; exact (up_a (by omega)).trans (hF q g1 g2))
  refine T_vret rfl dX10_adoptSpare_64 ?_
  exact ⟨rfl, rfl, rfl, hV.rf, hA.rf, hF⟩

