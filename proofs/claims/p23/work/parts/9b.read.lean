/-! the whole list is read -/
/-- a whole line with its semicolon -/
def LNr (K : Nat → Nat) (vv : Nat → Int32) (s : PS) (β : RH) (q' : PQ) (β' : RH) : Prop :=
  (K s.1 = 0 ∧ q' = tkQ K 32 (lnst K s) ∧ β' = β) ∨ (K s.1 = 4 ∧ q' = tkQ K 32 (lnho K s) ∧ β' = β) ∨ (K s.1 = 9 ∧ q' = tkQ K 32 (lnlo K s) ∧ β' = β) ∨
  (K s.1 = 11 ∧ ∃ q1, HLr K vv s β q1 β' ∧ q' = tkQ K 32 q1) ∨ (K s.1 = 14 ∧ ∃ q1, WLr K vv s β q1 β' ∧ q' = tkQ K 32 q1) ∨
  (¬ (K s.1 = 0 ∨ K s.1 = 4 ∨ K s.1 = 9 ∨ K s.1 = 11 ∨ K s.1 = 14) ∧ q' = (false, s) ∧ β' = β)
def LSc (K : Nat → Nat) (vv : Nat → Int32) (R : PQ → RH → PQ → RH → Prop) : Prop :=
  (∀ s β, R (false, s) β (false, s) β) ∧ (∀ s β, K s.1 = 45 → R (true, s) β (true, s) β) ∧ (∀ s β q1 β1 q2 β2, ¬ K s.1 = 45 → LNr K vv s β q1 β1 → R q1 β1 q2 β2 → R (true, s) β q2 β2)
def LSr (K : Nat → Nat) (vv : Nat → Int32) (q : PQ) (β : RH) (q' : PQ) (β' : RH) : Prop := ∀ R, LSc K vv R → R q β q' β'
section LSS
variable {K : Nat → Nat} {vv : Nat → Int32} {V : Nat → Int64} {S : Nat → Int32} {q q1 q2 : PQ} {s : PS} {β β1 β2 ρ π : RH} {a b c hn wn sn k lt : Nat} {ν : NU} {σ : Nat → Nat}
theorem LSr.br : LSr K vv (false, s) β (false, s) β := fun R h => h.1 s β
theorem LSr.en (e : K s.1 = 45) : LSr K vv (true, s) β (true, s) β := fun R h => h.2.1 s β e
theorem LSr.ln (e : ¬ K s.1 = 45) (g : LNr K vv s β q1 β1) (r : LSr K vv q1 β1 q2 β2) : LSr K vv (true, s) β q2 β2 := fun R h => h.2.2 s β q1 β1 q2 β2 e g (r R h)
theorem LC.sk (h : LC V s β a b c ρ ν hn wn sn σ π) (e0 : s.2.2.2.2 s.1 = 0) (hs : s.1 < 2 ^ 29) : LC V (adv s 1) β a b c ρ ν hn wn sn σ π := by
  obtain ⟨D, z1, n1, d1, t1⟩ := h
  exact ⟨D, z1.n (Or.inl e0), ⟨n1.1.n (by show ¬ s.2.2.2.2 s.1 = 1; rw [e0]; decide), n1.2.1.n (by show ¬ s.2.2.2.2 s.1 = 2; rw [e0]; decide), n1.2.2.n (by show ¬ s.2.2.2.2 s.1 = 3; rw [e0]; decide)⟩, d1, t1.x (PSX.rf s).ad (by show s.1 + 1 < 2 ^ 30; omega)⟩
end LSS
set_option maxHeartbeats 1000000 in
theorem lq_take {l : Launch} {D : va_G} {cA : Nat → ClassId} {n0 : Nat} {sg adK adV : Nat → Nat} {sgA smA wdA bS LS : Nat} {xs : Nat → Int32} (hX : SF n0 (XW0 sg adK adV sgA smA wdA n0 bS LS xs)) {j r p tp ln lt : Nat} {K : Nat → Nat} {S : Nat → Int32} {V : Nat → Int64} (hd : (j + 5 ≤ r ∨ r + 38 ≤ j) ∧ (j + 5 ≤ p ∨ p + 30 ≤ j) ∧ (p + 30 ≤ r ∨ r + 38 ≤ p)) (hl : lt ≤ 400) (hK : ∀ i, i ≤ lt → K i < 48) (hK2 : K lt = 45 ∨ K lt = 46) {sz : Nat} {τ : TY} {M : ME} {q : PQ} {β : RH} (hL : LQ sg τ M j r p tp ln lt K S V (q) (β)) {k : Nat} (hk0 : k < 48) (h45 : ¬ k = 45) (h46 : ¬ k = 46) : CT l D cA n0 (XW0 sg adK adV sgA smA wdA n0 bS LS xs) mX5_take 2 0 0 sz τ M [.ref j, .ref (sg k)] (fun v' sz' τ' M' => v' = none ∧ sz' = sz ∧ τ' = τ ∧ LQ sg τ M' j r p tp ln lt K S V (tkQ K k q) (β) ∧ Fr3 j r p M M') := by
  obtain ⟨hT, hQ, a, b, c, ρ, ν, hn, wn, sn, σ, π, κ, hR, hP, hs, hLC⟩ := hL
  refine (rq_take hX hT hl hK hK2 hQ hk0 h45 h46).wk ?_
  rintro _ _ _ M9 ⟨rfl, rfl, rfl, hQ9, hF9⟩
  refine ⟨rfl, rfl, rfl, ⟨(hT.nx hF9 (by omega)).rf, hQ9, a, b, c, ρ, ν, hn, wn, sn, σ, π, κ, hR.nx hF9 (by omega), hP.nx hF9 (by omega), hs, fun z => ?_⟩, (Fr3.rf j r p M).fr hF9 (by omega)⟩
  obtain ⟨z1, z2, z3⟩ := tkQ_t z
  obtain ⟨g, s⟩ := q
  cases g with
  | false => exact absurd z1 (by simp)
  | true =>
    obtain ⟨hz, hs0⟩ := hQ.z
    have e0 := hz s.1 (Nat.le_refl _)
    rw [z3]
    refine ⟨Nat.le_trans (hLC rfl).1 (Nat.le_succ _), fun hf => ?_⟩
    exact ((hLC rfl).2 (by rw [← flF_0 e0]; exact hf)).sk e0 (Nat.lt_of_le_of_lt (Nat.le_trans hs0 hl) (by decide))
set_option maxHeartbeats 1000000 in
theorem rq_fail {l : Launch} {D : va_G} {cA : Nat → ClassId} {n0 : Nat} {sg adK adV : Nat → Nat} {sgA smA wdA bS LS : Nat} {xs : Nat → Int32} (hX : SF n0 (XW0 sg adK adV sgA smA wdA n0 bS LS xs)) {sz : Nat} {τ : TY} {M : ME} {N2 : ME} {j r p tp ln lt : Nat} {K : Nat → Nat} {S : Nat → Int32} {V : Nat → Int64} (hT : TM τ N2 M (j + 1) sg tp ln lt K S V) (hl : lt ≤ 400) (hK : ∀ i, i ≤ lt → K i < 48) (hK2 : K lt = 45 ∨ K lt = 46) {s : PS} (hQ : RQ τ M j r p lt S V ((true, s))) : CT l D cA n0 (XW0 sg adK adV sgA smA wdA n0 bS LS xs) mX5_fail 1 0 0 sz τ M [.ref j] (fun v' sz' τ' M' => v' = none ∧ sz' = sz ∧ τ' = τ ∧ RQ τ M' j r p lt S V ((false, s)) ∧ Fr j (j + 1) M M') := by
  obtain ⟨nx, bk, ba, fl, fa, hE, hO⟩ := hQ
  refine (c_X5_fail hX hE hT hO.1.1 hl hK).wk ?_
  rintro _ _ _ M9 ⟨rfl, rfl, rfl, hE9⟩
  exact ⟨rfl, rfl, rfl, ⟨_, _, _, _, _, hE9.rf, hO.fail⟩, hE9.frame⟩
set_option maxHeartbeats 1000000 in
theorem L_X5_read {l : Launch} {D : va_G} {cA : Nat → ClassId} {n0 : Nat} {sg adK adV : Nat → Nat} {sgA smA wdA bS LS : Nat} {xs : Nat → Int32} (hX : SF n0 (XW0 sg adK adV sgA smA wdA n0 bS LS xs)) {j r p tp ln lt : Nat} {K : Nat → Nat} {S : Nat → Int32} {V : Nat → Int64} (hd : (j + 5 ≤ r ∨ r + 38 ≤ j) ∧ (j + 5 ≤ p ∨ p + 30 ≤ j) ∧ (p + 30 ≤ r ∨ r + 38 ≤ p)) (hl : lt ≤ 400) (hK : ∀ i, i ≤ lt → K i < 48) (hK2 : K lt = 45 ∨ K lt = 46) {sz : Nat} {τ : TY} {M : ME} {u1_ u2_ u3_ : Value} {u4_ : Nat} : ∀ (n : Nat) (i w : Nat) (Mk : ME) (q : PQ) (β : RH) (hL : LQ sg τ Mk j r p tp ln lt K S V (q) (β)) (hF : Fr3 j r p M Mk) (hi : q.1 = true → i ≤ q.2.1) (hi4 : i ≤ 401) (hw : q.1 = true → lt + 1 ≤ w + q.2.1) (hwn : w < n), T l D cA n0 (XW0 sg adK adV sgA smA wdA n0 bS LS xs) mX5_read 102 0 0 sz τ Mk 19 [.ref j, u1_, u2_, u3_, .ref u4_, .int (nI i)] [] (fun v' sz' τ' M' => sz' = sz ∧ τ' = τ ∧ (∃ q' β', LSr K (fun t => (V t).toInt32) q β q' β' ∧ v' = some (.int (if q'.1 = true then (flF V S q'.2.2.2.2.2 q'.2.1).1 else 1)) ∧ (q'.1 = true → K q'.2.1 = 45) ∧ LQ sg τ M' j r p tp ln lt K S V (q') (β')) ∧ Fr3 j r p M M') (fun _ _ _ _ => False) := by
  intro n
  induction n with
  | zero => intros; omega
  | succ n ih =>
    intro i w Mk q β hL hF hi hi4 hw hwn
    have hL0 := hL
    obtain ⟨hT, hQ, a, b, c, ρ, ν, hn, wn, sn, σ, π, κ, hR, hP, hs, hLC⟩ := hL
    have hQ0 := hQ
    obtain ⟨nx, bk, ba, fl, fa, hE, hO⟩ := hQ
    refine T_sginj (fun hinj => ?_)
    have hk := hK nx hO.1.1
    have hn0 := hO.1.1
    obtain ⟨g, s⟩ := q
    cases g with
    | false =>
      obtain ⟨f1, f2, f3⟩ := hO.2.2 rfl
      subst f2
      refine T_iload5 dX5_read_19 rfl ?_
      refine T_sipush (400) dX5_read_21 rfl rfl ?_
      refine T_icmp_gt 140 27 dX5_read_24 (by decide) rfl (fun c24 => ?_) (fun c24 => ?_)
      ·
        refine T_aload0 dX5_read_140 rfl ?_
        refine g5_30 _ rfl (hE.t_j) (hE.g_bk) dX5_read_141 rfl ?_
        refine T_if_eq_f 151 147 dX5_read_144 (by decide) rfl (by decide) ?_
        refine T_iconst (1) dX5_read_147 rfl rfl ?_
        refine T_goto 155 dX5_read_148 (by decide) ?_
        refine T_iret rfl rfl dX5_read_155 ?_
        exact ⟨rfl, rfl, ⟨_, _, LSr.br, rfl, (fun z => absurd z (by simp)), hL0⟩, hF⟩
      ·
        refine T_aload0 dX5_read_27 rfl ?_
        refine g5_30 _ rfl (hE.t_j) (hE.g_bk) dX5_read_28 rfl ?_
        refine T_if_ne_t 140 dX5_read_31 (by decide) (by decide) ?_
        refine T_aload0 dX5_read_140 rfl ?_
        refine g5_30 _ rfl (hE.t_j) (hE.g_bk) dX5_read_141 rfl ?_
        refine T_if_eq_f 151 147 dX5_read_144 (by decide) rfl (by decide) ?_
        refine T_iconst (1) dX5_read_147 rfl rfl ?_
        refine T_goto 155 dX5_read_148 (by decide) ?_
        refine T_iret rfl rfl dX5_read_155 ?_
        exact ⟨rfl, rfl, ⟨_, _, LSr.br, rfl, (fun z => absurd z (by simp)), hL0⟩, hF⟩
    | true =>
      obtain ⟨f1, f2, f3, f4⟩ := hO.2.1 rfl
      have f1 : nx = s.1 := f1
      subst f1 f2
      have hi0 : i ≤ s.1 := hi rfl
      have hw0 : lt + 1 ≤ w + s.1 := hw rfl
      by_cases e45 : K s.1 = 45
      ·
        refine T_iload5 dX5_read_19 rfl ?_
        refine T_sipush (400) dX5_read_21 rfl rfl ?_
        refine T_icmp_gt_f 140 27 dX5_read_24 (by decide) rfl (fun z => absurd (nI_leI (a := i) (b := 400) (by omega) (by omega) |>.mpr (by omega)) (Int32.not_le.mpr z)) ?_
        refine T_aload0 dX5_read_27 rfl ?_
        refine g5_30 _ rfl (hE.t_j) (hE.g_bk) dX5_read_28 rfl ?_
        refine T_if_ne_f 140 34 dX5_read_31 (by decide) rfl rfl ?_
        refine T_aload0 dX5_read_34 rfl ?_
        refine T_cV0 (c_X5_sign hX hE hT hn0 hl hK) hX k5_51 (Or.inl ⟨_, _, _, _, (hE.t_j), by decide, rfl⟩) (by decide) (Nat.le_of_ble_eq_true rfl) dX5_read_35 rfl ?_
        rintro _ _ _ _ ⟨rfl, rfl, rfl, rfl⟩
        refine T_sgn (i := 45) (by decide) ks5_55 dX5_read_38 rfl ?_
        refine T_acmp_eq_t 140 dX5_read_41 (by decide) (by rw [e45]) ?_
        refine T_aload0 dX5_read_140 rfl ?_
        refine g5_30 _ rfl (hE.t_j) (hE.g_bk) dX5_read_141 rfl ?_
        refine T_if_eq_t 151 dX5_read_144 (by decide) rfl ?_
        refine T_aload0 dX5_read_151 rfl ?_
        refine g5_37 _ rfl (hE.t_j) (hE.g_fl) dX5_read_152 rfl ?_
        refine T_iret rfl rfl dX5_read_155 ?_
        exact ⟨rfl, rfl, ⟨_, _, LSr.en e45, by rw [if_pos rfl]; show some (Value.int fl) = some (Value.int (flF V S s.2.2.2.2 s.1).1); rw [f4], (fun _ => e45), hL0⟩, hF⟩
      ·
        refine T_iload5 dX5_read_19 rfl ?_
        refine T_sipush (400) dX5_read_21 rfl rfl ?_
        refine T_icmp_gt_f 140 27 dX5_read_24 (by decide) rfl (fun z => absurd (nI_leI (a := i) (b := 400) (by omega) (by omega) |>.mpr (by omega)) (Int32.not_le.mpr z)) ?_
        refine T_aload0 dX5_read_27 rfl ?_
        refine g5_30 _ rfl (hE.t_j) (hE.g_bk) dX5_read_28 rfl ?_
        refine T_if_ne_f 140 34 dX5_read_31 (by decide) rfl rfl ?_
        refine T_aload0 dX5_read_34 rfl ?_
        refine T_cV0 (c_X5_sign hX hE hT hn0 hl hK) hX k5_51 (by first | exact Or.inl ⟨_, _, _, _, (hE.t_j), by decide, rfl⟩ | exact Or.inl ⟨_, _, _, _, hL.2.1.tj, by decide, rfl⟩) (by decide) (Nat.le_of_ble_eq_true rfl) dX5_read_35 rfl ?_
        rintro _ _ _ _ ⟨rfl, rfl, rfl, rfl⟩
        refine T_sgn (i := 45) (by decide) ks5_55 dX5_read_38 rfl ?_
        refine T_acmp_eq_f 140 44 dX5_read_41 (by decide) rfl (fun z => e45 (hinj _ _ hk (by decide) z)) ?_
        refine T_smap ks5_61 dX5_read_44 rfl ?_
        refine T_aload0 dX5_read_47 rfl ?_
        refine T_cV0 (c_X5_sign hX hE hT hn0 hl hK) hX k5_51 (by first | exact Or.inl ⟨_, _, _, _, (hE.t_j), by decide, rfl⟩ | exact Or.inl ⟨_, _, _, _, hL.2.1.tj, by decide, rfl⟩) (by decide) (Nat.le_of_ble_eq_true rfl) dX5_read_48 rfl ?_
        rintro _ _ _ _ ⟨rfl, rfl, rfl, rfl⟩
        refine T_ord (by omega) kord5_67 (by decide) (Nat.le_of_ble_eq_true rfl) dX5_read_51 rfl ?_
        refine T_smld (by omega) dX5_read_54 rfl ?_
        by_cases e0 : K s.1 = 0
        ·
          refine T_tin (off := 33) 88 dX5_read_55 (by rw [e0]; decide +kernel) (by rw [e0]; decide +kernel) (by rw [e0]; decide +kernel) (by decide) ?_
          refine T_aload0 dX5_read_88 rfl ?_
          refine T_cV0 (c_X5_readStretch hX hd hl hK hK2 hL0 (by omega)) hX k5_71 (by first | exact Or.inl ⟨_, _, _, _, (hE.t_j), by decide, rfl⟩ | exact Or.inl ⟨_, _, _, _, hL.2.1.tj, by decide, rfl⟩) (by decide) (Nat.le_of_ble_eq_true rfl) dX5_read_89 rfl ?_
          rintro _ _ _ M8 ⟨rfl, rfl, rfl, hL, hF9⟩
          have hF := hF.tr hF9
          refine T_goto 127 dX5_read_92 (by decide) ?_
          refine T_aload0 dX5_read_127 rfl ?_
          refine T_sgn (i := 32) (by decide) ks5_89 dX5_read_128 rfl ?_
          refine T_cV1 (lq_take hX hd hl hK hK2 hL (k := 32) (by decide) (by decide) (by decide)) hX k5_92 (by first | exact Or.inl ⟨_, _, _, _, (hE.t_j), by decide, rfl⟩ | exact Or.inl ⟨_, _, _, _, hL.2.1.tj, by decide, rfl⟩) (by decide) (Nat.le_of_ble_eq_true rfl) dX5_read_131 rfl ?_
          rintro _ _ _ M7 ⟨rfl, rfl, rfl, hL, hF9⟩
          have hF := hF.tr hF9
          first | refine T_iinc5 rfl (by decide) dX5_read_134 rfl (inc1 _) ?_ | refine T_iinc5 rfl (by decide) dX5_read_134 rfl rfl ?_
          refine T_goto 19 dX5_read_137 (by decide) ?_
          have hms : (tkQ K 32 (lnst K s)).1 = true → s.1 + 1 ≤ (tkQ K 32 (lnst K s)).2.1 := fun z => by have h9 := tkQ_t z; rw [h9.2.2]; have h8 := (lnst_ok (V := V) (S := S) h9.1).2.2; show s.1 + 1 ≤ (lnst K s).2.1 + 1; omega
          refine T_cons ?_ (ih (i + 1) (w - 1) _ _ _ hL hF (fun z => by have := hms z; omega) (by omega) (fun z => by have := hms z; omega) (by omega))
          rintro v9 sz9 τ9 M9' ⟨e1, e2, ⟨q9, β9, hl9, hv9, he9, hq9⟩, hF9'⟩
          exact ⟨e1, e2, ⟨q9, β9, LSr.ln e45 (Or.inl ⟨e0, rfl, rfl⟩) hl9, hv9, he9, hq9⟩, hF9'⟩
        ·
          by_cases e4 : K s.1 = 4
          ·
            refine T_tin (off := 40) 95 dX5_read_55 (by rw [e4]; decide +kernel) (by rw [e4]; decide +kernel) (by rw [e4]; decide +kernel) (by decide) ?_
            refine T_aload0 dX5_read_95 rfl ?_
            refine T_cV0 (c_X5_readHorse hX hd hl hK hK2 hL0 (by omega)) hX k5_74 (by first | exact Or.inl ⟨_, _, _, _, (hE.t_j), by decide, rfl⟩ | exact Or.inl ⟨_, _, _, _, hL.2.1.tj, by decide, rfl⟩) (by decide) (Nat.le_of_ble_eq_true rfl) dX5_read_96 rfl ?_
            rintro _ _ _ M8 ⟨rfl, rfl, rfl, hL, hF9⟩
            have hF := hF.tr hF9
            refine T_goto 127 dX5_read_99 (by decide) ?_
            refine T_aload0 dX5_read_127 rfl ?_
            refine T_sgn (i := 32) (by decide) ks5_89 dX5_read_128 rfl ?_
            refine T_cV1 (lq_take hX hd hl hK hK2 hL (k := 32) (by decide) (by decide) (by decide)) hX k5_92 (by first | exact Or.inl ⟨_, _, _, _, (hE.t_j), by decide, rfl⟩ | exact Or.inl ⟨_, _, _, _, hL.2.1.tj, by decide, rfl⟩) (by decide) (Nat.le_of_ble_eq_true rfl) dX5_read_131 rfl ?_
            rintro _ _ _ M7 ⟨rfl, rfl, rfl, hL, hF9⟩
            have hF := hF.tr hF9
            first | refine T_iinc5 rfl (by decide) dX5_read_134 rfl (inc1 _) ?_ | refine T_iinc5 rfl (by decide) dX5_read_134 rfl rfl ?_
            refine T_goto 19 dX5_read_137 (by decide) ?_
            have hms : (tkQ K 32 (lnho K s)).1 = true → s.1 + 1 ≤ (tkQ K 32 (lnho K s)).2.1 := fun z => by have h9 := tkQ_t z; rw [h9.2.2]; have h8 := (lnho_ok (V := V) (S := S) h9.1).2.2; show s.1 + 1 ≤ (lnho K s).2.1 + 1; omega
            refine T_cons ?_ (ih (i + 1) (w - 1) _ _ _ hL hF (fun z => by have := hms z; omega) (by omega) (fun z => by have := hms z; omega) (by omega))
            rintro v9 sz9 τ9 M9' ⟨e1, e2, ⟨q9, β9, hl9, hv9, he9, hq9⟩, hF9'⟩
            exact ⟨e1, e2, ⟨q9, β9, LSr.ln e45 (Or.inr (Or.inl ⟨e4, rfl, rfl⟩)) hl9, hv9, he9, hq9⟩, hF9'⟩
          ·
            by_cases e9 : K s.1 = 9
            ·
              refine T_tin (off := 47) 102 dX5_read_55 (by rw [e9]; decide +kernel) (by rw [e9]; decide +kernel) (by rw [e9]; decide +kernel) (by decide) ?_
              refine T_aload0 dX5_read_102 rfl ?_
              refine T_cV0 (c_X5_readLog hX hd hl hK hK2 hL0 (by omega)) hX k5_77 (by first | exact Or.inl ⟨_, _, _, _, (hE.t_j), by decide, rfl⟩ | exact Or.inl ⟨_, _, _, _, hL.2.1.tj, by decide, rfl⟩) (by decide) (Nat.le_of_ble_eq_true rfl) dX5_read_103 rfl ?_
              rintro _ _ _ M8 ⟨rfl, rfl, rfl, hL, hF9⟩
              have hF := hF.tr hF9
              refine T_goto 127 dX5_read_106 (by decide) ?_
              refine T_aload0 dX5_read_127 rfl ?_
              refine T_sgn (i := 32) (by decide) ks5_89 dX5_read_128 rfl ?_
              refine T_cV1 (lq_take hX hd hl hK hK2 hL (k := 32) (by decide) (by decide) (by decide)) hX k5_92 (by first | exact Or.inl ⟨_, _, _, _, (hE.t_j), by decide, rfl⟩ | exact Or.inl ⟨_, _, _, _, hL.2.1.tj, by decide, rfl⟩) (by decide) (Nat.le_of_ble_eq_true rfl) dX5_read_131 rfl ?_
              rintro _ _ _ M7 ⟨rfl, rfl, rfl, hL, hF9⟩
              have hF := hF.tr hF9
              first | refine T_iinc5 rfl (by decide) dX5_read_134 rfl (inc1 _) ?_ | refine T_iinc5 rfl (by decide) dX5_read_134 rfl rfl ?_
              refine T_goto 19 dX5_read_137 (by decide) ?_
              have hms : (tkQ K 32 (lnlo K s)).1 = true → s.1 + 1 ≤ (tkQ K 32 (lnlo K s)).2.1 := fun z => by have h9 := tkQ_t z; rw [h9.2.2]; have h8 := (lnlo_ok (V := V) (S := S) h9.1).2.2; show s.1 + 1 ≤ (lnlo K s).2.1 + 1; omega
              refine T_cons ?_ (ih (i + 1) (w - 1) _ _ _ hL hF (fun z => by have := hms z; omega) (by omega) (fun z => by have := hms z; omega) (by omega))
              rintro v9 sz9 τ9 M9' ⟨e1, e2, ⟨q9, β9, hl9, hv9, he9, hq9⟩, hF9'⟩
              exact ⟨e1, e2, ⟨q9, β9, LSr.ln e45 (Or.inr (Or.inr (Or.inl ⟨e9, rfl, rfl⟩))) hl9, hv9, he9, hq9⟩, hF9'⟩
            ·
              by_cases e11 : K s.1 = 11
              ·
                refine T_tin (off := 54) 109 dX5_read_55 (by rw [e11]; decide +kernel) (by rw [e11]; decide +kernel) (by rw [e11]; decide +kernel) (by decide) ?_
                refine T_aload0 dX5_read_109 rfl ?_
                refine T_cV0 (c_X5_readHaul hX hd hl hK hK2 hL0 e11) hX k5_80 (by first | exact Or.inl ⟨_, _, _, _, (hE.t_j), by decide, rfl⟩ | exact Or.inl ⟨_, _, _, _, hL.2.1.tj, by decide, rfl⟩) (by decide) (Nat.le_of_ble_eq_true rfl) dX5_read_110 rfl ?_
                rintro _ _ _ M8 ⟨rfl, rfl, rfl, ⟨q1, β1, hr1, hm1, hL⟩, hF9⟩
                have hF := hF.tr hF9
                refine T_goto 127 dX5_read_113 (by decide) ?_
                refine T_aload0 dX5_read_127 rfl ?_
                refine T_sgn (i := 32) (by decide) ks5_89 dX5_read_128 rfl ?_
                refine T_cV1 (lq_take hX hd hl hK hK2 hL (k := 32) (by decide) (by decide) (by decide)) hX k5_92 (by first | exact Or.inl ⟨_, _, _, _, (hE.t_j), by decide, rfl⟩ | exact Or.inl ⟨_, _, _, _, hL.2.1.tj, by decide, rfl⟩) (by decide) (Nat.le_of_ble_eq_true rfl) dX5_read_131 rfl ?_
                rintro _ _ _ M7 ⟨rfl, rfl, rfl, hL, hF9⟩
                have hF := hF.tr hF9
                first | refine T_iinc5 rfl (by decide) dX5_read_134 rfl (inc1 _) ?_ | refine T_iinc5 rfl (by decide) dX5_read_134 rfl rfl ?_
                refine T_goto 19 dX5_read_137 (by decide) ?_
                have hms : (tkQ K 32 (q1)).1 = true → s.1 + 1 ≤ (tkQ K 32 (q1)).2.1 := fun z => by have h9 := tkQ_t z; rw [h9.2.2]; have h8 := hm1 h9.1; show s.1 + 1 ≤ (q1).2.1 + 1; omega
                refine T_cons ?_ (ih (i + 1) (w - 1) _ _ _ hL hF (fun z => by have := hms z; omega) (by omega) (fun z => by have := hms z; omega) (by omega))
                rintro v9 sz9 τ9 M9' ⟨e1, e2, ⟨q9, β9, hl9, hv9, he9, hq9⟩, hF9'⟩
                exact ⟨e1, e2, ⟨q9, β9, LSr.ln e45 (Or.inr (Or.inr (Or.inr (Or.inl ⟨e11, q1, hr1, rfl⟩)))) hl9, hv9, he9, hq9⟩, hF9'⟩
              ·
                by_cases e14 : K s.1 = 14
                ·
                  refine T_tin (off := 61) 116 dX5_read_55 (by rw [e14]; decide +kernel) (by rw [e14]; decide +kernel) (by rw [e14]; decide +kernel) (by decide) ?_
                  refine T_aload0 dX5_read_116 rfl ?_
                  refine T_cV0 (c_X5_readWait hX hd hl hK hK2 hL0 e14) hX k5_83 (by first | exact Or.inl ⟨_, _, _, _, (hE.t_j), by decide, rfl⟩ | exact Or.inl ⟨_, _, _, _, hL.2.1.tj, by decide, rfl⟩) (by decide) (Nat.le_of_ble_eq_true rfl) dX5_read_117 rfl ?_
                  rintro _ _ _ M8 ⟨rfl, rfl, rfl, ⟨q1, β1, hr1, hm1, hL⟩, hF9⟩
                  have hF := hF.tr hF9
                  refine T_goto 127 dX5_read_120 (by decide) ?_
                  refine T_aload0 dX5_read_127 rfl ?_
                  refine T_sgn (i := 32) (by decide) ks5_89 dX5_read_128 rfl ?_
                  refine T_cV1 (lq_take hX hd hl hK hK2 hL (k := 32) (by decide) (by decide) (by decide)) hX k5_92 (by first | exact Or.inl ⟨_, _, _, _, (hE.t_j), by decide, rfl⟩ | exact Or.inl ⟨_, _, _, _, hL.2.1.tj, by decide, rfl⟩) (by decide) (Nat.le_of_ble_eq_true rfl) dX5_read_131 rfl ?_
                  rintro _ _ _ M7 ⟨rfl, rfl, rfl, hL, hF9⟩
                  have hF := hF.tr hF9
                  first | refine T_iinc5 rfl (by decide) dX5_read_134 rfl (inc1 _) ?_ | refine T_iinc5 rfl (by decide) dX5_read_134 rfl rfl ?_
                  refine T_goto 19 dX5_read_137 (by decide) ?_
                  have hms : (tkQ K 32 (q1)).1 = true → s.1 + 1 ≤ (tkQ K 32 (q1)).2.1 := fun z => by have h9 := tkQ_t z; rw [h9.2.2]; have h8 := hm1 h9.1; show s.1 + 1 ≤ (q1).2.1 + 1; omega
                  refine T_cons ?_ (ih (i + 1) (w - 1) _ _ _ hL hF (fun z => by have := hms z; omega) (by omega) (fun z => by have := hms z; omega) (by omega))
                  rintro v9 sz9 τ9 M9' ⟨e1, e2, ⟨q9, β9, hl9, hv9, he9, hq9⟩, hF9'⟩
                  exact ⟨e1, e2, ⟨q9, β9, LSr.ln e45 (Or.inr (Or.inr (Or.inr (Or.inr (Or.inl ⟨e14, q1, hr1, rfl⟩))))) hl9, hv9, he9, hq9⟩, hF9'⟩
                ·
                  refine T_tout 123 dX5_read_55 ((show ∀ i, i < 48 → ¬ (i = 0 ∨ i = 4 ∨ i = 9 ∨ i = 11 ∨ i = 14) → (smV.getD i 0).toInt < 1 ∨ 5 < (smV.getD i 0).toInt from by decide +kernel) _ hk (by omega)) (by decide) ?_
                  refine T_aload0 dX5_read_123 rfl ?_
                  refine T_cV0 (rq_fail hX hT hl hK hK2 hQ0) hX k5_86 (by first | exact Or.inl ⟨_, _, _, _, (hE.t_j), by decide, rfl⟩ | exact Or.inl ⟨_, _, _, _, hL.2.1.tj, by decide, rfl⟩) (by decide) (Nat.le_of_ble_eq_true rfl) dX5_read_124 rfl ?_
                  rintro _ _ _ M8 ⟨rfl, rfl, rfl, hQ9, hF9⟩
                  have hL : LQ sg _ M8 j r p tp ln lt K S V ((false, s)) (β) := ⟨(hT.nx hF9 (by omega)).rf, hQ9, _, _, _, _, _, _, _, _, _, _, _, hR.nx hF9 (by omega), hP.nx hF9 (by omega), hs, fun z => absurd z (by simp)⟩
                  have hF := hF.fr hF9 (by omega)
                  refine T_aload0 dX5_read_127 rfl ?_
                  refine T_sgn (i := 32) (by decide) ks5_89 dX5_read_128 rfl ?_
                  refine T_cV1 (lq_take hX hd hl hK hK2 hL (k := 32) (by decide) (by decide) (by decide)) hX k5_92 (by first | exact Or.inl ⟨_, _, _, _, (hE.t_j), by decide, rfl⟩ | exact Or.inl ⟨_, _, _, _, hL.2.1.tj, by decide, rfl⟩) (by decide) (Nat.le_of_ble_eq_true rfl) dX5_read_131 rfl ?_
                  rintro _ _ _ M7 ⟨rfl, rfl, rfl, hL, hF9⟩
                  have hF := hF.tr hF9
                  first | refine T_iinc5 rfl (by decide) dX5_read_134 rfl (inc1 _) ?_ | refine T_iinc5 rfl (by decide) dX5_read_134 rfl rfl ?_
                  refine T_goto 19 dX5_read_137 (by decide) ?_
                  have e9_ : tkQ K 32 (false, s) = (false, s) := by unfold tkQ; rw [if_neg (by simp)]
                  rw [e9_] at hL
                  have hms : ((false, s) : PQ).1 = true → s.1 + 1 ≤ ((false, s) : PQ).2.1 := fun z => absurd z (by simp)
                  refine T_cons ?_ (ih (i + 1) (w - 1) _ _ _ hL hF (fun z => by have := hms z; omega) (by omega) (fun z => by have := hms z; omega) (by omega))
                  rintro v9 sz9 τ9 M9' ⟨e1, e2, ⟨q9, β9, hl9, hv9, he9, hq9⟩, hF9'⟩
                  exact ⟨e1, e2, ⟨q9, β9, LSr.ln e45 (Or.inr (Or.inr (Or.inr (Or.inr (Or.inr ⟨fun z => by omega, rfl, rfl⟩))))) hl9, hv9, he9, hq9⟩, hF9'⟩

