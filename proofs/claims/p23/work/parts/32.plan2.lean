theorem jn_1 {o : Nat} (h : JnOK o) (h1 : tkN o = 1) (x y z : Int32) : jnF o x y = jnF o x z := by
  rcases h with rfl | rfl | rfl | rfl | rfl | rfl | rfl | rfl | rfl | rfl | rfl | rfl | rfl | rfl | rfl <;> first | exact absurd h1 (by decide) | (simp [jnF]; done)
theorem ev_ir {a b c : Nat} {ρ : RH} {σ : Nat → Nat} {w : Nat → Int32} {f t : Nat} {κ κ' : Nat → Int32} (hs : SgOK a b σ w f t) : ∀ n, f + n ≤ t → ∀ i, i < hgF σ f n → (evF c ρ σ w f κ n).1 i = (evF c ρ σ w f κ' n).1 i
  | 0, _, i, hi => absurd hi (Nat.not_lt_zero _)
  | n + 1, hn, i, hi => by
    have ih := ev_ir (c := c) (ρ := ρ) (κ := κ) (κ' := κ') hs n (by omega)
    obtain ⟨q1, q2⟩ := hs.2.2 n (by omega)
    obtain ⟨q3, q4, q5, q6, q7⟩ := tk_48 q2
    show (stpF _ _ _ _ _).1 i = (stpF _ _ _ _ _).1 i
    unfold stpF
    rw [ev_hg, ev_hg]
    unfold hgF at hi
    by_cases e : i = hgF σ f n - tkN (σ (f + n))
    · show uI _ _ _ i = uI _ _ _ i
      rw [e, uI_s, uI_s]
      by_cases z : sgK.getD (σ (f + n)) 0 = 0
      · rw [if_pos (q7 z).2, if_pos (q7 z).2]
      · rw [if_neg (q6 z).2, if_neg (q6 z).2, ih _ (by have := (q6 z).2; omega)]
        by_cases e1 : tkN (σ (f + n)) = 1
        · exact jn_1 (q6 z).1 e1 _ _ _
        · rw [ih _ (by have := (q6 z).2; omega)]
    · show uI _ _ _ i = uI _ _ _ i
      rw [uI_i e, uI_i e]
      exact ih i (by omega)
def vlF (c : Nat) (ρ : RH) (σ : Nat → Nat) (w : Nat → Int32) (f t : Nat) : Int32 := (evF c ρ σ w f (fun _ => 0) (t - f)).1 0
theorem ev_vl {a b c : Nat} {ρ : RH} {σ : Nat → Nat} {w : Nat → Int32} {f t : Nat} {κ : Nat → Int32} (hs : SgOK a b σ w f t) : (evF c ρ σ w f κ (t - f)).1 0 = vlF c ρ σ w f t := by
  refine ev_ir hs _ (by have := hs.1; omega) 0 ?_
  have := hs.1
  rw [show t - f = t - f - 1 + 1 by omega]
  unfold hgF
  omega
def vxF (c : Nat) (ρ : RH) (σ : Nat → Nat) (w : Nat → Int32) (x y : Int32) : Int32 := vlF c ρ σ w x.toNatClampNeg y.toNatClampNeg
theorem ev_vx {a b c : Nat} {ρ : RH} {σ : Nat → Nat} {w : Nat → Int32} {f t : Nat} {κ : Nat → Int32} {x y : Int32} (hs : SgOK a b σ w f t) (hx : x = nI f) (hy : y = nI t) : (evF c ρ σ w f κ (t - f)).1 0 = vxF c ρ σ w x y := by
  have h1 := hs.1
  have h2 := hs.2.1
  rw [ev_vl hs, hx, hy]
  unfold vxF
  rw [nI_cl (by omega), nI_cl (by omega)]
/-- the hauls' answer, from i on -/
def mwG (c : Nat) (ρ : RH) (σ : Nat → Nat) (π : RH) (x : Int32) : Nat → Nat → Int32
  | _, 0 => 0
  | i, n + 1 => if π 50 i = x ∧ (π 53 i = π 54 i ∨ ¬ vxF c ρ σ (π 70) (π 53 i) (π 54 i) = 0) then vxF c ρ σ (π 70) (π 52 i) (π 53 i) else mwG c ρ σ π x (i + 1) n
theorem mwG_y {c : Nat} {ρ : RH} {σ : Nat → Nat} {π : RH} {x : Int32} {k n : Nat} (hk : k < n) (h : π 50 k = x) (h2 : π 53 k = π 54 k ∨ ¬ vxF c ρ σ (π 70) (π 53 k) (π 54 k) = 0) : mwG c ρ σ π x k (n - k) = vxF c ρ σ (π 70) (π 52 k) (π 53 k) := by
  rw [show n - k = n - (k + 1) + 1 by omega, mwG, if_pos ⟨h, h2⟩]
theorem mwG_n {c : Nat} {ρ : RH} {σ : Nat → Nat} {π : RH} {x : Int32} {k n : Nat} (hk : k < n) (h : ¬ (π 50 k = x ∧ (π 53 k = π 54 k ∨ ¬ vxF c ρ σ (π 70) (π 53 k) (π 54 k) = 0))) : mwG c ρ σ π x k (n - k) = mwG c ρ σ π x (k + 1) (n - (k + 1)) := by
  rw [show n - k = n - (k + 1) + 1 by omega, mwG, if_neg h]
theorem mwG_0 {c : Nat} {ρ : RH} {σ : Nat → Nat} {π : RH} {x : Int32} {k n : Nat} (hk : n ≤ k) : mwG c ρ σ π x k (n - k) = 0 := by
  rw [show n - k = 0 by omega]; rfl
def wtG (c : Nat) (ρ : RH) (σ : Nat → Nat) (π : RH) (x y : Int32) : Nat → Nat → Int32
  | _, 0 => 0
  | i, n + 1 => if π 55 i = x ∧ π 56 i = y ∧ ¬ vxF c ρ σ (π 70) (π 57 i) (π 59 i) = 0 then 1 else wtG c ρ σ π x y (i + 1) n
theorem wtG_y {c : Nat} {ρ : RH} {σ : Nat → Nat} {π : RH} {x y : Int32} {k n : Nat} (hk : k < n) (h : π 55 k = x ∧ π 56 k = y ∧ ¬ vxF c ρ σ (π 70) (π 57 k) (π 59 k) = 0) : wtG c ρ σ π x y k (n - k) = 1 := by
  rw [show n - k = n - (k + 1) + 1 by omega, wtG, if_pos h]
theorem wtG_n {c : Nat} {ρ : RH} {σ : Nat → Nat} {π : RH} {x y : Int32} {k n : Nat} (hk : k < n) (h : ¬ (π 55 k = x ∧ π 56 k = y ∧ ¬ vxF c ρ σ (π 70) (π 57 k) (π 59 k) = 0)) : wtG c ρ σ π x y k (n - k) = wtG c ρ σ π x y (k + 1) (n - (k + 1)) := by
  rw [show n - k = n - (k + 1) + 1 by omega, wtG, if_neg h]
theorem wtG_0 {c : Nat} {ρ : RH} {σ : Nat → Nat} {π : RH} {x y : Int32} {k n : Nat} (hk : n ≤ k) : wtG c ρ σ π x y k (n - k) = 0 := by
  rw [show n - k = 0 by omega]; rfl
/-- a plan that can be carried out -/
def PlOK (a b hc wc : Nat) (σ : Nat → Nat) (π : RH) : Prop := hc ≤ 12 ∧ wc ≤ 12 ∧ (∀ i, i < hc → ∃ f m t, π 52 i = nI f ∧ π 53 i = nI m ∧ π 54 i = nI t ∧ m ≤ t ∧ t ≤ 400 ∧ SgOK a b σ (π 70) f m ∧ (m < t → SgOK a b σ (π 70) m t)) ∧ (∀ i, i < wc → ∃ f t, π 57 i = nI f ∧ π 59 i = nI t ∧ SgOK a b σ (π 70) f t)
set_option maxHeartbeats 1000000 in
theorem L_X4_mostWeight {l : Launch} {D : va_G} {cA : Nat → ClassId} {n0 : Nat} {sg adK adV : Nat → Nat} {sgA smA wdA bS LS : Nat} {xs : Nat → Int32} (hX : SF n0 (XW0 sg adK adV sgA smA wdA n0 bS LS xs)) {sz : Nat} {τ : TY} {M0 : ME} {r p a b c hc wc sc : Nat} {ρ π : RH} {ν : NU} {σ : Nat → Nat} (hd : p + 30 ≤ r ∨ r + 38 ≤ p) (ho : PlOK a b hc wc σ π) (x : Int32) : ∀ (n : Nat) (k : Nat) (κ : Nat → Int32) (N0 : ME) (u : Value) (Mk : ME) (hk : k ≤ hc) (hP : PM τ M0 Mk p sg hc wc sc π σ κ) (hR : LM τ N0 Mk r a b c ρ ν), hc - k < n → T l D cA n0 (XW0 sg adK adV sgA smA wdA n0 bS LS xs) mX4_mostWeight 5 0 0 sz τ Mk 2 [.ref p, .int x, .ref r, .int (nI k), u] [] (fun v' sz' τ' M' => v' = some (.int (mwG c ρ σ π x k (hc - k))) ∧ sz' = sz ∧ τ' = τ ∧ ∃ κ', PM τ M0 M' p sg hc wc sc π σ κ') (fun _ _ _ _ => False) := by
  intro n
  induction n with
  | zero => intros; omega
  | succ n ih =>
    intro k κ N0 u Mk hk hP hR hn
    obtain ⟨o1, o2, o3, o4⟩ := id ho
    refine T_iload3 dX4_mostWeight_2 rfl ?_
    refine T_aload0 dX4_mostWeight_3 rfl ?_
    refine g4_38 _ rfl (hP.t_p) (hP.g_hn) dX4_mostWeight_4 rfl ?_
    refine T_icmp_ge 80 10 dX4_mostWeight_7 (by decide) rfl (fun c7 => ?_) (fun c7 => ?_)
    ·
      have c7 := le_out rfl c7
      refine T_iconst (0) dX4_mostWeight_80 rfl rfl ?_
      refine T_iret rfl rfl dX4_mostWeight_81 ?_
      refine ⟨congrArg (fun z => some (Value.int z)) ?_, rfl, rfl, _, hP⟩
      exact (mwG_0 c7).symm
    ·
      have c7 := lt_in rfl c7
      obtain ⟨f, m, t, f1, f2, f3, f4, f5, f6, f7⟩ := o3 k c7
      refine T_aload0 dX4_mostWeight_10 rfl ?_
      refine g4_11 _ rfl (hP.t_p) (hP.g_ha) dX4_mostWeight_11 rfl ?_
      refine T_iload3 dX4_mostWeight_14 rfl ?_
      refine T_aald 5 _ (by decide) (hP.t_ha) rfl (by omega) (by decide) dX4_mostWeight_15 rfl (hP.g_ho (by omega)) ?_
      refine T_astore4 rfl (by decide) dX4_mostWeight_16 rfl ?_
      refine T_aload4 dX4_mostWeight_18 rfl ?_
      first | refine g4_52 _ rfl (hP.t_ho (by omega)) (hP.g_h0 (by omega)) dX4_mostWeight_20 rfl ?_ | refine g4_52 _ rfl (hP.t_wo (by omega)) (hP.g_w0 (by omega)) dX4_mostWeight_20 rfl ?_
      refine T_iload1 dX4_mostWeight_23 rfl ?_
      refine T_icmp_ne 74 27 dX4_mostWeight_24 (by decide) rfl (fun c24 => ?_) (fun c24 => ?_)
      ·
        first | refine T_iinc3 rfl (by decide) dX4_mostWeight_74 rfl (inc1 _) ?_ | refine T_iinc3 rfl (by decide) dX4_mostWeight_74 rfl rfl ?_
        refine T_goto 2 dX4_mostWeight_77 (by decide) ?_
        rw [mwG_n c7 (fun q => by first | exact c24 q.1 | exact q.2.elim c37 (fun y => y c55))]
        exact ih (k + 1) _ _ _ _ (by omega) hP hR (by omega)
      ·
        refine T_aload4 dX4_mostWeight_27 rfl ?_
        first | refine g4_55 _ rfl (hP.t_ho (by omega)) (hP.g_h3 (by omega)) dX4_mostWeight_29 rfl ?_ | refine g4_55 _ rfl (hP.t_wo (by omega)) (hP.g_w3 (by omega)) dX4_mostWeight_29 rfl ?_
        refine T_aload4 dX4_mostWeight_32 rfl ?_
        first | refine g4_58 _ rfl (hP.t_ho (by omega)) (hP.g_h4 (by omega)) dX4_mostWeight_34 rfl ?_ | refine g4_58 _ rfl (hP.t_wo (by omega)) (hP.g_w4 (by omega)) dX4_mostWeight_34 rfl ?_
        refine T_icmp_eq 58 40 dX4_mostWeight_37 (by decide) rfl (fun c37 => ?_) (fun c37 => ?_)
        ·
          refine T_aload0 dX4_mostWeight_58 rfl ?_
          refine T_aload4 dX4_mostWeight_59 rfl ?_
          first | refine g4_65 _ rfl (hP.t_ho (by omega)) (hP.g_h2 (by omega)) dX4_mostWeight_61 rfl ?_ | refine g4_65 _ rfl (hP.t_wo (by omega)) (hP.g_w2 (by omega)) dX4_mostWeight_61 rfl ?_
          refine T_aload4 dX4_mostWeight_64 rfl ?_
          first | refine g4_55 _ rfl (hP.t_ho (by omega)) (hP.g_h3 (by omega)) dX4_mostWeight_66 rfl ?_ | refine g4_55 _ rfl (hP.t_wo (by omega)) (hP.g_w3 (by omega)) dX4_mostWeight_66 rfl ?_
          rw [f1, f2]
          refine T_aload2 dX4_mostWeight_69 rfl ?_
          refine T_cV3 (c_X4_reckon hX hd f6 hP.rf hR) hX k4_61 (Or.inl ⟨_, _, _, _, (hP.t_p), by decide, rfl⟩) (by decide) (Nat.le_of_ble_eq_true rfl) dX4_mostWeight_70 rfl ?_
          rintro _ _ _ M1 ⟨rfl, rfl, rfl, κ1, hN⟩
          have hR := hR.nx hN.frame (by omega)
          have hP := hN.bs hP.frame
          refine T_iret rfl rfl dX4_mostWeight_73 ?_
          refine ⟨congrArg (fun z => some (Value.int z)) ?_, rfl, rfl, _, hP⟩
          rw [ev_vx f6 f1 f2]
          exact (mwG_y c7 c24 (by first | exact Or.inl c37 | exact Or.inr c55)).symm
        ·
          have f8 : m < t := Nat.lt_of_le_of_ne f4 (fun q => c37 (by rw [f2, f3, q]))
          refine T_aload0 dX4_mostWeight_40 rfl ?_
          refine T_aload4 dX4_mostWeight_41 rfl ?_
          first | refine g4_55 _ rfl (hP.t_ho (by omega)) (hP.g_h3 (by omega)) dX4_mostWeight_43 rfl ?_ | refine g4_55 _ rfl (hP.t_wo (by omega)) (hP.g_w3 (by omega)) dX4_mostWeight_43 rfl ?_
          refine T_aload4 dX4_mostWeight_46 rfl ?_
          first | refine g4_58 _ rfl (hP.t_ho (by omega)) (hP.g_h4 (by omega)) dX4_mostWeight_48 rfl ?_ | refine g4_58 _ rfl (hP.t_wo (by omega)) (hP.g_w4 (by omega)) dX4_mostWeight_48 rfl ?_
          rw [f2, f3]
          refine T_aload2 dX4_mostWeight_51 rfl ?_
          refine T_cV3 (c_X4_reckon hX hd (f7 f8) hP.rf hR) hX k4_61 (Or.inl ⟨_, _, _, _, (hP.t_p), by decide, rfl⟩) (by decide) (Nat.le_of_ble_eq_true rfl) dX4_mostWeight_52 rfl ?_
          rintro _ _ _ M1 ⟨rfl, rfl, rfl, κ1, hN⟩
          have hR := hR.nx hN.frame (by omega)
          have hP := hN.bs hP.frame
          refine T_if_eq 74 58 dX4_mostWeight_55 (by decide) rfl (fun c55 => ?_) (fun c55 => ?_)
          ·
            rw [ev_vx (f7 f8) f2 f3] at c55
            first | refine T_iinc3 rfl (by decide) dX4_mostWeight_74 rfl (inc1 _) ?_ | refine T_iinc3 rfl (by decide) dX4_mostWeight_74 rfl rfl ?_
            refine T_goto 2 dX4_mostWeight_77 (by decide) ?_
            rw [mwG_n c7 (fun q => by first | exact c24 q.1 | exact q.2.elim c37 (fun y => y c55))]
            exact ih (k + 1) _ _ _ _ (by omega) hP hR (by omega)
          ·
            rw [ev_vx (f7 f8) f2 f3] at c55
            refine T_aload0 dX4_mostWeight_58 rfl ?_
            refine T_aload4 dX4_mostWeight_59 rfl ?_
            first | refine g4_65 _ rfl (hP.t_ho (by omega)) (hP.g_h2 (by omega)) dX4_mostWeight_61 rfl ?_ | refine g4_65 _ rfl (hP.t_wo (by omega)) (hP.g_w2 (by omega)) dX4_mostWeight_61 rfl ?_
            refine T_aload4 dX4_mostWeight_64 rfl ?_
            first | refine g4_55 _ rfl (hP.t_ho (by omega)) (hP.g_h3 (by omega)) dX4_mostWeight_66 rfl ?_ | refine g4_55 _ rfl (hP.t_wo (by omega)) (hP.g_w3 (by omega)) dX4_mostWeight_66 rfl ?_
            rw [f1, f2]
            refine T_aload2 dX4_mostWeight_69 rfl ?_
            refine T_cV3 (c_X4_reckon hX hd f6 hP.rf hR) hX k4_61 (Or.inl ⟨_, _, _, _, (hP.t_p), by decide, rfl⟩) (by decide) (Nat.le_of_ble_eq_true rfl) dX4_mostWeight_70 rfl ?_
            rintro _ _ _ M1 ⟨rfl, rfl, rfl, κ1, hN⟩
            have hR := hR.nx hN.frame (by omega)
            have hP := hN.bs hP.frame
            refine T_iret rfl rfl dX4_mostWeight_73 ?_
            refine ⟨congrArg (fun z => some (Value.int z)) ?_, rfl, rfl, _, hP⟩
            rw [ev_vx f6 f1 f2]
            exact (mwG_y c7 c24 (by first | exact Or.inl c37 | exact Or.inr c55)).symm
set_option maxHeartbeats 1000000 in
theorem c_X4_mostWeight {l : Launch} {D : va_G} {cA : Nat → ClassId} {n0 : Nat} {sg adK adV : Nat → Nat} {sgA smA wdA bS LS : Nat} {xs : Nat → Int32} (hX : SF n0 (XW0 sg adK adV sgA smA wdA n0 bS LS xs)) {sz : Nat} {τ : TY} {M0 : ME} {r p a b c hc wc sc : Nat} {ρ π : RH} {ν : NU} {σ : Nat → Nat} (hd : p + 30 ≤ r ∨ r + 38 ≤ p) (ho : PlOK a b hc wc σ π) {N0 M : ME} {κ : Nat → Int32} (hP : PM τ M0 M p sg hc wc sc π σ κ) (hR : LM τ N0 M r a b c ρ ν) (x : Int32) : CT l D cA n0 (XW0 sg adK adV sgA smA wdA n0 bS LS xs) mX4_mostWeight 5 0 0 sz τ M [.ref p, .int x, .ref r] (fun v' sz' τ' M' => v' = some (.int (mwG c ρ σ π x 0 hc)) ∧ sz' = sz ∧ τ' = τ ∧ ∃ κ', PM τ M0 M' p sg hc wc sc π σ κ') := by
  refine CT.of (ls := [.ref p, .int x, .ref r, UU, UU]) (by decide) (Nat.le_of_ble_eq_true rfl) rfl ?_
  refine T_iconst (0) dX4_mostWeight_0 rfl rfl ?_
  refine T_istore3 rfl (by decide) dX4_mostWeight_1 rfl ?_
  exact L_X4_mostWeight hX hd ho x (hc + 1) 0 κ N0 UU M (Nat.zero_le _) hP hR (by omega)
set_option maxHeartbeats 1000000 in
theorem L_X4_waitsNow {l : Launch} {D : va_G} {cA : Nat → ClassId} {n0 : Nat} {sg adK adV : Nat → Nat} {sgA smA wdA bS LS : Nat} {xs : Nat → Int32} (hX : SF n0 (XW0 sg adK adV sgA smA wdA n0 bS LS xs)) {sz : Nat} {τ : TY} {M0 : ME} {r p a b c hc wc sc : Nat} {ρ π : RH} {ν : NU} {σ : Nat → Nat} (hd : p + 30 ≤ r ∨ r + 38 ≤ p) (ho : PlOK a b hc wc σ π) (x y : Int32) : ∀ (n : Nat) (k : Nat) (κ : Nat → Int32) (N0 : ME) (u : Value) (Mk : ME) (hk : k ≤ wc) (hP : PM τ M0 Mk p sg hc wc sc π σ κ) (hR : LM τ N0 Mk r a b c ρ ν), wc - k < n → T l D cA n0 (XW0 sg adK adV sgA smA wdA n0 bS LS xs) mX4_waitsNow 5 0 0 sz τ Mk 3 [.ref p, .int x, .int y, .ref r, .int (nI k), u] [] (fun v' sz' τ' M' => v' = some (.int (wtG c ρ σ π x y k (wc - k))) ∧ sz' = sz ∧ τ' = τ ∧ ∃ κ', PM τ M0 M' p sg hc wc sc π σ κ') (fun _ _ _ _ => False) := by
  intro n
  induction n with
  | zero => intros; omega
  | succ n ih =>
    intro k κ N0 u Mk hk hP hR hn
    obtain ⟨o1, o2, o3, o4⟩ := id ho
    refine T_iload4 dX4_waitsNow_3 rfl ?_
    refine T_aload0 dX4_waitsNow_5 rfl ?_
    refine g4_42 _ rfl (hP.t_p) (hP.g_wn) dX4_waitsNow_6 rfl ?_
    refine T_icmp_ge 65 12 dX4_waitsNow_9 (by decide) rfl (fun c7 => ?_) (fun c7 => ?_)
    ·
      have c7 := le_out rfl c7
      refine T_iconst (0) dX4_waitsNow_65 rfl rfl ?_
      refine T_iret rfl rfl dX4_waitsNow_66 ?_
      refine ⟨congrArg (fun z => some (Value.int z)) ?_, rfl, rfl, _, hP⟩
      exact (wtG_0 c7).symm
    ·
      have c7 := lt_in rfl c7
      obtain ⟨f, t, f1, f3, f7⟩ := o4 k c7
      refine T_aload0 dX4_waitsNow_12 rfl ?_
      refine g4_17 _ rfl (hP.t_p) (hP.g_wa) dX4_waitsNow_13 rfl ?_
      refine T_iload4 dX4_waitsNow_16 rfl ?_
      refine T_aald 5 _ (by decide) (hP.t_wa) rfl (by omega) (by decide) dX4_waitsNow_18 rfl (hP.g_wo (by omega)) ?_
      refine T_astore5 rfl (by decide) dX4_waitsNow_19 rfl ?_
      refine T_aload5 dX4_waitsNow_21 rfl ?_
      first | refine g4_52 _ rfl (hP.t_ho (by omega)) (hP.g_h0 (by omega)) dX4_waitsNow_23 rfl ?_ | refine g4_52 _ rfl (hP.t_wo (by omega)) (hP.g_w0 (by omega)) dX4_waitsNow_23 rfl ?_
      refine T_iload1 dX4_waitsNow_26 rfl ?_
      refine T_icmp_ne 59 30 dX4_waitsNow_27 (by decide) rfl (fun c27 => ?_) (fun c27 => ?_)
      ·
        first | refine T_iinc4 rfl (by decide) dX4_waitsNow_59 rfl (inc1 _) ?_ | refine T_iinc4 rfl (by decide) dX4_waitsNow_59 rfl rfl ?_
        refine T_goto 3 dX4_waitsNow_62 (by decide) ?_
        rw [wtG_n c7 (fun q => by first | exact c27 q.1 | exact c36 q.2.1 | exact q.2.2 c54)]
        exact ih (k + 1) _ _ _ _ (by omega) hP hR (by omega)
      ·
        refine T_aload5 dX4_waitsNow_30 rfl ?_
        first | refine g4_68 _ rfl (hP.t_ho (by omega)) (hP.g_h1 (by omega)) dX4_waitsNow_32 rfl ?_ | refine g4_68 _ rfl (hP.t_wo (by omega)) (hP.g_w1 (by omega)) dX4_waitsNow_32 rfl ?_
        refine T_iload2 dX4_waitsNow_35 rfl ?_
        refine T_icmp_ne 59 39 dX4_waitsNow_36 (by decide) rfl (fun c36 => ?_) (fun c36 => ?_)
        ·
          first | refine T_iinc4 rfl (by decide) dX4_waitsNow_59 rfl (inc1 _) ?_ | refine T_iinc4 rfl (by decide) dX4_waitsNow_59 rfl rfl ?_
          refine T_goto 3 dX4_waitsNow_62 (by decide) ?_
          rw [wtG_n c7 (fun q => by first | exact c27 q.1 | exact c36 q.2.1 | exact q.2.2 c54)]
          exact ih (k + 1) _ _ _ _ (by omega) hP hR (by omega)
        ·
          refine T_aload0 dX4_waitsNow_39 rfl ?_
          refine T_aload5 dX4_waitsNow_40 rfl ?_
          first | refine g4_65 _ rfl (hP.t_ho (by omega)) (hP.g_h2 (by omega)) dX4_waitsNow_42 rfl ?_ | refine g4_65 _ rfl (hP.t_wo (by omega)) (hP.g_w2 (by omega)) dX4_waitsNow_42 rfl ?_
          refine T_aload5 dX4_waitsNow_45 rfl ?_
          first | refine g4_58 _ rfl (hP.t_ho (by omega)) (hP.g_h4 (by omega)) dX4_waitsNow_47 rfl ?_ | refine g4_58 _ rfl (hP.t_wo (by omega)) (hP.g_w4 (by omega)) dX4_waitsNow_47 rfl ?_
          rw [f1, f3]
          refine T_aload3 dX4_waitsNow_50 rfl ?_
          refine T_cV3 (c_X4_reckon hX hd f7 hP.rf hR) hX k4_61 (Or.inl ⟨_, _, _, _, (hP.t_p), by decide, rfl⟩) (by decide) (Nat.le_of_ble_eq_true rfl) dX4_waitsNow_51 rfl ?_
          rintro _ _ _ M1 ⟨rfl, rfl, rfl, κ1, hN⟩
          have hR := hR.nx hN.frame (by omega)
          have hP := hN.bs hP.frame
          refine T_if_eq 59 57 dX4_waitsNow_54 (by decide) rfl (fun c54 => ?_) (fun c54 => ?_)
          ·
            rw [ev_vx f7 f1 f3] at c54
            first | refine T_iinc4 rfl (by decide) dX4_waitsNow_59 rfl (inc1 _) ?_ | refine T_iinc4 rfl (by decide) dX4_waitsNow_59 rfl rfl ?_
            refine T_goto 3 dX4_waitsNow_62 (by decide) ?_
            rw [wtG_n c7 (fun q => by first | exact c27 q.1 | exact c36 q.2.1 | exact q.2.2 c54)]
            exact ih (k + 1) _ _ _ _ (by omega) hP hR (by omega)
          ·
            rw [ev_vx f7 f1 f3] at c54
            refine T_iconst (1) dX4_waitsNow_57 rfl rfl ?_
            refine T_iret rfl rfl dX4_waitsNow_58 ?_
            refine ⟨congrArg (fun z => some (Value.int z)) ?_, rfl, rfl, _, hP⟩
            exact (wtG_y c7 ⟨c27, c36, c54⟩).symm
set_option maxHeartbeats 1000000 in
theorem c_X4_waitsNow {l : Launch} {D : va_G} {cA : Nat → ClassId} {n0 : Nat} {sg adK adV : Nat → Nat} {sgA smA wdA bS LS : Nat} {xs : Nat → Int32} (hX : SF n0 (XW0 sg adK adV sgA smA wdA n0 bS LS xs)) {sz : Nat} {τ : TY} {M0 : ME} {r p a b c hc wc sc : Nat} {ρ π : RH} {ν : NU} {σ : Nat → Nat} (hd : p + 30 ≤ r ∨ r + 38 ≤ p) (ho : PlOK a b hc wc σ π) {N0 M : ME} {κ : Nat → Int32} (hP : PM τ M0 M p sg hc wc sc π σ κ) (hR : LM τ N0 M r a b c ρ ν) (x y : Int32) : CT l D cA n0 (XW0 sg adK adV sgA smA wdA n0 bS LS xs) mX4_waitsNow 5 0 0 sz τ M [.ref p, .int x, .int y, .ref r] (fun v' sz' τ' M' => v' = some (.int (wtG c ρ σ π x y 0 wc)) ∧ sz' = sz ∧ τ' = τ ∧ ∃ κ', PM τ M0 M' p sg hc wc sc π σ κ') := by
  refine CT.of (ls := [.ref p, .int x, .int y, .ref r, UU, UU]) (by decide) (Nat.le_of_ble_eq_true rfl) rfl ?_
  refine T_iconst (0) dX4_waitsNow_0 rfl rfl ?_
  refine T_istore4 rfl (by decide) dX4_waitsNow_1 rfl ?_
  exact L_X4_waitsNow hX hd ho x y (wc + 1) 0 κ N0 UU M (Nat.zero_le _) hP hR (by omega)
