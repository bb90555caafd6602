/-! the law's loop: frost and logs before the hour; what is foreseen -/
set_option maxHeartbeats 1000000 in
theorem ID1_law {l : Launch} {D : va_G} {cA : Nat → ClassId} {n0 : Nat} {sg adK adV : Nat → Nat} {sgA smA wdA bS LS : Nat} {xs : Nat → Int32} (hX : SF n0 (XW0 sg adK adV sgA smA wdA n0 bS LS xs)) (hl : l.stackTraces = false) {nn : String} {x r p r2 p2 hc wc sc j e s0 tb t : Nat} {A : Nat → Nat} {Rw : Nat → Nat → Nat} {cn : Nat → Nat} {π : RH} {ν : NU} {σ : Nat → Nat} {B : Nat → Nat} {fa W0 : Int32} {κ ω : Nat → Nat → Int32} {ρ : RH} {μ : Nat → Int32} (hd : e ≤ x ∨ x + 144 ≤ j) (hlo : x + 144 ≤ s0 ∧ e ≤ s0 ∧ j < e) (hok : CnOK cn) (hI : SI (cn 3) (cn 4) (cn 5) ρ) {bk bn : Nat} {τ : TY} {v : Int32} (hA : AFt τ s0 (cn 3) (cn 4) (cn 5)) {y15 y16 y17 y18 y19 y20 y21 y22 y23 y24 y25 y26 y27 y28 y29 y30 y31 y32 y33 : Value} (KK : ∀ Mk : ME, CS sg τ Mk x r p r2 p2 0 (cn 3) (cn 4) (cn 5) hc wc sc ρ ν π σ B fa → SM τ Mk Mk j e A Rw cn ρ μ κ ω → AF Mk s0 (cn 3) (cn 4) (cn 5) ρ (cn 4) (cn 4) (cn 3) 0 → T l D cA n0 (XW0 sg adK adV sgA smA wdA n0 bS LS xs) (mLN nn) 2048 bk bn (s0 + 4 + cn 4 + cn 5) τ Mk 406 (.ref bS :: .ref tb :: .ref j :: .ref x :: .int W0 :: .int (nI t) :: .int v :: .int (nI (cn 4)) :: .int (nI (cn 3)) :: .int (nI (cn 5)) :: .ref s0 :: .ref (s0 + 1 + cn 4) :: .ref (s0 + 2 + cn 4 + cn 5) :: .ref (s0 + 3 + cn 4 + cn 5) :: .int (nI (cn 3)) :: y15 :: y16 :: y17 :: y18 :: y19 :: y20 :: y21 :: y22 :: y23 :: y24 :: y25 :: y26 :: y27 :: y28 :: y29 :: y30 :: y31 :: y32 :: y33 :: []) [] Q1L (fun _ _ _ _ => False)) : ∀ (n : Nat) (i : Nat) (Mk : ME) (hk : i ≤ cn 3) (hC : CS sg τ Mk x r p r2 p2 0 (cn 3) (cn 4) (cn 5) hc wc sc ρ ν π σ B fa) (hS : SM τ Mk Mk j e A Rw cn ρ μ κ ω) (hF : AF Mk s0 (cn 3) (cn 4) (cn 5) ρ (cn 4) (cn 4) i 0), cn 3 - i < n → T l D cA n0 (XW0 sg adK adV sgA smA wdA n0 bS LS xs) (mLN nn) 2048 (bk + 2 * (cn 3 - i)) (bn + 12 * (cn 3 - i)) (s0 + 4 + cn 4 + cn 5) τ Mk 381 (.ref bS :: .ref tb :: .ref j :: .ref x :: .int W0 :: .int (nI t) :: .int v :: .int (nI (cn 4)) :: .int (nI (cn 3)) :: .int (nI (cn 5)) :: .ref s0 :: .ref (s0 + 1 + cn 4) :: .ref (s0 + 2 + cn 4 + cn 5) :: .ref (s0 + 3 + cn 4 + cn 5) :: .int (nI i) :: y15 :: y16 :: y17 :: y18 :: y19 :: y20 :: y21 :: y22 :: y23 :: y24 :: y25 :: y26 :: y27 :: y28 :: y29 :: y30 :: y31 :: y32 :: y33 :: []) [] (Q1L) (fun _ _ _ _ => False) := by
  intro n
  induction n with
  | zero => intros; omega
  | succ n ih =>
    intro i Mk hk hC hS hF hn
    unfold CnOK at hok
    refine T_iload14 dL_law_381 rfl ?_
    refine T_iload8 dL_law_383 rfl ?_
    refine T_icmp_ge 406 388 dL_law_385 (by decide) rfl (fun c9 => ?_) (fun c9 => ?_)
    ·
      have c9 := le_out rfl c9
      have hk9 : i = cn 3 := by omega
      subst hk9
      exact T_less (by omega) (by omega) (KK _ hC hS hF)
    ·
      have c9 := lt_in rfl c9
      refine T_aload12 dL_law_388 rfl ?_
      refine T_iload14 dL_law_390 rfl ?_
      refine T_aload3 dL_law_392 rfl ?_
      refine T_iload14 dL_law_393 rfl ?_
      refine T_iconst (2) dL_law_395 rfl rfl ?_
      refine T_less (bk1 := bk + 2 * (cn 3 - (i + 1)) + 2) (bn1 := bn + 12 * (cn 3 - (i + 1)) + 12) (by omega) (by omega) ?_
      refine q_stretch hX hl hC (k := 2) c9 (by decide) kL_224 (Nat.le_of_ble_eq_true rfl) (Nat.le_of_ble_eq_true rfl) dL_law_396 rfl ?_
      rw [show stF (cn 4) (cn 5) ρ i 2 = ρ 43 i from rfl]
      refine T_iast i hA.2.2.2.2.1 rfl c9 (by omega) dL_law_399 rfl ?_
      refine T_nm (fun M1 e1 => ?_)
      have hC := hC.fr (M1 := M1) (fun q g1 g2 => by rw [e1]; exact up_a (by omega))
      have hS := hS.fr (M1 := M1) (fun q g1 g2 => by rw [e1]; exact up_a (by omega))
      first | refine T_iinc14 rfl (Nat.le_of_ble_eq_true rfl) dL_law_400 rfl (inc1 _) ?_ | refine T_iinc14 rfl (Nat.le_of_ble_eq_true rfl) dL_law_400 rfl rfl ?_
      refine T_goto 381 dL_law_403 (by decide) ?_
      exact ih (i + 1) _ (by omega) hC hS (by rw [e1]; exact hF.upS c9) (by omega)
set_option maxHeartbeats 1000000 in
theorem ID2_law {l : Launch} {D : va_G} {cA : Nat → ClassId} {n0 : Nat} {sg adK adV : Nat → Nat} {sgA smA wdA bS LS : Nat} {xs : Nat → Int32} (hX : SF n0 (XW0 sg adK adV sgA smA wdA n0 bS LS xs)) (hl : l.stackTraces = false) {nn : String} {x r p r2 p2 hc wc sc j e s0 tb t : Nat} {A : Nat → Nat} {Rw : Nat → Nat → Nat} {cn : Nat → Nat} {π : RH} {ν : NU} {σ : Nat → Nat} {B : Nat → Nat} {fa W0 : Int32} {κ ω : Nat → Nat → Int32} {ρ : RH} {μ : Nat → Int32} (hd : e ≤ x ∨ x + 144 ≤ j) (hlo : x + 144 ≤ s0 ∧ e ≤ s0 ∧ j < e) (hok : CnOK cn) (hI : SI (cn 3) (cn 4) (cn 5) ρ) {bk bn : Nat} {τ : TY} {v : Int32} {g : Nat} (hh : g < cn 5) (hA : AFt τ s0 (cn 3) (cn 4) (cn 5)) {y16 y17 y18 y19 y20 y21 y22 y23 y24 y25 y26 y27 y28 y29 y30 y31 y32 y33 : Value} (KK : ∀ Mk : ME, CS sg τ Mk x r p r2 p2 0 (cn 3) (cn 4) (cn 5) hc wc sc ρ ν π σ B fa → SM τ Mk Mk j e A Rw cn ρ μ κ ω → AF Mk s0 (cn 3) (cn 4) (cn 5) ρ (cn 4) (cn 4) (cn 3) g → (∀ i, i < 4 → Mk (s0 + 1 + cn 4 + 1 + g) i = .int (lgF ρ g i)) → T l D cA n0 (XW0 sg adK adV sgA smA wdA n0 bS LS xs) (mLN nn) 2048 bk bn (s0 + 4 + cn 4 + cn 5) τ Mk 447 (.ref bS :: .ref tb :: .ref j :: .ref x :: .int W0 :: .int (nI t) :: .int v :: .int (nI (cn 4)) :: .int (nI (cn 3)) :: .int (nI (cn 5)) :: .ref s0 :: .ref (s0 + 1 + cn 4) :: .ref (s0 + 2 + cn 4 + cn 5) :: .ref (s0 + 3 + cn 4 + cn 5) :: .int (nI g) :: .int (nI 4) :: y16 :: y17 :: y18 :: y19 :: y20 :: y21 :: y22 :: y23 :: y24 :: y25 :: y26 :: y27 :: y28 :: y29 :: y30 :: y31 :: y32 :: y33 :: []) [] Q1L (fun _ _ _ _ => False)) : ∀ (n : Nat) (k : Nat) (Mk : ME) (hk : k ≤ 4) (hC : CS sg τ Mk x r p r2 p2 0 (cn 3) (cn 4) (cn 5) hc wc sc ρ ν π σ B fa) (hS : SM τ Mk Mk j e A Rw cn ρ μ κ ω) (hF : AF Mk s0 (cn 3) (cn 4) (cn 5) ρ (cn 4) (cn 4) (cn 3) g) (hr : ∀ i, i < k → Mk (s0 + 1 + cn 4 + 1 + g) i = .int (lgF ρ g i)), 4 - k < n → T l D cA n0 (XW0 sg adK adV sgA smA wdA n0 bS LS xs) (mLN nn) 2048 (bk + 2 * (4 - k)) (bn + 12 * (4 - k)) (s0 + 4 + cn 4 + cn 5) τ Mk 419 (.ref bS :: .ref tb :: .ref j :: .ref x :: .int W0 :: .int (nI t) :: .int v :: .int (nI (cn 4)) :: .int (nI (cn 3)) :: .int (nI (cn 5)) :: .ref s0 :: .ref (s0 + 1 + cn 4) :: .ref (s0 + 2 + cn 4 + cn 5) :: .ref (s0 + 3 + cn 4 + cn 5) :: .int (nI g) :: .int (nI k) :: y16 :: y17 :: y18 :: y19 :: y20 :: y21 :: y22 :: y23 :: y24 :: y25 :: y26 :: y27 :: y28 :: y29 :: y30 :: y31 :: y32 :: y33 :: []) [] (Q1L) (fun _ _ _ _ => False) := by
  intro n
  induction n with
  | zero => intros; omega
  | succ n ih =>
    intro k Mk hk hC hS hF hr hn
    unfold CnOK at hok
    refine T_iload15 dL_law_419 rfl ?_
    refine T_iconst (4) dL_law_421 rfl rfl ?_
    refine T_icmp_ge 447 425 dL_law_422 (by decide) rfl (fun c9 => ?_) (fun c9 => ?_)
    ·
      have c9 := (nI_leI (a := 4) (by omega) (by omega)).mp c9
      have hk9 : k = 4 := by omega
      subst hk9
      exact T_less (by omega) (by omega) (KK _ hC hS hF hr)
    ·
      have c9 : k < 4 := Nat.lt_of_not_le (fun q => c9 ((nI_leI (a := 4) (by omega) (by omega)).mpr q))
      refine T_aload11 dL_law_425 rfl ?_
      refine T_iload14 dL_law_427 rfl ?_
      refine T_aaldA g hA.2.2.1 rfl hh (by omega) dL_law_429 rfl (hF.pg hh) ?_
      refine T_iload15 dL_law_430 rfl ?_
      refine T_aload3 dL_law_432 rfl ?_
      refine T_iload14 dL_law_433 rfl ?_
      refine T_iload15 dL_law_435 rfl ?_
      refine T_less (bk1 := bk + 2 * (4 - (k + 1)) + 2) (bn1 := bn + 12 * (4 - (k + 1)) + 12) (by omega) (by omega) ?_
      refine q_log hX hl hC hh c9 kL_227 (Nat.le_of_ble_eq_true rfl) (Nat.le_of_ble_eq_true rfl) dL_law_437 rfl ?_
      refine T_iast k (hA.2.2.2.1 g hh) rfl c9 (by decide) dL_law_440 rfl ?_
      refine T_nm (fun M1 e1 => ?_)
      have hC := hC.fr (M1 := M1) (fun q g1 g2 => by rw [e1]; exact up_a (by omega))
      have hS := hS.fr (M1 := M1) (fun q g1 g2 => by rw [e1]; exact up_a (by omega))
      first | refine T_iinc15 rfl (Nat.le_of_ble_eq_true rfl) dL_law_441 rfl (inc1 _) ?_ | refine T_iinc15 rfl (Nat.le_of_ble_eq_true rfl) dL_law_441 rfl rfl ?_
      refine T_goto 419 dL_law_444 (by decide) ?_
      refine ih (k + 1) _ (by omega) hC hS (by rw [e1]; exact hF.upG (Nat.le_refl _) hh) (fun i hi => ?_) (by omega)
      rw [e1]
      by_cases z : i = k
      · subst z; rw [up_s]
      · rw [up_k z]; exact hr i (by omega)
set_option maxHeartbeats 1000000 in
theorem ID3_law {l : Launch} {D : va_G} {cA : Nat → ClassId} {n0 : Nat} {sg adK adV : Nat → Nat} {sgA smA wdA bS LS : Nat} {xs : Nat → Int32} (hX : SF n0 (XW0 sg adK adV sgA smA wdA n0 bS LS xs)) (hl : l.stackTraces = false) {nn : String} {x r p r2 p2 hc wc sc j e s0 tb t : Nat} {A : Nat → Nat} {Rw : Nat → Nat → Nat} {cn : Nat → Nat} {π : RH} {ν : NU} {σ : Nat → Nat} {B : Nat → Nat} {fa W0 : Int32} {κ ω : Nat → Nat → Int32} {ρ : RH} {μ : Nat → Int32} (hd : e ≤ x ∨ x + 144 ≤ j) (hlo : x + 144 ≤ s0 ∧ e ≤ s0 ∧ j < e) (hok : CnOK cn) (hI : SI (cn 3) (cn 4) (cn 5) ρ) {bk bn : Nat} {τ : TY} {v : Int32} (hA : AFt τ s0 (cn 3) (cn 4) (cn 5)) {y16 y17 y18 y19 y20 y21 y22 y23 y24 y25 y26 y27 y28 y29 y30 y31 y32 y33 : Value} (KK : ∀ (Mk : ME) (y15 : Value), CS sg τ Mk x r p r2 p2 0 (cn 3) (cn 4) (cn 5) hc wc sc ρ ν π σ B fa → SM τ Mk Mk j e A Rw cn ρ μ κ ω → AF Mk s0 (cn 3) (cn 4) (cn 5) ρ (cn 4) (cn 4) (cn 3) (cn 5) → T l D cA n0 (XW0 sg adK adV sgA smA wdA n0 bS LS xs) (mLN nn) 2048 bk bn (s0 + 4 + cn 4 + cn 5) τ Mk 453 (.ref bS :: .ref tb :: .ref j :: .ref x :: .int W0 :: .int (nI t) :: .int v :: .int (nI (cn 4)) :: .int (nI (cn 3)) :: .int (nI (cn 5)) :: .ref s0 :: .ref (s0 + 1 + cn 4) :: .ref (s0 + 2 + cn 4 + cn 5) :: .ref (s0 + 3 + cn 4 + cn 5) :: .int (nI (cn 5)) :: y15 :: y16 :: y17 :: y18 :: y19 :: y20 :: y21 :: y22 :: y23 :: y24 :: y25 :: y26 :: y27 :: y28 :: y29 :: y30 :: y31 :: y32 :: y33 :: []) [] Q1L (fun _ _ _ _ => False)) : ∀ (n : Nat) (g : Nat) (Mk : ME) (y15 : Value) (hh : g ≤ cn 5) (hC : CS sg τ Mk x r p r2 p2 0 (cn 3) (cn 4) (cn 5) hc wc sc ρ ν π σ B fa) (hS : SM τ Mk Mk j e A Rw cn ρ μ κ ω) (hF : AF Mk s0 (cn 3) (cn 4) (cn 5) ρ (cn 4) (cn 4) (cn 3) g), cn 5 - g < n → T l D cA n0 (XW0 sg adK adV sgA smA wdA n0 bS LS xs) (mLN nn) 2048 (bk + 8 * (cn 5 - g)) (bn + 48 * (cn 5 - g)) (s0 + 4 + cn 4 + cn 5) τ Mk 409 (.ref bS :: .ref tb :: .ref j :: .ref x :: .int W0 :: .int (nI t) :: .int v :: .int (nI (cn 4)) :: .int (nI (cn 3)) :: .int (nI (cn 5)) :: .ref s0 :: .ref (s0 + 1 + cn 4) :: .ref (s0 + 2 + cn 4 + cn 5) :: .ref (s0 + 3 + cn 4 + cn 5) :: .int (nI g) :: y15 :: y16 :: y17 :: y18 :: y19 :: y20 :: y21 :: y22 :: y23 :: y24 :: y25 :: y26 :: y27 :: y28 :: y29 :: y30 :: y31 :: y32 :: y33 :: []) [] (Q1L) (fun _ _ _ _ => False) := by
  intro n
  induction n with
  | zero => intros; omega
  | succ n ih =>
    intro g Mk y15 hh hC hS hF hn
    unfold CnOK at hok
    refine T_iload14 dL_law_409 rfl ?_
    refine T_iload9 dL_law_411 rfl ?_
    refine T_icmp_ge 453 416 dL_law_413 (by decide) rfl (fun c9 => ?_) (fun c9 => ?_)
    ·
      have c9 := le_out rfl c9
      have hk9 : g = cn 5 := by omega
      subst hk9
      exact T_less (by omega) (by omega) (KK _ _ hC hS hF)
    ·
      have c9 := lt_in rfl c9
      refine T_iconst (0) dL_law_416 rfl rfl ?_
      refine T_istore15 rfl (Nat.le_of_ble_eq_true rfl) dL_law_417 rfl ?_
      refine T_less (bk1 := bk + 8 * (cn 5 - (g + 1)) + 2 * (4 - 0)) (bn1 := bn + 48 * (cn 5 - (g + 1)) + 12 * (4 - 0)) (by omega) (by omega) ?_
      refine ID2_law hX hl hd hlo hok hI c9 hA (fun M2 hC hS hF hr => ?_) 5 0 Mk (by decide) hC hS hF (fun i hi => absurd hi (Nat.not_lt_zero _)) (by decide)
      first | refine T_iinc14 rfl (Nat.le_of_ble_eq_true rfl) dL_law_447 rfl (inc1 _) ?_ | refine T_iinc14 rfl (Nat.le_of_ble_eq_true rfl) dL_law_447 rfl rfl ?_
      refine T_goto 409 dL_law_450 (by decide) ?_
      exact ih (g + 1) _ _ (by omega) hC hS (hF.addG c9 hr) (by omega)
set_option maxHeartbeats 1000000 in
theorem IE1_law {l : Launch} {D : va_G} {cA : Nat → ClassId} {n0 : Nat} {sg adK adV : Nat → Nat} {sgA smA wdA bS LS : Nat} {xs : Nat → Int32} (hX : SF n0 (XW0 sg adK adV sgA smA wdA n0 bS LS xs)) (hl : l.stackTraces = false) {nn : String} {x r p r2 p2 hc wc sc j e s0 tb t : Nat} {A : Nat → Nat} {Rw : Nat → Nat → Nat} {cn : Nat → Nat} {π : RH} {ν : NU} {σ : Nat → Nat} {B : Nat → Nat} {fa W0 : Int32} {κ ω : Nat → Nat → Int32} {ρ : RH} {μ : Nat → Int32} (hd : e ≤ x ∨ x + 144 ≤ j) (hlo : x + 144 ≤ s0 ∧ e ≤ s0 ∧ j < e) (hok : CnOK cn) (hI : SI (cn 3) (cn 4) (cn 5) ρ) {bk bn : Nat} {τ : TY} {v : Int32} {dg : Int64} (ho : PlOK (cn 3) (cn 4) hc wc σ π) (hta : τ (s0 + 4 + cn 4 + cn 5) = (100, 4)) {y18 y19 y20 y21 y22 y23 y24 y25 y26 y27 y28 y29 y30 y31 y32 y33 : Value} (KK : ∀ Mk : ME, CS sg τ Mk x r p r2 p2 0 (cn 3) (cn 4) (cn 5) hc wc sc ρ ν π σ B fa → SM τ Mk Mk j e A Rw cn ρ μ κ ω → AF Mk s0 (cn 3) (cn 4) (cn 5) ρ (cn 4) (cn 4) (cn 3) (cn 5) → (∀ i, i < 4 → Mk (s0 + 4 + cn 4 + cn 5) i = .int (fsF (cn 3) (cn 4) (cn 5) hc wc σ π ρ 1 i)) → T l D cA n0 (XW0 sg adK adV sgA smA wdA n0 bS LS xs) (mLN nn) 2048 bk bn (s0 + 4 + cn 4 + cn 5 + 1) τ Mk 491 (.ref bS :: .ref tb :: .ref j :: .ref x :: .int W0 :: .int (nI t) :: .int v :: .int (nI (cn 4)) :: .int (nI (cn 3)) :: .int (nI (cn 5)) :: .ref s0 :: .ref (s0 + 1 + cn 4) :: .ref (s0 + 2 + cn 4 + cn 5) :: .ref (s0 + 3 + cn 4 + cn 5) :: .long dg :: UU :: .ref (s0 + 4 + cn 4 + cn 5) :: .int (nI 4) :: y18 :: y19 :: y20 :: y21 :: y22 :: y23 :: y24 :: y25 :: y26 :: y27 :: y28 :: y29 :: y30 :: y31 :: y32 :: y33 :: []) [] Q1L (fun _ _ _ _ => False)) : ∀ (n : Nat) (k : Nat) (Mk : ME) (hk : k ≤ 4) (hC : CS sg τ Mk x r p r2 p2 0 (cn 3) (cn 4) (cn 5) hc wc sc ρ ν π σ B fa) (hS : SM τ Mk Mk j e A Rw cn ρ μ κ ω) (hF : AF Mk s0 (cn 3) (cn 4) (cn 5) ρ (cn 4) (cn 4) (cn 3) (cn 5)) (hT : (∀ i, i < k → Mk (s0 + 4 + cn 4 + cn 5) i = .int (fsF (cn 3) (cn 4) (cn 5) hc wc σ π ρ 1 i))), 4 - k < n → T l D cA n0 (XW0 sg adK adV sgA smA wdA n0 bS LS xs) (mLN nn) 2048 (bk + 2 * (4 - k)) (bn + 12 * (4 - k)) (s0 + 4 + cn 4 + cn 5 + 1) τ Mk 467 (.ref bS :: .ref tb :: .ref j :: .ref x :: .int W0 :: .int (nI t) :: .int v :: .int (nI (cn 4)) :: .int (nI (cn 3)) :: .int (nI (cn 5)) :: .ref s0 :: .ref (s0 + 1 + cn 4) :: .ref (s0 + 2 + cn 4 + cn 5) :: .ref (s0 + 3 + cn 4 + cn 5) :: .long dg :: UU :: .ref (s0 + 4 + cn 4 + cn 5) :: .int (nI k) :: y18 :: y19 :: y20 :: y21 :: y22 :: y23 :: y24 :: y25 :: y26 :: y27 :: y28 :: y29 :: y30 :: y31 :: y32 :: y33 :: []) [] (Q1L) (fun _ _ _ _ => False) := by
  intro n
  induction n with
  | zero => intros; omega
  | succ n ih =>
    intro k Mk hk hC hS hF hT hn
    unfold CnOK at hok
    refine T_iload17 dL_law_467 rfl ?_
    refine T_iconst (4) dL_law_469 rfl rfl ?_
    refine T_icmp_ge 491 473 dL_law_470 (by decide) rfl (fun c9 => ?_) (fun c9 => ?_)
    ·
      have c9 := (nI_leI (a := 4) (by omega) (by omega)).mp c9
      have hk9 : k = 4 := by omega
      subst hk9
      exact T_less (by omega) (by omega) (KK _ hC hS hF hT)
    ·
      have c9 : k < 4 := Nat.lt_of_not_le (fun q => c9 ((nI_leI (a := 4) (by omega) (by omega)).mpr q))
      refine T_aload16 dL_law_473 rfl ?_
      refine T_iload17 dL_law_475 rfl ?_
      refine T_aload3 dL_law_477 rfl ?_
      refine T_iconst (1) dL_law_478 rfl rfl ?_
      refine T_iload17 dL_law_479 rfl ?_
      refine T_less (bk1 := bk + 2 * (4 - (k + 1)) + 2) (bn1 := bn + 12 * (4 - (k + 1)) + 12) (by omega) (by omega) ?_
      refine q_foresee hX hl hC hI.2.2.2.2.2 ho c9 kL_233 (Nat.le_of_ble_eq_true rfl) (Nat.le_of_ble_eq_true rfl) dL_law_481 rfl (fun M2 hC hf2 => ?_)
      have hS := hS.fr (M1 := M2) (fun q g1 g2 => hf2 q (by omega))
      have hF := hF.fr (M' := M2) (fun q g1 g2 => hf2 q (by omega))
      have hT : (∀ i, i < k → M2 (s0 + 4 + cn 4 + cn 5) i = .int (fsF (cn 3) (cn 4) (cn 5) hc wc σ π ρ 1 i)) := fun i hi => (congrFun (hf2 (s0 + 4 + cn 4 + cn 5) (by omega)) i).trans (hT i hi)
      refine T_iast k hta rfl c9 (by decide) dL_law_484 rfl ?_
      refine T_nm (fun M3 e3 => ?_)
      have hC := hC.fr (M1 := M3) (fun q g1 g2 => by rw [e3]; exact up_a (by omega))
      have hS := hS.fr (M1 := M3) (fun q g1 g2 => by rw [e3]; exact up_a (by omega))
      have hF := hF.fr (M' := M3) (fun q g1 g2 => by rw [e3]; exact up_a (by omega))
      first | refine T_iinc17 rfl (Nat.le_of_ble_eq_true rfl) dL_law_485 rfl (inc1 _) ?_ | refine T_iinc17 rfl (Nat.le_of_ble_eq_true rfl) dL_law_485 rfl rfl ?_
      refine T_goto 467 dL_law_488 (by decide) ?_
      refine ih (k + 1) _ (by omega) hC hS hF (fun i hi => ?_) (by omega)
      rw [e3]
      by_cases z : i = k
      · subst z; rw [up_s]
      · rw [up_k z]; exact hT i (by omega)
set_option maxHeartbeats 1000000 in
theorem PE_law {l : Launch} {D : va_G} {cA : Nat → ClassId} {n0 : Nat} {sg adK adV : Nat → Nat} {sgA smA wdA bS LS : Nat} {xs : Nat → Int32} (hX : SF n0 (XW0 sg adK adV sgA smA wdA n0 bS LS xs)) {sz : Nat} {τ : TY} (hl : l.stackTraces = false) {nn : String} {x r p r2 p2 hc wc sc j e s0 tb t : Nat} {A : Nat → Nat} {Rw : Nat → Nat → Nat} {cn : Nat → Nat} {π : RH} {ν : NU} {σ : Nat → Nat} {B : Nat → Nat} {fa W0 : Int32} {κ ω : Nat → Nat → Int32} {ρ : RH} {μ : Nat → Int32} (hd : e ≤ x ∨ x + 144 ≤ j) (hlo : x + 144 ≤ s0 ∧ e ≤ s0 ∧ j < e) (hok : CnOK cn) (hI : SI (cn 3) (cn 4) (cn 5) ρ) {bk bn : Nat} {v : Int32} (ho : PlOK (cn 3) (cn 4) hc wc σ π) {M : ME} (hC : CS sg τ M x r p r2 p2 0 (cn 3) (cn 4) (cn 5) hc wc sc ρ ν π σ B fa) (hS : SM τ M M j e A Rw cn ρ μ κ ω) (hA : AFt τ s0 (cn 3) (cn 4) (cn 5)) (hF : AF M s0 (cn 3) (cn 4) (cn 5) ρ (cn 4) (cn 4) (cn 3) (cn 5)) {y15 y16 y17 y18 y19 y20 y21 y22 y23 y24 y25 y26 y27 y28 y29 y30 y31 y32 y33 : Value} (KK : ∀ (τ : TY) (M1 : ME) (g0 ar b21 b22 : Int32) (dg : Int64) (h0 : Nat), AFt τ s0 (cn 3) (cn 4) (cn 5) → τ (s0 + 4 + cn 4 + cn 5) = (100, 4) → CS sg τ M1 x r p r2 p2 0 (cn 3) (cn 4) (cn 5) hc wc sc ρ ν π σ B fa → SM τ M1 M1 j e A Rw cn ρ μ κ ω → AF M1 s0 (cn 3) (cn 4) (cn 5) ρ (cn 4) (cn 4) (cn 3) (cn 5) → (∀ i, i < 4 → M1 (s0 + 4 + cn 4 + cn 5) i = .int (fsF (cn 3) (cn 4) (cn 5) hc wc σ π ρ 1 i)) → (g0 = -1 ∨ ∃ g, g < cn 5 ∧ g0 = nI g) → ((g0 < 0 → ar = -1) ∧ ∀ g, g < cn 5 → g0 = nI g → ar = arG (cn 3) (cn 4) (cn 5) hc wc σ π ρ g 0 201) → h0 < cn 4 → T l D cA n0 (XW0 sg adK adV sgA smA wdA n0 bS LS xs) (mLN nn) 2048 bk bn (s0 + 4 + cn 4 + cn 5 + 1) τ M1 659 (.ref bS :: .ref tb :: .ref j :: .ref x :: .int W0 :: .int (nI t) :: .int v :: .int (nI (cn 4)) :: .int (nI (cn 3)) :: .int (nI (cn 5)) :: .ref s0 :: .ref (s0 + 1 + cn 4) :: .ref (s0 + 2 + cn 4 + cn 5) :: .ref (s0 + 3 + cn 4 + cn 5) :: .long dg :: UU :: .ref (s0 + 4 + cn 4 + cn 5) :: .int g0 :: .int ar :: .int (nI h0) :: .int (brG (cn 3) (cn 4) (cn 5) hc wc σ π ρ h0 1 200) :: .int b21 :: .int b22 :: y23 :: y24 :: y25 :: y26 :: y27 :: y28 :: y29 :: y30 :: y31 :: y32 :: y33 :: []) [] Q1L (fun _ _ _ _ => False)) : T l D cA n0 (XW0 sg adK adV sgA smA wdA n0 bS LS xs) (mLN nn) 2048 (bk + 40) (bn + 240) (s0 + 4 + cn 4 + cn 5) τ M 453 (.ref bS :: .ref tb :: .ref j :: .ref x :: .int W0 :: .int (nI t) :: .int v :: .int (nI (cn 4)) :: .int (nI (cn 3)) :: .int (nI (cn 5)) :: .ref s0 :: .ref (s0 + 1 + cn 4) :: .ref (s0 + 2 + cn 4 + cn 5) :: .ref (s0 + 3 + cn 4 + cn 5) :: .int (nI (cn 5)) :: y15 :: y16 :: y17 :: y18 :: y19 :: y20 :: y21 :: y22 :: y23 :: y24 :: y25 :: y26 :: y27 :: y28 :: y29 :: y30 :: y31 :: y32 :: y33 :: []) [] Q1L (fun _ _ _ _ => False) := by
  unfold CnOK at hok
  refine T_aload3 dL_law_453 rfl ?_
  refine T_less (bk1 := bk + 27 + 13) (bn1 := bn + 162 + 78) (by omega) (by omega) ?_
  refine q_digest hX hl hC hI.2.2.2.2.2 kL_229 (Nat.le_of_ble_eq_true rfl) (Nat.le_of_ble_eq_true rfl) dL_law_454 rfl ?_
  generalize hdg : dgW (cn 3) (cn 4) (cn 5) 0 ρ = dg
  refine T_lstore14 rfl (Nat.le_of_ble_eq_true rfl) dL_law_457 rfl ?_
  refine T_iconst (4) dL_law_459 rfl rfl ?_
  refine T_less (bk1 := bk + 26 + 1) (bn1 := bn + 158 + 4) (by omega) (by omega) ?_
  refine T_newa (atype := .int) (N := 4) 0 (fun _ => .int 0) ka_int (by decide) rfl rfl (by decide) rfl dL_law_460 rfl ?_
  refine T_nt (fun τ1 eτ => ?_)
  refine T_nm (fun M1 e1 => ?_)
  have hta : τ1 (s0 + 4 + cn 4 + cn 5) = (100, 4) := by rw [eτ]; exact tyN_s _ _ _
  have hTq : ∀ q, q < (s0 + 4 + cn 4 + cn 5) → τ1 q = τ q := fun q hq => by rw [eτ]; exact tyN_n (by omega)
  have hMq : ∀ q, q < (s0 + 4 + cn 4 + cn 5) → M1 q = M q := fun q hq => by rw [e1]; exact meN_n (by omega)
  have hA := hA.fr (fun q g1 g2 => hTq q (by omega))
  have hC := (hC.tau (τ' := τ1) (fun q g1 g2 => hTq q (by omega))).fr (fun q g1 g2 => hMq q (by omega))
  have hS := (hS.tau (τ' := τ1) (fun q g1 g2 => hTq q (by omega))).fr (fun q g1 g2 => hMq q (by omega))
  have hF := hF.fr (M' := M1) (fun q g1 g2 => hMq q (by omega))
  refine T_astore16 rfl (Nat.le_of_ble_eq_true rfl) dL_law_462 rfl ?_
  refine T_iconst (0) dL_law_464 rfl rfl ?_
  refine T_istore17 rfl (Nat.le_of_ble_eq_true rfl) dL_law_465 rfl ?_
  refine T_less (bk1 := bk + 18 + 2 * (4 - 0)) (bn1 := bn + 110 + 12 * (4 - 0)) (by omega) (by omega) ?_
  refine IE1_law hX hl hd hlo hok hI ho hta (fun M3 hC hS hF hT => ?_) 5 0 M1 (by decide) hC hS hF (fun i hi => absurd hi (Nat.not_lt_zero _)) (by decide)
  refine T_jI 509 (bk2 := bk + 18) (bn2 := bn + 110) (fun y => y = -1 ∨ ∃ g, g < cn 5 ∧ y = nI g) (fun hJ => ?_) (fun x509 hx509 => ?_)
  ·
    refine T_iload9 dL_law_491 rfl ?_
    refine T_if_ne 500 496 dL_law_493 (by decide) rfl (fun c493 => ?_) (fun c493 => ?_)
    ·
      have h1 : 1 ≤ cn 5 := Nat.pos_of_ne_zero (fun z => c493 (by rw [z]; rfl))
      refine T_iload6 dL_law_500 rfl ?_
      refine T_iconst (3) dL_law_502 rfl rfl ?_
      refine T_ishr dL_law_503 rfl ?_
      refine T_iload9 dL_law_504 rfl ?_
      refine T_cS2 (mc' := 0) (ms' := 0) (c_L_below hX _ (n := cn 5) (by omega)) hX kL_120 (Nat.le_of_ble_eq_true rfl) (Nat.le_of_ble_eq_true rfl) dL_law_506 rfl ?_
      rintro _ szq τq Mq ⟨rfl, ea, eb, ec⟩
      obtain rfl := ea.symm
      obtain rfl := eb.symm
      obtain rfl := ec.symm
      refine T_less (bk1 := bk + 18) (bn1 := bn + 110) (by omega) (by omega) ?_
      refine hJ _ ?_
      first | exact Or.inl rfl | exact Or.inr ⟨_, bl_lt h1, rfl⟩
    ·
      refine T_iconst (-1) dL_law_496 rfl rfl ?_
      refine T_goto 509 dL_law_497 (by decide) ?_
      refine T_less (bk1 := bk + 18) (bn1 := bn + 110) (by omega) (by omega) ?_
      refine hJ _ ?_
      first | exact Or.inl rfl | exact Or.inr ⟨_, bl_lt h1, rfl⟩
  ·
    refine T_istore17 rfl (Nat.le_of_ble_eq_true rfl) dL_law_509 rfl ?_
    refine T_jIM 526 (bk2 := bk + 17) (bn2 := bn + 104) (fun y9 M9 => (CS sg τ1 M9 x r p r2 p2 0 (cn 3) (cn 4) (cn 5) hc wc sc ρ ν π σ B fa ∧ SM τ1 M9 M9 j e A Rw cn ρ μ κ ω ∧ AF M9 s0 (cn 3) (cn 4) (cn 5) ρ (cn 4) (cn 4) (cn 3) (cn 5) ∧ (∀ i, i < 4 → M9 (s0 + 4 + cn 4 + cn 5) i = .int (fsF (cn 3) (cn 4) (cn 5) hc wc σ π ρ 1 i))) ∧ ((x509 < 0 → y9 = -1) ∧ ∀ g, g < cn 5 → x509 = nI g → y9 = arG (cn 3) (cn 4) (cn 5) hc wc σ π ρ g 0 201)) (fun hJ => ?_) (fun x526 M526 hx526 => ?_)
    ·
      refine T_iload17 dL_law_511 rfl ?_
      refine T_if_ge 520 516 dL_law_513 (by decide) rfl (fun c513 => ?_) (fun c513 => ?_)
      ·
        obtain ⟨g, hg, hg2⟩ := hx509.resolve_left (fun z => by rw [z] at c513; exact absurd c513 (by decide))
        subst hg2
        refine T_aload3 dL_law_520 rfl ?_
        refine T_iload17 dL_law_521 rfl ?_
        refine T_less (bk1 := bk + 17 + 1) (bn1 := bn + 104 + 6) (by omega) (by omega) ?_
        refine q_arrives hX hl hC hI.2.2.2.2.2 ho hg kL_236 (Nat.le_of_ble_eq_true rfl) (Nat.le_of_ble_eq_true rfl) dL_law_523 rfl (fun M4 hC hf4 => ?_)
        have hS := hS.fr (M1 := M4) (fun q g1 g2 => hf4 q (by omega))
        have hF := hF.fr (M' := M4) (fun q g1 g2 => hf4 q (by omega))
        have hT : (∀ i, i < 4 → M4 (s0 + 4 + cn 4 + cn 5) i = .int (fsF (cn 3) (cn 4) (cn 5) hc wc σ π ρ 1 i)) := fun i hi => (congrFun (hf4 (s0 + 4 + cn 4 + cn 5) (by omega)) i).trans (hT i hi)
        refine T_less (bk1 := bk + 17) (bn1 := bn + 104) (by omega) (by omega) ?_
        first
          | (have q9 := hf4; exact hJ _ _ ⟨⟨hC, hS, hF, hT⟩, fun z => absurd z (nI_nneg (by omega)), fun g9 hg9 z => by rw [(nI_eq (a := g) (b := g9) (by omega) (by omega)).mp z]⟩)
          | exact hJ _ _ ⟨⟨hC, hS, hF, hT⟩, fun _ => rfl, fun g9 hg9 z => absurd (by rw [z]; exact nI_pos2 (by omega)) c513⟩
      ·
        refine T_iconst (-1) dL_law_516 rfl rfl ?_
        refine T_goto 526 dL_law_517 (by decide) ?_
        refine T_less (bk1 := bk + 17) (bn1 := bn + 104) (by omega) (by omega) ?_
        first
          | (have q9 := hf4; exact hJ _ _ ⟨⟨hC, hS, hF, hT⟩, fun z => absurd z (nI_nneg (by omega)), fun g9 hg9 z => by rw [(nI_eq (a := g) (b := g9) (by omega) (by omega)).mp z]⟩)
          | exact hJ _ _ ⟨⟨hC, hS, hF, hT⟩, fun _ => rfl, fun g9 hg9 z => absurd (by rw [z]; exact nI_pos2 (by omega)) c513⟩
    ·
      obtain ⟨⟨hC, hS, hF, hT⟩, hx526⟩ := hx526
      refine T_istore18 rfl (Nat.le_of_ble_eq_true rfl) dL_law_526 rfl ?_
      refine T_iload6 dL_law_528 rfl ?_
      refine T_iconst (5) dL_law_530 rfl rfl ?_
      refine T_ishr dL_law_531 rfl ?_
      refine T_iload7 dL_law_532 rfl ?_
      refine T_cS2 (mc' := 0) (ms' := 0) (c_L_below hX _ (n := cn 4) (by omega)) hX kL_120 (Nat.le_of_ble_eq_true rfl) (Nat.le_of_ble_eq_true rfl) dL_law_534 rfl ?_
      rintro _ szq τq Mq ⟨rfl, ea, eb, ec⟩
      obtain rfl := ea.symm
      obtain rfl := eb.symm
      obtain rfl := ec.symm
      obtain ⟨h0, eh0⟩ : ∃ h0, h0 = blF (v >>> (5 &&& 31)) (cn 4) := ⟨_, rfl⟩
      have hh0 : h0 < cn 4 := by rw [eh0]; exact bl_lt (by omega)
      rw [← eh0]
      refine T_istore19 rfl (Nat.le_of_ble_eq_true rfl) dL_law_537 rfl ?_
      refine T_aload3 dL_law_539 rfl ?_
      refine T_iload19 dL_law_540 rfl ?_
      refine T_less (bk1 := bk + 16 + 1) (bn1 := bn + 98 + 6) (by omega) (by omega) ?_
      refine q_breaks hX hl hC hI.2.2.2.2.2 ho hh0 kL_239 (Nat.le_of_ble_eq_true rfl) (Nat.le_of_ble_eq_true rfl) dL_law_542 rfl (fun M5 hC hf5 => ?_)
      have hS := hS.fr (M1 := M5) (fun q g1 g2 => hf5 q (by omega))
      have hF := hF.fr (M' := M5) (fun q g1 g2 => hf5 q (by omega))
      have hT : (∀ i, i < 4 → M5 (s0 + 4 + cn 4 + cn 5) i = .int (fsF (cn 3) (cn 4) (cn 5) hc wc σ π ρ 1 i)) := fun i hi => (congrFun (hf5 (s0 + 4 + cn 4 + cn 5) (by omega)) i).trans (hT i hi)
      refine T_istore20 rfl (Nat.le_of_ble_eq_true rfl) dL_law_545 rfl ?_
      refine T_jIM 565 (bk2 := bk + 15) (bn2 := bn + 92) (fun y9 M9 => (CS sg τ1 M9 x r p r2 p2 0 (cn 3) (cn 4) (cn 5) hc wc sc ρ ν π σ B fa ∧ SM τ1 M9 M9 j e A Rw cn ρ μ κ ω ∧ AF M9 s0 (cn 3) (cn 4) (cn 5) ρ (cn 4) (cn 4) (cn 3) (cn 5) ∧ (∀ i, i < 4 → M9 (s0 + 4 + cn 4 + cn 5) i = .int (fsF (cn 3) (cn 4) (cn 5) hc wc σ π ρ 1 i))) ∧ -3 ≤ y9 ∧ y9 ≤ 3) (fun hJ => ?_) (fun x565 M565 hx565 => ?_)
      ·
        refine T_iload5 dL_law_547 rfl ?_
        refine T_bipush (15) dL_law_549 rfl rfl ?_
        refine T_irem dL_law_551 rfl (by decide) ?_
        refine T_if_ne 564 555 dL_law_552 (by decide) rfl (fun c552 => ?_) (fun c552 => ?_)
        ·
          refine T_iconst (0) dL_law_564 rfl rfl ?_
          refine T_less (bk1 := bk + 15) (bn1 := bn + 92) (by omega) (by omega) ?_
          first
            | (have q9 := hf6; exact hJ _ _ ⟨⟨hC, hS, hF, hT⟩, ad_r 12 7 (Nat.le_refl _)⟩)
            | exact hJ _ _ ⟨⟨hC, hS, hF, hT⟩, by decide⟩
        ·
          refine T_aload3 dL_law_555 rfl ?_
          refine T_bipush (12) dL_law_556 rfl rfl ?_
          refine T_less (bk1 := bk + 15 + 1) (bn1 := bn + 92 + 6) (by omega) (by omega) ?_
          refine q_advise hX hl hC hI.2.2.2.2.2 ho  kL_242 (Nat.le_of_ble_eq_true rfl) (Nat.le_of_ble_eq_true rfl) dL_law_558 rfl (fun M6 hC hf6 => ?_)
          have hS := hS.fr (M1 := M6) (fun q g1 g2 => hf6 q (by omega))
          have hF := hF.fr (M' := M6) (fun q g1 g2 => hf6 q (by omega))
          have hT : (∀ i, i < 4 → M6 (s0 + 4 + cn 4 + cn 5) i = .int (fsF (cn 3) (cn 4) (cn 5) hc wc σ π ρ 1 i)) := fun i hi => (congrFun (hf6 (s0 + 4 + cn 4 + cn 5) (by omega)) i).trans (hT i hi)
          refine T_goto 565 dL_law_561 (by decide) ?_
          refine T_less (bk1 := bk + 15) (bn1 := bn + 92) (by omega) (by omega) ?_
          first
            | (have q9 := hf6; exact hJ _ _ ⟨⟨hC, hS, hF, hT⟩, ad_r 12 7 (Nat.le_refl _)⟩)
            | exact hJ _ _ ⟨⟨hC, hS, hF, hT⟩, by decide⟩
      ·
        obtain ⟨⟨hC, hS, hF, hT⟩, hx565⟩ := hx565
        refine T_istore21 rfl (Nat.le_of_ble_eq_true rfl) dL_law_565 rfl ?_
        refine T_jIM 586 (bk2 := bk + 14) (bn2 := bn + 86) (fun y9 M9 => (CS sg τ1 M9 x r p r2 p2 0 (cn 3) (cn 4) (cn 5) hc wc sc ρ ν π σ B fa ∧ SM τ1 M9 M9 j e A Rw cn ρ μ κ ω ∧ AF M9 s0 (cn 3) (cn 4) (cn 5) ρ (cn 4) (cn 4) (cn 3) (cn 5) ∧ (∀ i, i < 4 → M9 (s0 + 4 + cn 4 + cn 5) i = .int (fsF (cn 3) (cn 4) (cn 5) hc wc σ π ρ 1 i))) ∧ y9 < nI (cn 4)) (fun hJ => ?_) (fun x586 M586 hx586 => ?_)
        ·
          refine T_iload5 dL_law_567 rfl ?_
          refine T_bipush (15) dL_law_569 rfl rfl ?_
          refine T_irem dL_law_571 rfl (by decide) ?_
          refine T_iconst (5) dL_law_572 rfl rfl ?_
          refine T_icmp_ne 585 576 dL_law_573 (by decide) rfl (fun c573 => ?_) (fun c573 => ?_)
          ·
            refine T_iconst (-1) dL_law_585 rfl rfl ?_
            refine T_less (bk1 := bk + 14) (bn1 := bn + 86) (by omega) (by omega) ?_
            first
              | (have q9 := hf7; exact hJ _ _ ⟨⟨hC, hS, hF, hT⟩, ch_r 24 _ (by omega) (Nat.le_refl _) (by omega)⟩)
              | exact hJ _ _ ⟨⟨hC, hS, hF, hT⟩, Int32.lt_of_lt_of_le (by decide) (nI_pos2 (by omega))⟩
          ·
            refine T_aload3 dL_law_576 rfl ?_
            refine T_bipush (24) dL_law_577 rfl rfl ?_
            refine T_less (bk1 := bk + 14 + 1) (bn1 := bn + 86 + 6) (by omega) (by omega) ?_
            refine q_choose hX hl hC hI.2.2.2.2.2 ho  kL_245 (Nat.le_of_ble_eq_true rfl) (Nat.le_of_ble_eq_true rfl) dL_law_579 rfl (fun M7 hC hf7 => ?_)
            have hS := hS.fr (M1 := M7) (fun q g1 g2 => hf7 q (by omega))
            have hF := hF.fr (M' := M7) (fun q g1 g2 => hf7 q (by omega))
            have hT : (∀ i, i < 4 → M7 (s0 + 4 + cn 4 + cn 5) i = .int (fsF (cn 3) (cn 4) (cn 5) hc wc σ π ρ 1 i)) := fun i hi => (congrFun (hf7 (s0 + 4 + cn 4 + cn 5) (by omega)) i).trans (hT i hi)
            refine T_goto 586 dL_law_582 (by decide) ?_
            refine T_less (bk1 := bk + 14) (bn1 := bn + 86) (by omega) (by omega) ?_
            first
              | (have q9 := hf7; exact hJ _ _ ⟨⟨hC, hS, hF, hT⟩, ch_r 24 _ (by omega) (Nat.le_refl _) (by omega)⟩)
              | exact hJ _ _ ⟨⟨hC, hS, hF, hT⟩, Int32.lt_of_lt_of_le (by decide) (nI_pos2 (by omega))⟩
        ·
          obtain ⟨⟨hC, hS, hF, hT⟩, hx586⟩ := hx586
          refine T_istore22 rfl (Nat.le_of_ble_eq_true rfl) dL_law_586 rfl ?_
          refine T_aload3 dL_law_588 rfl ?_
          refine T_less (bk1 := bk + 1 + 13) (bn1 := bn + 8 + 78) (by omega) (by omega) ?_
          refine q_digest hX hl hC hI.2.2.2.2.2 kL_229 (Nat.le_of_ble_eq_true rfl) (Nat.le_of_ble_eq_true rfl) dL_law_589 rfl ?_
          rw [hdg]
          refine T_lload14 dL_law_592 rfl ?_
          refine T_lcmp dL_law_594 rfl ?_
          refine T_if_ne_f 657 598 dL_law_595 (by decide) rfl (lg_self _) ?_
          refine T_iload21 dL_law_598 rfl ?_
          refine T_bipush (-3) dL_law_600 rfl rfl ?_
          refine T_icmp_lt_f 657 605 dL_law_602 (by decide) rfl (Int32.not_lt.mpr hx565.1) ?_
          refine T_iload21 dL_law_605 rfl ?_
          refine T_iconst (3) dL_law_607 rfl rfl ?_
          refine T_icmp_gt_f 657 611 dL_law_608 (by decide) rfl (Int32.not_lt.mpr hx565.2) ?_
          refine T_iload22 dL_law_611 rfl ?_
          refine T_iload7 dL_law_613 rfl ?_
          refine T_icmp_ge_f 657 618 dL_law_615 (by decide) rfl (Int32.not_le.mpr hx586) ?_
          refine T_iload20 dL_law_618 rfl ?_
          refine T_if_eq_f 657 623 dL_law_620 (by decide) rfl br_n0 ?_
          refine T_jN 659 (bk2 := bk + 1) (bn2 := bn + 8) (fun hJ => ?_) ?_
          ·
            refine T_iload17 dL_law_623 rfl ?_
            refine T_if_lt 659 628 dL_law_625 (by decide) rfl (fun c625 => ?_) (fun c625 => ?_)
            ·
              refine T_less (bk1 := bk + 1) (bn1 := bn + 8) (by omega) (by omega) ?_
              exact hJ
            ·
              obtain ⟨g, hg, hg2⟩ := hx509.resolve_left (fun z => by rw [z] at c625; exact absurd c625 (by decide))
              subst hg2
              have hAR := hx526.2 g hg rfl
              refine T_jI 638 (bk2 := bk + 1) (bn2 := bn + 8) (fun y => y = if ρ 32 g = 3 then 1 else 0) (fun hJ => ?_) (fun x638 hx638 => ?_)
              ·
                refine T_iload18 dL_law_628 rfl ?_
                refine T_if_ne 637 633 dL_law_630 (by decide) rfl (fun c630 => ?_) (fun c630 => ?_)
                ·
                  refine T_iconst (0) dL_law_637 rfl rfl ?_
                  refine T_less (bk1 := bk + 1) (bn1 := bn + 8) (by omega) (by omega) ?_
                  refine hJ _ ?_
                  first | exact (if_pos (ar_0.mp (hAR.symm.trans c630))).symm | exact (if_neg (fun z => c630 (hAR.trans (ar_0.mpr z)))).symm
                ·
                  refine T_iconst (1) dL_law_633 rfl rfl ?_
                  refine T_goto 638 dL_law_634 (by decide) ?_
                  refine T_less (bk1 := bk + 1) (bn1 := bn + 8) (by omega) (by omega) ?_
                  refine hJ _ ?_
                  first | exact (if_pos (ar_0.mp (hAR.symm.trans c630))).symm | exact (if_neg (fun z => c630 (hAR.trans (ar_0.mpr z)))).symm
              ·
                refine T_jI 654 (bk2 := bk + 1) (bn2 := bn + 8) (fun y => y = if ρ 32 g = 3 then 1 else 0) (fun hJ => ?_) (fun x654 hx654 => ?_)
                ·
                  refine T_aload11 dL_law_638 rfl ?_
                  refine T_iload17 dL_law_640 rfl ?_
                  refine T_aaldA g hA.2.2.1 rfl hg (by omega) dL_law_642 rfl (hF.pg hg) ?_
                  refine T_iconst (1) dL_law_643 rfl rfl ?_
                  refine T_iald 1 (hA.2.2.2.1 g hg) rfl (by decide) (by decide) dL_law_644 rfl (show _ = Value.int (ρ 32 g) from hF.vg hg (k := 1) (by decide)) ?_
                  refine T_iconst (3) dL_law_645 rfl rfl ?_
                  refine T_icmp_ne 653 649 dL_law_646 (by decide) rfl (fun c646 => ?_) (fun c646 => ?_)
                  ·
                    refine T_iconst (0) dL_law_653 rfl rfl ?_
                    refine T_less (bk1 := bk + 1) (bn1 := bn + 8) (by omega) (by omega) ?_
                    refine hJ _ ?_
                    first | exact (if_pos c646).symm | exact (if_neg c646).symm
                  ·
                    refine T_iconst (1) dL_law_649 rfl rfl ?_
                    refine T_goto 654 dL_law_650 (by decide) ?_
                    refine T_less (bk1 := bk + 1) (bn1 := bn + 8) (by omega) (by omega) ?_
                    refine hJ _ ?_
                    first | exact (if_pos c646).symm | exact (if_neg c646).symm
                ·
                  refine T_icmp_eq_t 659 dL_law_654 (by decide) (hx638.trans hx654.symm) ?_
                  refine T_less (bk1 := bk + 1) (bn1 := bn + 8) (by omega) (by omega) ?_
                  exact hJ
          ·
            exact T_less (by omega) (by omega) (KK _ _ _ _ _ _ _ _ hA hta hC hS hF hT hx509 hx526 hh0)
