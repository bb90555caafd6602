def wk (k : Nat) : Int32 := nI k + -3
theorem wk_3 : ∀ k, k < 8 → (3 < wk k ↔ k = 7) := by decide
theorem wk_1 : ∀ k, k < 8 → wk k + Int32.ofInt 1 = wk (k + 1) := by decide
theorem sm_nn {f : Nat → Int32} {n : Nat} (h : ∀ l, l < n → ∃ j, j ≤ 60 ∧ f l = nI j) : ∃ j, j ≤ 60 * n ∧ sm f n = nI j := by
  induction n with
  | zero => exact ⟨0, by omega, rfl⟩
  | succ n ih =>
    obtain ⟨j, hj, e⟩ := ih (fun l hl => h l (by omega))
    obtain ⟨i, hi, e2⟩ := h n (by omega)
    exact ⟨j + i, by omega, by rw [sm, e, e2, nI_add]⟩
theorem wOf_nn {a b c : Nat} {ρ : RH} {st : Int32} (h : RI a b c ρ) (hc : c ≤ 20) : 0 ≤ wOf c ρ st := by
  have h2 : ∃ j, j ≤ 60 * c ∧ wOf c ρ st = nI j := sm_nn (fun l hl => by
    by_cases e : ρ 32 l = st
    · rw [if_pos e]
      have := h.2 l hl
      exact nI_of2 (M := 60) (n := 60) (by decide) (Int32.not_lt.mpr (Int32.le_trans (by decide) this.1)) this.2
    · rw [if_neg e]; exact ⟨0, by omega, rfl⟩)
  obtain ⟨j, hj, e⟩ := h2
  rw [e]; exact nI_pos2 (by omega)
def adI (a b c hc wc : Nat) (σ : Nat → Nat) (π ρ : RH) (hs k : Nat) : Int32 := wOf c (gbC a b c hc wc σ π (u2 ρ 7 0 (wk k)) hs) 3
def adS (a b c hc wc : Nat) (σ : Nat → Nat) (π ρ : RH) (hs : Nat) : Nat → Int32 × Int32
  | 0 => (-3, -1)
  | k + 1 => if (adS a b c hc wc σ π ρ hs k).2 < adI a b c hc wc σ π ρ hs k then (wk k, adI a b c hc wc σ π ρ hs k) else adS a b c hc wc σ π ρ hs k
def chI (a b c hc wc : Nat) (σ : Nat → Nat) (π ρ : RH) (hs h : Nat) : Int32 := wOf c (gbC a b c hc wc σ π (u2 ρ 13 h (ρ 13 h + 10)) hs) 3
def chS (a b c hc wc : Nat) (σ : Nat → Nat) (π ρ : RH) (hs : Nat) : Nat → Int32 × Int32
  | 0 => (-1, wOf c (gbC a b c hc wc σ π ρ hs) 3)
  | k + 1 => if (chS a b c hc wc σ π ρ hs k).2 < chI a b c hc wc σ π ρ hs k then (nI k, chI a b c hc wc σ π ρ hs k) else chS a b c hc wc σ π ρ hs k
theorem adS_1 {a b c hc wc hs : Nat} {σ : Nat → Nat} {π ρ : RH} (hi : RI a b c ρ) (ha : a ≤ 8) (hc2 : c ≤ 20) : (-1 : Int32) < adI a b c hc wc σ π ρ hs 0 := Int32.lt_of_lt_of_le (by decide : (-1 : Int32) < 0) (wOf_nn (((hi.u (by decide)).gb ha hs)) hc2)
set_option maxHeartbeats 1000000 in
theorem L_X13_advise {l : Launch} {D : va_G} {cA : Nat → ClassId} {n0 : Nat} {sg adK adV : Nat → Nat} {sgA smA wdA bS LS : Nat} {xs : Nat → Int32} (hX : SF n0 (XW0 sg adK adV sgA smA wdA n0 bS LS xs)) {sz : Nat} {τ : TY} {M : ME} {m y z n8 tk dp a b c hc wc sn : Nat} {B : Nat → Nat} {ω ρ π : RH} {σ : Nat → Nat} {μ κ : Nat → Int32} (hL : y = m + 7 ∨ m + 54 ≤ y) (ho : PmOK a b c hc wc sn σ π) (hi : RI a b c ρ) {hs : Nat} (hs1 : hs ≤ 80) : ∀ (n : Nat) (k : Nat) (p q : Int32) (u : Value) (N1 N2 N3 Mk : ME) (ρ2 : RH) (μ2 κ2 : Nat → Int32) (hk : k ≤ 7) (hq : q = (adS a b c hc wc σ π ρ hs k).2) (hp : 0 < k → p = (adS a b c hc wc σ π ρ hs k).1) (hM : MV τ N1 Mk m y z (m + 26) (m + 40) n8 tk dp B (u2 ω 90 0 0)) (hS : SL τ N2 Mk (m + 26) a b c ρ m μ κ) (hA : SL τ N3 Mk (m + 40) a b c (ρ2) m μ2 κ2) (hW : WN τ Mk m y (m + 26) a b c hc wc sn ρ π σ) (hU : WN τ Mk m y (m + 40) a b c hc wc sn ρ π σ) (hF : ∀ q, q < m ∨ (m < q ∧ q < m + 26) ∨ m + 54 ≤ q → Mk q = M q), 7 - k < n → T l D cA n0 (XW0 sg adK adV sgA smA wdA n0 bS LS xs) mX13_advise 10 0 0 sz τ Mk 29 [.ref m, .int (nI hs), .int p, .int q, .int (wk k), u] [] (fun v' sz' τ' M' => v' = some (.int ((adS a b c hc wc σ π ρ hs 7).1)) ∧ SA τ M m sz sz' τ' M' y z n8 tk dp B ω a b c ρ) (fun _ _ _ _ => False) := by
  intro n
  induction n with
  | zero => intros; omega
  | succ n ih =>
    intro k p q u N1 N2 N3 Mk ρ2 μ2 κ2 hk hq hp hM hS hA hW hU hF hn
    obtain ⟨l3, l4, l5, l6, l7, l8⟩ := hW.ok
    refine T_iload4 dX13_advise_29 rfl ?_
    refine T_iconst (3) dX13_advise_31 rfl rfl ?_
    refine T_icmp_gt 95 35 dX13_advise_32 (by decide) rfl (fun c32 => ?_) (fun c32 => ?_)
    ·
      have c32 := (wk_3 k (by omega)).mp c32
      subst c32
      refine T_iload2 dX13_advise_95 rfl ?_
      refine T_iret rfl rfl dX13_advise_96 ?_
      rw [hp (by omega)]
      exact ⟨rfl, rfl, rfl, hF, hM.rf, ⟨_, _, hS.rf⟩, _, _, _, hA.rf⟩
    ·
      have c32 : k ≠ 7 := fun e => c32 ((wk_3 k (by omega)).mpr e)
      refine T_aload0 dX13_advise_35 rfl ?_
      refine g13_51 _ rfl (hM.t_m) (hM.g_s2) dX13_advise_36 rfl ?_
      refine T_aload0 dX13_advise_39 rfl ?_
      refine g13_47 _ rfl (hM.t_m) (hM.g_s1) dX13_advise_40 rfl ?_
      refine T_cV1 (c_X12_become hX hA.rf hS (by omega)) hX k13_371 (by first | exact Or.inl ⟨_, _, _, _, (hS.t_s), by decide, rfl⟩ | exact Or.inl ⟨_, _, _, _, (hA.t_s), by decide, rfl⟩) (by decide) (Nat.le_of_ble_eq_true rfl) dX13_advise_43 rfl ?_
      rintro _ _ _ M8 ⟨rfl, rfl, rfl, hN⟩
      have hU := hU.nx hN.frame
      have hW := hW.re (by exact (congrFun (hN.frame m (by omega)) 11).trans hW.g_pl) (fun q g1 g2 => hN.frame q (by omega)) (KS.rf ρ)
      have hM := hM.nx hN.frame (by omega)
      have hS := hS.nx hN.frame (by omega)
      have hF : ∀ q, q < m ∨ (m < q ∧ q < m + 26) ∨ m + 54 ≤ q → M8 q = M q := fun q hq => (hN.frame q (by omega)).trans (hF q hq)
      have hA := hN.rf
      refine T_aload0 dX13_advise_46 rfl ?_
      refine g13_51 _ rfl (hM.t_m) (hM.g_s2) dX13_advise_47 rfl ?_
      refine T_iload4 dX13_advise_50 rfl ?_
      first | refine p13_304 rfl (hS.t_s) dX13_advise_52 rfl ?_ | refine p13_304 rfl (hA.t_s) dX13_advise_52 rfl ?_
      refine T_nm (fun M1 e1 => ?_)
      have hM := hM.frU e1 (by omega)
      have hS := hS.frU e1 (by omega)
      have hA := SL.mv hA.p_weat e1
      have hW := hW.frV e1 (by omega)
      have hU := hU.frV e1 (by omega)
      have hF : ∀ q, q < m ∨ (m < q ∧ q < m + 26) ∨ m + 54 ≤ q → M1 q = M q := fun q hq => (by rw [e1]; exact (up_a (by omega)).trans (hF q hq))
      refine T_aload0 dX13_advise_55 rfl ?_
      refine g13_51 _ rfl (hM.t_m) (hM.g_s2) dX13_advise_56 rfl ?_
      refine T_iload1 dX13_advise_59 rfl ?_
      refine T_cV1 (c_X12_pass_ hX (ρ := u2 ρ 7 0 (wk k)) ho (hi.u (by decide)) hA.rf (hU.ks ((KS.rf ρ).u (by decide))) (hs := hs) (by omega)) hX k13_368 (by first | exact Or.inl ⟨_, _, _, _, (hS.t_s), by decide, rfl⟩ | exact Or.inl ⟨_, _, _, _, (hA.t_s), by decide, rfl⟩) (by decide) (Nat.le_of_ble_eq_true rfl) dX13_advise_60 rfl ?_
      rintro _ _ _ M8 ⟨rfl, rfl, rfl, μ9, κ9, hN⟩
      have hU := hU.nx hN.frame
      have hW := hW.re (by exact (congrFun (hN.frame m (by omega)) 11).trans hW.g_pl) (fun q g1 g2 => hN.frame q (by omega)) (KS.rf ρ)
      have hM := hM.nx hN.frame (by omega)
      have hS := hS.nx hN.frame (by omega)
      have hF : ∀ q, q < m ∨ (m < q ∧ q < m + 26) ∨ m + 54 ≤ q → M8 q = M q := fun q hq => (hN.frame q (by omega)).trans (hF q hq)
      have hA := hN.rf
      refine T_aload0 dX13_advise_63 rfl ?_
      refine g13_51 _ rfl (hM.t_m) (hM.g_s2) dX13_advise_64 rfl ?_
      refine T_iconst (3) dX13_advise_67 rfl rfl ?_
      refine T_iconst (-1) dX13_advise_68 rfl rfl ?_
      refine T_cV2 (c_X12_weights hX (ρ := gbC a b c hc wc σ π (u2 ρ 7 0 (wk k)) hs) hA (hU.ks (((KS.rf ρ).u (by decide)).gb hs)) _ _) hX k13_307 (by first | exact Or.inl ⟨_, _, _, _, (hS.t_s), by decide, rfl⟩ | exact Or.inl ⟨_, _, _, _, (hA.t_s), by decide, rfl⟩) (by decide) (Nat.le_of_ble_eq_true rfl) dX13_advise_69 rfl ?_
      rintro _ _ _ _ ⟨rfl, rfl, rfl, rfl⟩
      rw [show wbF c (gbC a b c hc wc σ π (u2 ρ 7 0 (wk k)) hs) 3 (-1) = adI a b c hc wc σ π ρ hs k from wb_all]
      refine T_istore5 rfl (by decide) dX13_advise_72 rfl ?_
      refine T_iload5 dX13_advise_74 rfl ?_
      refine T_iload3 dX13_advise_76 rfl ?_
      refine T_icmp_gt 83 80 dX13_advise_77 (by decide) rfl (fun c77 => ?_) (fun c77 => ?_)
      ·
        refine T_iload5 dX13_advise_83 rfl ?_
        refine T_istore3 rfl (by decide) dX13_advise_85 rfl ?_
        refine T_iload4 dX13_advise_86 rfl ?_
        refine T_istore2 rfl (by decide) dX13_advise_88 rfl ?_
        refine T_iinc4 rfl (by decide) dX13_advise_89 rfl (wk_1 k (by omega)) ?_
        refine T_goto 29 dX13_advise_92 (by decide) ?_
        first
          | (have e : adS a b c hc wc σ π ρ hs (k + 1) = (wk k, adI a b c hc wc σ π ρ hs k) := if_pos (by rw [← hq]; exact c77)
             exact ih (k + 1) _ _ _ _ _ _ _ _ _ _ (by omega) (by rw [e]) (fun _ => by rw [e]) hM hS hA hW hU hF (by omega))
          | (have e : adS a b c hc wc σ π ρ hs (k + 1) = adS a b c hc wc σ π ρ hs k := if_neg (by rw [← hq]; exact c77)
             have hk0 : 0 < k := Nat.pos_of_ne_zero (fun z => by subst z; rw [hq] at c77; exact c77 (adS_1 hi l3 l5))
             exact ih (k + 1) _ _ _ _ _ _ _ _ _ _ (by omega) (by rw [e]; exact hq) (fun _ => by rw [e]; exact hp hk0) hM hS hA hW hU hF (by omega))
      ·
        refine T_goto 89 dX13_advise_80 (by decide) ?_
        refine T_iinc4 rfl (by decide) dX13_advise_89 rfl (wk_1 k (by omega)) ?_
        refine T_goto 29 dX13_advise_92 (by decide) ?_
        first
          | (have e : adS a b c hc wc σ π ρ hs (k + 1) = (wk k, adI a b c hc wc σ π ρ hs k) := if_pos (by rw [← hq]; exact c77)
             exact ih (k + 1) _ _ _ _ _ _ _ _ _ _ (by omega) (by rw [e]) (fun _ => by rw [e]) hM hS hA hW hU hF (by omega))
          | (have e : adS a b c hc wc σ π ρ hs (k + 1) = adS a b c hc wc σ π ρ hs k := if_neg (by rw [← hq]; exact c77)
             have hk0 : 0 < k := Nat.pos_of_ne_zero (fun z => by subst z; rw [hq] at c77; exact c77 (adS_1 hi l3 l5))
             exact ih (k + 1) _ _ _ _ _ _ _ _ _ _ (by omega) (by rw [e]; exact hq) (fun _ => by rw [e]; exact hp hk0) hM hS hA hW hU hF (by omega))
set_option maxHeartbeats 1000000 in
theorem c_X13_advise {l : Launch} {D : va_G} {cA : Nat → ClassId} {n0 : Nat} {sg adK adV : Nat → Nat} {sgA smA wdA bS LS : Nat} {xs : Nat → Int32} (hX : SF n0 (XW0 sg adK adV sgA smA wdA n0 bS LS xs)) {sz : Nat} {τ : TY} {N1 N2 M : ME} {m y z n8 tk dp a b c hc wc sn : Nat} {B : Nat → Nat} {ω ρ π : RH} {σ : Nat → Nat} {μ κ : Nat → Int32} (hM : MV τ N1 M m y z (m + 26) (m + 40) n8 tk dp B ω) (hS : SL τ N2 M (m + 26) a b c ρ m μ κ) (hW : WN τ M m y (m + 26) a b c hc wc sn ρ π σ) (hL : y = m + 7 ∨ m + 54 ≤ y) (ho : PmOK a b c hc wc sn σ π) (hi : RI a b c ρ) {N3 : ME} {ρ2 : RH} {μ2 κ2 : Nat → Int32} (hA : SL τ N3 M (m + 40) a b c ρ2 m μ2 κ2) (hU : WN τ M m y (m + 40) a b c hc wc sn ρ π σ) (x : Int32) : CT l D cA n0 (XW0 sg adK adV sgA smA wdA n0 bS LS xs) mX13_advise 10 0 0 sz τ M [.ref m, .int x] (fun v' sz' τ' M' => (iiF x 1 80 = 0 → v' = some (.int 0) ∧ TH τ M m sz sz' τ' M' 1) ∧ (¬ iiF x 1 80 = 0 → v' = some (.int ((adS a b c hc wc σ π ρ x.toNatClampNeg 7).1)) ∧ SA τ M m sz sz' τ' M' y z n8 tk dp B ω a b c ρ)) := by
  refine CT.of (ls := [.ref m, .int x, UU, UU, UU, UU]) (by decide) (Nat.le_of_ble_eq_true rfl) rfl ?_
  refine T_szb (fun hz => ?_)
  have z1 := hM.hi hz
  have hm : m < sz := by omega
  obtain ⟨l3, l4, l5, l6, l7, l8⟩ := hW.ok
  have hF : ∀ q, q < m ∨ (m < q ∧ q < m + 26) ∨ m + 54 ≤ q → M q = M q := fun _ _ => rfl
  refine T_aload0 dX13_advise_0 rfl ?_
  refine T_iconst (0) dX13_advise_1 rfl rfl ?_
  refine p13_57 rfl (hM.t_m) dX13_advise_2 rfl ?_
  refine T_nm (fun M1 e1 => ?_)
  have hM := MV.mv hM.p_th e1
  have hS := hS.frU e1 (by omega)
  have hA := hA.frU e1 (by omega)
  have hW := hW.frV e1 (by omega)
  have hU := hU.frV e1 (by omega)
  have hF : ∀ q, q < m ∨ (m < q ∧ q < m + 26) ∨ m + 54 ≤ q → M1 q = M q := fun q hq => (by rw [e1]; exact (up_a (by omega)).trans (hF q hq))
  refine T_iload1 dX13_advise_5 rfl ?_
  refine T_iconst (1) dX13_advise_6 rfl rfl ?_
  refine T_bipush (80) dX13_advise_7 rfl rfl ?_
  refine T_cS3 (c_X13_isIn hX _ _ _) hX k13_63 (by decide) (Nat.le_of_ble_eq_true rfl) dX13_advise_9 rfl ?_
  rintro _ _ _ _ ⟨rfl, rfl, rfl, rfl⟩
  refine T_if_ne 21 15 dX13_advise_12 (by decide) rfl (fun c12 => ?_) (fun c12 => ?_)
  ·
    obtain ⟨j, hj1, hj, rfl⟩ := ii_1n (n := 80) (by omega) c12
    refine T_iconst (0) dX13_advise_21 rfl rfl ?_
    refine T_istore2 rfl (by decide) dX13_advise_22 rfl ?_
    refine T_iconst (-1) dX13_advise_23 rfl rfl ?_
    refine T_istore3 rfl (by decide) dX13_advise_24 rfl ?_
    refine T_bipush (-3) dX13_advise_25 rfl rfl ?_
    refine T_istore4 rfl (by decide) dX13_advise_27 rfl ?_
    rw [nI_cl (by omega), show (-3 : Int32) = wk 0 from by decide]
    refine T_cons (fun v sz9 τ9 M9 hq => ⟨fun q => absurd q c12, fun _ => hq⟩) ?_
    exact L_X13_advise hX hL ho hi hj 8 0 _ _ _ _ _ _ _ _ _ _ (by omega) rfl (fun h => absurd h (Nat.lt_irrefl _)) hM hS hA hW hU hF (by omega)
  ·
    refine T_aload0 dX13_advise_15 rfl ?_
    refine T_iconst (1) dX13_advise_16 rfl rfl ?_
    refine T_cV1 (c_X13_no hX hM.t_m _) hX k13_291 (Or.inl ⟨_, _, _, _, (hM.t_m), by decide, rfl⟩) (by decide) (Nat.le_of_ble_eq_true rfl) dX13_advise_17 rfl ?_
    rintro _ _ _ M9 ⟨rfl, rfl, rfl, e9⟩
    refine T_iret rfl rfl dX13_advise_20 ?_
    exact ⟨fun _ => ⟨rfl, TH.c e1 e9⟩, fun q => absurd c12 q⟩
