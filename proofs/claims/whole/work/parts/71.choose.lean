set_option maxHeartbeats 1000000 in
theorem c_X13_raftWith {l : Launch} {D : va_G} {cA : Nat → ClassId} {n0 : Nat} {sg adK adV : Nat → Nat} {sgA smA wdA bS LS : Nat} {xs : Nat → Int32} (hX : SF n0 (XW0 sg adK adV sgA smA wdA n0 bS LS xs)) {sz : Nat} {τ : TY} {N1 N2 M : ME} {m y z n8 tk dp a b c hc wc sn : Nat} {B : Nat → Nat} {ω ρ π : RH} {σ : Nat → Nat} {μ κ : Nat → Int32} (hM : MV τ N1 M m y z (m + 26) (m + 40) n8 tk dp B ω) (hS : SL τ N2 M (m + 26) a b c ρ m μ κ) (hW : WN τ M m y (m + 26) a b c hc wc sn ρ π σ) (hL : y = m + 7 ∨ m + 54 ≤ y) (ho : PmOK a b c hc wc sn σ π) (hi : RI a b c ρ) {N3 : ME} {ρ2 : RH} {μ2 κ2 : Nat → Int32} (hA : SL τ N3 M (m + 40) a b c ρ2 m μ2 κ2) (hU : WN τ M m y (m + 40) a b c hc wc sn ρ π σ) {x : Int32} {ρx : RH} {hs : Nat} (hs1 : hs ≤ 80) (hx : (x = -1 ∧ ρx = ρ) ∨ (∃ h, h < b ∧ x = nI h ∧ ρx = u2 ρ 13 h (ρ 13 h + 10))) : CT l D cA n0 (XW0 sg adK adV sgA smA wdA n0 bS LS xs) mX13_raftWith 9 0 0 sz τ M [.ref m, .int x, .int (nI hs)] (fun v' sz' τ' M' => v' = some (.int (wOf c (gbC a b c hc wc σ π ρx hs) 3)) ∧ sz' = sz ∧ τ' = τ ∧ ∃ ρ9 μ9 κ9, SL τ N3 M' (m + 40) a b c ρ9 m μ9 κ9) := by
  refine CT.of (ls := [.ref m, .int x, .int (nI hs)]) (by decide) (Nat.le_of_ble_eq_true rfl) rfl ?_
  obtain ⟨l3, l4, l5, l6, l7, l8⟩ := hW.ok
  refine T_aload0 dX13_raftWith_0 rfl ?_
  refine g13_51 _ rfl (hM.t_m) (hM.g_s2) dX13_raftWith_1 rfl ?_
  refine T_aload0 dX13_raftWith_4 rfl ?_
  refine g13_47 _ rfl (hM.t_m) (hM.g_s1) dX13_raftWith_5 rfl ?_
  refine T_cV1 (c_X12_become hX hA.rf hS (by omega)) hX k13_371 (by first | exact Or.inl ⟨_, _, _, _, (hS.t_s), by decide, rfl⟩ | exact Or.inl ⟨_, _, _, _, (hA.t_s), by decide, rfl⟩) (by decide) (Nat.le_of_ble_eq_true rfl) dX13_raftWith_8 rfl ?_
  rintro _ _ _ M8 ⟨rfl, rfl, rfl, hN⟩
  have hU := hU.nx hN.frame
  have hW := hW.re (by exact (congrFun (hN.frame m (by omega)) 11).trans hW.g_pl) (fun q g1 g2 => hN.frame q (by omega)) (KS.rf _)
  have hM := hM.nx hN.frame (by omega)
  have hS := hS.nx hN.frame (by omega)
  have hA := hN.bs hA.frame
  refine T_iload1 dX13_raftWith_11 rfl ?_
  refine T_iconst (-1) dX13_raftWith_12 rfl rfl ?_
  refine T_icmp_eq 30 16 dX13_raftWith_13 (by decide) rfl (fun c13 => ?_) (fun c13 => ?_)
  ·
    obtain rfl : ρx = ρ := hx.elim (fun z => z.2) (fun ⟨h, h1, h2, _⟩ => absurd (h2.symm.trans c13) (nI_m1 (by omega)))
    have hrx : RI a b c ρx := hi
    have hkx : KS ρx ρx := KS.rf _
    have hA2 := hA
    refine T_aload0 dX13_raftWith_30 rfl ?_
    refine g13_51 _ rfl (hM.t_m) (hM.g_s2) dX13_raftWith_31 rfl ?_
    refine T_iload2 dX13_raftWith_34 rfl ?_
    refine T_cV1 (c_X12_pass_ hX ho hrx hA.rf (hU.ks hkx) (hs := hs) (by omega)) hX k13_368 (by first | exact Or.inl ⟨_, _, _, _, (hS.t_s), by decide, rfl⟩ | exact Or.inl ⟨_, _, _, _, (hA.t_s), by decide, rfl⟩) (by decide) (Nat.le_of_ble_eq_true rfl) dX13_raftWith_35 rfl ?_
    rintro _ _ _ M8 ⟨rfl, rfl, rfl, μ9, κ9, hN⟩
    have hU := hU.nx hN.frame
    have hW := hW.re (by exact (congrFun (hN.frame m (by omega)) 11).trans hW.g_pl) (fun q g1 g2 => hN.frame q (by omega)) (KS.rf _)
    have hM := hM.nx hN.frame (by omega)
    have hS := hS.nx hN.frame (by omega)
    have hA := hN.bs hA.frame
    refine T_aload0 dX13_raftWith_38 rfl ?_
    refine g13_51 _ rfl (hM.t_m) (hM.g_s2) dX13_raftWith_39 rfl ?_
    refine T_iconst (3) dX13_raftWith_42 rfl rfl ?_
    refine T_iconst (-1) dX13_raftWith_43 rfl rfl ?_
    refine T_cV2 (c_X12_weights hX hA (hU.ks (hkx.gb hs)) _ _) hX k13_307 (by first | exact Or.inl ⟨_, _, _, _, (hS.t_s), by decide, rfl⟩ | exact Or.inl ⟨_, _, _, _, (hA.t_s), by decide, rfl⟩) (by decide) (Nat.le_of_ble_eq_true rfl) dX13_raftWith_44 rfl ?_
    rintro _ _ _ _ ⟨rfl, rfl, rfl, rfl⟩
    refine T_iret rfl rfl dX13_raftWith_47 ?_
    exact ⟨congrArg (fun z => some (Value.int z)) wb_all, rfl, rfl, _, _, _, hA⟩
  ·
    obtain ⟨h, hh, rfl, rfl⟩ := hx.resolve_left (fun z => c13 z.1)
    have hrx : RI a b c (u2 ρ 13 h (ρ 13 h + 10)) := hi.u (by decide)
    have hkx : KS ρ (u2 ρ 13 h (ρ 13 h + 10)) := (KS.rf ρ).u (by decide)
    refine T_aload0 dX13_raftWith_16 rfl ?_
    refine g13_51 _ rfl (hM.t_m) (hM.g_s2) dX13_raftWith_17 rfl ?_
    first | refine g13_325 _ rfl (hS.t_s) (hS.g_a7) dX13_raftWith_20 rfl ?_ | refine g13_325 _ rfl (hA.t_s) (hA.g_a7) dX13_raftWith_20 rfl ?_
    refine T_iload1 dX13_raftWith_23 rfl ?_
    refine T_dup2 dX13_raftWith_24 rfl rfl rfl ?_
    refine T_iald _ hA.t_a7 rfl (by omega) (by decide) dX13_raftWith_25 rfl (hA.g_iron (by omega)) ?_
    refine T_bipush (10) dX13_raftWith_26 rfl rfl ?_
    refine T_iadd dX13_raftWith_28 rfl ?_
    first | refine T_iast _ (hS.t_a7) rfl (by omega) (by decide) dX13_raftWith_29 rfl ?_ | refine T_iast _ (hA.t_a7) rfl (by omega) (by decide) dX13_raftWith_29 rfl ?_
    refine T_nm (fun M1 e1 => ?_)
    have hM := hM.frU e1 (by omega)
    have hS := hS.frU e1 (by omega)
    have hA := SL.mv (hA.p_iron (by omega)) e1
    have hW := hW.frV e1 (by omega)
    have hU := hU.frV e1 (by omega)
    refine T_aload0 dX13_raftWith_30 rfl ?_
    refine g13_51 _ rfl (hM.t_m) (hM.g_s2) dX13_raftWith_31 rfl ?_
    refine T_iload2 dX13_raftWith_34 rfl ?_
    refine T_cV1 (c_X12_pass_ hX ho hrx hA.rf (hU.ks hkx) (hs := hs) (by omega)) hX k13_368 (by first | exact Or.inl ⟨_, _, _, _, (hS.t_s), by decide, rfl⟩ | exact Or.inl ⟨_, _, _, _, (hA.t_s), by decide, rfl⟩) (by decide) (Nat.le_of_ble_eq_true rfl) dX13_raftWith_35 rfl ?_
    rintro _ _ _ M8 ⟨rfl, rfl, rfl, μ9, κ9, hN⟩
    have hU := hU.nx hN.frame
    have hW := hW.re (by exact (congrFun (hN.frame m (by omega)) 11).trans hW.g_pl) (fun q g1 g2 => hN.frame q (by omega)) (KS.rf _)
    have hM := hM.nx hN.frame (by omega)
    have hS := hS.nx hN.frame (by omega)
    have hA := hN.bs hA.frame
    refine T_aload0 dX13_raftWith_38 rfl ?_
    refine g13_51 _ rfl (hM.t_m) (hM.g_s2) dX13_raftWith_39 rfl ?_
    refine T_iconst (3) dX13_raftWith_42 rfl rfl ?_
    refine T_iconst (-1) dX13_raftWith_43 rfl rfl ?_
    refine T_cV2 (c_X12_weights hX hA (hU.ks (hkx.gb hs)) _ _) hX k13_307 (by first | exact Or.inl ⟨_, _, _, _, (hS.t_s), by decide, rfl⟩ | exact Or.inl ⟨_, _, _, _, (hA.t_s), by decide, rfl⟩) (by decide) (Nat.le_of_ble_eq_true rfl) dX13_raftWith_44 rfl ?_
    rintro _ _ _ _ ⟨rfl, rfl, rfl, rfl⟩
    refine T_iret rfl rfl dX13_raftWith_47 ?_
    exact ⟨congrArg (fun z => some (Value.int z)) wb_all, rfl, rfl, _, _, _, hA⟩
set_option maxHeartbeats 1000000 in
theorem L_X13_choose {l : Launch} {D : va_G} {cA : Nat → ClassId} {n0 : Nat} {sg adK adV : Nat → Nat} {sgA smA wdA bS LS : Nat} {xs : Nat → Int32} (hX : SF n0 (XW0 sg adK adV sgA smA wdA n0 bS LS xs)) {sz : Nat} {τ : TY} {M : ME} {m y z n8 tk dp a b c hc wc sn : Nat} {B : Nat → Nat} {ω ρ π : RH} {σ : Nat → Nat} {μ κ : Nat → Int32} (hL : y = m + 7 ∨ m + 54 ≤ y) (ho : PmOK a b c hc wc sn σ π) (hi : RI a b c ρ) {hs : Nat} (hs1 : hs ≤ 80) : ∀ (n : Nat) (k : Nat) (p q : Int32) (u : Value) (N1 N2 N3 Mk : ME) (ρ2 : RH) (μ2 κ2 : Nat → Int32) (hk : k ≤ b) (hq : q = (chS a b c hc wc σ π ρ hs k).2) (hp : p = (chS a b c hc wc σ π ρ hs k).1) (hM : MV τ N1 Mk m y z (m + 26) (m + 40) n8 tk dp B (u2 ω 90 0 0)) (hS : SL τ N2 Mk (m + 26) a b c ρ m μ κ) (hA : SL τ N3 Mk (m + 40) a b c (ρ2) m μ2 κ2) (hW : WN τ Mk m y (m + 26) a b c hc wc sn ρ π σ) (hU : WN τ Mk m y (m + 40) a b c hc wc sn ρ π σ) (hF : ∀ q, q < m ∨ (m < q ∧ q < m + 26) ∨ m + 54 ≤ q → Mk q = M q), b - k < n → T l D cA n0 (XW0 sg adK adV sgA smA wdA n0 bS LS xs) mX13_choose 11 0 0 sz τ Mk 33 [.ref m, .int (nI hs), .int p, .int q, .int (nI k), u] [] (fun v' sz' τ' M' => v' = some (.int ((chS a b c hc wc σ π ρ hs b).1)) ∧ SA τ M m sz sz' τ' M' y z n8 tk dp B ω a b c ρ) (fun _ _ _ _ => False) := by
  intro n
  induction n with
  | zero => intros; omega
  | succ n ih =>
    intro k p q u N1 N2 N3 Mk ρ2 μ2 κ2 hk hq hp hM hS hA hW hU hF hn
    obtain ⟨l3, l4, l5, l6, l7, l8⟩ := hW.ok
    refine T_iload4 dX13_choose_33 rfl ?_
    refine T_aload0 dX13_choose_35 rfl ?_
    first | refine g13_35 _ rfl (hM.t_m) (hM.g_y) dX13_choose_36 rfl ?_ | refine g13_35 _ rfl (hW.t_m) (hW.g_pl) dX13_choose_36 rfl ?_ | refine g13_35 _ rfl (hU.t_m) (hU.g_pl) dX13_choose_36 rfl ?_
    first | refine g13_67 _ rfl (hW.t_q) (hW.g_horses) dX13_choose_39 rfl ?_ | refine g13_67 _ rfl (hU.t_q) (hU.g_horses) dX13_choose_39 rfl ?_
    refine T_icmp_ge 75 45 dX13_choose_42 (by decide) rfl (fun c42 => ?_) (fun c42 => ?_)
    ·
      have c42 := le_out rfl c42
      have hkk : k = b := by omega
      subst hkk
      refine T_iload2 dX13_choose_75 rfl ?_
      refine T_iret rfl rfl dX13_choose_76 ?_
      rw [hp]
      exact ⟨rfl, rfl, rfl, hF, hM.rf, ⟨_, _, hS.rf⟩, _, _, _, hA.rf⟩
    ·
      have c42 := lt_in rfl c42
      refine T_aload0 dX13_choose_45 rfl ?_
      refine T_iload4 dX13_choose_46 rfl ?_
      refine T_iload1 dX13_choose_48 rfl ?_
      refine T_cV2 (c_X13_raftWith hX hM hS hW hL ho hi hA.rf hU hs1 (Or.inr ⟨k, c42, rfl, rfl⟩)) hX k13_377 (Or.inl ⟨_, _, _, _, (hM.t_m), by decide, rfl⟩) (by decide) (Nat.le_of_ble_eq_true rfl) dX13_choose_49 rfl ?_
      rintro _ _ _ M8 ⟨rfl, rfl, rfl, ρ9, μ9, κ9, hN⟩
      have hU := hU.nx hN.frame
      have hW := hW.re (by exact (congrFun (hN.frame m (by omega)) 11).trans hW.g_pl) (fun q g1 g2 => hN.frame q (by omega)) (KS.rf ρ)
      have hM := hM.nx hN.frame (by omega)
      have hS := hS.nx hN.frame (by omega)
      have hF : ∀ q, q < m ∨ (m < q ∧ q < m + 26) ∨ m + 54 ≤ q → M8 q = M q := fun q hq => (hN.frame q (by omega)).trans (hF q hq)
      have hA := hN.rf
      refine T_istore5 rfl (by decide) dX13_choose_52 rfl ?_
      refine T_iload5 dX13_choose_54 rfl ?_
      refine T_iload3 dX13_choose_56 rfl ?_
      refine T_icmp_gt 63 60 dX13_choose_57 (by decide) rfl (fun c57 => ?_) (fun c57 => ?_)
      ·
        refine T_iload5 dX13_choose_63 rfl ?_
        refine T_istore3 rfl (by decide) dX13_choose_65 rfl ?_
        refine T_iload4 dX13_choose_66 rfl ?_
        refine T_istore2 rfl (by decide) dX13_choose_68 rfl ?_
        first | refine T_iinc4 rfl (by decide) dX13_choose_69 rfl (inc1 _) ?_ | refine T_iinc4 rfl (by decide) dX13_choose_69 rfl rfl ?_
        refine T_goto 33 dX13_choose_72 (by decide) ?_
        first
          | (have e : chS a b c hc wc σ π ρ hs (k + 1) = (nI k, chI a b c hc wc σ π ρ hs k) := if_pos (by rw [← hq]; exact c57)
             exact ih (k + 1) _ _ _ _ _ _ _ _ _ _ (by omega) (by rw [e]; rfl) (by rw [e]) hM hS hA hW hU hF (by omega))
          | (have e : chS a b c hc wc σ π ρ hs (k + 1) = chS a b c hc wc σ π ρ hs k := if_neg (by rw [← hq]; exact c57)
             exact ih (k + 1) _ _ _ _ _ _ _ _ _ _ (by omega) (by rw [e]; exact hq) (by rw [e]; exact hp) hM hS hA hW hU hF (by omega))
      ·
        refine T_goto 69 dX13_choose_60 (by decide) ?_
        first | refine T_iinc4 rfl (by decide) dX13_choose_69 rfl (inc1 _) ?_ | refine T_iinc4 rfl (by decide) dX13_choose_69 rfl rfl ?_
        refine T_goto 33 dX13_choose_72 (by decide) ?_
        first
          | (have e : chS a b c hc wc σ π ρ hs (k + 1) = (nI k, chI a b c hc wc σ π ρ hs k) := if_pos (by rw [← hq]; exact c57)
             exact ih (k + 1) _ _ _ _ _ _ _ _ _ _ (by omega) (by rw [e]; rfl) (by rw [e]) hM hS hA hW hU hF (by omega))
          | (have e : chS a b c hc wc σ π ρ hs (k + 1) = chS a b c hc wc σ π ρ hs k := if_neg (by rw [← hq]; exact c57)
             exact ih (k + 1) _ _ _ _ _ _ _ _ _ _ (by omega) (by rw [e]; exact hq) (by rw [e]; exact hp) hM hS hA hW hU hF (by omega))
set_option maxHeartbeats 1000000 in
theorem c_X13_choose {l : Launch} {D : va_G} {cA : Nat → ClassId} {n0 : Nat} {sg adK adV : Nat → Nat} {sgA smA wdA bS LS : Nat} {xs : Nat → Int32} (hX : SF n0 (XW0 sg adK adV sgA smA wdA n0 bS LS xs)) {sz : Nat} {τ : TY} {N1 N2 M : ME} {m y z n8 tk dp a b c hc wc sn : Nat} {B : Nat → Nat} {ω ρ π : RH} {σ : Nat → Nat} {μ κ : Nat → Int32} (hM : MV τ N1 M m y z (m + 26) (m + 40) n8 tk dp B ω) (hS : SL τ N2 M (m + 26) a b c ρ m μ κ) (hW : WN τ M m y (m + 26) a b c hc wc sn ρ π σ) (hL : y = m + 7 ∨ m + 54 ≤ y) (ho : PmOK a b c hc wc sn σ π) (hi : RI a b c ρ) {N3 : ME} {ρ2 : RH} {μ2 κ2 : Nat → Int32} (hA : SL τ N3 M (m + 40) a b c ρ2 m μ2 κ2) (hU : WN τ M m y (m + 40) a b c hc wc sn ρ π σ) (x : Int32) : CT l D cA n0 (XW0 sg adK adV sgA smA wdA n0 bS LS xs) mX13_choose 11 0 0 sz τ M [.ref m, .int x] (fun v' sz' τ' M' => (iiF x 1 80 = 0 → v' = some (.int 0) ∧ TH τ M m sz sz' τ' M' 1) ∧ (¬ iiF x 1 80 = 0 → v' = some (.int ((chS a b c hc wc σ π ρ x.toNatClampNeg b).1)) ∧ SA τ M m sz sz' τ' M' y z n8 tk dp B ω a b c ρ)) := by
  refine CT.of (ls := [.ref m, .int x, UU, UU, UU, UU]) (by decide) (Nat.le_of_ble_eq_true rfl) rfl ?_
  refine T_szb (fun hz => ?_)
  have z1 := hM.hi hz
  have hm : m < sz := by omega
  obtain ⟨l3, l4, l5, l6, l7, l8⟩ := hW.ok
  have hF : ∀ q, q < m ∨ (m < q ∧ q < m + 26) ∨ m + 54 ≤ q → M q = M q := fun _ _ => rfl
  refine T_aload0 dX13_choose_0 rfl ?_
  refine T_iconst (0) dX13_choose_1 rfl rfl ?_
  refine p13_57 rfl (hM.t_m) dX13_choose_2 rfl ?_
  refine T_nm (fun M1 e1 => ?_)
  have hM := MV.mv hM.p_th e1
  have hS := hS.frU e1 (by omega)
  have hA := hA.frU e1 (by omega)
  have hW := hW.frV e1 (by omega)
  have hU := hU.frV e1 (by omega)
  have hF : ∀ q, q < m ∨ (m < q ∧ q < m + 26) ∨ m + 54 ≤ q → M1 q = M q := fun q hq => (by rw [e1]; exact (up_a (by omega)).trans (hF q hq))
  refine T_iload1 dX13_choose_5 rfl ?_
  refine T_iconst (1) dX13_choose_6 rfl rfl ?_
  refine T_bipush (80) dX13_choose_7 rfl rfl ?_
  refine T_cS3 (c_X13_isIn hX _ _ _) hX k13_63 (by decide) (Nat.le_of_ble_eq_true rfl) dX13_choose_9 rfl ?_
  rintro _ _ _ _ ⟨rfl, rfl, rfl, rfl⟩
  refine T_if_ne 21 15 dX13_choose_12 (by decide) rfl (fun c12 => ?_) (fun c12 => ?_)
  ·
    obtain ⟨j, hj1, hj, rfl⟩ := ii_1n (n := 80) (by omega) c12
    refine T_iconst (-1) dX13_choose_21 rfl rfl ?_
    refine T_istore2 rfl (by decide) dX13_choose_22 rfl ?_
    refine T_aload0 dX13_choose_23 rfl ?_
    refine T_iconst (-1) dX13_choose_24 rfl rfl ?_
    refine T_iload1 dX13_choose_25 rfl ?_
    refine T_cV2 (c_X13_raftWith hX hM hS hW hL ho hi hA.rf hU hj (Or.inl ⟨rfl, rfl⟩)) hX k13_377 (Or.inl ⟨_, _, _, _, (hM.t_m), by decide, rfl⟩) (by decide) (Nat.le_of_ble_eq_true rfl) dX13_choose_26 rfl ?_
    rintro _ _ _ M8 ⟨rfl, rfl, rfl, ρ9, μ9, κ9, hN⟩
    have hU := hU.nx hN.frame
    have hW := hW.re (by exact (congrFun (hN.frame m (by omega)) 11).trans hW.g_pl) (fun q g1 g2 => hN.frame q (by omega)) (KS.rf ρ)
    have hM := hM.nx hN.frame (by omega)
    have hS := hS.nx hN.frame (by omega)
    have hF : ∀ q, q < m ∨ (m < q ∧ q < m + 26) ∨ m + 54 ≤ q → M8 q = M q := fun q hq => (hN.frame q (by omega)).trans (hF q hq)
    have hA := hN.rf
    refine T_istore3 rfl (by decide) dX13_choose_29 rfl ?_
    refine T_iconst (0) dX13_choose_30 rfl rfl ?_
    refine T_istore4 rfl (by decide) dX13_choose_31 rfl ?_
    rw [nI_cl (by omega)]
    refine T_cons (fun v sz9 τ9 M9 hq => ⟨fun q => absurd q c12, fun _ => hq⟩) ?_
    exact L_X13_choose hX hL ho hi hj (b + 1) 0 _ _ _ _ _ _ _ _ _ _ (Nat.zero_le _) rfl rfl hM hS hA hW hU hF (by omega)
  ·
    refine T_aload0 dX13_choose_15 rfl ?_
    refine T_iconst (1) dX13_choose_16 rfl rfl ?_
    refine T_cV1 (c_X13_no hX hM.t_m _) hX k13_291 (Or.inl ⟨_, _, _, _, (hM.t_m), by decide, rfl⟩) (by decide) (Nat.le_of_ble_eq_true rfl) dX13_choose_17 rfl ?_
    rintro _ _ _ M9 ⟨rfl, rfl, rfl, e9⟩
    refine T_iret rfl rfl dX13_choose_20 ?_
    exact ⟨fun _ => ⟨rfl, TH.c e1 e9⟩, fun q => absurd c12 q⟩
