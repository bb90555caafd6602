section TCONS
variable {l : Launch} {D : va_G} {cA : Nat → ClassId} {n0 : Nat} {XW : State → Heap → Prop} {nm : MI} {d bk bn sz : Nat} {τ : TY} {M : ME} {Q Q' : QT} {QX : QXT} {ls st : List Value} {pc : Nat}
theorem T_cons (h : ∀ v sz' τ' M', Q v sz' τ' M' → Q' v sz' τ' M') (k : T l D cA n0 XW nm d bk bn sz τ M pc ls st Q QX) : T l D cA n0 XW nm d bk bn sz τ M pc ls st Q' QX := by
  intro p e R s m args below meth c H locs cells slots mc ms la X Y hR hS g1 g2 hL r1 r2 r3
  exact k p e R s m args below meth c H locs cells slots mc ms la X Y hR hS g1 g2 hL (fun v sz' τ' M' H' locs' c' s' pc' la' hq => r1 v sz' τ' M' H' locs' c' s' pc' la' (h _ _ _ _ hq)) r2 r3
end TCONS
def arG (a b c hc wc : Nat) (σ : Nat → Nat) (π ρ : RH) (j : Nat) : Nat → Nat → Int32
  | _, 0 => -1
  | h, n + 1 => if (gbC a b c hc wc σ π ρ h) 32 j = 3 then nI h else arG a b c hc wc σ π ρ j (h + 1) n
def brG (a b c hc wc : Nat) (σ : Nat → Nat) (π ρ : RH) (j : Nat) : Nat → Nat → Int32
  | _, 0 => -1
  | h, n + 1 => if (gbC a b c hc wc σ π ρ h) 12 j < ρ 12 j then nI h else brG a b c hc wc σ π ρ j (h + 1) n
section AR
variable {a b c hc wc j k : Nat} {σ : Nat → Nat} {π ρ : RH}
theorem arG_y (hk : k < 201) (h : (gbC a b c hc wc σ π ρ k) 32 j = 3) : arG a b c hc wc σ π ρ j k (201 - k) = nI k := by
  rw [show 201 - k = 201 - (k + 1) + 1 by omega, arG, if_pos h]
theorem arG_n (hk : k < 201) (h : ¬ (gbC a b c hc wc σ π ρ k) 32 j = 3) : arG a b c hc wc σ π ρ j k (201 - k) = arG a b c hc wc σ π ρ j (k + 1) (201 - (k + 1)) := by
  rw [show 201 - k = 201 - (k + 1) + 1 by omega, arG, if_neg h]
theorem arG_0 (hk : 201 ≤ k) : arG a b c hc wc σ π ρ j k (201 - k) = -1 := by
  rw [show 201 - k = 0 by omega]; rfl
theorem brG_y (hk : k < 201) (h : (gbC a b c hc wc σ π ρ k) 12 j < ρ 12 j) : brG a b c hc wc σ π ρ j k (201 - k) = nI k := by
  rw [show 201 - k = 201 - (k + 1) + 1 by omega, brG, if_pos h]
theorem brG_n (hk : k < 201) (h : ¬ (gbC a b c hc wc σ π ρ k) 12 j < ρ 12 j) : brG a b c hc wc σ π ρ j k (201 - k) = brG a b c hc wc σ π ρ j (k + 1) (201 - (k + 1)) := by
  rw [show 201 - k = 201 - (k + 1) + 1 by omega, brG, if_neg h]
theorem brG_0 (hk : 201 ≤ k) : brG a b c hc wc σ π ρ j k (201 - k) = -1 := by
  rw [show 201 - k = 0 by omega]; rfl
theorem ii_1n {x : Int32} {n : Nat} (hn : n ≤ 1000) (h : ¬ iiF x 1 (nI n) = 0) : ∃ j, 1 ≤ j ∧ j ≤ n ∧ x = nI j := by
  have h2 : 1 ≤ x ∧ x ≤ nI n := Decidable.byContradiction fun q => h (if_neg q)
  obtain ⟨j, hj, rfl⟩ := nI_of2 (nI_toInt (by omega)) (Int32.not_lt.mpr (Int32.le_trans (by decide) h2.1)) h2.2
  exact ⟨j, (nI_leI (a := 1) (by omega) (by omega)).mp h2.1, hj, rfl⟩
theorem ii_11 {j n : Nat} (h1 : 1 ≤ j) (h2 : j ≤ n) (hn : n ≤ 1000) : iiF (nI j) 1 (nI n) = 1 := ii_1 ((nI_leI (a := 1) (by omega) (by omega)).mpr h1) ((nI_leI (by omega) (by omega)).mpr h2)
end AR
set_option maxHeartbeats 1000000 in
theorem c_X13_pass {l : Launch} {D : va_G} {cA : Nat → ClassId} {n0 : Nat} {sg adK adV : Nat → Nat} {sgA smA wdA bS LS : Nat} {xs : Nat → Int32} (hX : SF n0 (XW0 sg adK adV sgA smA wdA n0 bS LS xs)) {sz : Nat} {τ : TY} {N1 N2 M : ME} {m y z n8 tk dp a b c hc wc sn : Nat} {B : Nat → Nat} {ω ρ π : RH} {σ : Nat → Nat} {μ κ : Nat → Int32} (hM : MV τ N1 M m y z (m + 26) (m + 40) n8 tk dp B ω) (hS : SL τ N2 M (m + 26) a b c ρ m μ κ) (hW : WN τ M m y (m + 26) a b c hc wc sn ρ π σ) (hL : y = m + 7 ∨ m + 54 ≤ y) (ho : PmOK a b c hc wc sn σ π) (hi : RI a b c ρ) (x : Int32) : CT l D cA n0 (XW0 sg adK adV sgA smA wdA n0 bS LS xs) mX13_pass 9 0 0 sz τ M [.ref m, .int x] (fun v' sz' τ' M' => (iiF x 1 120 = 0 → v' = some (.int 0) ∧ TH τ M m sz sz' τ' M' 1) ∧ (∀ j, 1 ≤ j → j ≤ 120 → x = nI j → v' = some (.int (wOf c (gbC a b c hc wc σ π ρ j) 3 - wOf c ρ 3)) ∧ SC τ M m sz sz' τ' M' y z n8 tk dp B ω a b c (gbC a b c hc wc σ π ρ j))) := by
  refine CT.of (ls := [.ref m, .int x, UU]) (by decide) (Nat.le_of_ble_eq_true rfl) rfl ?_
  refine T_szb (fun hz => ?_)
  have z1 := hM.hi hz
  have hm : m < sz := by omega
  obtain ⟨l3, l4, l5, l6, l7, l8⟩ := hW.ok
  have hF : ∀ q, q < m ∨ (m < q ∧ q < m + 26) ∨ m + 40 ≤ q → M q = M q := fun _ _ => rfl
  refine T_aload0 dX13_pass_0 rfl ?_
  refine T_iconst (0) dX13_pass_1 rfl rfl ?_
  refine p13_57 rfl (hM.t_m) dX13_pass_2 rfl ?_
  refine T_nm (fun M1 e1 => ?_)
  have hM := MV.mv hM.p_th e1
  have hS := hS.frU e1 (by omega)
  have hW := hW.frV e1 (by omega)
  have hF : ∀ q, q < m ∨ (m < q ∧ q < m + 26) ∨ m + 40 ≤ q → M1 q = M q := fun q hq => (by rw [e1]; exact (up_a (by omega)).trans (hF q hq))
  refine T_iload1 dX13_pass_5 rfl ?_
  refine T_iconst (1) dX13_pass_6 rfl rfl ?_
  refine T_bipush (120) dX13_pass_7 rfl rfl ?_
  refine T_cS3 (c_X13_isIn hX _ _ _) hX k13_63 (by decide) (Nat.le_of_ble_eq_true rfl) dX13_pass_9 rfl ?_
  rintro _ _ _ _ ⟨rfl, rfl, rfl, rfl⟩
  refine T_if_ne 21 15 dX13_pass_12 (by decide) rfl (fun c12 => ?_) (fun c12 => ?_)
  ·
    obtain ⟨j, hj1, hj, rfl⟩ := ii_1n (n := 120) (by omega) c12
    refine T_aload0 dX13_pass_21 rfl ?_
    refine g13_47 _ rfl (hM.t_m) (hM.g_s1) dX13_pass_22 rfl ?_
    refine T_iconst (3) dX13_pass_25 rfl rfl ?_
    refine T_iconst (-1) dX13_pass_26 rfl rfl ?_
    refine T_cV2 (c_X12_weights hX hS hW _ _) hX k13_307 (Or.inl ⟨_, _, _, _, (hS.t_s), by decide, rfl⟩) (by decide) (Nat.le_of_ble_eq_true rfl) dX13_pass_27 rfl ?_
    rintro _ _ _ _ ⟨rfl, rfl, rfl, rfl⟩
    refine T_istore2 rfl (by decide) dX13_pass_30 rfl ?_
    refine T_aload0 dX13_pass_31 rfl ?_
    refine g13_47 _ rfl (hM.t_m) (hM.g_s1) dX13_pass_32 rfl ?_
    refine T_iload1 dX13_pass_35 rfl ?_
    refine T_cV1 (c_X12_pass_ hX ho hi hS.rf hW (hs := j) (by omega)) hX k13_368 (Or.inl ⟨_, _, _, _, (hS.t_s), by decide, rfl⟩) (by decide) (Nat.le_of_ble_eq_true rfl) dX13_pass_36 rfl ?_
    rintro _ _ _ M8 ⟨rfl, rfl, rfl, μ1, κ1, hN⟩
    have hW := hW.nx hN.frame
    have hM := hM.nx hN.frame (by omega)
    have hF : ∀ q, q < m ∨ (m < q ∧ q < m + 26) ∨ m + 40 ≤ q → M8 q = M q := fun q hq => (hN.frame q (by omega)).trans (hF q hq)
    have hS := hN.rf
    refine T_aload0 dX13_pass_39 rfl ?_
    refine g13_47 _ rfl (hM.t_m) (hM.g_s1) dX13_pass_40 rfl ?_
    refine T_iconst (3) dX13_pass_43 rfl rfl ?_
    refine T_iconst (-1) dX13_pass_44 rfl rfl ?_
    refine T_cV2 (c_X12_weights hX hS (hW.ks ((KS.rf ρ).gb j)) _ _) hX k13_307 (Or.inl ⟨_, _, _, _, (hS.t_s), by decide, rfl⟩) (by decide) (Nat.le_of_ble_eq_true rfl) dX13_pass_45 rfl ?_
    rintro _ _ _ _ ⟨rfl, rfl, rfl, rfl⟩
    refine T_iload2 dX13_pass_48 rfl ?_
    refine T_isub dX13_pass_49 rfl ?_
    refine T_iret rfl rfl dX13_pass_50 ?_
    exact ⟨fun q => absurd q c12, fun j2 g1 g2 e => by obtain rfl := (nI_eq (by omega) (by omega)).mp e; exact ⟨congrArg (fun z => some (Value.int z)) (by rw [wb_all, wb_all]), rfl, rfl, hF, hM.rf, _, _, hS.rf⟩⟩
  ·
    refine T_aload0 dX13_pass_15 rfl ?_
    refine T_iconst (1) dX13_pass_16 rfl rfl ?_
    refine T_cV1 (c_X13_no hX hM.t_m _) hX k13_291 (Or.inl ⟨_, _, _, _, (hM.t_m), by decide, rfl⟩) (by decide) (Nat.le_of_ble_eq_true rfl) dX13_pass_17 rfl ?_
    rintro _ _ _ M9 ⟨rfl, rfl, rfl, e9⟩
    refine T_iret rfl rfl dX13_pass_20 ?_
    exact ⟨fun _ => ⟨rfl, TH.c e1 e9⟩, fun j h1 h2 e => by subst e; exact absurd ((ii_11 (n := 120) h1 h2 (by omega)).symm.trans c12) (by decide)⟩
/-- behind a question that looks ahead -/
def SA (τ : TY) (M : ME) (m sz sz' : Nat) (τ' : TY) (M' : ME) (y z n tk dp : Nat) (B : Nat → Nat) (ω : RH) (a b c : Nat) (ρ' : RH) : Prop := sz' = sz ∧ τ' = τ ∧ (∀ q, q < m ∨ (m < q ∧ q < m + 26) ∨ m + 54 ≤ q → M' q = M q) ∧ MV τ M' M' m y z (m + 26) (m + 40) n tk dp B (u2 ω 90 0 0) ∧ (∃ μ' κ', SL τ M' M' (m + 26) a b c ρ' m μ' κ') ∧ ∃ ρ2 μ2 κ2, SL τ M' M' (m + 40) a b c ρ2 m μ2 κ2
set_option maxHeartbeats 1000000 in
theorem L_X13_arrives {l : Launch} {D : va_G} {cA : Nat → ClassId} {n0 : Nat} {sg adK adV : Nat → Nat} {sgA smA wdA bS LS : Nat} {xs : Nat → Int32} (hX : SF n0 (XW0 sg adK adV sgA smA wdA n0 bS LS xs)) {sz : Nat} {τ : TY} {M : ME} {m y z n8 tk dp a b c hc wc sn : Nat} {B : Nat → Nat} {ω ρ π : RH} {σ : Nat → Nat} {μ κ : Nat → Int32} (hL : y = m + 7 ∨ m + 54 ≤ y) (ho : PmOK a b c hc wc sn σ π) (hi : RI a b c ρ) {j : Nat} (hj : j < c) : ∀ (n : Nat) (k : Nat) (N1 N2 N3 Mk : ME) (μ2 κ2 : Nat → Int32) (hk : k ≤ 201) (hM : MV τ N1 Mk m y z (m + 26) (m + 40) n8 tk dp B (u2 ω 90 0 0)) (hS : SL τ N2 Mk (m + 26) a b c ρ m μ κ) (hA : SL τ N3 Mk (m + 40) a b c (gbC a b c hc wc σ π ρ k) m μ2 κ2) (hW : WN τ Mk m y (m + 26) a b c hc wc sn ρ π σ) (hU : WN τ Mk m y (m + 40) a b c hc wc sn ρ π σ) (hF : ∀ q, q < m ∨ (m < q ∧ q < m + 26) ∨ m + 54 ≤ q → Mk q = M q), 201 - k < n → T l D cA n0 (XW0 sg adK adV sgA smA wdA n0 bS LS xs) mX13_arrives 9 0 0 sz τ Mk 32 [.ref m, .int (nI j), .int (nI k)] [] (fun v' sz' τ' M' => v' = some (.int (arG a b c hc wc σ π ρ j k (201 - k))) ∧ SA τ M m sz sz' τ' M' y z n8 tk dp B ω a b c ρ) (fun _ _ _ _ => False) := by
  intro n
  induction n with
  | zero => intros; omega
  | succ n ih =>
    intro k N1 N2 N3 Mk μ2 κ2 hk hM hS hA hW hU hF hn
    obtain ⟨l3, l4, l5, l6, l7, l8⟩ := hW.ok
    refine T_iload2 dX13_arrives_32 rfl ?_
    refine T_sipush (200) dX13_arrives_33 rfl rfl ?_
    refine T_icmp_gt 65 39 dX13_arrives_36 (by decide) rfl (fun c36 => ?_) (fun c36 => ?_)
    ·
      have c36 : 200 < k := Nat.lt_of_not_le (fun q => absurd ((nI_leI (a := k) (b := 200) (by omega) (by omega)).mpr q) (Int32.not_le.mpr c36))
      refine T_iload2 dX13_arrives_65 rfl ?_
      refine T_sipush (200) dX13_arrives_66 rfl rfl ?_
      refine T_icmp_le 76 72 dX13_arrives_69 (by decide) rfl (fun c69 => ?_) (fun c69 => ?_)
      ·
        have c69 : k ≤ 200 := (nI_leI (b := 200) (by omega) (by omega)).mp c69
        refine T_iload2 dX13_arrives_76 rfl ?_
        refine T_iret rfl rfl dX13_arrives_77 ?_
        first
          | (exfalso; omega)
          | (rw [arG_0 (by omega)]; exact ⟨rfl, rfl, rfl, hF, hM.rf, ⟨_, _, hS.rf⟩, _, _, _, hA.rf⟩)
          | (rw [arG_y (by omega) c49]; exact ⟨rfl, rfl, rfl, hF, hM.rf, ⟨_, _, hS.rf⟩, _, _, _, hA.rf⟩)
      ·
        have c69 : ¬ k ≤ 200 := fun q => c69 ((nI_leI (b := 200) (by omega) (by omega)).mpr q)
        refine T_iconst (-1) dX13_arrives_72 rfl rfl ?_
        refine T_goto 77 dX13_arrives_73 (by decide) ?_
        refine T_iret rfl rfl dX13_arrives_77 ?_
        first
          | (exfalso; omega)
          | (rw [arG_0 (by omega)]; exact ⟨rfl, rfl, rfl, hF, hM.rf, ⟨_, _, hS.rf⟩, _, _, _, hA.rf⟩)
          | (rw [arG_y (by omega) c49]; exact ⟨rfl, rfl, rfl, hF, hM.rf, ⟨_, _, hS.rf⟩, _, _, _, hA.rf⟩)
    ·
      have c36 : k ≤ 200 := Nat.le_of_not_lt (fun q => c36 (nI_lt (a := 200) (by omega) (by omega)))
      refine T_aload0 dX13_arrives_39 rfl ?_
      refine g13_51 _ rfl (hM.t_m) (hM.g_s2) dX13_arrives_40 rfl ?_
      first | refine g13_347 _ rfl (hS.t_s) (hS.g_a10) dX13_arrives_43 rfl ?_ | refine g13_347 _ rfl (hA.t_s) (hA.g_a10) dX13_arrives_43 rfl ?_
      refine T_iload1 dX13_arrives_46 rfl ?_
      first | refine T_iald _ (hS.t_a10) rfl (by omega) (by decide) dX13_arrives_47 rfl (hS.g_lies (by omega)) ?_ | refine T_iald _ (hA.t_a10) rfl (by omega) (by decide) dX13_arrives_47 rfl (hA.g_lies (by omega)) ?_
      refine T_iconst (3) dX13_arrives_48 rfl rfl ?_
      refine T_icmp_eq 65 52 dX13_arrives_49 (by decide) rfl (fun c49 => ?_) (fun c49 => ?_)
      ·
        refine T_iload2 dX13_arrives_65 rfl ?_
        refine T_sipush (200) dX13_arrives_66 rfl rfl ?_
        refine T_icmp_le 76 72 dX13_arrives_69 (by decide) rfl (fun c69 => ?_) (fun c69 => ?_)
        ·
          have c69 : k ≤ 200 := (nI_leI (b := 200) (by omega) (by omega)).mp c69
          refine T_iload2 dX13_arrives_76 rfl ?_
          refine T_iret rfl rfl dX13_arrives_77 ?_
          first
            | (exfalso; omega)
            | (rw [arG_0 (by omega)]; exact ⟨rfl, rfl, rfl, hF, hM.rf, ⟨_, _, hS.rf⟩, _, _, _, hA.rf⟩)
            | (rw [arG_y (by omega) c49]; exact ⟨rfl, rfl, rfl, hF, hM.rf, ⟨_, _, hS.rf⟩, _, _, _, hA.rf⟩)
        ·
          have c69 : ¬ k ≤ 200 := fun q => c69 ((nI_leI (b := 200) (by omega) (by omega)).mpr q)
          refine T_iconst (-1) dX13_arrives_72 rfl rfl ?_
          refine T_goto 77 dX13_arrives_73 (by decide) ?_
          refine T_iret rfl rfl dX13_arrives_77 ?_
          first
            | (exfalso; omega)
            | (rw [arG_0 (by omega)]; exact ⟨rfl, rfl, rfl, hF, hM.rf, ⟨_, _, hS.rf⟩, _, _, _, hA.rf⟩)
            | (rw [arG_y (by omega) c49]; exact ⟨rfl, rfl, rfl, hF, hM.rf, ⟨_, _, hS.rf⟩, _, _, _, hA.rf⟩)
      ·
        refine T_aload0 dX13_arrives_52 rfl ?_
        refine g13_51 _ rfl (hM.t_m) (hM.g_s2) dX13_arrives_53 rfl ?_
        refine T_cV0 (c_X12_pass hX ho (hi.gb l3 k) hA.rf (hU.ks ((KS.rf ρ).gb k))) hX k13_375 (by first | exact Or.inl ⟨_, _, _, _, (hS.t_s), by decide, rfl⟩ | exact Or.inl ⟨_, _, _, _, (hA.t_s), by decide, rfl⟩) (by decide) (Nat.le_of_ble_eq_true rfl) dX13_arrives_56 rfl ?_
        rintro _ _ _ M8 ⟨rfl, rfl, rfl, μ9, κ9, hN⟩
        have hU := hU.nx hN.frame
        have hW := hW.re (by exact (congrFun (hN.frame m (by omega)) 11).trans hW.g_pl) (fun q g1 g2 => hN.frame q (by omega)) (KS.rf ρ)
        have hM := hM.nx hN.frame (by omega)
        have hS := hS.nx hN.frame (by omega)
        have hF : ∀ q, q < m ∨ (m < q ∧ q < m + 26) ∨ m + 54 ≤ q → M8 q = M q := fun q hq => (hN.frame q (by omega)).trans (hF q hq)
        have hA := hN.rf
        first | refine T_iinc2 rfl (by decide) dX13_arrives_59 rfl (inc1 _) ?_ | refine T_iinc2 rfl (by decide) dX13_arrives_59 rfl rfl ?_
        refine T_goto 32 dX13_arrives_62 (by decide) ?_
        rw [arG_n (by omega) c49]
        exact ih (k + 1) _ _ _ _ _ _ (by omega) hM hS hA hW hU hF (by omega)
set_option maxHeartbeats 1000000 in
theorem c_X13_arrives {l : Launch} {D : va_G} {cA : Nat → ClassId} {n0 : Nat} {sg adK adV : Nat → Nat} {sgA smA wdA bS LS : Nat} {xs : Nat → Int32} (hX : SF n0 (XW0 sg adK adV sgA smA wdA n0 bS LS xs)) {sz : Nat} {τ : TY} {N1 N2 M : ME} {m y z n8 tk dp a b c hc wc sn : Nat} {B : Nat → Nat} {ω ρ π : RH} {σ : Nat → Nat} {μ κ : Nat → Int32} (hM : MV τ N1 M m y z (m + 26) (m + 40) n8 tk dp B ω) (hS : SL τ N2 M (m + 26) a b c ρ m μ κ) (hW : WN τ M m y (m + 26) a b c hc wc sn ρ π σ) (hL : y = m + 7 ∨ m + 54 ≤ y) (ho : PmOK a b c hc wc sn σ π) (hi : RI a b c ρ) {N3 : ME} {ρ2 : RH} {μ2 κ2 : Nat → Int32} (hA : SL τ N3 M (m + 40) a b c ρ2 m μ2 κ2) (hU : WN τ M m y (m + 40) a b c hc wc sn ρ π σ) (x : Int32) : CT l D cA n0 (XW0 sg adK adV sgA smA wdA n0 bS LS xs) mX13_arrives 9 0 0 sz τ M [.ref m, .int x] (fun v' sz' τ' M' => (hasI x (nI c) = 0 → v' = some (.int 0) ∧ TH τ M m sz sz' τ' M' 1) ∧ (¬ hasI x (nI c) = 0 → v' = some (.int (arG a b c hc wc σ π ρ x.toNatClampNeg 0 201)) ∧ SA τ M m sz sz' τ' M' y z n8 tk dp B ω a b c ρ)) := by
  refine CT.of (ls := [.ref m, .int x, UU]) (by decide) (Nat.le_of_ble_eq_true rfl) rfl ?_
  refine T_szb (fun hz => ?_)
  have z1 := hM.hi hz
  have hm : m < sz := by omega
  obtain ⟨l3, l4, l5, l6, l7, l8⟩ := hW.ok
  have hF : ∀ q, q < m ∨ (m < q ∧ q < m + 26) ∨ m + 54 ≤ q → M q = M q := fun _ _ => rfl
  refine T_aload0 dX13_arrives_0 rfl ?_
  refine T_iconst (0) dX13_arrives_1 rfl rfl ?_
  refine p13_57 rfl (hM.t_m) dX13_arrives_2 rfl ?_
  refine T_nm (fun M1 e1 => ?_)
  have hM := MV.mv hM.p_th e1
  have hS := hS.frU e1 (by omega)
  have hA := hA.frU e1 (by omega)
  have hW := hW.frV e1 (by omega)
  have hU := hU.frV e1 (by omega)
  have hF : ∀ q, q < m ∨ (m < q ∧ q < m + 26) ∨ m + 54 ≤ q → M1 q = M q := fun q hq => (by rw [e1]; exact (up_a (by omega)).trans (hF q hq))
  refine T_aload0 dX13_arrives_5 rfl ?_
  refine T_iload1 dX13_arrives_6 rfl ?_
  refine T_cV1 (c_X13_isLog hX hM hS hW hL _) hX k13_356 (Or.inl ⟨_, _, _, _, (hM.t_m), by decide, rfl⟩) (by decide) (Nat.le_of_ble_eq_true rfl) dX13_arrives_7 rfl ?_
  rintro _ _ _ _ ⟨rfl, rfl, rfl, rfl⟩
  refine T_if_ne 19 13 dX13_arrives_10 (by decide) rfl (fun c10 => ?_) (fun c10 => ?_)
  ·
    obtain ⟨j, hj, rfl⟩ := has_nI (by omega) c10
    refine T_aload0 dX13_arrives_19 rfl ?_
    refine g13_51 _ rfl (hM.t_m) (hM.g_s2) dX13_arrives_20 rfl ?_
    refine T_aload0 dX13_arrives_23 rfl ?_
    refine g13_47 _ rfl (hM.t_m) (hM.g_s1) dX13_arrives_24 rfl ?_
    refine T_cV1 (c_X12_become hX hA.rf hS (by omega)) hX k13_371 (by first | exact Or.inl ⟨_, _, _, _, (hS.t_s), by decide, rfl⟩ | exact Or.inl ⟨_, _, _, _, (hA.t_s), by decide, rfl⟩) (by decide) (Nat.le_of_ble_eq_true rfl) dX13_arrives_27 rfl ?_
    rintro _ _ _ M8 ⟨rfl, rfl, rfl, hN⟩
    have hU := hU.nx hN.frame
    have hW := hW.re (by exact (congrFun (hN.frame m (by omega)) 11).trans hW.g_pl) (fun q g1 g2 => hN.frame q (by omega)) (KS.rf ρ)
    have hM := hM.nx hN.frame (by omega)
    have hS := hS.nx hN.frame (by omega)
    have hF : ∀ q, q < m ∨ (m < q ∧ q < m + 26) ∨ m + 54 ≤ q → M8 q = M q := fun q hq => (hN.frame q (by omega)).trans (hF q hq)
    have hA := hN.rf
    refine T_iconst (0) dX13_arrives_30 rfl rfl ?_
    refine T_istore2 rfl (by decide) dX13_arrives_31 rfl ?_
    rw [nI_cl (by omega)]
    refine T_cons (fun v sz9 τ9 M9 hq => ⟨fun q => absurd q c10, fun _ => hq⟩) ?_
    exact L_X13_arrives hX hL ho hi hj 202 0 _ _ _ _ _ _ (by omega) hM hS hA hW hU hF (by omega)
  ·
    refine T_aload0 dX13_arrives_13 rfl ?_
    refine T_iconst (1) dX13_arrives_14 rfl rfl ?_
    refine T_cV1 (c_X13_no hX hM.t_m _) hX k13_291 (Or.inl ⟨_, _, _, _, (hM.t_m), by decide, rfl⟩) (by decide) (Nat.le_of_ble_eq_true rfl) dX13_arrives_15 rfl ?_
    rintro _ _ _ M9 ⟨rfl, rfl, rfl, e9⟩
    refine T_iret rfl rfl dX13_arrives_18 ?_
    exact ⟨fun _ => ⟨rfl, TH.c e1 e9⟩, fun q => absurd c10 q⟩
set_option maxHeartbeats 1000000 in
theorem L_X13_breaks {l : Launch} {D : va_G} {cA : Nat → ClassId} {n0 : Nat} {sg adK adV : Nat → Nat} {sgA smA wdA bS LS : Nat} {xs : Nat → Int32} (hX : SF n0 (XW0 sg adK adV sgA smA wdA n0 bS LS xs)) {sz : Nat} {τ : TY} {M : ME} {m y z n8 tk dp a b c hc wc sn : Nat} {B : Nat → Nat} {ω ρ π : RH} {σ : Nat → Nat} {μ κ : Nat → Int32} (hL : y = m + 7 ∨ m + 54 ≤ y) (ho : PmOK a b c hc wc sn σ π) (hi : RI a b c ρ) {j : Nat} (hj : j < b) : ∀ (n : Nat) (k : Nat) (N1 N2 N3 Mk : ME) (μ2 κ2 : Nat → Int32) (hk0 : 1 ≤ k) (hk : k ≤ 201) (hM : MV τ N1 Mk m y z (m + 26) (m + 40) n8 tk dp B (u2 ω 90 0 0)) (hS : SL τ N2 Mk (m + 26) a b c ρ m μ κ) (hA : SL τ N3 Mk (m + 40) a b c (gbC a b c hc wc σ π ρ (k - 1)) m μ2 κ2) (hW : WN τ Mk m y (m + 26) a b c hc wc sn ρ π σ) (hU : WN τ Mk m y (m + 40) a b c hc wc sn ρ π σ) (hF : ∀ q, q < m ∨ (m < q ∧ q < m + 26) ∨ m + 54 ≤ q → Mk q = M q), 201 - k < n → T l D cA n0 (XW0 sg adK adV sgA smA wdA n0 bS LS xs) mX13_breaks 9 0 0 sz τ Mk 32 [.ref m, .int (nI j), .int (nI k)] [] (fun v' sz' τ' M' => v' = some (.int (brG a b c hc wc σ π ρ j k (201 - k))) ∧ SA τ M m sz sz' τ' M' y z n8 tk dp B ω a b c ρ) (fun _ _ _ _ => False) := by
  intro n
  induction n with
  | zero => intros; omega
  | succ n ih =>
    intro k N1 N2 N3 Mk μ2 κ2 hk0 hk hM hS hA hW hU hF hn
    obtain ⟨l3, l4, l5, l6, l7, l8⟩ := hW.ok
    refine T_iload2 dX13_breaks_32 rfl ?_
    refine T_sipush (200) dX13_breaks_33 rfl rfl ?_
    refine T_icmp_gt 75 39 dX13_breaks_36 (by decide) rfl (fun c36 => ?_) (fun c36 => ?_)
    ·
      have c36 : 200 < k := Nat.lt_of_not_le (fun q => absurd ((nI_leI (a := k) (b := 200) (by omega) (by omega)).mpr q) (Int32.not_le.mpr c36))
      refine T_iconst (-1) dX13_breaks_75 rfl rfl ?_
      refine T_iret rfl rfl dX13_breaks_76 ?_
      rw [brG_0 (by omega)]
      exact ⟨rfl, rfl, rfl, hF, hM.rf, ⟨_, _, hS.rf⟩, _, _, _, hA.rf⟩
    ·
      have c36 : k ≤ 200 := Nat.le_of_not_lt (fun q => c36 (nI_lt (a := 200) (by omega) (by omega)))
      refine T_aload0 dX13_breaks_39 rfl ?_
      refine g13_51 _ rfl (hM.t_m) (hM.g_s2) dX13_breaks_40 rfl ?_
      refine T_cV0 (c_X12_pass hX ho (hi.gb l3 (k - 1)) hA.rf (hU.ks ((KS.rf ρ).gb (k - 1)))) hX k13_375 (by first | exact Or.inl ⟨_, _, _, _, (hS.t_s), by decide, rfl⟩ | exact Or.inl ⟨_, _, _, _, (hA.t_s), by decide, rfl⟩) (by decide) (Nat.le_of_ble_eq_true rfl) dX13_breaks_43 rfl ?_
      rintro _ _ _ M8 ⟨rfl, rfl, rfl, μ9, κ9, hN⟩
      have hU := hU.nx hN.frame
      have hW := hW.re (by exact (congrFun (hN.frame m (by omega)) 11).trans hW.g_pl) (fun q g1 g2 => hN.frame q (by omega)) (KS.rf ρ)
      have hM := hM.nx hN.frame (by omega)
      have hS := hS.nx hN.frame (by omega)
      have hF : ∀ q, q < m ∨ (m < q ∧ q < m + 26) ∨ m + 54 ≤ q → M8 q = M q := fun q hq => (hN.frame q (by omega)).trans (hF q hq)
      have hA := hN.rf
      rw [show hrC a b c hc wc σ π (gbC a b c hc wc σ π ρ (k - 1)) = gbC a b c hc wc σ π ρ k from by rw [show k = k - 1 + 1 by omega]; rfl] at hA
      refine T_aload0 dX13_breaks_46 rfl ?_
      refine g13_51 _ rfl (hM.t_m) (hM.g_s2) dX13_breaks_47 rfl ?_
      first | refine g13_300 _ rfl (hS.t_s) (hS.g_a6) dX13_breaks_50 rfl ?_ | refine g13_300 _ rfl (hA.t_s) (hA.g_a6) dX13_breaks_50 rfl ?_
      refine T_iload1 dX13_breaks_53 rfl ?_
      first | refine T_iald _ (hS.t_a6) rfl (by omega) (by decide) dX13_breaks_54 rfl (hS.g_link (by omega)) ?_ | refine T_iald _ (hA.t_a6) rfl (by omega) (by decide) dX13_breaks_54 rfl (hA.g_link (by omega)) ?_
      refine T_aload0 dX13_breaks_55 rfl ?_
      refine g13_47 _ rfl (hM.t_m) (hM.g_s1) dX13_breaks_56 rfl ?_
      first | refine g13_300 _ rfl (hS.t_s) (hS.g_a6) dX13_breaks_59 rfl ?_ | refine g13_300 _ rfl (hA.t_s) (hA.g_a6) dX13_breaks_59 rfl ?_
      refine T_iload1 dX13_breaks_62 rfl ?_
      first | refine T_iald _ (hS.t_a6) rfl (by omega) (by decide) dX13_breaks_63 rfl (hS.g_link (by omega)) ?_ | refine T_iald _ (hA.t_a6) rfl (by omega) (by decide) dX13_breaks_63 rfl (hA.g_link (by omega)) ?_
      refine T_icmp_ge 69 67 dX13_breaks_64 (by decide) rfl (fun c64 => ?_) (fun c64 => ?_)
      ·
        first | refine T_iinc2 rfl (by decide) dX13_breaks_69 rfl (inc1 _) ?_ | refine T_iinc2 rfl (by decide) dX13_breaks_69 rfl rfl ?_
        refine T_goto 32 dX13_breaks_72 (by decide) ?_
        rw [brG_n (by omega) (fun q => Int32.not_le.mpr q c64)]
        exact ih (k + 1) _ _ _ _ _ _ (by omega) (by omega) hM hS hA hW hU hF (by omega)
      ·
        refine T_iload2 dX13_breaks_67 rfl ?_
        refine T_iret rfl rfl dX13_breaks_68 ?_
        rw [brG_y (by omega) (Int32.not_le.mp c64)]
        exact ⟨rfl, rfl, rfl, hF, hM.rf, ⟨_, _, hS.rf⟩, _, _, _, hA.rf⟩
set_option maxHeartbeats 1000000 in
theorem c_X13_breaks {l : Launch} {D : va_G} {cA : Nat → ClassId} {n0 : Nat} {sg adK adV : Nat → Nat} {sgA smA wdA bS LS : Nat} {xs : Nat → Int32} (hX : SF n0 (XW0 sg adK adV sgA smA wdA n0 bS LS xs)) {sz : Nat} {τ : TY} {N1 N2 M : ME} {m y z n8 tk dp a b c hc wc sn : Nat} {B : Nat → Nat} {ω ρ π : RH} {σ : Nat → Nat} {μ κ : Nat → Int32} (hM : MV τ N1 M m y z (m + 26) (m + 40) n8 tk dp B ω) (hS : SL τ N2 M (m + 26) a b c ρ m μ κ) (hW : WN τ M m y (m + 26) a b c hc wc sn ρ π σ) (hL : y = m + 7 ∨ m + 54 ≤ y) (ho : PmOK a b c hc wc sn σ π) (hi : RI a b c ρ) {N3 : ME} {ρ2 : RH} {μ2 κ2 : Nat → Int32} (hA : SL τ N3 M (m + 40) a b c ρ2 m μ2 κ2) (hU : WN τ M m y (m + 40) a b c hc wc sn ρ π σ) (x : Int32) : CT l D cA n0 (XW0 sg adK adV sgA smA wdA n0 bS LS xs) mX13_breaks 9 0 0 sz τ M [.ref m, .int x] (fun v' sz' τ' M' => (hasI x (nI b) = 0 → v' = some (.int 0) ∧ TH τ M m sz sz' τ' M' 1) ∧ (¬ hasI x (nI b) = 0 → v' = some (.int (brG a b c hc wc σ π ρ x.toNatClampNeg 1 200)) ∧ SA τ M m sz sz' τ' M' y z n8 tk dp B ω a b c ρ)) := by
  refine CT.of (ls := [.ref m, .int x, UU]) (by decide) (Nat.le_of_ble_eq_true rfl) rfl ?_
  refine T_szb (fun hz => ?_)
  have z1 := hM.hi hz
  have hm : m < sz := by omega
  obtain ⟨l3, l4, l5, l6, l7, l8⟩ := hW.ok
  have hF : ∀ q, q < m ∨ (m < q ∧ q < m + 26) ∨ m + 54 ≤ q → M q = M q := fun _ _ => rfl
  refine T_aload0 dX13_breaks_0 rfl ?_
  refine T_iconst (0) dX13_breaks_1 rfl rfl ?_
  refine p13_57 rfl (hM.t_m) dX13_breaks_2 rfl ?_
  refine T_nm (fun M1 e1 => ?_)
  have hM := MV.mv hM.p_th e1
  have hS := hS.frU e1 (by omega)
  have hA := hA.frU e1 (by omega)
  have hW := hW.frV e1 (by omega)
  have hU := hU.frV e1 (by omega)
  have hF : ∀ q, q < m ∨ (m < q ∧ q < m + 26) ∨ m + 54 ≤ q → M1 q = M q := fun q hq => (by rw [e1]; exact (up_a (by omega)).trans (hF q hq))
  refine T_aload0 dX13_breaks_5 rfl ?_
  refine T_iload1 dX13_breaks_6 rfl ?_
  refine T_cV1 (c_X13_isHorse hX hM hS hW hL _) hX k13_341 (Or.inl ⟨_, _, _, _, (hM.t_m), by decide, rfl⟩) (by decide) (Nat.le_of_ble_eq_true rfl) dX13_breaks_7 rfl ?_
  rintro _ _ _ _ ⟨rfl, rfl, rfl, rfl⟩
  refine T_if_ne 19 13 dX13_breaks_10 (by decide) rfl (fun c10 => ?_) (fun c10 => ?_)
  ·
    obtain ⟨j, hj, rfl⟩ := has_nI (by omega) c10
    refine T_aload0 dX13_breaks_19 rfl ?_
    refine g13_51 _ rfl (hM.t_m) (hM.g_s2) dX13_breaks_20 rfl ?_
    refine T_aload0 dX13_breaks_23 rfl ?_
    refine g13_47 _ rfl (hM.t_m) (hM.g_s1) dX13_breaks_24 rfl ?_
    refine T_cV1 (c_X12_become hX hA.rf hS (by omega)) hX k13_371 (by first | exact Or.inl ⟨_, _, _, _, (hS.t_s), by decide, rfl⟩ | exact Or.inl ⟨_, _, _, _, (hA.t_s), by decide, rfl⟩) (by decide) (Nat.le_of_ble_eq_true rfl) dX13_breaks_27 rfl ?_
    rintro _ _ _ M8 ⟨rfl, rfl, rfl, hN⟩
    have hU := hU.nx hN.frame
    have hW := hW.re (by exact (congrFun (hN.frame m (by omega)) 11).trans hW.g_pl) (fun q g1 g2 => hN.frame q (by omega)) (KS.rf ρ)
    have hM := hM.nx hN.frame (by omega)
    have hS := hS.nx hN.frame (by omega)
    have hF : ∀ q, q < m ∨ (m < q ∧ q < m + 26) ∨ m + 54 ≤ q → M8 q = M q := fun q hq => (hN.frame q (by omega)).trans (hF q hq)
    have hA := hN.rf
    refine T_iconst (1) dX13_breaks_30 rfl rfl ?_
    refine T_istore2 rfl (by decide) dX13_breaks_31 rfl ?_
    rw [nI_cl (by omega)]
    refine T_cons (fun v sz9 τ9 M9 hq => ⟨fun q => absurd q c10, fun _ => hq⟩) ?_
    exact L_X13_breaks hX hL ho hi hj 202 1 _ _ _ _ _ _ (by omega) (by omega) hM hS hA hW hU hF (by omega)
  ·
    refine T_aload0 dX13_breaks_13 rfl ?_
    refine T_iconst (1) dX13_breaks_14 rfl rfl ?_
    refine T_cV1 (c_X13_no hX hM.t_m _) hX k13_291 (Or.inl ⟨_, _, _, _, (hM.t_m), by decide, rfl⟩) (by decide) (Nat.le_of_ble_eq_true rfl) dX13_breaks_15 rfl ?_
    rintro _ _ _ M9 ⟨rfl, rfl, rfl, e9⟩
    refine T_iret rfl rfl dX13_breaks_18 ?_
    exact ⟨fun _ => ⟨rfl, TH.c e1 e9⟩, fun q => absurd c10 q⟩
