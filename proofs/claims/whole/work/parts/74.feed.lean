def shF (k : Nat) : Int32 := (24 - 8 * (nI k - nI k / 4 * 4)) &&& 31
def fdN (w : Nat → Int32) (k : Nat) : Nat := ((w (k / 4) >>> shF k) &&& 255).toNatClampNeg
def fdT (B : Nat → Nat) (w : Nat → Int32) (n k : Nat) : Nat → Nat := fun i => if n ≤ i ∧ i < n + k then fdN w (i - n) else B i
theorem dv4 : ∀ k, k < 20 → nI k / 4 = nI (k / 4) ∧ k / 4 < 5 := by decide
theorem an_255 (x : Int32) : ∃ j, j < 256 ∧ x &&& 255 = nI j := by
  refine ⟨(x &&& 255).toBitVec.toNat, ?_, ?_⟩
  · have : (x &&& 255).toBitVec.toNat = x.toBitVec.toNat &&& 255 := by simp
    rw [this]
    exact Nat.lt_of_le_of_lt Nat.and_le_right (by decide)
  · show x &&& 255 = Int32.ofNat (x &&& 255).toBitVec.toNat
    generalize x &&& 255 = y
    apply Int32.toBitVec.inj
    first
      | (rw [Int32.toBitVec_ofNat']; simp; done)
      | (rw [Int32.toBitVec_ofNat]; simp; done)
      | (simp; done)
      | exact (BitVec.ofNat_toNat 32 y.toBitVec).symm ▸ rfl
theorem fdN_ok (w : Nat → Int32) (k : Nat) : nI (fdN w k) = (w (k / 4) >>> shF k) &&& 255 ∧ fdN w k < 256 := by
  obtain ⟨j, hj, e⟩ := an_255 (w (k / 4) >>> shF k)
  unfold fdN
  rw [e, nI_cl (by omega)]
  exact ⟨rfl, hj⟩
theorem fdT_0 {B : Nat → Nat} {w : Nat → Int32} {n : Nat} : fdT B w n 0 = B := by
  funext i; unfold fdT; rw [if_neg (by omega)]
theorem fdT_s {B : Nat → Nat} {w : Nat → Int32} {n k : Nat} : u1 (fdT B w n k) (n + k) (fdN w k) = fdT B w n (k + 1) := by
  funext i
  unfold u1 fdT
  by_cases e : i = n + k
  · subst e; rw [if_pos rfl, if_pos (by omega), show n + k - n = k by omega]
  · rw [if_neg e]
    by_cases q : n ≤ i ∧ i < n + k
    · rw [if_pos q, if_pos (by omega)]
    · rw [if_neg q, if_neg (by omega)]
set_option maxHeartbeats 1000000 in
theorem L_X13_feed {l : Launch} {D : va_G} {cA : Nat → ClassId} {n0 : Nat} {sg adK adV : Nat → Nat} {sgA smA wdA bS LS : Nat} {xs : Nat → Int32} (hX : SF n0 (XW0 sg adK adV sgA smA wdA n0 bS LS xs)) {sz : Nat} {τ : TY} {M : ME} {m y z n8 tk dp g : Nat} {B : Nat → Nat} {ω : RH} {w : Nat → Int32} (hg : m + 7 ≤ g) (h8 : n8 ≤ 1980) {x1 x2 x3 x4 x5 : Value} : ∀ (n : Nat) (k : Nat) (N1 N2 Mk : ME) (hk : k ≤ 20) (hM : MV τ N1 Mk m y z (m + 26) (m + 40) n8 tk dp (fdT B w n8 k) (u2 ω 90 0 0)) (hA : AV τ N2 Mk g 5 w) (hF : ∀ q, q < m ∨ m + 7 ≤ q → Mk q = M q), 20 - k < n → T l D cA n0 (XW0 sg adK adV sgA smA wdA n0 bS LS xs) mX13_feed 2 0 0 sz τ Mk 51 [.ref m, x1, x2, x3, x4, x5, .ref g, .int (nI k)] [] (fun v' sz' τ' M' => v' = some (.int (nI (n8 + 20))) ∧ sz' = sz ∧ τ' = τ ∧ (∀ q, q < m ∨ m + 7 ≤ q → M' q = M q) ∧ MV τ M' M' m y z (m + 26) (m + 40) (n8 + 20) tk dp (fdT B w n8 20) (u2 ω 90 0 0)) (fun _ _ _ _ => False) := by
  intro n
  induction n with
  | zero => intros; omega
  | succ n ih =>
    intro k N1 N2 Mk hk hM hA hF hn
    refine T_iload7 dX13_feed_51 rfl ?_
    refine T_bipush (20) dX13_feed_53 rfl rfl ?_
    refine T_icmp_ge 98 58 dX13_feed_55 (by decide) rfl (fun c55 => ?_) (fun c55 => ?_)
    ·
      have c55 := le_out (c := 20) rfl c55
      refine T_aload0 dX13_feed_98 rfl ?_
      refine T_dup dX13_feed_99 rfl rfl ?_
      refine g13_86 _ rfl (hM.t_m) (hM.g_n) dX13_feed_100 rfl ?_
      refine T_bipush (20) dX13_feed_103 rfl rfl ?_
      refine T_iadd dX13_feed_105 rfl ?_
      refine p13_86 rfl (hM.t_m) dX13_feed_106 rfl ?_
      refine T_nm (fun M1 e1 => ?_)
      have hM := MV.mv (hM.p_n (n := n8 + 20) (nI_add n8 20)) e1
      have hA := hA.frU e1 (by omega)
      have hF : ∀ q, q < m ∨ m + 7 ≤ q → M1 q = M q := fun q hq => (by rw [e1]; exact (up_a (by omega)).trans (hF q hq))
      refine T_aload0 dX13_feed_109 rfl ?_
      refine g13_86 _ rfl (hM.t_m) (hM.g_n) dX13_feed_110 rfl ?_
      refine T_iret rfl rfl dX13_feed_113 ?_
      obtain rfl : k = 20 := by omega
      exact ⟨rfl, rfl, rfl, hF, hM.rf⟩
    ·
      have c55 := lt_in (c := 20) rfl c55
      refine T_aload0 dX13_feed_58 rfl ?_
      refine g13_9 _ rfl (hM.t_m) (hM.g_tp) dX13_feed_59 rfl ?_
      refine T_aload0 dX13_feed_62 rfl ?_
      refine g13_86 _ rfl (hM.t_m) (hM.g_n) dX13_feed_63 rfl ?_
      refine T_iload7 dX13_feed_66 rfl ?_
      refine T_iadd dX13_feed_68 rfl ?_
      refine T_aload6 dX13_feed_69 rfl ?_
      refine T_iload7 dX13_feed_71 rfl ?_
      refine T_iconst (4) dX13_feed_73 rfl rfl ?_
      refine T_idiv dX13_feed_74 rfl (by decide) ?_
      refine T_iald _ hA.t_e (dv4 k c55).1 (by omega) (by decide) dX13_feed_75 rfl (hA.g_v (dv4 k c55).2) ?_
      refine T_bipush (24) dX13_feed_76 rfl rfl ?_
      refine T_bipush (8) dX13_feed_78 rfl rfl ?_
      refine T_iload7 dX13_feed_80 rfl ?_
      refine T_iconst (4) dX13_feed_82 rfl rfl ?_
      refine T_irem dX13_feed_83 rfl (by decide) ?_
      refine T_imul dX13_feed_84 rfl ?_
      refine T_isub dX13_feed_85 rfl ?_
      refine T_ishr dX13_feed_86 rfl ?_
      refine T_sipush (255) dX13_feed_87 rfl rfl ?_
      refine T_iand dX13_feed_90 rfl ?_
      rw [show (w (k / 4) >>> ((24 - 8 * (nI k - nI k / 4 * 4)) &&& 31)) &&& 255 = nI (fdN w k) from (fdN_ok w k).1.symm]
      refine T_iast _ (hM.t_tp) (nI_add _ _) (by omega) (by decide) dX13_feed_91 rfl ?_
      refine T_nm (fun M2 e2 => ?_)
      have hM := MV.mv (hM.p_by (by omega)) e2
      have hA := hA.frU e2 (by omega)
      have hF : ∀ q, q < m ∨ m + 7 ≤ q → M2 q = M q := fun q hq => (by rw [e2]; exact (up_a (by omega)).trans (hF q hq))
      first | refine T_iinc7 rfl (by decide) dX13_feed_92 rfl (inc1 _) ?_ | refine T_iinc7 rfl (by decide) dX13_feed_92 rfl rfl ?_
      refine T_goto 51 dX13_feed_95 (by decide) ?_
      exact ih (k + 1) _ _ _ (by omega) (by rw [← fdT_s]; exact hM) hA hF (by omega)
def feW (x1 x2 x3 x4 x5 : Int32) : Nat → Int32 := uI (uI (uI (uI (uI (fun _ => 0) 0 x1) 1 x2) 2 x3) 3 x4) 4 x5
set_option maxHeartbeats 1000000 in
theorem c_X13_feed {l : Launch} {D : va_G} {cA : Nat → ClassId} {n0 : Nat} {sg adK adV : Nat → Nat} {sgA smA wdA bS LS : Nat} {xs : Nat → Int32} (hX : SF n0 (XW0 sg adK adV sgA smA wdA n0 bS LS xs)) {sz : Nat} {τ : TY} {N1 M : ME} {m y z n8 tk dp : Nat} {B : Nat → Nat} {ω : RH} (hM : MV τ N1 M m y z (m + 26) (m + 40) n8 tk dp B ω) (h8 : n8 ≤ 2000) (x1 x2 x3 x4 x5 : Int32) : CT l D cA n0 (XW0 sg adK adV sgA smA wdA n0 bS LS xs) mX13_feed 2 1 5 sz τ M [.ref m, .int x1, .int x2, .int x3, .int x4, .int x5] (fun v' sz' τ' M' => (¬ n8 ≤ 1980 → v' = some (.int 0) ∧ TH τ M m sz sz' τ' M' 1) ∧ (n8 ≤ 1980 → v' = some (.int (nI (n8 + 20))) ∧ sz' = sz + 1 ∧ (∀ q, q < sz → τ' q = τ q) ∧ (∀ q, q < sz → q < m ∨ m + 7 ≤ q → M' q = M q) ∧ MV τ' M' M' m y z (m + 26) (m + 40) (n8 + 20) tk dp (fdT B (feW x1 x2 x3 x4 x5) n8 20) (u2 ω 90 0 0))) := by
  refine CT.of (ls := [.ref m, .int x1, .int x2, .int x3, .int x4, .int x5, UU, UU]) (by decide) (Nat.le_of_ble_eq_true rfl) rfl ?_
  refine T_szb (fun hz => ?_)
  have z1 := hM.hi hz
  have hm : m < sz := by omega
  have hK : ∀ q, q < sz → q < m ∨ m + 7 ≤ q → M q = M q := fun _ _ _ => rfl
  refine T_aload0 dX13_feed_0 rfl ?_
  refine T_iconst (0) dX13_feed_1 rfl rfl ?_
  refine p13_57 rfl (hM.t_m) dX13_feed_2 rfl ?_
  refine T_nm (fun M1 e1 => ?_)
  have hM := MV.mv hM.p_th e1
  have hK : ∀ q, q < sz → q < m ∨ m + 7 ≤ q → M1 q = M q := fun q hq hq2 => (by rw [e1]; exact (up_a (by omega)).trans (hK q hq hq2))
  refine T_aload0 dX13_feed_5 rfl ?_
  refine g13_86 _ rfl (hM.t_m) (hM.g_n) dX13_feed_6 rfl ?_
  refine T_sipush (1980) dX13_feed_9 rfl rfl ?_
  refine T_icmp_le 21 15 dX13_feed_12 (by decide) rfl (fun c12 => ?_) (fun c12 => ?_)
  ·
    have c12 := (nI_leI (b := 1980) (by omega) (by omega)).mp c12
    refine T_iconst (5) dX13_feed_21 rfl rfl ?_
    refine T_newa (atype := .int) (N := 5) 0 (fun _ => .int 0) w360 (by decide) rfl rfl (by decide) rfl dX13_feed_22 rfl ?_
    refine T_nt (fun τ2 eτ => ?_)
    refine T_nm (fun Mn en => ?_)
    have hM := (hM.tau (τ' := τ2) (fun q g1 g2 => by rw [eτ]; exact tyN_n (by omega))).fr (M1 := Mn) (fun q g1 g2 => by rw [en]; exact meN_n (by omega))
    have hA : AV τ2 Mn Mn sz 5 (fun _ => 0) := ⟨by rw [eτ]; exact tyN_s _ _ _, fun i hi => by rw [en, meN_s], Fr.rf _ _ _⟩
    have hK : ∀ q, q < sz → q < m ∨ m + 7 ≤ q → Mn q = M q := fun q hq hq2 => by rw [en, meN_n (by omega)]; exact hK q hq hq2
    have hT : ∀ q, q < sz → τ2 q = τ q := fun q hq => by rw [eτ]; exact tyN_n (by omega)
    refine T_dup dX13_feed_24 rfl rfl ?_
    refine T_iconst (0) dX13_feed_25 rfl rfl ?_
    refine T_iload1 dX13_feed_26 rfl ?_
    refine T_iast _ (hA.t_e) (show (0 : Int32) = nI 0 from rfl) (by omega) (by decide) dX13_feed_27 rfl ?_
    refine T_nm (fun M2 e2 => ?_)
    have hA := AV.mv (hA.p_v (by omega)) e2
    have hM := hM.frU e2 (by omega)
    have hK : ∀ q, q < sz → q < m ∨ m + 7 ≤ q → M2 q = M q := fun q hq hq2 => (by rw [e2]; exact (up_a (by omega)).trans (hK q hq hq2))
    refine T_dup dX13_feed_28 rfl rfl ?_
    refine T_iconst (1) dX13_feed_29 rfl rfl ?_
    refine T_iload2 dX13_feed_30 rfl ?_
    refine T_iast _ (hA.t_e) (show (1 : Int32) = nI 1 from rfl) (by omega) (by decide) dX13_feed_31 rfl ?_
    refine T_nm (fun M3 e3 => ?_)
    have hA := AV.mv (hA.p_v (by omega)) e3
    have hM := hM.frU e3 (by omega)
    have hK : ∀ q, q < sz → q < m ∨ m + 7 ≤ q → M3 q = M q := fun q hq hq2 => (by rw [e3]; exact (up_a (by omega)).trans (hK q hq hq2))
    refine T_dup dX13_feed_32 rfl rfl ?_
    refine T_iconst (2) dX13_feed_33 rfl rfl ?_
    refine T_iload3 dX13_feed_34 rfl ?_
    refine T_iast _ (hA.t_e) (show (2 : Int32) = nI 2 from rfl) (by omega) (by decide) dX13_feed_35 rfl ?_
    refine T_nm (fun M4 e4 => ?_)
    have hA := AV.mv (hA.p_v (by omega)) e4
    have hM := hM.frU e4 (by omega)
    have hK : ∀ q, q < sz → q < m ∨ m + 7 ≤ q → M4 q = M q := fun q hq hq2 => (by rw [e4]; exact (up_a (by omega)).trans (hK q hq hq2))
    refine T_dup dX13_feed_36 rfl rfl ?_
    refine T_iconst (3) dX13_feed_37 rfl rfl ?_
    refine T_iload4 dX13_feed_38 rfl ?_
    refine T_iast _ (hA.t_e) (show (3 : Int32) = nI 3 from rfl) (by omega) (by decide) dX13_feed_40 rfl ?_
    refine T_nm (fun M5 e5 => ?_)
    have hA := AV.mv (hA.p_v (by omega)) e5
    have hM := hM.frU e5 (by omega)
    have hK : ∀ q, q < sz → q < m ∨ m + 7 ≤ q → M5 q = M q := fun q hq hq2 => (by rw [e5]; exact (up_a (by omega)).trans (hK q hq hq2))
    refine T_dup dX13_feed_41 rfl rfl ?_
    refine T_iconst (4) dX13_feed_42 rfl rfl ?_
    refine T_iload5 dX13_feed_43 rfl ?_
    refine T_iast _ (hA.t_e) (show (4 : Int32) = nI 4 from rfl) (by omega) (by decide) dX13_feed_45 rfl ?_
    refine T_nm (fun M6 e6 => ?_)
    have hA := AV.mv (hA.p_v (by omega)) e6
    have hM := hM.frU e6 (by omega)
    have hK : ∀ q, q < sz → q < m ∨ m + 7 ≤ q → M6 q = M q := fun q hq hq2 => (by rw [e6]; exact (up_a (by omega)).trans (hK q hq hq2))
    refine T_astore6 rfl (by decide) dX13_feed_46 rfl ?_
    refine T_iconst (0) dX13_feed_48 rfl rfl ?_
    refine T_istore7 rfl (by decide) dX13_feed_49 rfl ?_
    refine T_cons ?_ (L_X13_feed hX (m := m) (g := sz) (w := feW x1 x2 x3 x4 x5) (by omega) c12 21 0 _ _ _ (by omega) (by rw [fdT_0]; exact hM) hA (fun _ _ => rfl) (by omega))
    rintro v sz9 τ9 M9 ⟨g1, rfl, rfl, g4, g5⟩
    exact ⟨fun q => absurd c12 q, fun _ => ⟨g1, rfl, hT, fun q h1 h2 => (g4 q h2).trans (hK q h1 h2), g5⟩⟩
  ·
    have c12 : ¬ n8 ≤ 1980 := fun q => c12 ((nI_leI (b := 1980) (by omega) (by omega)).mpr q)
    refine T_aload0 dX13_feed_15 rfl ?_
    refine T_iconst (1) dX13_feed_16 rfl rfl ?_
    refine T_cV1 (c_X13_no hX hM.t_m _) hX k13_291 (Or.inl ⟨_, _, _, _, (hM.t_m), by decide, rfl⟩) (by decide) (Nat.le_of_ble_eq_true rfl) dX13_feed_17 rfl ?_
    rintro _ _ _ M9 ⟨rfl, rfl, rfl, e9⟩
    refine T_iret rfl rfl dX13_feed_20 ?_
    exact ⟨fun _ => ⟨rfl, TH.c e1 e9⟩, fun q => absurd q c12⟩
