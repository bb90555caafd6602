def shA (k : Nat) : Int32 := 24 - 8 * nI k
theorem shA_0 : ∀ k, k < 5 → (shA k < 0 ↔ k = 4) := by decide
theorem shA_1 : ∀ k, k < 4 → shA k + Int32.ofInt (-8) = shA (k + 1) := by decide
theorem shA_F : ∀ q, q < 5 → ∀ k, k < 4 → shF (4 * q + k) = shA k &&& 31 ∧ (4 * q + k) / 4 = q := by decide
theorem i8_and (y : Int32) : y.toInt8 = (y &&& 255).toInt8 := by
  apply Int8.toBitVec.inj
  show y.toBitVec.signExtend 8 = (y.toBitVec &&& 255#32).signExtend 8
  apply BitVec.eq_of_getLsbD_eq
  intro i hi
  have h8 : ∀ j, j < 8 → (255#32).getLsbD j = true := by decide
  simp [BitVec.getLsbD_signExtend, BitVec.getLsbD_and, hi, h8 i hi, show i < 32 by omega]
  exact fun _ => (show ∀ (k : Nat) (h : k < 8), (255#8)[k]'h = true from by decide) i hi
theorem i8_sx : ∀ j, j < 256 → vp_nar .byte (nI j).toInt8.toInt32 = sx j := by decide +kernel
theorem i8_fd (w : Nat → Int32) (q k : Nat) (hq : q < 5) (hk : k < 4) : vp_nar .byte ((w q >>> (shA k &&& 31)).toInt8.toInt32) = sx (fdN w (4 * q + k)) := by
  obtain ⟨h1, h2⟩ := fdN_ok w (4 * q + k)
  obtain ⟨h3, h4⟩ := shA_F q hq k hk
  rw [h4, h3] at h1
  rw [i8_and, ← h1]
  exact i8_sx _ h2
set_option maxHeartbeats 1000000 in
theorem L_X10_append {l : Launch} {D : va_G} {cA : Nat → ClassId} {n0 : Nat} {sg adK adV : Nat → Nat} {sgA smA wdA bS LS : Nat} {xs : Nat → Int32} (hX : SF n0 (XW0 sg adK adV sgA smA wdA n0 bS LS xs)) {sz : Nat} {τ : TY} {B : Nat → Nat} {w : Nat → Int32} {x r p r2 p2 n8 q : Nat} {ω : RH} (h8 : n8 ≤ 1980) (hq5 : q < 5) {M : ME} : ∀ (n : Nat) (k : Nat) (N1 N2 Mk : ME) (hk : k ≤ 4) (hV : FV τ N1 Mk x r p r2 p2 (n8 + 4 * q + k) ω) (hB : BM τ N2 Mk (x + 1) (fdT B w n8 (4 * q + k))) (hF : ∀ q, q ≠ x → q ≠ x + 1 → Mk q = M q), 4 - k < n → T l D cA n0 (XW0 sg adK adV sgA smA wdA n0 bS LS xs) mX10_append 1 0 0 sz τ Mk 3 [.ref x, .int (w q), .int (shA k)] [] (fun v' sz' τ' M' => v' = none ∧ sz' = sz ∧ τ' = τ ∧ FV τ M' M' x r p r2 p2 (n8 + 4 * q + 4) ω ∧ BM τ M' M' (x + 1) (fdT B w n8 (4 * q + 4)) ∧ ∀ q, q ≠ x → q ≠ x + 1 → M' q = M q) (fun _ _ _ _ => False) := by
  intro n
  induction n with
  | zero => intros; omega
  | succ n ih =>
    intro k N1 N2 Mk hk hV hB hF hn
    refine T_iload2 dX10_append_3 rfl ?_
    refine T_if_lt 55 7 dX10_append_4 (by decide) rfl (fun c4 => ?_) (fun c4 => ?_)
    ·
      have c4 := (shA_0 k (by omega)).mp c4
      subst c4
      refine T_vret rfl dX10_append_55 ?_
      exact ⟨rfl, rfl, rfl, hV.rf, hB.rf, hF⟩
    ·
      have c4 : k < 4 := by have := mt (shA_0 k (by omega)).mpr c4; omega
      refine T_aload0 dX10_append_7 rfl ?_
      refine g10_13 _ rfl (hV.t_x) (hV.g_n) dX10_append_8 rfl ?_
      refine T_if_lt_f 49 14 dX10_append_11 (by decide) rfl (nI_pos (by omega)) ?_
      refine T_aload0 dX10_append_14 rfl ?_
      refine g10_13 _ rfl (hV.t_x) (hV.g_n) dX10_append_15 rfl ?_
      refine T_aload0 dX10_append_18 rfl ?_
      refine g10_9 _ rfl (hV.t_x) (hV.g_tp) dX10_append_19 rfl ?_
      refine T_alen (j := 1) (hB.t_tp) (by decide) dX10_append_22 rfl ?_
      refine T_icmp_ge_f 49 26 dX10_append_23 (by decide) rfl (fun z => absurd ((nI_leI (a := 2000) (by omega) (by omega)).mp z) (by omega)) ?_
      refine T_aload0 dX10_append_26 rfl ?_
      refine g10_9 _ rfl (hV.t_x) (hV.g_tp) dX10_append_27 rfl ?_
      refine T_aload0 dX10_append_30 rfl ?_
      refine g10_13 _ rfl (hV.t_x) (hV.g_n) dX10_append_31 rfl ?_
      refine T_iload1 dX10_append_34 rfl ?_
      refine T_iload2 dX10_append_35 rfl ?_
      refine T_ishr dX10_append_36 rfl ?_
      refine T_i2b dX10_append_37 rfl ?_
      refine T_bast _ hB.t_tp rfl (by omega) (by decide) dX10_append_38 rfl ?_
      rw [i8_fd w q k hq5 c4]
      refine T_nm (fun M5 e5 => ?_)
      have hB := BM.mv (hB.p_by (n := fdN w (4 * q + k)) (i0 := n8 + 4 * q + k) (by omega)) e5
      have hV := hV.frU e5 (by omega)
      have hF : ∀ q, q ≠ x → q ≠ x + 1 → M5 q = M q := fun q g1 g2 => (by rw [e5]; exact (up_a (by omega)).trans (hF q g1 g2))
      rw [show n8 + 4 * q + k = n8 + (4 * q + k) from by omega, fdT_s] at hB
      refine T_aload0 dX10_append_39 rfl ?_
      refine T_dup dX10_append_40 rfl rfl ?_
      refine g10_13 _ rfl (hV.t_x) (hV.g_n) dX10_append_41 rfl ?_
      refine T_iconst (1) dX10_append_44 rfl rfl ?_
      refine T_iadd dX10_append_45 rfl ?_
      refine p10_13 rfl (hV.t_x) dX10_append_46 rfl ?_
      refine T_nm (fun M1 e1 => ?_)
      have hV := FV.mv (hV.p_n (n := n8 + 4 * q + k + 1) (nI_1 _)) e1
      have hB := hB.frU e1 (by omega)
      have hF : ∀ q, q ≠ x → q ≠ x + 1 → M1 q = M q := fun q g1 g2 => (by rw [e1]; exact (up_a (by omega)).trans (hF q g1 g2))
      refine T_iinc2 rfl (by decide) dX10_append_49 rfl (shA_1 k c4) ?_
      refine T_goto 3 dX10_append_52 (by decide) ?_
      exact ih (k + 1) _ _ _ (by omega) (by exact hV) (by exact hB) hF (by omega)
set_option maxHeartbeats 1000000 in
theorem c_X10_append {l : Launch} {D : va_G} {cA : Nat → ClassId} {n0 : Nat} {sg adK adV : Nat → Nat} {sgA smA wdA bS LS : Nat} {xs : Nat → Int32} (hX : SF n0 (XW0 sg adK adV sgA smA wdA n0 bS LS xs)) {sz : Nat} {τ : TY} {B : Nat → Nat} {w : Nat → Int32} {x r p r2 p2 n8 q : Nat} {ω : RH} (h8 : n8 ≤ 1980) (hq5 : q < 5) {N1 N2 M : ME} (hV : FV τ N1 M x r p r2 p2 (n8 + 4 * q) ω) (hB : BM τ N2 M (x + 1) (fdT B w n8 (4 * q))) : CT l D cA n0 (XW0 sg adK adV sgA smA wdA n0 bS LS xs) mX10_append 1 0 0 sz τ M [.ref x, .int (w q)] (fun v' sz' τ' M' => v' = none ∧ sz' = sz ∧ τ' = τ ∧ FV τ M' M' x r p r2 p2 (n8 + 4 * q + 4) ω ∧ BM τ M' M' (x + 1) (fdT B w n8 (4 * q + 4)) ∧ ∀ q, q ≠ x → q ≠ x + 1 → M' q = M q) := by
  refine CT.of (ls := [.ref x, .int (w q), UU]) (by decide) (Nat.le_of_ble_eq_true rfl) rfl ?_
  refine T_bipush (24) dX10_append_0 rfl rfl ?_
  refine T_istore2 rfl (by decide) dX10_append_2 rfl ?_
  exact L_X10_append hX h8 hq5 5 0 _ _ _ (by omega) hV hB (fun _ _ _ => rfl) (by omega)
set_option maxHeartbeats 1000000 in
theorem c_X10_feed {l : Launch} {D : va_G} {cA : Nat → ClassId} {n0 : Nat} {sg adK adV : Nat → Nat} {sgA smA wdA bS LS : Nat} {xs : Nat → Int32} (hX : SF n0 (XW0 sg adK adV sgA smA wdA n0 bS LS xs)) (hl : l.stackTraces = false) {sz : Nat} {τ : TY} {B : Nat → Nat} {N1 N2 M : ME} {x r p r2 p2 n8 : Nat} {ω : RH} (h20 : n8 ≤ 2000) (hV : FV τ N1 M x r p r2 p2 n8 ω) (hB : BM τ N2 M (x + 1) B) (x1 x2 x3 x4 x5 : Int32) : CX l D cA n0 (XW0 sg adK adV sgA smA wdA n0 bS LS xs) mX10_feed 7 1 6 sz τ M [.ref x, .int x1, .int x2, .int x3, .int x4, .int x5] (fun v' sz' τ' M' => (v' = some (.int (nI (n8 + 20))) ∧ n8 ≤ 1980) ∧ sz' = sz ∧ τ' = τ ∧ FV τ M' M' x r p r2 p2 (n8 + 20) ω ∧ BM τ M' M' (x + 1) (fdT B (feW x1 x2 x3 x4 x5) n8 20) ∧ ∀ q, q ≠ x → q ≠ x + 1 → M' q = M q) (fun E sz' τ' M' => (E = "java/lang/IllegalStateException" ∧ ¬ n8 ≤ 1980) ∧ sz ≤ sz' ∧ τ' = τ ∧ M' = M) := by
  refine CX.of (ls := [.ref x, .int x1, .int x2, .int x3, .int x4, .int x5]) hl rfl ?_ (by decide) (Nat.le_of_ble_eq_true rfl) rfl ?_
  · exact site_feed (by decide)
  refine T_aload0 dX10_feed_0 rfl ?_
  refine g10_13 _ rfl (hV.t_x) (hV.g_n) dX10_feed_1 rfl ?_
  refine T_sipush (1980) dX10_feed_4 rfl rfl ?_
  refine T_icmp_le 20 10 dX10_feed_7 (by decide) rfl (fun c7 => ?_) (fun c7 => ?_)
  ·
    have h8 : n8 ≤ 1980 := (nI_leI (b := 1980) (by omega) (by omega)).mp c7
    refine T_aload0 dX10_feed_20 rfl ?_
    refine T_iload1 dX10_feed_21 rfl ?_
    refine T_cV1 (c_X10_append hX (q := 0) (w := feW x1 x2 x3 x4 x5) h8 (by decide) hV (by rw [fdT_0]; exact hB)) hX k10_56 (Or.inl ⟨_, _, _, _, (hV.t_x), by decide, rfl⟩) (by decide) (Nat.le_of_ble_eq_true rfl) dX10_feed_22 rfl ?_
    rintro _ _ _ M1 ⟨rfl, rfl, rfl, hV, hB, hF1⟩
    refine T_aload0 dX10_feed_25 rfl ?_
    refine T_iload2 dX10_feed_26 rfl ?_
    refine T_cV1 (c_X10_append hX (q := 1) (w := feW x1 x2 x3 x4 x5) h8 (by decide) hV hB) hX k10_56 (Or.inl ⟨_, _, _, _, (hV.t_x), by decide, rfl⟩) (by decide) (Nat.le_of_ble_eq_true rfl) dX10_feed_27 rfl ?_
    rintro _ _ _ M2 ⟨rfl, rfl, rfl, hV, hB, hF2⟩
    refine T_aload0 dX10_feed_30 rfl ?_
    refine T_iload3 dX10_feed_31 rfl ?_
    refine T_cV1 (c_X10_append hX (q := 2) (w := feW x1 x2 x3 x4 x5) h8 (by decide) hV hB) hX k10_56 (Or.inl ⟨_, _, _, _, (hV.t_x), by decide, rfl⟩) (by decide) (Nat.le_of_ble_eq_true rfl) dX10_feed_32 rfl ?_
    rintro _ _ _ M3 ⟨rfl, rfl, rfl, hV, hB, hF3⟩
    refine T_aload0 dX10_feed_35 rfl ?_
    refine T_iload4 dX10_feed_36 rfl ?_
    refine T_cV1 (c_X10_append hX (q := 3) (w := feW x1 x2 x3 x4 x5) h8 (by decide) hV hB) hX k10_56 (Or.inl ⟨_, _, _, _, (hV.t_x), by decide, rfl⟩) (by decide) (Nat.le_of_ble_eq_true rfl) dX10_feed_38 rfl ?_
    rintro _ _ _ M4 ⟨rfl, rfl, rfl, hV, hB, hF4⟩
    refine T_aload0 dX10_feed_41 rfl ?_
    refine T_iload5 dX10_feed_42 rfl ?_
    refine T_cV1 (c_X10_append hX (q := 4) (w := feW x1 x2 x3 x4 x5) h8 (by decide) hV hB) hX k10_56 (Or.inl ⟨_, _, _, _, (hV.t_x), by decide, rfl⟩) (by decide) (Nat.le_of_ble_eq_true rfl) dX10_feed_44 rfl ?_
    rintro _ _ _ M5 ⟨rfl, rfl, rfl, hV, hB, hF5⟩
    refine T_aload0 dX10_feed_47 rfl ?_
    refine g10_13 _ rfl (hV.t_x) (hV.g_n) dX10_feed_48 rfl ?_
    refine T_iret rfl rfl dX10_feed_51 ?_
    exact ⟨⟨rfl, h8⟩, rfl, rfl, hV, hB, fun q g1 g2 => (hF5 q g1 g2).trans ((hF4 q g1 g2).trans ((hF3 q g1 g2).trans ((hF2 q g1 g2).trans (hF1 q g1 g2))))⟩
  ·
    have h8 : ¬ n8 ≤ 1980 := fun z => c7 ((nI_leI (b := 1980) (by omega) (by omega)).mpr z)
    refine T_site (E := "java/lang/IllegalStateException") (by decide) (Nat.le_of_ble_eq_true rfl) ?_
    exact ⟨⟨rfl, h8⟩, Nat.le_refl _, rfl, rfl⟩
set_option maxHeartbeats 1000000 in
theorem c_X10_trim {l : Launch} {D : va_G} {cA : Nat → ClassId} {n0 : Nat} {sg adK adV : Nat → Nat} {sgA smA wdA bS LS : Nat} {xs : Nat → Int32} (hX : SF n0 (XW0 sg adK adV sgA smA wdA n0 bS LS xs)) (hl : l.stackTraces = false) {sz : Nat} {τ : TY} {N1 M : ME} {x r p r2 p2 n8 : Nat} {ω : RH} (h20 : n8 ≤ 2000) (hV : FV τ N1 M x r p r2 p2 n8 ω) (w : Int32) : CX l D cA n0 (XW0 sg adK adV sgA smA wdA n0 bS LS xs) mX10_trim 7 1 6 sz τ M [.ref x, .int w] (fun v' sz' τ' M' => (v' = some (.int w) ∧ ¬ iiF w 0 (nI n8) = 0) ∧ sz' = sz ∧ τ' = τ ∧ FV τ M' M' x r p r2 p2 w.toNatClampNeg ω ∧ ∀ q, q ≠ x → M' q = M q) (fun E sz' τ' M' => ((E = "java/lang/IllegalArgumentException" ∧ iiF w 0 (nI n8) = 0)) ∧ sz ≤ sz' ∧ τ' = τ ∧ M' = M) := by
  refine CX.of (ls := [.ref x, .int w]) hl rfl ?_ (by decide) (Nat.le_of_ble_eq_true rfl) rfl ?_
  · intro q hq; exact absurd hq (List.not_mem_nil)
  refine T_iload1 dX10_trim_0 rfl ?_
  refine T_iconst (0) dX10_trim_1 rfl rfl ?_
  refine T_aload0 dX10_trim_2 rfl ?_
  refine g10_13 _ rfl (hV.t_x) (hV.g_n) dX10_trim_3 rfl ?_
  refine T_cXS3 (c_X10_checkRange hX hl _ _ _) hX k10_60 (by decide) (Nat.le_of_ble_eq_true rfl) dX10_trim_6 rfl ?_ (by
    rintro _ _ z2 _ _ ⟨rfl, rfl, rfl, rfl, h5⟩ hz
    exact ⟨⟨rfl, h5⟩, hz, rfl, rfl⟩)
  rintro _ _ _ _ ⟨rfl, rfl, rfl, rfl, h1⟩
  have h0 := h1
  obtain ⟨j, hj, rfl⟩ := ii_nI2 (n := n8) (by omega) h1
  rw [nI_cl (by omega)]
  refine T_aload0 dX10_trim_9 rfl ?_
  refine T_iload1 dX10_trim_10 rfl ?_
  refine p10_13 rfl (hV.t_x) dX10_trim_11 rfl ?_
  refine T_nm (fun M1 e1 => ?_)
  have hV := FV.mv (hV.p_n (n := j) rfl) e1
  refine T_iload1 dX10_trim_14 rfl ?_
  refine T_iret rfl rfl dX10_trim_15 ?_
  exact ⟨⟨rfl, h0⟩, rfl, rfl, hV.rf, fun q g => by rw [e1]; exact up_a g⟩
set_option maxHeartbeats 1000000 in
theorem c_X10_setWeather {l : Launch} {D : va_G} {cA : Nat → ClassId} {n0 : Nat} {sg adK adV : Nat → Nat} {sgA smA wdA bS LS : Nat} {xs : Nat → Int32} (hX : SF n0 (XW0 sg adK adV sgA smA wdA n0 bS LS xs)) (hl : l.stackTraces = false) {sz : Nat} {τ : TY} {N1 N2 M : ME} {x r p r2 p2 n8 a b c : Nat} {ω ρ : RH} {ν : NU} (hV : FV τ N1 M x r p r2 p2 n8 ω) (hR : LM τ N2 M r a b c ρ ν) (hd : r + 38 ≤ x ∨ x + 1 ≤ r) (w : Int32) : CX l D cA n0 (XW0 sg adK adV sgA smA wdA n0 bS LS xs) mX10_setWeather 7 1 6 sz τ M [.ref x, .int w] (fun v' sz' τ' M' => (v' = some (.int (ρ 7 0)) ∧ ¬ iiF w (-3) 3 = 0) ∧ sz' = sz ∧ τ' = τ ∧ LM τ M M' r a b c (u2 ρ 7 0 w) ν) (fun E sz' τ' M' => ((E = "java/lang/IllegalArgumentException" ∧ iiF w (-3) 3 = 0)) ∧ sz ≤ sz' ∧ τ' = τ ∧ M' = M) := by
  refine CX.of (ls := [.ref x, .int w, UU]) hl rfl ?_ (by decide) (Nat.le_of_ble_eq_true rfl) rfl ?_
  · intro q hq; exact absurd hq (List.not_mem_nil)
  obtain ⟨la, lb, lc⟩ := hR.ok
  have hR := hR.rf
  refine T_iload1 dX10_setWeather_0 rfl ?_
  refine T_bipush (-3) dX10_setWeather_1 rfl rfl ?_
  refine T_iconst (3) dX10_setWeather_3 rfl rfl ?_
  refine T_cXS3 (c_X10_checkRange hX hl _ _ _) hX k10_60 (by decide) (Nat.le_of_ble_eq_true rfl) dX10_setWeather_4 rfl ?_ (by
    rintro _ _ z2 _ _ ⟨rfl, rfl, rfl, rfl, h5⟩ hz
    exact ⟨⟨rfl, h5⟩, hz, rfl, rfl⟩)
  rintro _ _ _ _ ⟨rfl, rfl, rfl, rfl, h1⟩
  
  refine T_aload0 dX10_setWeather_7 rfl ?_
  refine g10_23 _ rfl (hV.t_x) (hV.g_r) dX10_setWeather_8 rfl ?_
  refine g10_78 _ rfl hR.t hR.r7 dX10_setWeather_11 rfl ?_
  refine T_istore2 rfl (by decide) dX10_setWeather_14 rfl ?_
  refine T_aload0 dX10_setWeather_15 rfl ?_
  refine g10_23 _ rfl (hV.t_x) (hV.g_r) dX10_setWeather_16 rfl ?_
  refine T_iload1 dX10_setWeather_19 rfl ?_
  refine p10_78 rfl hR.t dX10_setWeather_20 rfl ?_
  refine T_nm (fun M1 e1 => ?_)
  have hV := hV.frU e1 (by omega)
  have hR := LM.mv (hR.pr (by omega)) e1
  refine T_iload2 dX10_setWeather_23 rfl ?_
  refine T_iret rfl rfl dX10_setWeather_24 ?_
  exact ⟨⟨rfl, h1⟩, rfl, rfl, hR⟩
set_option maxHeartbeats 1000000 in
theorem c_X10_forge {l : Launch} {D : va_G} {cA : Nat → ClassId} {n0 : Nat} {sg adK adV : Nat → Nat} {sgA smA wdA bS LS : Nat} {xs : Nat → Int32} (hX : SF n0 (XW0 sg adK adV sgA smA wdA n0 bS LS xs)) (hl : l.stackTraces = false) {sz : Nat} {τ : TY} {N1 N2 M : ME} {x r p r2 p2 n8 a b c : Nat} {ω ρ : RH} {ν : NU} (hV : FV τ N1 M x r p r2 p2 n8 ω) (hR : LM τ N2 M r a b c ρ ν) (hd : r + 38 ≤ x ∨ x + 1 ≤ r) (v w : Int32) : CX l D cA n0 (XW0 sg adK adV sgA smA wdA n0 bS LS xs) mX10_forge 7 2 12 sz τ M [.ref x, .int v, .int w] (fun v' sz' τ' M' => (v' = some (.int (minI (ρ 12 v.toNatClampNeg + w) 9)) ∧ ¬ hasI v (nI b) = 0 ∧ ¬ iiF w 1 9 = 0) ∧ sz' = sz ∧ τ' = τ ∧ LM τ M M' r a b c (u2 ρ 12 v.toNatClampNeg (minI (ρ 12 v.toNatClampNeg + w) 9)) ν) (fun E sz' τ' M' => ((E = "java/lang/IndexOutOfBoundsException" ∧ hasI v (nI b) = 0) ∨ (E = "java/lang/IllegalArgumentException" ∧ (¬ hasI v (nI b) = 0 ∧ iiF w 1 9 = 0))) ∧ sz ≤ sz' ∧ τ' = τ ∧ M' = M) := by
  refine CX.of (ls := [.ref x, .int v, .int w]) hl rfl ?_ (by decide) (Nat.le_of_ble_eq_true rfl) rfl ?_
  · intro q hq; exact absurd hq (List.not_mem_nil)
  obtain ⟨la, lb, lc⟩ := hR.ok
  have hR := hR.rf
  refine T_iload1 dX10_forge_0 rfl ?_
  refine T_aload0 dX10_forge_1 rfl ?_
  refine g10_23 _ rfl (hV.t_x) (hV.g_r) dX10_forge_2 rfl ?_
  refine g10_96 _ rfl hR.t hR.r4 dX10_forge_5 rfl ?_
  refine T_cXS2 (c_X10_checkIndex hX hl _ _) hX k10_81 (by decide) (Nat.le_of_ble_eq_true rfl) dX10_forge_8 rfl ?_ (by
    rintro _ _ z2 _ _ ⟨rfl, rfl, rfl, rfl, h5⟩ hz
    exact ⟨Or.inl ⟨rfl, h5⟩, hz, rfl, rfl⟩)
  rintro _ _ _ _ ⟨rfl, rfl, rfl, rfl, h1⟩
  have h0 := h1
  obtain ⟨i, hi, rfl⟩ := has_nI (by omega) h1
  rw [nI_cl (by omega)]
  refine T_iload2 dX10_forge_11 rfl ?_
  refine T_iconst (1) dX10_forge_12 rfl rfl ?_
  refine T_bipush (9) dX10_forge_13 rfl rfl ?_
  refine T_cXS3 (c_X10_checkRange hX hl _ _ _) hX k10_60 (by decide) (Nat.le_of_ble_eq_true rfl) dX10_forge_15 rfl ?_ (by
    rintro _ _ z2 _ _ ⟨rfl, rfl, rfl, rfl, h5⟩ hz
    exact ⟨Or.inr ⟨rfl, ⟨h0, h5⟩⟩, hz, rfl, rfl⟩)
  rintro _ _ _ _ ⟨rfl, rfl, rfl, rfl, h1⟩
  have h2 := h1
  refine T_aload0 dX10_forge_18 rfl ?_
  refine g10_23 _ rfl (hV.t_x) (hV.g_r) dX10_forge_19 rfl ?_
  refine T_iload1 dX10_forge_22 rfl ?_
  refine T_iload2 dX10_forge_23 rfl ?_
  refine T_cV2 (c_X6_addLinks hX hR (by omega) _) hX k10_111 (Or.inl ⟨_, _, _, _, hR.t, by decide, rfl⟩) (by decide) (Nat.le_of_ble_eq_true rfl) dX10_forge_24 rfl ?_
  rintro _ _ _ M1 ⟨rfl, rfl, rfl, hR⟩
  refine T_iret rfl rfl dX10_forge_27 ?_
  exact ⟨⟨rfl, h0, h2⟩, rfl, rfl, hR⟩
set_option maxHeartbeats 1000000 in
theorem c_X10_clear {l : Launch} {D : va_G} {cA : Nat → ClassId} {n0 : Nat} {sg adK adV : Nat → Nat} {sgA smA wdA bS LS : Nat} {xs : Nat → Int32} (hX : SF n0 (XW0 sg adK adV sgA smA wdA n0 bS LS xs)) (hl : l.stackTraces = false) {sz : Nat} {τ : TY} {N1 N2 M : ME} {x r p r2 p2 n8 a b c : Nat} {ω ρ : RH} {ν : NU} (hV : FV τ N1 M x r p r2 p2 n8 ω) (hR : LM τ N2 M r a b c ρ ν) (hd : r + 38 ≤ x ∨ x + 1 ≤ r) (v : Int32) : CX l D cA n0 (XW0 sg adK adV sgA smA wdA n0 bS LS xs) mX10_clear 7 1 6 sz τ M [.ref x, .int v] (fun v' sz' τ' M' => (v' = some (.int (flOf c ρ v)) ∧ ¬ hasI v (nI a) = 0) ∧ sz' = sz ∧ τ' = τ ∧ LM τ M M' r a b c (mpL ρ 2 v 0 (-1) c) ν) (fun E sz' τ' M' => ((E = "java/lang/IndexOutOfBoundsException" ∧ hasI v (nI a) = 0)) ∧ sz ≤ sz' ∧ τ' = τ ∧ M' = M) := by
  refine CX.of (ls := [.ref x, .int v]) hl rfl ?_ (by decide) (Nat.le_of_ble_eq_true rfl) rfl ?_
  · intro q hq; exact absurd hq (List.not_mem_nil)
  obtain ⟨la, lb, lc⟩ := hR.ok
  have hR := hR.rf
  refine T_iload1 dX10_clear_0 rfl ?_
  refine T_aload0 dX10_clear_1 rfl ?_
  refine g10_23 _ rfl (hV.t_x) (hV.g_r) dX10_clear_2 rfl ?_
  refine g10_89 _ rfl hR.t hR.r3 dX10_clear_5 rfl ?_
  refine T_cXS2 (c_X10_checkIndex hX hl _ _) hX k10_81 (by decide) (Nat.le_of_ble_eq_true rfl) dX10_clear_8 rfl ?_ (by
    rintro _ _ z2 _ _ ⟨rfl, rfl, rfl, rfl, h5⟩ hz
    exact ⟨⟨rfl, h5⟩, hz, rfl, rfl⟩)
  rintro _ _ _ _ ⟨rfl, rfl, rfl, rfl, h1⟩
  have h0 := h1
  refine T_aload0 dX10_clear_11 rfl ?_
  refine g10_23 _ rfl (hV.t_x) (hV.g_r) dX10_clear_12 rfl ?_
  refine T_iload1 dX10_clear_15 rfl ?_
  refine T_cV1 (c_X6_bringBack hX hR _) hX k10_114 (Or.inl ⟨_, _, _, _, hR.t, by decide, rfl⟩) (by decide) (Nat.le_of_ble_eq_true rfl) dX10_clear_16 rfl ?_
  rintro _ _ _ M1 ⟨rfl, rfl, rfl, hR⟩
  refine T_iret rfl rfl dX10_clear_19 ?_
  exact ⟨⟨rfl, h0⟩, rfl, rfl, hR⟩

