/-! how a plan is told -/
def tlO (π : RH) (f i : Nat) (x y v m t : Int32) : RH := u2 (u2 (u2 (u2 (u2 π f i x) (f + 1) i y) (f + 2) i v) (f + 3) i m) (f + 4) i t
set_option maxHeartbeats 1000000 in
theorem k_X3_tellH {l : Launch} {D : va_G} {cA : Nat → ClassId} {n0 : Nat} {sg adK adV : Nat → Nat} {sgA smA wdA bS LS : Nat} {xs : Nat → Int32} (hX : SF n0 (XW0 sg adK adV sgA smA wdA n0 bS LS xs)) {sz : Nat} {τ : TY} {M0 M : ME} {p hn wn sn : Nat} {π : RH} {σ : Nat → Nat} {κ : Nat → Int32} (hP : PM τ M0 M p sg hn wn sn π σ κ) {i : Nat} (hi : i < 12) (x y v m t : Int32) : CT l D cA n0 (XW0 sg adK adV sgA smA wdA n0 bS LS xs) mX3_tell 1 0 0 sz τ M [.ref (p + 3 + 2 * i), .int x, .int y, .int v, .int m, .int t] (MUq none sz τ (fun M' => PM τ M0 M' p sg (hn) (wn) (sn) (tlO π 50 i x y v m t) (σ) κ)) := by
  refine CT.of (ls := [.ref (p + 3 + 2 * i), .int x, .int y, .int v, .int m, .int t]) (by decide) (Nat.le_of_ble_eq_true rfl) rfl ?_
  refine T_aload0 dX3_tell_0 rfl ?_
  refine T_iload1 dX3_tell_1 rfl ?_
  refine p3_7 rfl (hP.t_ho hi) dX3_tell_2 rfl ?_
  refine T_nm (fun M1 e1 => ?_)
  have hP := PM.mv (hP.p_h0 (i0 := i) hi) e1
  refine T_aload0 dX3_tell_5 rfl ?_
  refine T_iload2 dX3_tell_6 rfl ?_
  refine p3_13 rfl (hP.t_ho hi) dX3_tell_7 rfl ?_
  refine T_nm (fun M2 e2 => ?_)
  have hP := PM.mv (hP.p_h1 (i0 := i) hi) e2
  refine T_aload0 dX3_tell_10 rfl ?_
  refine T_iload3 dX3_tell_11 rfl ?_
  refine p3_16 rfl (hP.t_ho hi) dX3_tell_12 rfl ?_
  refine T_nm (fun M3 e3 => ?_)
  have hP := PM.mv (hP.p_h2 (i0 := i) hi) e3
  refine T_aload0 dX3_tell_15 rfl ?_
  refine T_iload4 dX3_tell_16 rfl ?_
  refine p3_19 rfl (hP.t_ho hi) dX3_tell_18 rfl ?_
  refine T_nm (fun M4 e4 => ?_)
  have hP := PM.mv (hP.p_h3 (i0 := i) hi) e4
  refine T_aload0 dX3_tell_21 rfl ?_
  refine T_iload5 dX3_tell_22 rfl ?_
  refine p3_22 rfl (hP.t_ho hi) dX3_tell_24 rfl ?_
  refine T_nm (fun M5 e5 => ?_)
  have hP := PM.mv (hP.p_h4 (i0 := i) hi) e5
  refine T_vret rfl dX3_tell_27 ?_
  exact ⟨rfl, rfl, rfl, hP⟩
set_option maxHeartbeats 1000000 in
theorem k_X3_tellW {l : Launch} {D : va_G} {cA : Nat → ClassId} {n0 : Nat} {sg adK adV : Nat → Nat} {sgA smA wdA bS LS : Nat} {xs : Nat → Int32} (hX : SF n0 (XW0 sg adK adV sgA smA wdA n0 bS LS xs)) {sz : Nat} {τ : TY} {M0 M : ME} {p hn wn sn : Nat} {π : RH} {σ : Nat → Nat} {κ : Nat → Int32} (hP : PM τ M0 M p sg hn wn sn π σ κ) {i : Nat} (hi : i < 12) (x y v m t : Int32) : CT l D cA n0 (XW0 sg adK adV sgA smA wdA n0 bS LS xs) mX3_tell 1 0 0 sz τ M [.ref (p + 4 + 2 * i), .int x, .int y, .int v, .int m, .int t] (MUq none sz τ (fun M' => PM τ M0 M' p sg (hn) (wn) (sn) (tlO π 55 i x y v m t) (σ) κ)) := by
  refine CT.of (ls := [.ref (p + 4 + 2 * i), .int x, .int y, .int v, .int m, .int t]) (by decide) (Nat.le_of_ble_eq_true rfl) rfl ?_
  refine T_aload0 dX3_tell_0 rfl ?_
  refine T_iload1 dX3_tell_1 rfl ?_
  refine p3_7 rfl (hP.t_wo hi) dX3_tell_2 rfl ?_
  refine T_nm (fun M1 e1 => ?_)
  have hP := PM.mv (hP.p_w0 (i0 := i) hi) e1
  refine T_aload0 dX3_tell_5 rfl ?_
  refine T_iload2 dX3_tell_6 rfl ?_
  refine p3_13 rfl (hP.t_wo hi) dX3_tell_7 rfl ?_
  refine T_nm (fun M2 e2 => ?_)
  have hP := PM.mv (hP.p_w1 (i0 := i) hi) e2
  refine T_aload0 dX3_tell_10 rfl ?_
  refine T_iload3 dX3_tell_11 rfl ?_
  refine p3_16 rfl (hP.t_wo hi) dX3_tell_12 rfl ?_
  refine T_nm (fun M3 e3 => ?_)
  have hP := PM.mv (hP.p_w2 (i0 := i) hi) e3
  refine T_aload0 dX3_tell_15 rfl ?_
  refine T_iload4 dX3_tell_16 rfl ?_
  refine p3_19 rfl (hP.t_wo hi) dX3_tell_18 rfl ?_
  refine T_nm (fun M4 e4 => ?_)
  have hP := PM.mv (hP.p_w3 (i0 := i) hi) e4
  refine T_aload0 dX3_tell_21 rfl ?_
  refine T_iload5 dX3_tell_22 rfl ?_
  refine p3_22 rfl (hP.t_wo hi) dX3_tell_24 rfl ?_
  refine T_nm (fun M5 e5 => ?_)
  have hP := PM.mv (hP.p_w4 (i0 := i) hi) e5
  refine T_vret rfl dX3_tell_27 ?_
  exact ⟨rfl, rfl, rfl, hP⟩
set_option maxHeartbeats 1000000 in
theorem c_X4_empty {l : Launch} {D : va_G} {cA : Nat → ClassId} {n0 : Nat} {sg adK adV : Nat → Nat} {sgA smA wdA bS LS : Nat} {xs : Nat → Int32} (hX : SF n0 (XW0 sg adK adV sgA smA wdA n0 bS LS xs)) {sz : Nat} {τ : TY} {M0 M : ME} {p hn wn sn : Nat} {π : RH} {σ : Nat → Nat} {κ : Nat → Int32} (hP : PM τ M0 M p sg hn wn sn π σ κ) : CT l D cA n0 (XW0 sg adK adV sgA smA wdA n0 bS LS xs) mX4_empty 1 0 0 sz τ M [.ref p] (MUq none sz τ (fun M' => PM τ M0 M' p sg (0) (0) (0) (π) (σ) κ)) := by
  refine CT.of (ls := [.ref p]) (by decide) (Nat.le_of_ble_eq_true rfl) rfl ?_
  refine T_aload0 dX4_empty_0 rfl ?_
  refine T_iconst (0) dX4_empty_1 rfl rfl ?_
  refine p4_38 rfl (hP.t_p) dX4_empty_2 rfl ?_
  refine T_nm (fun M1 e1 => ?_)
  have hP := PM.mv (hP.p_hn (n := 0) rfl) e1
  refine T_aload0 dX4_empty_5 rfl ?_
  refine T_iconst (0) dX4_empty_6 rfl rfl ?_
  refine p4_42 rfl (hP.t_p) dX4_empty_7 rfl ?_
  refine T_nm (fun M2 e2 => ?_)
  have hP := PM.mv (hP.p_wn (n := 0) rfl) e2
  refine T_aload0 dX4_empty_10 rfl ?_
  refine T_iconst (0) dX4_empty_11 rfl rfl ?_
  refine p4_45 rfl (hP.t_p) dX4_empty_12 rfl ?_
  refine T_nm (fun M3 e3 => ?_)
  have hP := PM.mv (hP.p_sn (n := 0) rfl) e3
  refine T_vret rfl dX4_empty_15 ?_
  exact ⟨rfl, rfl, rfl, hP⟩
set_option maxHeartbeats 1000000 in
theorem c_X4_addStep {l : Launch} {D : va_G} {cA : Nat → ClassId} {n0 : Nat} {sg adK adV : Nat → Nat} {sgA smA wdA bS LS : Nat} {xs : Nat → Int32} (hX : SF n0 (XW0 sg adK adV sgA smA wdA n0 bS LS xs)) {sz : Nat} {τ : TY} {M0 M : ME} {p hn wn sn : Nat} {π : RH} {σ : Nat → Nat} {κ : Nat → Int32} (hP : PM τ M0 M p sg hn wn sn π σ κ) (hs : sn ≤ 400) {o : Nat} (ho : o < 48) (x : Int32) : CT l D cA n0 (XW0 sg adK adV sgA smA wdA n0 bS LS xs) mX4_addStep 1 0 0 sz τ M [.ref p, .ref (sg o), .int x] (MUq none sz τ (fun M' => (sn < 400 → PM τ M0 M' p sg (hn) (wn) (sn + 1) (u2 π 70 sn x) (u1 σ sn o) κ) ∧ (¬ sn < 400 → PM τ M0 M' p sg (hn) (wn) (sn) (π) (σ) κ))) := by
  refine CT.of (ls := [.ref p, .ref (sg o), .int x]) (by decide) (Nat.le_of_ble_eq_true rfl) rfl ?_
  refine T_aload0 dX4_addStep_0 rfl ?_
  refine g4_45 _ rfl (hP.t_p) (hP.g_sn) dX4_addStep_1 rfl ?_
  refine T_sipush (400) dX4_addStep_4 rfl rfl ?_
  refine T_icmp_ge 40 10 dX4_addStep_7 (by decide) rfl (fun c7 => ?_) (fun c7 => ?_)
  ·
    have c7 : ¬ sn < 400 := by have := (nI_leI (a := 400) (b := sn) (by omega) (by omega)).mp c7; omega
    refine T_vret rfl dX4_addStep_40 ?_
    exact ⟨rfl, rfl, rfl, fun q => by first | exact hP | exact absurd q c7, fun q => by first | exact hP | exact absurd c7 q⟩
  ·
    have c7 : sn < 400 := Nat.lt_of_not_le (fun q => c7 ((nI_leI (a := 400) (by omega) (by omega)).mpr q))
    refine T_aload0 dX4_addStep_10 rfl ?_
    refine g4_23 _ rfl (hP.t_p) (hP.g_sa) dX4_addStep_11 rfl ?_
    refine T_aload0 dX4_addStep_14 rfl ?_
    refine g4_45 _ rfl (hP.t_p) (hP.g_sn) dX4_addStep_15 rfl ?_
    refine T_aload1 dX4_addStep_18 rfl ?_
    refine T_asgn sn ho hP.t_sa rfl (by omega) (by decide) dX4_addStep_19 rfl ?_
    refine T_nm (fun Mq eq => ?_)
    have hP := PM.mv (hP.p_sg (by omega)) eq
    refine T_aload0 dX4_addStep_20 rfl ?_
    refine g4_31 _ rfl (hP.t_p) (hP.g_na) dX4_addStep_21 rfl ?_
    refine T_aload0 dX4_addStep_24 rfl ?_
    refine g4_45 _ rfl (hP.t_p) (hP.g_sn) dX4_addStep_25 rfl ?_
    refine T_iload2 dX4_addStep_28 rfl ?_
    refine T_iast _ (hP.t_na) rfl (by omega) (by decide) dX4_addStep_29 rfl ?_
    refine T_nm (fun M1 e1 => ?_)
    have hP := PM.mv (hP.p_nu (by omega)) e1
    refine T_aload0 dX4_addStep_30 rfl ?_
    refine T_dup dX4_addStep_31 rfl rfl ?_
    refine g4_45 _ rfl (hP.t_p) (hP.g_sn) dX4_addStep_32 rfl ?_
    refine T_iconst (1) dX4_addStep_35 rfl rfl ?_
    refine T_iadd dX4_addStep_36 rfl ?_
    refine p4_45 rfl (hP.t_p) dX4_addStep_37 rfl ?_
    refine T_nm (fun M2 e2 => ?_)
    have hP := PM.mv (hP.p_sn (n := sn + 1) (nI_1 sn)) e2
    refine T_vret rfl dX4_addStep_40 ?_
    exact ⟨rfl, rfl, rfl, fun q => by first | exact hP | exact absurd q c7, fun q => by first | exact hP | exact absurd c7 q⟩
set_option maxHeartbeats 1000000 in
theorem c_X4_addHaul {l : Launch} {D : va_G} {cA : Nat → ClassId} {n0 : Nat} {sg adK adV : Nat → Nat} {sgA smA wdA bS LS : Nat} {xs : Nat → Int32} (hX : SF n0 (XW0 sg adK adV sgA smA wdA n0 bS LS xs)) {sz : Nat} {τ : TY} {M0 M : ME} {p hn wn sn : Nat} {π : RH} {σ : Nat → Nat} {κ : Nat → Int32} (hP : PM τ M0 M p sg hn wn sn π σ κ) (hs : hn ≤ 12 ∧ wn ≤ 12) (x v m : Int32) : CT l D cA n0 (XW0 sg adK adV sgA smA wdA n0 bS LS xs) mX4_addHaul 2 0 0 sz τ M [.ref p, .int x, .int v, .int m] (MUq none sz τ (fun M' => (hn < 12 → PM τ M0 M' p sg (hn + 1) (wn) (sn) (tlO π 50 hn x (-1) v m (nI sn)) (σ) κ) ∧ (¬ hn < 12 → PM τ M0 M' p sg (hn) (wn) (sn) (π) (σ) κ))) := by
  refine CT.of (ls := [.ref p, .int x, .int v, .int m]) (by decide) (Nat.le_of_ble_eq_true rfl) rfl ?_
  refine T_aload0 dX4_addHaul_0 rfl ?_
  refine g4_38 _ rfl (hP.t_p) (hP.g_hn) dX4_addHaul_1 rfl ?_
  refine T_bipush (12) dX4_addHaul_4 rfl rfl ?_
  refine T_icmp_ge 39 9 dX4_addHaul_6 (by decide) rfl (fun c7 => ?_) (fun c7 => ?_)
  ·
    have c7 : ¬ hn < 12 := by have := (nI_leI (a := 12) (b := hn) (by omega) (by omega)).mp c7; omega
    refine T_vret rfl dX4_addHaul_39 ?_
    exact ⟨rfl, rfl, rfl, fun q => by first | exact hP | exact absurd q c7, fun q => by first | exact hP | exact absurd c7 q⟩
  ·
    have c7 : hn < 12 := Nat.lt_of_not_le (fun q => c7 ((nI_leI (a := 12) (by omega) (by omega)).mpr q))
    refine T_aload0 dX4_addHaul_9 rfl ?_
    refine g4_11 _ rfl (hP.t_p) (hP.g_ha) dX4_addHaul_10 rfl ?_
    refine T_aload0 dX4_addHaul_13 rfl ?_
    refine g4_38 _ rfl (hP.t_p) (hP.g_hn) dX4_addHaul_14 rfl ?_
    refine T_aald 5 _ (by decide) (hP.t_ha) rfl (by omega) (by decide) dX4_addHaul_17 rfl (hP.g_ho (by omega)) ?_
    refine T_iload1 dX4_addHaul_18 rfl ?_
    refine T_iconst (-1) dX4_addHaul_19 rfl rfl ?_
    refine T_iload2 dX4_addHaul_20 rfl ?_
    refine T_iload3 dX4_addHaul_21 rfl ?_
    refine T_aload0 dX4_addHaul_22 rfl ?_
    refine g4_45 _ rfl (hP.t_p) (hP.g_sn) dX4_addHaul_23 rfl ?_
    refine T_cV5 (k_X3_tellH hX hP c7 _ _ _ _ _) hX k4_48 (Or.inl ⟨_, _, _, _, hP.t_ho c7, by decide, rfl⟩) (by decide) (Nat.le_of_ble_eq_true rfl) dX4_addHaul_26 rfl ?_
    rintro _ _ _ M9 ⟨rfl, rfl, rfl, hP⟩
    refine T_aload0 dX4_addHaul_29 rfl ?_
    refine T_dup dX4_addHaul_30 rfl rfl ?_
    refine g4_38 _ rfl (hP.t_p) (hP.g_hn) dX4_addHaul_31 rfl ?_
    refine T_iconst (1) dX4_addHaul_34 rfl rfl ?_
    refine T_iadd dX4_addHaul_35 rfl ?_
    refine p4_38 rfl (hP.t_p) dX4_addHaul_36 rfl ?_
    refine T_nm (fun M1 e1 => ?_)
    have hP := PM.mv (hP.p_hn (n := hn + 1) (nI_1 hn)) e1
    refine T_vret rfl dX4_addHaul_39 ?_
    exact ⟨rfl, rfl, rfl, fun q => by first | exact hP | exact absurd q c7, fun q => by first | exact hP | exact absurd c7 q⟩
set_option maxHeartbeats 1000000 in
theorem c_X4_addWait {l : Launch} {D : va_G} {cA : Nat → ClassId} {n0 : Nat} {sg adK adV : Nat → Nat} {sgA smA wdA bS LS : Nat} {xs : Nat → Int32} (hX : SF n0 (XW0 sg adK adV sgA smA wdA n0 bS LS xs)) {sz : Nat} {τ : TY} {M0 M : ME} {p hn wn sn : Nat} {π : RH} {σ : Nat → Nat} {κ : Nat → Int32} (hP : PM τ M0 M p sg hn wn sn π σ κ) (hs : hn ≤ 12 ∧ wn ≤ 12) (x v m : Int32) : CT l D cA n0 (XW0 sg adK adV sgA smA wdA n0 bS LS xs) mX4_addWait 2 0 0 sz τ M [.ref p, .int x, .int v, .int m] (MUq none sz τ (fun M' => (wn < 12 → PM τ M0 M' p sg (hn) (wn + 1) (sn) (tlO π 55 wn x v m m (nI sn)) (σ) κ) ∧ (¬ wn < 12 → PM τ M0 M' p sg (hn) (wn) (sn) (π) (σ) κ))) := by
  refine CT.of (ls := [.ref p, .int x, .int v, .int m]) (by decide) (Nat.le_of_ble_eq_true rfl) rfl ?_
  refine T_aload0 dX4_addWait_0 rfl ?_
  refine g4_42 _ rfl (hP.t_p) (hP.g_wn) dX4_addWait_1 rfl ?_
  refine T_bipush (12) dX4_addWait_4 rfl rfl ?_
  refine T_icmp_ge 39 9 dX4_addWait_6 (by decide) rfl (fun c7 => ?_) (fun c7 => ?_)
  ·
    have c7 : ¬ wn < 12 := by have := (nI_leI (a := 12) (b := wn) (by omega) (by omega)).mp c7; omega
    refine T_vret rfl dX4_addWait_39 ?_
    exact ⟨rfl, rfl, rfl, fun q => by first | exact hP | exact absurd q c7, fun q => by first | exact hP | exact absurd c7 q⟩
  ·
    have c7 : wn < 12 := Nat.lt_of_not_le (fun q => c7 ((nI_leI (a := 12) (by omega) (by omega)).mpr q))
    refine T_aload0 dX4_addWait_9 rfl ?_
    refine g4_17 _ rfl (hP.t_p) (hP.g_wa) dX4_addWait_10 rfl ?_
    refine T_aload0 dX4_addWait_13 rfl ?_
    refine g4_42 _ rfl (hP.t_p) (hP.g_wn) dX4_addWait_14 rfl ?_
    refine T_aald 5 _ (by decide) (hP.t_wa) rfl (by omega) (by decide) dX4_addWait_17 rfl (hP.g_wo (by omega)) ?_
    refine T_iload1 dX4_addWait_18 rfl ?_
    refine T_iload2 dX4_addWait_19 rfl ?_
    refine T_iload3 dX4_addWait_20 rfl ?_
    refine T_iload3 dX4_addWait_21 rfl ?_
    refine T_aload0 dX4_addWait_22 rfl ?_
    refine g4_45 _ rfl (hP.t_p) (hP.g_sn) dX4_addWait_23 rfl ?_
    refine T_cV5 (k_X3_tellW hX hP c7 _ _ _ _ _) hX k4_48 (Or.inl ⟨_, _, _, _, hP.t_wo c7, by decide, rfl⟩) (by decide) (Nat.le_of_ble_eq_true rfl) dX4_addWait_26 rfl ?_
    rintro _ _ _ M9 ⟨rfl, rfl, rfl, hP⟩
    refine T_aload0 dX4_addWait_29 rfl ?_
    refine T_dup dX4_addWait_30 rfl rfl ?_
    refine g4_42 _ rfl (hP.t_p) (hP.g_wn) dX4_addWait_31 rfl ?_
    refine T_iconst (1) dX4_addWait_34 rfl rfl ?_
    refine T_iadd dX4_addWait_35 rfl ?_
    refine p4_42 rfl (hP.t_p) dX4_addWait_36 rfl ?_
    refine T_nm (fun M1 e1 => ?_)
    have hP := PM.mv (hP.p_wn (n := wn + 1) (nI_1 wn)) e1
    refine T_vret rfl dX4_addWait_39 ?_
    exact ⟨rfl, rfl, rfl, fun q => by first | exact hP | exact absurd q c7, fun q => by first | exact hP | exact absurd c7 q⟩
/-- outside of the reader, a road and a plan nothing has changed -/
def Fr3 (j r p : Nat) (M M1 : ME) : Prop := ∀ q, q ≠ j → ¬ (r ≤ q ∧ q < r + 38) → ¬ (p ≤ q ∧ q < p + 30) → M1 q = M q
theorem Fr3.rf (j r p : Nat) (M : ME) : Fr3 j r p M M := fun _ _ _ _ => rfl
theorem Fr3.tr {j r p : Nat} {M M1 M2 : ME} (h : Fr3 j r p M M1) (e : Fr3 j r p M1 M2) : Fr3 j r p M M2 := fun q a b c => (e q a b c).trans (h q a b c)
theorem Fr3.up {j r p a k : Nat} {v : Value} {M M1 M2 : ME} (h : Fr3 j r p M M1) (e : M2 = up M1 a k v) (ha : a = j ∨ (r ≤ a ∧ a < r + 38) ∨ (p ≤ a ∧ a < p + 30)) : Fr3 j r p M M2 := fun q h1 h2 h3 => by
  rw [e, up_a (by rintro rfl; rcases ha with z | z | z <;> contradiction)]; exact h q h1 h2 h3
theorem Fr3.fr {j r p lo hi : Nat} {M M1 M2 : ME} (h : Fr3 j r p M M1) (e : Fr lo hi M1 M2) (ha : (j ≤ lo ∧ hi ≤ j + 1) ∨ (r ≤ lo ∧ hi ≤ r + 38) ∨ (p ≤ lo ∧ hi ≤ p + 30)) : Fr3 j r p M M2 := fun q h1 h2 h3 => (e q (by omega)).trans (h q h1 h2 h3)
set_option maxHeartbeats 1000000 in
theorem c_X5_begin {l : Launch} {D : va_G} {cA : Nat → ClassId} {n0 : Nat} {sg adK adV : Nat → Nat} {sgA smA wdA bS LS : Nat} {xs : Nat → Int32} (hX : SF n0 (XW0 sg adK adV sgA smA wdA n0 bS LS xs)) {sz : Nat} {τ : TY} {N1 N2 N3 M : ME} {j r0 p0 r p nx a b c hn wn sn : Nat} {bk ba fl fa : Int32} {ρ π : RH} {ν : NU} {σ : Nat → Nat} {κ : Nat → Int32} (hE : RV τ N1 M j r0 p0 nx bk ba fl fa) (hR : LM τ N2 M r a b c ρ ν) (hP : PM τ N3 M p sg hn wn sn π σ κ) (hd : j + 1 ≤ r ∨ r + 38 ≤ j) (hd2 : j + 1 ≤ p ∨ p + 30 ≤ j) (hd3 : p + 30 ≤ r ∨ r + 38 ≤ p) : CT l D cA n0 (XW0 sg adK adV sgA smA wdA n0 bS LS xs) mX5_begin 2 0 0 sz τ M [.ref j, .ref r, .ref p] (fun v' sz' τ' M' => v' = none ∧ sz' = sz ∧ τ' = τ ∧ RV τ M' M' j r p 0 0 (-1) 0 (-1) ∧ LM τ M' M' r 0 0 0 (u2 ρ 8 0 0) ν ∧ PM τ M' M' p sg 0 0 0 π σ κ ∧ Fr3 j r p M M') := by
  refine CT.of (ls := [.ref j, .ref r, .ref p]) (by decide) (Nat.le_of_ble_eq_true rfl) rfl ?_
  have hF := Fr3.rf j r p M
  refine T_aload0 dX5_begin_0 rfl ?_
  refine T_aload1 dX5_begin_1 rfl ?_
  refine p5_18 rfl (hE.t_j) dX5_begin_2 rfl ?_
  refine T_nm (fun M1 e1 => ?_)
  have hE := RV.mv hE.p_r e1
  have hR := hR.frU e1 (by omega)
  have hP := hP.frU e1 (by (try simp only [stA, hsA, lgA]); omega)
  have hF := hF.up e1 (by omega)
  refine T_aload0 dX5_begin_5 rfl ?_
  refine T_aload2 dX5_begin_6 rfl ?_
  refine p5_22 rfl (hE.t_j) dX5_begin_7 rfl ?_
  refine T_nm (fun M2 e2 => ?_)
  have hE := RV.mv hE.p_p e2
  have hR := hR.frU e2 (by omega)
  have hP := hP.frU e2 (by (try simp only [stA, hsA, lgA]); omega)
  have hF := hF.up e2 (by omega)
  refine T_aload0 dX5_begin_10 rfl ?_
  refine g5_18 _ rfl (hE.t_j) (hE.g_r) dX5_begin_11 rfl ?_
  refine T_cV0 (c_X6_empty hX hR.rf) hX k5_96 (Or.inl ⟨_, _, _, _, hR.t, by decide, rfl⟩) (by decide) (Nat.le_of_ble_eq_true rfl) dX5_begin_14 rfl ?_
  rintro _ _ _ M9 ⟨rfl, rfl, rfl, hR9⟩
  have hE := hE.nx hR9.frame (by omega)
  have hP := hP.nx hR9.frame (by omega)
  have hF := hF.fr hR9.frame (by omega)
  have hR := hR9.rf
  refine T_aload0 dX5_begin_17 rfl ?_
  refine g5_22 _ rfl (hE.t_j) (hE.g_p) dX5_begin_18 rfl ?_
  refine T_cV0 (c_X4_empty hX hP.rf) hX k5_101 (Or.inl ⟨_, _, _, _, (hP.t_p), by decide, rfl⟩) (by decide) (Nat.le_of_ble_eq_true rfl) dX5_begin_21 rfl ?_
  rintro _ _ _ M8 ⟨rfl, rfl, rfl, hP8⟩
  have hE := hE.nx hP8.frame (by omega)
  have hR := hR.nx hP8.frame (by omega)
  have hF := hF.fr hP8.frame (by omega)
  have hP := hP8.rf
  refine T_aload0 dX5_begin_24 rfl ?_
  refine T_iconst (0) dX5_begin_25 rfl rfl ?_
  refine p5_26 rfl (hE.t_j) dX5_begin_26 rfl ?_
  refine T_nm (fun M3 e3 => ?_)
  have hE := RV.mv (hE.p_nx (n := 0) rfl) e3
  have hR := hR.frU e3 (by omega)
  have hP := hP.frU e3 (by (try simp only [stA, hsA, lgA]); omega)
  have hF := hF.up e3 (by omega)
  refine T_aload0 dX5_begin_29 rfl ?_
  refine T_iconst (0) dX5_begin_30 rfl rfl ?_
  refine p5_30 (by first | exact Or.inl rfl | exact Or.inr rfl | assumption) rfl (hE.t_j) dX5_begin_31 rfl ?_
  refine T_nm (fun M4 e4 => ?_)
  have hE := RV.mv hE.p_bk e4
  have hR := hR.frU e4 (by omega)
  have hP := hP.frU e4 (by (try simp only [stA, hsA, lgA]); omega)
  have hF := hF.up e4 (by omega)
  refine T_aload0 dX5_begin_34 rfl ?_
  refine T_iconst (-1) dX5_begin_35 rfl rfl ?_
  refine p5_34 rfl (hE.t_j) dX5_begin_36 rfl ?_
  refine T_nm (fun M5 e5 => ?_)
  have hE := RV.mv hE.p_ba e5
  have hR := hR.frU e5 (by omega)
  have hP := hP.frU e5 (by (try simp only [stA, hsA, lgA]); omega)
  have hF := hF.up e5 (by omega)
  refine T_aload0 dX5_begin_39 rfl ?_
  refine T_iconst (0) dX5_begin_40 rfl rfl ?_
  refine p5_37 rfl (hE.t_j) dX5_begin_41 rfl ?_
  refine T_nm (fun M6 e6 => ?_)
  have hE := RV.mv hE.p_fl e6
  have hR := hR.frU e6 (by omega)
  have hP := hP.frU e6 (by (try simp only [stA, hsA, lgA]); omega)
  have hF := hF.up e6 (by omega)
  refine T_aload0 dX5_begin_44 rfl ?_
  refine T_iconst (-1) dX5_begin_45 rfl rfl ?_
  refine p5_40 rfl (hE.t_j) dX5_begin_46 rfl ?_
  refine T_nm (fun M7 e7 => ?_)
  have hE := RV.mv hE.p_fa e7
  have hR := hR.frU e7 (by omega)
  have hP := hP.frU e7 (by (try simp only [stA, hsA, lgA]); omega)
  have hF := hF.up e7 (by omega)
  refine T_vret rfl dX5_begin_49 ?_
  exact ⟨rfl, rfl, rfl, hE.rf, hR.rf, hP.rf, hF⟩

