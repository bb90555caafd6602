theorem dg_le2 (n : Nat) : (dgL n).length ≤ 2 := by rw [dg_len]; split <;> omega
theorem OLD.new {s0 b v cap : Nat} {τ0 : TY} {M0 Mt : ME} {k1 k2 : KD} {f : Nat → Value} {tx : List Nat} (hB : SBt (tyN (tyN τ0 s0 k1) (s0 + 1) k2) Mt b v cap tx) (hF : ∀ q, q < s0 + 1 → q ≠ s0 → Mt q = meN M0 s0 f q) : OLD s0 τ0 M0 (tyN (tyN τ0 s0 k1) (s0 + 1) k2) Mt :=
  ⟨fun q hq => (tyN_n (by omega)).trans (tyN_n (by omega)), fun q hq => (hF q (by omega) (by omega)).trans (meN_n (by omega))⟩
theorem ST.o {adK adV : Nat → Nat} {τ : TY} {M : ME} {a v : Nat} {s : List Nat} (h : ST adK adV τ M a v s) : OLD (v + 1) τ M τ M := OLD.rf
/-- the road half made: its stretches and horses stand -/
def PSm (τ : TY) (M : ME) (j a3 a4 nt nh : Nat) : Prop := (τ j = (9, 0) ∧ τ a3 = (108, nt) ∧ τ a4 = (108, nh)) ∧ (M j 3 = .ref a3 ∧ M j 4 = .ref a4) ∧ (1 ≤ nt ∧ nt ≤ 6) ∧ (1 ≤ nh ∧ nh ≤ 5)
theorem PSm.old {s0 j a3 a4 nt nh : Nat} {τ τ' : TY} {M M' : ME} (h : PSm τ M j a3 a4 nt nh) (ho : OLD s0 τ M τ' M') (hd : j < s0 ∧ a3 < s0 ∧ a4 < s0) : PSm τ' M' j a3 a4 nt nh := by
  obtain ⟨⟨h1, h2, h3⟩, ⟨h4, h5⟩, h6⟩ := h
  exact ⟨⟨(ho.1 _ hd.1).trans h1, (ho.1 _ hd.2.1).trans h2, (ho.1 _ hd.2.2).trans h3⟩, ⟨by rw [ho.2 _ hd.1]; exact h4, by rw [ho.2 _ hd.1]; exact h5⟩, h6⟩
def tsT (kd n v nt nh : Nat) : List Nat := match kd with
  | 0 => (([] ++ [104, 111, 117, 114, 62]) ++ dgL (n))
  | 1 => (((([] ++ [116, 105, 114, 101, 100, 32]) ++ (([] ++ [104]) ++ dgL (v % nh))) ++ [62, 61]) ++ dgL (n % 20))
  | 2 => (((([] ++ [112, 105, 108, 101, 60]) ++ dgL (n)) ++ [42, 51, 32, 97, 110, 100, 32, 110, 111, 116, 32, 114, 97, 102, 116, 62]) ++ dgL (n))
  | 3 => (((((([] ++ [102, 97, 108, 108, 101, 110, 32]) ++ (([] ++ [115]) ++ dgL (v % nt))) ++ [62, 48, 32, 111, 114, 32, 102, 114, 111, 115, 116, 32]) ++ (([] ++ [115]) ++ dgL (v % nt))) ++ [47, 50, 42, 50, 61, 102, 114, 111, 115, 116, 32]) ++ (([] ++ [115]) ++ dgL (v % nt)))
  | 4 => (((([] ++ [108, 111, 97, 100, 32]) ++ (([] ++ [104]) ++ dgL (v % nh))) ++ [62]) ++ dgL (n))
  | 5 => ((((((([] ++ [110, 111, 116, 32, 91, 108, 105, 110, 107, 115, 32]) ++ (([] ++ [104]) ++ dgL (v % nh))) ++ [60]) ++ dgL (n % 9)) ++ [32, 111, 114, 32, 119, 101, 97, 116, 104, 101, 114, 62]) ++ dgL (n % 3)) ++ [93])
  | _ => (((((([] ++ [109, 97, 120, 40, 116, 105, 114, 101, 100, 32]) ++ (([] ++ [104]) ++ dgL (v % nh))) ++ [44, 108, 111, 97, 100, 32]) ++ (([] ++ [104]) ++ dgL (n % nh))) ++ [41, 45, 49, 32, 62, 32]) ++ dgL (n))
theorem sk_18 {adK adV : Nat → Nat} {τ : TY} {M : ME} : ST adK adV τ M (adK 18) (adV 18) [104] := stc (by decide) (by decide) (by decide) (by decide)
theorem sc_18 {adK adV : Nat → Nat} : CSt adK adV (adK 18) (adV 18) [104] := stcC (by decide) (by decide) (by decide)
theorem sk_19 {adK adV : Nat → Nat} {τ : TY} {M : ME} : ST adK adV τ M (adK 19) (adV 19) [115] := stc (by decide) (by decide) (by decide) (by decide)
theorem sc_19 {adK adV : Nat → Nat} : CSt adK adV (adK 19) (adV 19) [115] := stcC (by decide) (by decide) (by decide)
theorem sk_31 {adK adV : Nat → Nat} {τ : TY} {M : ME} : ST adK adV τ M (adK 31) (adV 31) [104, 111, 117, 114, 62] := stc (by decide) (by decide) (by decide) (by decide)
theorem sc_31 {adK adV : Nat → Nat} : CSt adK adV (adK 31) (adV 31) [104, 111, 117, 114, 62] := stcC (by decide) (by decide) (by decide)
theorem sk_32 {adK adV : Nat → Nat} {τ : TY} {M : ME} : ST adK adV τ M (adK 32) (adV 32) [116, 105, 114, 101, 100, 32] := stc (by decide) (by decide) (by decide) (by decide)
theorem sc_32 {adK adV : Nat → Nat} : CSt adK adV (adK 32) (adV 32) [116, 105, 114, 101, 100, 32] := stcC (by decide) (by decide) (by decide)
theorem sk_33 {adK adV : Nat → Nat} {τ : TY} {M : ME} : ST adK adV τ M (adK 33) (adV 33) [62, 61] := stc (by decide) (by decide) (by decide) (by decide)
theorem sc_33 {adK adV : Nat → Nat} : CSt adK adV (adK 33) (adV 33) [62, 61] := stcC (by decide) (by decide) (by decide)
theorem sk_34 {adK adV : Nat → Nat} {τ : TY} {M : ME} : ST adK adV τ M (adK 34) (adV 34) [112, 105, 108, 101, 60] := stc (by decide) (by decide) (by decide) (by decide)
theorem sc_34 {adK adV : Nat → Nat} : CSt adK adV (adK 34) (adV 34) [112, 105, 108, 101, 60] := stcC (by decide) (by decide) (by decide)
theorem sk_35 {adK adV : Nat → Nat} {τ : TY} {M : ME} : ST adK adV τ M (adK 35) (adV 35) [42, 51, 32, 97, 110, 100, 32, 110, 111, 116, 32, 114, 97, 102, 116, 62] := stc (by decide) (by decide) (by decide) (by decide)
theorem sc_35 {adK adV : Nat → Nat} : CSt adK adV (adK 35) (adV 35) [42, 51, 32, 97, 110, 100, 32, 110, 111, 116, 32, 114, 97, 102, 116, 62] := stcC (by decide) (by decide) (by decide)
theorem sk_36 {adK adV : Nat → Nat} {τ : TY} {M : ME} : ST adK adV τ M (adK 36) (adV 36) [102, 97, 108, 108, 101, 110, 32] := stc (by decide) (by decide) (by decide) (by decide)
theorem sc_36 {adK adV : Nat → Nat} : CSt adK adV (adK 36) (adV 36) [102, 97, 108, 108, 101, 110, 32] := stcC (by decide) (by decide) (by decide)
theorem sk_37 {adK adV : Nat → Nat} {τ : TY} {M : ME} : ST adK adV τ M (adK 37) (adV 37) [62, 48, 32, 111, 114, 32, 102, 114, 111, 115, 116, 32] := stc (by decide) (by decide) (by decide) (by decide)
theorem sc_37 {adK adV : Nat → Nat} : CSt adK adV (adK 37) (adV 37) [62, 48, 32, 111, 114, 32, 102, 114, 111, 115, 116, 32] := stcC (by decide) (by decide) (by decide)
theorem sk_38 {adK adV : Nat → Nat} {τ : TY} {M : ME} : ST adK adV τ M (adK 38) (adV 38) [47, 50, 42, 50, 61, 102, 114, 111, 115, 116, 32] := stc (by decide) (by decide) (by decide) (by decide)
theorem sc_38 {adK adV : Nat → Nat} : CSt adK adV (adK 38) (adV 38) [47, 50, 42, 50, 61, 102, 114, 111, 115, 116, 32] := stcC (by decide) (by decide) (by decide)
theorem sk_39 {adK adV : Nat → Nat} {τ : TY} {M : ME} : ST adK adV τ M (adK 39) (adV 39) [108, 111, 97, 100, 32] := stc (by decide) (by decide) (by decide) (by decide)
theorem sc_39 {adK adV : Nat → Nat} : CSt adK adV (adK 39) (adV 39) [108, 111, 97, 100, 32] := stcC (by decide) (by decide) (by decide)
theorem sk_40 {adK adV : Nat → Nat} {τ : TY} {M : ME} : ST adK adV τ M (adK 40) (adV 40) [62] := stc (by decide) (by decide) (by decide) (by decide)
theorem sc_40 {adK adV : Nat → Nat} : CSt adK adV (adK 40) (adV 40) [62] := stcC (by decide) (by decide) (by decide)
theorem sk_41 {adK adV : Nat → Nat} {τ : TY} {M : ME} : ST adK adV τ M (adK 41) (adV 41) [110, 111, 116, 32, 91, 108, 105, 110, 107, 115, 32] := stc (by decide) (by decide) (by decide) (by decide)
theorem sc_41 {adK adV : Nat → Nat} : CSt adK adV (adK 41) (adV 41) [110, 111, 116, 32, 91, 108, 105, 110, 107, 115, 32] := stcC (by decide) (by decide) (by decide)
theorem sk_42 {adK adV : Nat → Nat} {τ : TY} {M : ME} : ST adK adV τ M (adK 42) (adV 42) [60] := stc (by decide) (by decide) (by decide) (by decide)
theorem sc_42 {adK adV : Nat → Nat} : CSt adK adV (adK 42) (adV 42) [60] := stcC (by decide) (by decide) (by decide)
theorem sk_43 {adK adV : Nat → Nat} {τ : TY} {M : ME} : ST adK adV τ M (adK 43) (adV 43) [32, 111, 114, 32, 119, 101, 97, 116, 104, 101, 114, 62] := stc (by decide) (by decide) (by decide) (by decide)
theorem sc_43 {adK adV : Nat → Nat} : CSt adK adV (adK 43) (adV 43) [32, 111, 114, 32, 119, 101, 97, 116, 104, 101, 114, 62] := stcC (by decide) (by decide) (by decide)
theorem sk_44 {adK adV : Nat → Nat} {τ : TY} {M : ME} : ST adK adV τ M (adK 44) (adV 44) [93] := stc (by decide) (by decide) (by decide) (by decide)
theorem sc_44 {adK adV : Nat → Nat} : CSt adK adV (adK 44) (adV 44) [93] := stcC (by decide) (by decide) (by decide)
theorem sk_45 {adK adV : Nat → Nat} {τ : TY} {M : ME} : ST adK adV τ M (adK 45) (adV 45) [109, 97, 120, 40, 116, 105, 114, 101, 100, 32] := stc (by decide) (by decide) (by decide) (by decide)
theorem sc_45 {adK adV : Nat → Nat} : CSt adK adV (adK 45) (adV 45) [109, 97, 120, 40, 116, 105, 114, 101, 100, 32] := stcC (by decide) (by decide) (by decide)
theorem sk_46 {adK adV : Nat → Nat} {τ : TY} {M : ME} : ST adK adV τ M (adK 46) (adV 46) [44, 108, 111, 97, 100, 32] := stc (by decide) (by decide) (by decide) (by decide)
theorem sc_46 {adK adV : Nat → Nat} : CSt adK adV (adK 46) (adV 46) [44, 108, 111, 97, 100, 32] := stcC (by decide) (by decide) (by decide)
theorem sk_47 {adK adV : Nat → Nat} {τ : TY} {M : ME} : ST adK adV τ M (adK 47) (adV 47) [41, 45, 49, 32, 62, 32] := stc (by decide) (by decide) (by decide) (by decide)
theorem sc_47 {adK adV : Nat → Nat} : CSt adK adV (adK 47) (adV 47) [41, 45, 49, 32, 62, 32] := stcC (by decide) (by decide) (by decide)
set_option maxHeartbeats 1000000 in
theorem c_L_test {l : Launch} {D : va_G} {cA : Nat → ClassId} {n0 : Nat} {sg adK adV : Nat → Nat} {sgA smA wdA bS LS : Nat} {xs : Nat → Int32} (hX : SF n0 (XW0 sg adK adV sgA smA wdA n0 bS LS xs)) {sz : Nat} {τ : TY} {M : ME} {j a3 a4 nt nh : Nat} (hP : PSm τ M j a3 a4 nt nh) (hj : j < sz ∧ a3 < sz ∧ a4 < sz) {kd n v : Nat} (hkd : kd < 7) (hn : n < 60) (hv : v < 10) : CT l D cA n0 (XW0 sg adK adV sgA smA wdA n0 bS LS xs) mL_test 12 60 150000 sz τ M [.int (nI kd), .int (nI n), .int (nI v), .ref j] (fun v' sz' τ' M' => ∃ a w, v' = some (.ref a) ∧ (sz ≤ a ∧ a < sz' ∧ sz ≤ w ∧ w < sz' ∧ sz ≤ sz' ∧ a ≠ w) ∧ ST adK adV τ' M' a w (tsT kd n v nt nh) ∧ OLD sz τ M τ' M') := by
  refine CT.of (ls := [.int (nI kd), .int (nI n), .int (nI v), .ref j, UU, UU, UU]) (by decide) (Nat.le_of_ble_eq_true rfl) rfl ?_
  obtain ⟨l1, l2⟩ := hP.2.2
  have m4 : v % nh < nh := Nat.mod_lt _ (by omega)
  have m3 : v % nt < nt := Nat.mod_lt _ (by omega)
  have m5 : n % nh < nh := Nat.mod_lt _ (by omega)
  have m6 : n % 20 < 20 := Nat.mod_lt _ (by decide)
  have m7 : n % 9 < 9 := Nat.mod_lt _ (by decide)
  have m8 : n % 3 < 3 := Nat.mod_lt _ (by decide)
  have ho : OLD sz τ M τ M := OLD.rf
  have dl0 := dg_le2 (n)
  have dl1 := dg_le2 (n % 20)
  have dl2 := dg_le2 (n % 3)
  have dl3 := dg_le2 (n % 9)
  have dl4 := dg_le2 (n % nh)
  have dl5 := dg_le2 (v % nh)
  have dl6 := dg_le2 (v % nt)
  refine nL_32 rfl dL_test_0 rfl ?_
  refine T_dup dL_test_3 rfl rfl ?_
  refine T_cI0 (c_J4_init_da8c8 hX (tyN_s _ _ _) (by omega) (congrFun (meN_s _ _ _) 3)) hX kL_34 (by decide) (Nat.le_of_ble_eq_true rfl) dL_test_4 rfl ?_
  rintro _ _ _ Mt ⟨rfl, rfl, rfl, hB, hF⟩
  have hN := OLD.new hB hF
  replace ho := ho.tr hN (by omega)
  refine T_ldcS (fun _ _ h => (h.2.1 18 (by decide)).2.2.2.2) dL_test_7 rfl ?_
  refine T_cV1 (c_J4_append_15ec4 hX hB sk_18 (And.intro (by omega) (by omega)) (by omega) (by simp only [List.length_append, List.length_cons, List.length_nil]; omega) (Or.inl sc_18)) hX kL_37 hB.rcv (by decide) (Nat.le_of_ble_eq_true rfl) dL_test_9 rfl ?_
  rintro _ szc τc Mc ⟨rfl, v1, cap1, hB2, hA, hc1⟩
  have hA1 := hA.1
  have hA2 := hA.2.2.2
  have hB3 := hB2.cp
  replace ho := ho.ap hA (And.intro (by omega) (And.intro (by omega) (by omega)))
  clear hA hB
  have hB := hB2
  clear hB2
  refine T_iload2 dL_test_12 rfl ?_
  refine T_aload3 dL_test_13 rfl ?_
  refine gL_41 _ rfl (hP.old ho hj).1.1 (hP.old ho hj).2.1.2 dL_test_14 rfl ?_
  refine T_alen (j := 8) (hP.old ho hj).1.2.2 (by decide) dL_test_17 rfl ?_
  refine T_irem dL_test_18 rfl (fun q => by have := (nI_eq (a := nh) (b := 0) (by omega) (by omega)).mp q; omega) ?_
  rw [nI_mod (by omega) (by omega)]
  refine T_cV1 (c_J4_append_bf812 hX hB (n := v % nh) (by omega) (And.intro (by omega) (by omega)) (by omega) (by simp only [List.length_append, List.length_cons, List.length_nil]; omega)) hX kL_47 hB.rcv (by decide) (Nat.le_of_ble_eq_true rfl) dL_test_19 rfl ?_
  rintro _ szc τc Mc ⟨rfl, v1, cap1, hB2, hA, hc1⟩
  have hA1 := hA.1
  have hA2 := hA.2.2.2
  have hB3 := hB2.cp
  replace ho := ho.ap hA (And.intro (by omega) (And.intro (by omega) (by omega)))
  clear hA hB
  have hB := hB2
  clear hB2
  refine T_cV0 (c_J4_toString_0e30d hX hB (And.intro (by omega) (by omega)) (by simp only [List.length_append, List.length_cons, List.length_nil]; omega)) hX kL_50 hB.rcv (by decide) (Nat.le_of_ble_eq_true rfl) dL_test_22 rfl ?_
  rintro _ _ τc Mc ⟨rfl, rfl, hT, hT0, hT1, hT2⟩
  replace ho := ho.tr (And.intro hT1 hT2 : OLD _ _ _ _ _) (by omega)
  have hs_h := hT
  have ho_h := hT.o
  refine T_astore4 rfl (by decide) dL_test_25 rfl ?_
  refine nL_32 rfl dL_test_27 rfl ?_
  refine T_dup dL_test_30 rfl rfl ?_
  refine T_cI0 (c_J4_init_da8c8 hX (tyN_s _ _ _) (by omega) (congrFun (meN_s _ _ _) 3)) hX kL_34 (by decide) (Nat.le_of_ble_eq_true rfl) dL_test_31 rfl ?_
  rintro _ _ _ Mt ⟨rfl, rfl, rfl, hB, hF⟩
  have hN := OLD.new hB hF
  replace ho := ho.tr hN (by omega)
  replace ho_h := ho_h.tr hN (by omega)
  refine T_ldcS (fun _ _ h => (h.2.1 18 (by decide)).2.2.2.2) dL_test_34 rfl ?_
  refine T_cV1 (c_J4_append_15ec4 hX hB sk_18 (And.intro (by omega) (by omega)) (by omega) (by simp only [List.length_append, List.length_cons, List.length_nil]; omega) (Or.inl sc_18)) hX kL_37 hB.rcv (by decide) (Nat.le_of_ble_eq_true rfl) dL_test_36 rfl ?_
  rintro _ szc τc Mc ⟨rfl, v1, cap1, hB2, hA, hc1⟩
  have hA1 := hA.1
  have hA2 := hA.2.2.2
  have hB3 := hB2.cp
  replace ho := ho.ap hA (And.intro (by omega) (And.intro (by omega) (by omega)))
  replace ho_h := ho_h.ap hA (And.intro (by omega) (And.intro (by omega) (by omega)))
  clear hA hB
  have hB := hB2
  clear hB2
  refine T_iload1 dL_test_39 rfl ?_
  refine T_aload3 dL_test_40 rfl ?_
  refine gL_41 _ rfl (hP.old ho hj).1.1 (hP.old ho hj).2.1.2 dL_test_41 rfl ?_
  refine T_alen (j := 8) (hP.old ho hj).1.2.2 (by decide) dL_test_44 rfl ?_
  refine T_irem dL_test_45 rfl (fun q => by have := (nI_eq (a := nh) (b := 0) (by omega) (by omega)).mp q; omega) ?_
  rw [nI_mod (by omega) (by omega)]
  refine T_cV1 (c_J4_append_bf812 hX hB (n := n % nh) (by omega) (And.intro (by omega) (by omega)) (by omega) (by simp only [List.length_append, List.length_cons, List.length_nil]; omega)) hX kL_47 hB.rcv (by decide) (Nat.le_of_ble_eq_true rfl) dL_test_46 rfl ?_
  rintro _ szc τc Mc ⟨rfl, v1, cap1, hB2, hA, hc1⟩
  have hA1 := hA.1
  have hA2 := hA.2.2.2
  have hB3 := hB2.cp
  replace ho := ho.ap hA (And.intro (by omega) (And.intro (by omega) (by omega)))
  replace ho_h := ho_h.ap hA (And.intro (by omega) (And.intro (by omega) (by omega)))
  clear hA hB
  have hB := hB2
  clear hB2
  refine T_cV0 (c_J4_toString_0e30d hX hB (And.intro (by omega) (by omega)) (by simp only [List.length_append, List.length_cons, List.length_nil]; omega)) hX kL_50 hB.rcv (by decide) (Nat.le_of_ble_eq_true rfl) dL_test_49 rfl ?_
  rintro _ _ τc Mc ⟨rfl, rfl, hT, hT0, hT1, hT2⟩
  replace ho := ho.tr (And.intro hT1 hT2 : OLD _ _ _ _ _) (by omega)
  replace ho_h := ho_h.tr (And.intro hT1 hT2 : OLD _ _ _ _ _) (by omega)
  have hs_g := hT
  have ho_g := hT.o
  refine T_astore5 rfl (by decide) dL_test_52 rfl ?_
  refine nL_32 rfl dL_test_54 rfl ?_
  refine T_dup dL_test_57 rfl rfl ?_
  refine T_cI0 (c_J4_init_da8c8 hX (tyN_s _ _ _) (by omega) (congrFun (meN_s _ _ _) 3)) hX kL_34 (by decide) (Nat.le_of_ble_eq_true rfl) dL_test_58 rfl ?_
  rintro _ _ _ Mt ⟨rfl, rfl, rfl, hB, hF⟩
  have hN := OLD.new hB hF
  replace ho := ho.tr hN (by omega)
  replace ho_h := ho_h.tr hN (by omega)
  replace ho_g := ho_g.tr hN (by omega)
  refine T_ldcS (fun _ _ h => (h.2.1 19 (by decide)).2.2.2.2) dL_test_61 rfl ?_
  refine T_cV1 (c_J4_append_15ec4 hX hB sk_19 (And.intro (by omega) (by omega)) (by omega) (by simp only [List.length_append, List.length_cons, List.length_nil]; omega) (Or.inl sc_19)) hX kL_37 hB.rcv (by decide) (Nat.le_of_ble_eq_true rfl) dL_test_63 rfl ?_
  rintro _ szc τc Mc ⟨rfl, v1, cap1, hB2, hA, hc1⟩
  have hA1 := hA.1
  have hA2 := hA.2.2.2
  have hB3 := hB2.cp
  replace ho := ho.ap hA (And.intro (by omega) (And.intro (by omega) (by omega)))
  replace ho_h := ho_h.ap hA (And.intro (by omega) (And.intro (by omega) (by omega)))
  replace ho_g := ho_g.ap hA (And.intro (by omega) (And.intro (by omega) (by omega)))
  clear hA hB
  have hB := hB2
  clear hB2
  refine T_iload2 dL_test_66 rfl ?_
  refine T_aload3 dL_test_67 rfl ?_
  refine gL_56 _ rfl (hP.old ho hj).1.1 (hP.old ho hj).2.1.1 dL_test_68 rfl ?_
  refine T_alen (j := 8) (hP.old ho hj).1.2.1 (by decide) dL_test_71 rfl ?_
  refine T_irem dL_test_72 rfl (fun q => by have := (nI_eq (a := nt) (b := 0) (by omega) (by omega)).mp q; omega) ?_
  rw [nI_mod (by omega) (by omega)]
  refine T_cV1 (c_J4_append_bf812 hX hB (n := v % nt) (by omega) (And.intro (by omega) (by omega)) (by omega) (by simp only [List.length_append, List.length_cons, List.length_nil]; omega)) hX kL_47 hB.rcv (by decide) (Nat.le_of_ble_eq_true rfl) dL_test_73 rfl ?_
  rintro _ szc τc Mc ⟨rfl, v1, cap1, hB2, hA, hc1⟩
  have hA1 := hA.1
  have hA2 := hA.2.2.2
  have hB3 := hB2.cp
  replace ho := ho.ap hA (And.intro (by omega) (And.intro (by omega) (by omega)))
  replace ho_h := ho_h.ap hA (And.intro (by omega) (And.intro (by omega) (by omega)))
  replace ho_g := ho_g.ap hA (And.intro (by omega) (And.intro (by omega) (by omega)))
  clear hA hB
  have hB := hB2
  clear hB2
  refine T_cV0 (c_J4_toString_0e30d hX hB (And.intro (by omega) (by omega)) (by simp only [List.length_append, List.length_cons, List.length_nil]; omega)) hX kL_50 hB.rcv (by decide) (Nat.le_of_ble_eq_true rfl) dL_test_76 rfl ?_
  rintro _ _ τc Mc ⟨rfl, rfl, hT, hT0, hT1, hT2⟩
  replace ho := ho.tr (And.intro hT1 hT2 : OLD _ _ _ _ _) (by omega)
  replace ho_h := ho_h.tr (And.intro hT1 hT2 : OLD _ _ _ _ _) (by omega)
  replace ho_g := ho_g.tr (And.intro hT1 hT2 : OLD _ _ _ _ _) (by omega)
  have hs_t := hT
  have ho_t := hT.o
  refine T_astore6 rfl (by decide) dL_test_79 rfl ?_
  refine T_iload0 dL_test_81 rfl ?_
  rcases (show kd = 0 ∨ kd = 1 ∨ kd = 2 ∨ kd = 3 ∨ kd = 4 ∨ kd = 5 ∨ kd = 6 by omega) with rfl | rfl | rfl | rfl | rfl | rfl | rfl
  ·
    refine T_tin (off := 38) 120 dL_test_82 (by decide +kernel) (by decide +kernel) (by decide +kernel) (by decide) ?_
    refine nL_32 rfl dL_test_120 rfl ?_
    refine T_dup dL_test_123 rfl rfl ?_
    refine T_cI0 (c_J4_init_da8c8 hX (tyN_s _ _ _) (by omega) (congrFun (meN_s _ _ _) 3)) hX kL_34 (by decide) (Nat.le_of_ble_eq_true rfl) dL_test_124 rfl ?_
    rintro _ _ _ Mt ⟨rfl, rfl, rfl, hB, hF⟩
    have hN := OLD.new hB hF
    replace ho := ho.tr hN (by omega)
    replace ho_h := ho_h.tr hN (by omega)
    replace ho_g := ho_g.tr hN (by omega)
    replace ho_t := ho_t.tr hN (by omega)
    refine T_ldcS (fun _ _ h => (h.2.1 31 (by decide)).2.2.2.2) dL_test_127 rfl ?_
    refine T_cV1 (c_J4_append_15ec4 hX hB sk_31 (And.intro (by omega) (by omega)) (by omega) (by simp only [List.length_append, List.length_cons, List.length_nil]; omega) (Or.inl sc_31)) hX kL_37 hB.rcv (by decide) (Nat.le_of_ble_eq_true rfl) dL_test_129 rfl ?_
    rintro _ szc τc Mc ⟨rfl, v1, cap1, hB2, hA, hc1⟩
    have hA1 := hA.1
    have hA2 := hA.2.2.2
    have hB3 := hB2.cp
    replace ho := ho.ap hA (And.intro (by omega) (And.intro (by omega) (by omega)))
    replace ho_h := ho_h.ap hA (And.intro (by omega) (And.intro (by omega) (by omega)))
    replace ho_g := ho_g.ap hA (And.intro (by omega) (And.intro (by omega) (by omega)))
    replace ho_t := ho_t.ap hA (And.intro (by omega) (And.intro (by omega) (by omega)))
    clear hA hB
    have hB := hB2
    clear hB2
    refine T_iload1 dL_test_132 rfl ?_
    refine T_cV1 (c_J4_append_bf812 hX hB (n := n) (by omega) (And.intro (by omega) (by omega)) (by omega) (by simp only [List.length_append, List.length_cons, List.length_nil]; omega)) hX kL_47 hB.rcv (by decide) (Nat.le_of_ble_eq_true rfl) dL_test_133 rfl ?_
    rintro _ szc τc Mc ⟨rfl, v1, cap1, hB2, hA, hc1⟩
    have hA1 := hA.1
    have hA2 := hA.2.2.2
    have hB3 := hB2.cp
    replace ho := ho.ap hA (And.intro (by omega) (And.intro (by omega) (by omega)))
    replace ho_h := ho_h.ap hA (And.intro (by omega) (And.intro (by omega) (by omega)))
    replace ho_g := ho_g.ap hA (And.intro (by omega) (And.intro (by omega) (by omega)))
    replace ho_t := ho_t.ap hA (And.intro (by omega) (And.intro (by omega) (by omega)))
    clear hA hB
    have hB := hB2
    clear hB2
    refine T_cV0 (c_J4_toString_0e30d hX hB (And.intro (by omega) (by omega)) (by simp only [List.length_append, List.length_cons, List.length_nil]; omega)) hX kL_50 hB.rcv (by decide) (Nat.le_of_ble_eq_true rfl) dL_test_136 rfl ?_
    rintro _ _ τc Mc ⟨rfl, rfl, hT, hT0, hT1, hT2⟩
    replace ho := ho.tr (And.intro hT1 hT2 : OLD _ _ _ _ _) (by omega)
    replace ho_h := ho_h.tr (And.intro hT1 hT2 : OLD _ _ _ _ _) (by omega)
    replace ho_g := ho_g.tr (And.intro hT1 hT2 : OLD _ _ _ _ _) (by omega)
    replace ho_t := ho_t.tr (And.intro hT1 hT2 : OLD _ _ _ _ _) (by omega)
    refine T_aret rfl dL_test_139 ?_
    refine ⟨_, _, rfl, ?_, hT, ho⟩
    exact ⟨by omega, Nat.lt_add_of_pos_right (by decide), by omega, by omega, by omega, Nat.ne_of_lt (Nat.lt_succ_self _)⟩
  ·
    refine T_tin (off := 58) 140 dL_test_82 (by decide +kernel) (by decide +kernel) (by decide +kernel) (by decide) ?_
    refine nL_32 rfl dL_test_140 rfl ?_
    refine T_dup dL_test_143 rfl rfl ?_
    refine T_cI0 (c_J4_init_da8c8 hX (tyN_s _ _ _) (by omega) (congrFun (meN_s _ _ _) 3)) hX kL_34 (by decide) (Nat.le_of_ble_eq_true rfl) dL_test_144 rfl ?_
    rintro _ _ _ Mt ⟨rfl, rfl, rfl, hB, hF⟩
    have hN := OLD.new hB hF
    replace ho := ho.tr hN (by omega)
    replace ho_h := ho_h.tr hN (by omega)
    replace ho_g := ho_g.tr hN (by omega)
    replace ho_t := ho_t.tr hN (by omega)
    refine T_ldcS (fun _ _ h => (h.2.1 32 (by decide)).2.2.2.2) dL_test_147 rfl ?_
    refine T_cV1 (c_J4_append_15ec4 hX hB sk_32 (And.intro (by omega) (by omega)) (by omega) (by simp only [List.length_append, List.length_cons, List.length_nil]; omega) (Or.inl sc_32)) hX kL_37 hB.rcv (by decide) (Nat.le_of_ble_eq_true rfl) dL_test_149 rfl ?_
    rintro _ szc τc Mc ⟨rfl, v1, cap1, hB2, hA, hc1⟩
    have hA1 := hA.1
    have hA2 := hA.2.2.2
    have hB3 := hB2.cp
    replace ho := ho.ap hA (And.intro (by omega) (And.intro (by omega) (by omega)))
    replace ho_h := ho_h.ap hA (And.intro (by omega) (And.intro (by omega) (by omega)))
    replace ho_g := ho_g.ap hA (And.intro (by omega) (And.intro (by omega) (by omega)))
    replace ho_t := ho_t.ap hA (And.intro (by omega) (And.intro (by omega) (by omega)))
    clear hA hB
    have hB := hB2
    clear hB2
    refine T_aload4 dL_test_152 rfl ?_
    refine T_cV1 (c_J4_append_15ec4 hX hB (hs_h.old ho_h (Or.inr (And.intro (by omega) (by omega)))) (And.intro (by omega) (by omega)) (by omega) (by simp only [List.length_append, List.length_cons, List.length_nil]; omega) (Or.inr (And.intro (by omega) (And.intro (by omega) (by omega))))) hX kL_37 hB.rcv (by decide) (Nat.le_of_ble_eq_true rfl) dL_test_154 rfl ?_
    rintro _ szc τc Mc ⟨rfl, v1, cap1, hB2, hA, hc1⟩
    have hA1 := hA.1
    have hA2 := hA.2.2.2
    have hB3 := hB2.cp
    replace ho := ho.ap hA (And.intro (by omega) (And.intro (by omega) (by omega)))
    replace ho_h := ho_h.ap hA (And.intro (by omega) (And.intro (by omega) (by omega)))
    replace ho_g := ho_g.ap hA (And.intro (by omega) (And.intro (by omega) (by omega)))
    replace ho_t := ho_t.ap hA (And.intro (by omega) (And.intro (by omega) (by omega)))
    clear hA hB
    have hB := hB2
    clear hB2
    refine T_ldcS (fun _ _ h => (h.2.1 33 (by decide)).2.2.2.2) dL_test_157 rfl ?_
    refine T_cV1 (c_J4_append_15ec4 hX hB sk_33 (And.intro (by omega) (by omega)) (by omega) (by simp only [List.length_append, List.length_cons, List.length_nil]; omega) (Or.inl sc_33)) hX kL_37 hB.rcv (by decide) (Nat.le_of_ble_eq_true rfl) dL_test_159 rfl ?_
    rintro _ szc τc Mc ⟨rfl, v1, cap1, hB2, hA, hc1⟩
    have hA1 := hA.1
    have hA2 := hA.2.2.2
    have hB3 := hB2.cp
    replace ho := ho.ap hA (And.intro (by omega) (And.intro (by omega) (by omega)))
    replace ho_h := ho_h.ap hA (And.intro (by omega) (And.intro (by omega) (by omega)))
    replace ho_g := ho_g.ap hA (And.intro (by omega) (And.intro (by omega) (by omega)))
    replace ho_t := ho_t.ap hA (And.intro (by omega) (And.intro (by omega) (by omega)))
    clear hA hB
    have hB := hB2
    clear hB2
    refine T_iload1 dL_test_162 rfl ?_
    refine T_bipush (20) dL_test_163 rfl rfl ?_
    refine T_irem dL_test_165 rfl (by decide) ?_
    rw [show nI n - nI n / 20 * 20 = nI (n % 20) from nI_mod (b := 20) (by omega) (by decide)]
    refine T_cV1 (c_J4_append_bf812 hX hB (n := n % 20) (by omega) (And.intro (by omega) (by omega)) (by omega) (by simp only [List.length_append, List.length_cons, List.length_nil]; omega)) hX kL_47 hB.rcv (by decide) (Nat.le_of_ble_eq_true rfl) dL_test_166 rfl ?_
    rintro _ szc τc Mc ⟨rfl, v1, cap1, hB2, hA, hc1⟩
    have hA1 := hA.1
    have hA2 := hA.2.2.2
    have hB3 := hB2.cp
    replace ho := ho.ap hA (And.intro (by omega) (And.intro (by omega) (by omega)))
    replace ho_h := ho_h.ap hA (And.intro (by omega) (And.intro (by omega) (by omega)))
    replace ho_g := ho_g.ap hA (And.intro (by omega) (And.intro (by omega) (by omega)))
    replace ho_t := ho_t.ap hA (And.intro (by omega) (And.intro (by omega) (by omega)))
    clear hA hB
    have hB := hB2
    clear hB2
    refine T_cV0 (c_J4_toString_0e30d hX hB (And.intro (by omega) (by omega)) (by simp only [List.length_append, List.length_cons, List.length_nil]; omega)) hX kL_50 hB.rcv (by decide) (Nat.le_of_ble_eq_true rfl) dL_test_169 rfl ?_
    rintro _ _ τc Mc ⟨rfl, rfl, hT, hT0, hT1, hT2⟩
    replace ho := ho.tr (And.intro hT1 hT2 : OLD _ _ _ _ _) (by omega)
    replace ho_h := ho_h.tr (And.intro hT1 hT2 : OLD _ _ _ _ _) (by omega)
    replace ho_g := ho_g.tr (And.intro hT1 hT2 : OLD _ _ _ _ _) (by omega)
    replace ho_t := ho_t.tr (And.intro hT1 hT2 : OLD _ _ _ _ _) (by omega)
    refine T_aret rfl dL_test_172 ?_
    refine ⟨_, _, rfl, ?_, hT, ho⟩
    exact ⟨by omega, Nat.lt_add_of_pos_right (by decide), by omega, by omega, by omega, Nat.ne_of_lt (Nat.lt_succ_self _)⟩
  ·
    refine T_tin (off := 91) 173 dL_test_82 (by decide +kernel) (by decide +kernel) (by decide +kernel) (by decide) ?_
    refine nL_32 rfl dL_test_173 rfl ?_
    refine T_dup dL_test_176 rfl rfl ?_
    refine T_cI0 (c_J4_init_da8c8 hX (tyN_s _ _ _) (by omega) (congrFun (meN_s _ _ _) 3)) hX kL_34 (by decide) (Nat.le_of_ble_eq_true rfl) dL_test_177 rfl ?_
    rintro _ _ _ Mt ⟨rfl, rfl, rfl, hB, hF⟩
    have hN := OLD.new hB hF
    replace ho := ho.tr hN (by omega)
    replace ho_h := ho_h.tr hN (by omega)
    replace ho_g := ho_g.tr hN (by omega)
    replace ho_t := ho_t.tr hN (by omega)
    refine T_ldcS (fun _ _ h => (h.2.1 34 (by decide)).2.2.2.2) dL_test_180 rfl ?_
    refine T_cV1 (c_J4_append_15ec4 hX hB sk_34 (And.intro (by omega) (by omega)) (by omega) (by simp only [List.length_append, List.length_cons, List.length_nil]; omega) (Or.inl sc_34)) hX kL_37 hB.rcv (by decide) (Nat.le_of_ble_eq_true rfl) dL_test_182 rfl ?_
    rintro _ szc τc Mc ⟨rfl, v1, cap1, hB2, hA, hc1⟩
    have hA1 := hA.1
    have hA2 := hA.2.2.2
    have hB3 := hB2.cp
    replace ho := ho.ap hA (And.intro (by omega) (And.intro (by omega) (by omega)))
    replace ho_h := ho_h.ap hA (And.intro (by omega) (And.intro (by omega) (by omega)))
    replace ho_g := ho_g.ap hA (And.intro (by omega) (And.intro (by omega) (by omega)))
    replace ho_t := ho_t.ap hA (And.intro (by omega) (And.intro (by omega) (by omega)))
    clear hA hB
    have hB := hB2
    clear hB2
    refine T_iload1 dL_test_185 rfl ?_
    refine T_cV1 (c_J4_append_bf812 hX hB (n := n) (by omega) (And.intro (by omega) (by omega)) (by omega) (by simp only [List.length_append, List.length_cons, List.length_nil]; omega)) hX kL_47 hB.rcv (by decide) (Nat.le_of_ble_eq_true rfl) dL_test_186 rfl ?_
    rintro _ szc τc Mc ⟨rfl, v1, cap1, hB2, hA, hc1⟩
    have hA1 := hA.1
    have hA2 := hA.2.2.2
    have hB3 := hB2.cp
    replace ho := ho.ap hA (And.intro (by omega) (And.intro (by omega) (by omega)))
    replace ho_h := ho_h.ap hA (And.intro (by omega) (And.intro (by omega) (by omega)))
    replace ho_g := ho_g.ap hA (And.intro (by omega) (And.intro (by omega) (by omega)))
    replace ho_t := ho_t.ap hA (And.intro (by omega) (And.intro (by omega) (by omega)))
    clear hA hB
    have hB := hB2
    clear hB2
    refine T_ldcS (fun _ _ h => (h.2.1 35 (by decide)).2.2.2.2) dL_test_189 rfl ?_
    refine T_cV1 (c_J4_append_15ec4 hX hB sk_35 (And.intro (by omega) (by omega)) (by omega) (by simp only [List.length_append, List.length_cons, List.length_nil]; omega) (Or.inl sc_35)) hX kL_37 hB.rcv (by decide) (Nat.le_of_ble_eq_true rfl) dL_test_191 rfl ?_
    rintro _ szc τc Mc ⟨rfl, v1, cap1, hB2, hA, hc1⟩
    have hA1 := hA.1
    have hA2 := hA.2.2.2
    have hB3 := hB2.cp
    replace ho := ho.ap hA (And.intro (by omega) (And.intro (by omega) (by omega)))
    replace ho_h := ho_h.ap hA (And.intro (by omega) (And.intro (by omega) (by omega)))
    replace ho_g := ho_g.ap hA (And.intro (by omega) (And.intro (by omega) (by omega)))
    replace ho_t := ho_t.ap hA (And.intro (by omega) (And.intro (by omega) (by omega)))
    clear hA hB
    have hB := hB2
    clear hB2
    refine T_iload1 dL_test_194 rfl ?_
    refine T_cV1 (c_J4_append_bf812 hX hB (n := n) (by omega) (And.intro (by omega) (by omega)) (by omega) (by simp only [List.length_append, List.length_cons, List.length_nil]; omega)) hX kL_47 hB.rcv (by decide) (Nat.le_of_ble_eq_true rfl) dL_test_195 rfl ?_
    rintro _ szc τc Mc ⟨rfl, v1, cap1, hB2, hA, hc1⟩
    have hA1 := hA.1
    have hA2 := hA.2.2.2
    have hB3 := hB2.cp
    replace ho := ho.ap hA (And.intro (by omega) (And.intro (by omega) (by omega)))
    replace ho_h := ho_h.ap hA (And.intro (by omega) (And.intro (by omega) (by omega)))
    replace ho_g := ho_g.ap hA (And.intro (by omega) (And.intro (by omega) (by omega)))
    replace ho_t := ho_t.ap hA (And.intro (by omega) (And.intro (by omega) (by omega)))
    clear hA hB
    have hB := hB2
    clear hB2
    refine T_cV0 (c_J4_toString_0e30d hX hB (And.intro (by omega) (by omega)) (by simp only [List.length_append, List.length_cons, List.length_nil]; omega)) hX kL_50 hB.rcv (by decide) (Nat.le_of_ble_eq_true rfl) dL_test_198 rfl ?_
    rintro _ _ τc Mc ⟨rfl, rfl, hT, hT0, hT1, hT2⟩
    replace ho := ho.tr (And.intro hT1 hT2 : OLD _ _ _ _ _) (by omega)
    replace ho_h := ho_h.tr (And.intro hT1 hT2 : OLD _ _ _ _ _) (by omega)
    replace ho_g := ho_g.tr (And.intro hT1 hT2 : OLD _ _ _ _ _) (by omega)
    replace ho_t := ho_t.tr (And.intro hT1 hT2 : OLD _ _ _ _ _) (by omega)
    refine T_aret rfl dL_test_201 ?_
    refine ⟨_, _, rfl, ?_, hT, ho⟩
    exact ⟨by omega, Nat.lt_add_of_pos_right (by decide), by omega, by omega, by omega, Nat.ne_of_lt (Nat.lt_succ_self _)⟩
  ·
    refine T_tin (off := 120) 202 dL_test_82 (by decide +kernel) (by decide +kernel) (by decide +kernel) (by decide) ?_
    refine nL_32 rfl dL_test_202 rfl ?_
    refine T_dup dL_test_205 rfl rfl ?_
    refine T_cI0 (c_J4_init_da8c8 hX (tyN_s _ _ _) (by omega) (congrFun (meN_s _ _ _) 3)) hX kL_34 (by decide) (Nat.le_of_ble_eq_true rfl) dL_test_206 rfl ?_
    rintro _ _ _ Mt ⟨rfl, rfl, rfl, hB, hF⟩
    have hN := OLD.new hB hF
    replace ho := ho.tr hN (by omega)
    replace ho_h := ho_h.tr hN (by omega)
    replace ho_g := ho_g.tr hN (by omega)
    replace ho_t := ho_t.tr hN (by omega)
    refine T_ldcS (fun _ _ h => (h.2.1 36 (by decide)).2.2.2.2) dL_test_209 rfl ?_
    refine T_cV1 (c_J4_append_15ec4 hX hB sk_36 (And.intro (by omega) (by omega)) (by omega) (by simp only [List.length_append, List.length_cons, List.length_nil]; omega) (Or.inl sc_36)) hX kL_37 hB.rcv (by decide) (Nat.le_of_ble_eq_true rfl) dL_test_211 rfl ?_
    rintro _ szc τc Mc ⟨rfl, v1, cap1, hB2, hA, hc1⟩
    have hA1 := hA.1
    have hA2 := hA.2.2.2
    have hB3 := hB2.cp
    replace ho := ho.ap hA (And.intro (by omega) (And.intro (by omega) (by omega)))
    replace ho_h := ho_h.ap hA (And.intro (by omega) (And.intro (by omega) (by omega)))
    replace ho_g := ho_g.ap hA (And.intro (by omega) (And.intro (by omega) (by omega)))
    replace ho_t := ho_t.ap hA (And.intro (by omega) (And.intro (by omega) (by omega)))
    clear hA hB
    have hB := hB2
    clear hB2
    refine T_aload6 dL_test_214 rfl ?_
    refine T_cV1 (c_J4_append_15ec4 hX hB (hs_t.old ho_t (Or.inr (And.intro (by omega) (by omega)))) (And.intro (by omega) (by omega)) (by omega) (by simp only [List.length_append, List.length_cons, List.length_nil]; omega) (Or.inr (And.intro (by omega) (And.intro (by omega) (by omega))))) hX kL_37 hB.rcv (by decide) (Nat.le_of_ble_eq_true rfl) dL_test_216 rfl ?_
    rintro _ szc τc Mc ⟨rfl, v1, cap1, hB2, hA, hc1⟩
    have hA1 := hA.1
    have hA2 := hA.2.2.2
    have hB3 := hB2.cp
    replace ho := ho.ap hA (And.intro (by omega) (And.intro (by omega) (by omega)))
    replace ho_h := ho_h.ap hA (And.intro (by omega) (And.intro (by omega) (by omega)))
    replace ho_g := ho_g.ap hA (And.intro (by omega) (And.intro (by omega) (by omega)))
    replace ho_t := ho_t.ap hA (And.intro (by omega) (And.intro (by omega) (by omega)))
    clear hA hB
    have hB := hB2
    clear hB2
    refine T_ldcS (fun _ _ h => (h.2.1 37 (by decide)).2.2.2.2) dL_test_219 rfl ?_
    refine T_cV1 (c_J4_append_15ec4 hX hB sk_37 (And.intro (by omega) (by omega)) (by omega) (by simp only [List.length_append, List.length_cons, List.length_nil]; omega) (Or.inl sc_37)) hX kL_37 hB.rcv (by decide) (Nat.le_of_ble_eq_true rfl) dL_test_221 rfl ?_
    rintro _ szc τc Mc ⟨rfl, v1, cap1, hB2, hA, hc1⟩
    have hA1 := hA.1
    have hA2 := hA.2.2.2
    have hB3 := hB2.cp
    replace ho := ho.ap hA (And.intro (by omega) (And.intro (by omega) (by omega)))
    replace ho_h := ho_h.ap hA (And.intro (by omega) (And.intro (by omega) (by omega)))
    replace ho_g := ho_g.ap hA (And.intro (by omega) (And.intro (by omega) (by omega)))
    replace ho_t := ho_t.ap hA (And.intro (by omega) (And.intro (by omega) (by omega)))
    clear hA hB
    have hB := hB2
    clear hB2
    refine T_aload6 dL_test_224 rfl ?_
    refine T_cV1 (c_J4_append_15ec4 hX hB (hs_t.old ho_t (Or.inr (And.intro (by omega) (by omega)))) (And.intro (by omega) (by omega)) (by omega) (by simp only [List.length_append, List.length_cons, List.length_nil]; omega) (Or.inr (And.intro (by omega) (And.intro (by omega) (by omega))))) hX kL_37 hB.rcv (by decide) (Nat.le_of_ble_eq_true rfl) dL_test_226 rfl ?_
    rintro _ szc τc Mc ⟨rfl, v1, cap1, hB2, hA, hc1⟩
    have hA1 := hA.1
    have hA2 := hA.2.2.2
    have hB3 := hB2.cp
    replace ho := ho.ap hA (And.intro (by omega) (And.intro (by omega) (by omega)))
    replace ho_h := ho_h.ap hA (And.intro (by omega) (And.intro (by omega) (by omega)))
    replace ho_g := ho_g.ap hA (And.intro (by omega) (And.intro (by omega) (by omega)))
    replace ho_t := ho_t.ap hA (And.intro (by omega) (And.intro (by omega) (by omega)))
    clear hA hB
    have hB := hB2
    clear hB2
    refine T_ldcS (fun _ _ h => (h.2.1 38 (by decide)).2.2.2.2) dL_test_229 rfl ?_
    refine T_cV1 (c_J4_append_15ec4 hX hB sk_38 (And.intro (by omega) (by omega)) (by omega) (by simp only [List.length_append, List.length_cons, List.length_nil]; omega) (Or.inl sc_38)) hX kL_37 hB.rcv (by decide) (Nat.le_of_ble_eq_true rfl) dL_test_231 rfl ?_
    rintro _ szc τc Mc ⟨rfl, v1, cap1, hB2, hA, hc1⟩
    have hA1 := hA.1
    have hA2 := hA.2.2.2
    have hB3 := hB2.cp
    replace ho := ho.ap hA (And.intro (by omega) (And.intro (by omega) (by omega)))
    replace ho_h := ho_h.ap hA (And.intro (by omega) (And.intro (by omega) (by omega)))
    replace ho_g := ho_g.ap hA (And.intro (by omega) (And.intro (by omega) (by omega)))
    replace ho_t := ho_t.ap hA (And.intro (by omega) (And.intro (by omega) (by omega)))
    clear hA hB
    have hB := hB2
    clear hB2
    refine T_aload6 dL_test_234 rfl ?_
    refine T_cV1 (c_J4_append_15ec4 hX hB (hs_t.old ho_t (Or.inr (And.intro (by omega) (by omega)))) (And.intro (by omega) (by omega)) (by omega) (by simp only [List.length_append, List.length_cons, List.length_nil]; omega) (Or.inr (And.intro (by omega) (And.intro (by omega) (by omega))))) hX kL_37 hB.rcv (by decide) (Nat.le_of_ble_eq_true rfl) dL_test_236 rfl ?_
    rintro _ szc τc Mc ⟨rfl, v1, cap1, hB2, hA, hc1⟩
    have hA1 := hA.1
    have hA2 := hA.2.2.2
    have hB3 := hB2.cp
    replace ho := ho.ap hA (And.intro (by omega) (And.intro (by omega) (by omega)))
    replace ho_h := ho_h.ap hA (And.intro (by omega) (And.intro (by omega) (by omega)))
    replace ho_g := ho_g.ap hA (And.intro (by omega) (And.intro (by omega) (by omega)))
    replace ho_t := ho_t.ap hA (And.intro (by omega) (And.intro (by omega) (by omega)))
    clear hA hB
    have hB := hB2
    clear hB2
    refine T_cV0 (c_J4_toString_0e30d hX hB (And.intro (by omega) (by omega)) (by simp only [List.length_append, List.length_cons, List.length_nil]; omega)) hX kL_50 hB.rcv (by decide) (Nat.le_of_ble_eq_true rfl) dL_test_239 rfl ?_
    rintro _ _ τc Mc ⟨rfl, rfl, hT, hT0, hT1, hT2⟩
    replace ho := ho.tr (And.intro hT1 hT2 : OLD _ _ _ _ _) (by omega)
    replace ho_h := ho_h.tr (And.intro hT1 hT2 : OLD _ _ _ _ _) (by omega)
    replace ho_g := ho_g.tr (And.intro hT1 hT2 : OLD _ _ _ _ _) (by omega)
    replace ho_t := ho_t.tr (And.intro hT1 hT2 : OLD _ _ _ _ _) (by omega)
    refine T_aret rfl dL_test_242 ?_
    refine ⟨_, _, rfl, ?_, hT, ho⟩
    exact ⟨by omega, Nat.lt_add_of_pos_right (by decide), by omega, by omega, by omega, Nat.ne_of_lt (Nat.lt_succ_self _)⟩
  ·
    refine T_tin (off := 161) 243 dL_test_82 (by decide +kernel) (by decide +kernel) (by decide +kernel) (by decide) ?_
    refine nL_32 rfl dL_test_243 rfl ?_
    refine T_dup dL_test_246 rfl rfl ?_
    refine T_cI0 (c_J4_init_da8c8 hX (tyN_s _ _ _) (by omega) (congrFun (meN_s _ _ _) 3)) hX kL_34 (by decide) (Nat.le_of_ble_eq_true rfl) dL_test_247 rfl ?_
    rintro _ _ _ Mt ⟨rfl, rfl, rfl, hB, hF⟩
    have hN := OLD.new hB hF
    replace ho := ho.tr hN (by omega)
    replace ho_h := ho_h.tr hN (by omega)
    replace ho_g := ho_g.tr hN (by omega)
    replace ho_t := ho_t.tr hN (by omega)
    refine T_ldcS (fun _ _ h => (h.2.1 39 (by decide)).2.2.2.2) dL_test_250 rfl ?_
    refine T_cV1 (c_J4_append_15ec4 hX hB sk_39 (And.intro (by omega) (by omega)) (by omega) (by simp only [List.length_append, List.length_cons, List.length_nil]; omega) (Or.inl sc_39)) hX kL_37 hB.rcv (by decide) (Nat.le_of_ble_eq_true rfl) dL_test_252 rfl ?_
    rintro _ szc τc Mc ⟨rfl, v1, cap1, hB2, hA, hc1⟩
    have hA1 := hA.1
    have hA2 := hA.2.2.2
    have hB3 := hB2.cp
    replace ho := ho.ap hA (And.intro (by omega) (And.intro (by omega) (by omega)))
    replace ho_h := ho_h.ap hA (And.intro (by omega) (And.intro (by omega) (by omega)))
    replace ho_g := ho_g.ap hA (And.intro (by omega) (And.intro (by omega) (by omega)))
    replace ho_t := ho_t.ap hA (And.intro (by omega) (And.intro (by omega) (by omega)))
    clear hA hB
    have hB := hB2
    clear hB2
    refine T_aload4 dL_test_255 rfl ?_
    refine T_cV1 (c_J4_append_15ec4 hX hB (hs_h.old ho_h (Or.inr (And.intro (by omega) (by omega)))) (And.intro (by omega) (by omega)) (by omega) (by simp only [List.length_append, List.length_cons, List.length_nil]; omega) (Or.inr (And.intro (by omega) (And.intro (by omega) (by omega))))) hX kL_37 hB.rcv (by decide) (Nat.le_of_ble_eq_true rfl) dL_test_257 rfl ?_
    rintro _ szc τc Mc ⟨rfl, v1, cap1, hB2, hA, hc1⟩
    have hA1 := hA.1
    have hA2 := hA.2.2.2
    have hB3 := hB2.cp
    replace ho := ho.ap hA (And.intro (by omega) (And.intro (by omega) (by omega)))
    replace ho_h := ho_h.ap hA (And.intro (by omega) (And.intro (by omega) (by omega)))
    replace ho_g := ho_g.ap hA (And.intro (by omega) (And.intro (by omega) (by omega)))
    replace ho_t := ho_t.ap hA (And.intro (by omega) (And.intro (by omega) (by omega)))
    clear hA hB
    have hB := hB2
    clear hB2
    refine T_ldcS (fun _ _ h => (h.2.1 40 (by decide)).2.2.2.2) dL_test_260 rfl ?_
    refine T_cV1 (c_J4_append_15ec4 hX hB sk_40 (And.intro (by omega) (by omega)) (by omega) (by simp only [List.length_append, List.length_cons, List.length_nil]; omega) (Or.inl sc_40)) hX kL_37 hB.rcv (by decide) (Nat.le_of_ble_eq_true rfl) dL_test_262 rfl ?_
    rintro _ szc τc Mc ⟨rfl, v1, cap1, hB2, hA, hc1⟩
    have hA1 := hA.1
    have hA2 := hA.2.2.2
    have hB3 := hB2.cp
    replace ho := ho.ap hA (And.intro (by omega) (And.intro (by omega) (by omega)))
    replace ho_h := ho_h.ap hA (And.intro (by omega) (And.intro (by omega) (by omega)))
    replace ho_g := ho_g.ap hA (And.intro (by omega) (And.intro (by omega) (by omega)))
    replace ho_t := ho_t.ap hA (And.intro (by omega) (And.intro (by omega) (by omega)))
    clear hA hB
    have hB := hB2
    clear hB2
    refine T_iload1 dL_test_265 rfl ?_
    refine T_cV1 (c_J4_append_bf812 hX hB (n := n) (by omega) (And.intro (by omega) (by omega)) (by omega) (by simp only [List.length_append, List.length_cons, List.length_nil]; omega)) hX kL_47 hB.rcv (by decide) (Nat.le_of_ble_eq_true rfl) dL_test_266 rfl ?_
    rintro _ szc τc Mc ⟨rfl, v1, cap1, hB2, hA, hc1⟩
    have hA1 := hA.1
    have hA2 := hA.2.2.2
    have hB3 := hB2.cp
    replace ho := ho.ap hA (And.intro (by omega) (And.intro (by omega) (by omega)))
    replace ho_h := ho_h.ap hA (And.intro (by omega) (And.intro (by omega) (by omega)))
    replace ho_g := ho_g.ap hA (And.intro (by omega) (And.intro (by omega) (by omega)))
    replace ho_t := ho_t.ap hA (And.intro (by omega) (And.intro (by omega) (by omega)))
    clear hA hB
    have hB := hB2
    clear hB2
    refine T_cV0 (c_J4_toString_0e30d hX hB (And.intro (by omega) (by omega)) (by simp only [List.length_append, List.length_cons, List.length_nil]; omega)) hX kL_50 hB.rcv (by decide) (Nat.le_of_ble_eq_true rfl) dL_test_269 rfl ?_
    rintro _ _ τc Mc ⟨rfl, rfl, hT, hT0, hT1, hT2⟩
    replace ho := ho.tr (And.intro hT1 hT2 : OLD _ _ _ _ _) (by omega)
    replace ho_h := ho_h.tr (And.intro hT1 hT2 : OLD _ _ _ _ _) (by omega)
    replace ho_g := ho_g.tr (And.intro hT1 hT2 : OLD _ _ _ _ _) (by omega)
    replace ho_t := ho_t.tr (And.intro hT1 hT2 : OLD _ _ _ _ _) (by omega)
    refine T_aret rfl dL_test_272 ?_
    refine ⟨_, _, rfl, ?_, hT, ho⟩
    exact ⟨by omega, Nat.lt_add_of_pos_right (by decide), by omega, by omega, by omega, Nat.ne_of_lt (Nat.lt_succ_self _)⟩
  ·
    refine T_tin (off := 191) 273 dL_test_82 (by decide +kernel) (by decide +kernel) (by decide +kernel) (by decide) ?_
    refine nL_32 rfl dL_test_273 rfl ?_
    refine T_dup dL_test_276 rfl rfl ?_
    refine T_cI0 (c_J4_init_da8c8 hX (tyN_s _ _ _) (by omega) (congrFun (meN_s _ _ _) 3)) hX kL_34 (by decide) (Nat.le_of_ble_eq_true rfl) dL_test_277 rfl ?_
    rintro _ _ _ Mt ⟨rfl, rfl, rfl, hB, hF⟩
    have hN := OLD.new hB hF
    replace ho := ho.tr hN (by omega)
    replace ho_h := ho_h.tr hN (by omega)
    replace ho_g := ho_g.tr hN (by omega)
    replace ho_t := ho_t.tr hN (by omega)
    refine T_ldcS (fun _ _ h => (h.2.1 41 (by decide)).2.2.2.2) dL_test_280 rfl ?_
    refine T_cV1 (c_J4_append_15ec4 hX hB sk_41 (And.intro (by omega) (by omega)) (by omega) (by simp only [List.length_append, List.length_cons, List.length_nil]; omega) (Or.inl sc_41)) hX kL_37 hB.rcv (by decide) (Nat.le_of_ble_eq_true rfl) dL_test_282 rfl ?_
    rintro _ szc τc Mc ⟨rfl, v1, cap1, hB2, hA, hc1⟩
    have hA1 := hA.1
    have hA2 := hA.2.2.2
    have hB3 := hB2.cp
    replace ho := ho.ap hA (And.intro (by omega) (And.intro (by omega) (by omega)))
    replace ho_h := ho_h.ap hA (And.intro (by omega) (And.intro (by omega) (by omega)))
    replace ho_g := ho_g.ap hA (And.intro (by omega) (And.intro (by omega) (by omega)))
    replace ho_t := ho_t.ap hA (And.intro (by omega) (And.intro (by omega) (by omega)))
    clear hA hB
    have hB := hB2
    clear hB2
    refine T_aload4 dL_test_285 rfl ?_
    refine T_cV1 (c_J4_append_15ec4 hX hB (hs_h.old ho_h (Or.inr (And.intro (by omega) (by omega)))) (And.intro (by omega) (by omega)) (by omega) (by simp only [List.length_append, List.length_cons, List.length_nil]; omega) (Or.inr (And.intro (by omega) (And.intro (by omega) (by omega))))) hX kL_37 hB.rcv (by decide) (Nat.le_of_ble_eq_true rfl) dL_test_287 rfl ?_
    rintro _ szc τc Mc ⟨rfl, v1, cap1, hB2, hA, hc1⟩
    have hA1 := hA.1
    have hA2 := hA.2.2.2
    have hB3 := hB2.cp
    replace ho := ho.ap hA (And.intro (by omega) (And.intro (by omega) (by omega)))
    replace ho_h := ho_h.ap hA (And.intro (by omega) (And.intro (by omega) (by omega)))
    replace ho_g := ho_g.ap hA (And.intro (by omega) (And.intro (by omega) (by omega)))
    replace ho_t := ho_t.ap hA (And.intro (by omega) (And.intro (by omega) (by omega)))
    clear hA hB
    have hB := hB2
    clear hB2
    refine T_ldcS (fun _ _ h => (h.2.1 42 (by decide)).2.2.2.2) dL_test_290 rfl ?_
    refine T_cV1 (c_J4_append_15ec4 hX hB sk_42 (And.intro (by omega) (by omega)) (by omega) (by simp only [List.length_append, List.length_cons, List.length_nil]; omega) (Or.inl sc_42)) hX kL_37 hB.rcv (by decide) (Nat.le_of_ble_eq_true rfl) dL_test_292 rfl ?_
    rintro _ szc τc Mc ⟨rfl, v1, cap1, hB2, hA, hc1⟩
    have hA1 := hA.1
    have hA2 := hA.2.2.2
    have hB3 := hB2.cp
    replace ho := ho.ap hA (And.intro (by omega) (And.intro (by omega) (by omega)))
    replace ho_h := ho_h.ap hA (And.intro (by omega) (And.intro (by omega) (by omega)))
    replace ho_g := ho_g.ap hA (And.intro (by omega) (And.intro (by omega) (by omega)))
    replace ho_t := ho_t.ap hA (And.intro (by omega) (And.intro (by omega) (by omega)))
    clear hA hB
    have hB := hB2
    clear hB2
    refine T_iload1 dL_test_295 rfl ?_
    refine T_bipush (9) dL_test_296 rfl rfl ?_
    refine T_irem dL_test_298 rfl (by decide) ?_
    rw [show nI n - nI n / 9 * 9 = nI (n % 9) from nI_mod (b := 9) (by omega) (by decide)]
    refine T_cV1 (c_J4_append_bf812 hX hB (n := n % 9) (by omega) (And.intro (by omega) (by omega)) (by omega) (by simp only [List.length_append, List.length_cons, List.length_nil]; omega)) hX kL_47 hB.rcv (by decide) (Nat.le_of_ble_eq_true rfl) dL_test_299 rfl ?_
    rintro _ szc τc Mc ⟨rfl, v1, cap1, hB2, hA, hc1⟩
    have hA1 := hA.1
    have hA2 := hA.2.2.2
    have hB3 := hB2.cp
    replace ho := ho.ap hA (And.intro (by omega) (And.intro (by omega) (by omega)))
    replace ho_h := ho_h.ap hA (And.intro (by omega) (And.intro (by omega) (by omega)))
    replace ho_g := ho_g.ap hA (And.intro (by omega) (And.intro (by omega) (by omega)))
    replace ho_t := ho_t.ap hA (And.intro (by omega) (And.intro (by omega) (by omega)))
    clear hA hB
    have hB := hB2
    clear hB2
    refine T_ldcS (fun _ _ h => (h.2.1 43 (by decide)).2.2.2.2) dL_test_302 rfl ?_
    refine T_cV1 (c_J4_append_15ec4 hX hB sk_43 (And.intro (by omega) (by omega)) (by omega) (by simp only [List.length_append, List.length_cons, List.length_nil]; omega) (Or.inl sc_43)) hX kL_37 hB.rcv (by decide) (Nat.le_of_ble_eq_true rfl) dL_test_304 rfl ?_
    rintro _ szc τc Mc ⟨rfl, v1, cap1, hB2, hA, hc1⟩
    have hA1 := hA.1
    have hA2 := hA.2.2.2
    have hB3 := hB2.cp
    replace ho := ho.ap hA (And.intro (by omega) (And.intro (by omega) (by omega)))
    replace ho_h := ho_h.ap hA (And.intro (by omega) (And.intro (by omega) (by omega)))
    replace ho_g := ho_g.ap hA (And.intro (by omega) (And.intro (by omega) (by omega)))
    replace ho_t := ho_t.ap hA (And.intro (by omega) (And.intro (by omega) (by omega)))
    clear hA hB
    have hB := hB2
    clear hB2
    refine T_iload1 dL_test_307 rfl ?_
    refine T_iconst (3) dL_test_308 rfl rfl ?_
    refine T_irem dL_test_309 rfl (by decide) ?_
    rw [show nI n - nI n / 3 * 3 = nI (n % 3) from nI_mod (b := 3) (by omega) (by decide)]
    refine T_cV1 (c_J4_append_bf812 hX hB (n := n % 3) (by omega) (And.intro (by omega) (by omega)) (by omega) (by simp only [List.length_append, List.length_cons, List.length_nil]; omega)) hX kL_47 hB.rcv (by decide) (Nat.le_of_ble_eq_true rfl) dL_test_310 rfl ?_
    rintro _ szc τc Mc ⟨rfl, v1, cap1, hB2, hA, hc1⟩
    have hA1 := hA.1
    have hA2 := hA.2.2.2
    have hB3 := hB2.cp
    replace ho := ho.ap hA (And.intro (by omega) (And.intro (by omega) (by omega)))
    replace ho_h := ho_h.ap hA (And.intro (by omega) (And.intro (by omega) (by omega)))
    replace ho_g := ho_g.ap hA (And.intro (by omega) (And.intro (by omega) (by omega)))
    replace ho_t := ho_t.ap hA (And.intro (by omega) (And.intro (by omega) (by omega)))
    clear hA hB
    have hB := hB2
    clear hB2
    refine T_ldcS (fun _ _ h => (h.2.1 44 (by decide)).2.2.2.2) dL_test_313 rfl ?_
    refine T_cV1 (c_J4_append_15ec4 hX hB sk_44 (And.intro (by omega) (by omega)) (by omega) (by simp only [List.length_append, List.length_cons, List.length_nil]; omega) (Or.inl sc_44)) hX kL_37 hB.rcv (by decide) (Nat.le_of_ble_eq_true rfl) dL_test_315 rfl ?_
    rintro _ szc τc Mc ⟨rfl, v1, cap1, hB2, hA, hc1⟩
    have hA1 := hA.1
    have hA2 := hA.2.2.2
    have hB3 := hB2.cp
    replace ho := ho.ap hA (And.intro (by omega) (And.intro (by omega) (by omega)))
    replace ho_h := ho_h.ap hA (And.intro (by omega) (And.intro (by omega) (by omega)))
    replace ho_g := ho_g.ap hA (And.intro (by omega) (And.intro (by omega) (by omega)))
    replace ho_t := ho_t.ap hA (And.intro (by omega) (And.intro (by omega) (by omega)))
    clear hA hB
    have hB := hB2
    clear hB2
    refine T_cV0 (c_J4_toString_0e30d hX hB (And.intro (by omega) (by omega)) (by simp only [List.length_append, List.length_cons, List.length_nil]; omega)) hX kL_50 hB.rcv (by decide) (Nat.le_of_ble_eq_true rfl) dL_test_318 rfl ?_
    rintro _ _ τc Mc ⟨rfl, rfl, hT, hT0, hT1, hT2⟩
    replace ho := ho.tr (And.intro hT1 hT2 : OLD _ _ _ _ _) (by omega)
    replace ho_h := ho_h.tr (And.intro hT1 hT2 : OLD _ _ _ _ _) (by omega)
    replace ho_g := ho_g.tr (And.intro hT1 hT2 : OLD _ _ _ _ _) (by omega)
    replace ho_t := ho_t.tr (And.intro hT1 hT2 : OLD _ _ _ _ _) (by omega)
    refine T_aret rfl dL_test_321 ?_
    refine ⟨_, _, rfl, ?_, hT, ho⟩
    exact ⟨by omega, Nat.lt_add_of_pos_right (by decide), by omega, by omega, by omega, Nat.ne_of_lt (Nat.lt_succ_self _)⟩
  ·
    refine T_tout 322 dL_test_82 (by decide +kernel) (by decide) ?_
    refine nL_32 rfl dL_test_322 rfl ?_
    refine T_dup dL_test_325 rfl rfl ?_
    refine T_cI0 (c_J4_init_da8c8 hX (tyN_s _ _ _) (by omega) (congrFun (meN_s _ _ _) 3)) hX kL_34 (by decide) (Nat.le_of_ble_eq_true rfl) dL_test_326 rfl ?_
    rintro _ _ _ Mt ⟨rfl, rfl, rfl, hB, hF⟩
    have hN := OLD.new hB hF
    replace ho := ho.tr hN (by omega)
    replace ho_h := ho_h.tr hN (by omega)
    replace ho_g := ho_g.tr hN (by omega)
    replace ho_t := ho_t.tr hN (by omega)
    refine T_ldcS (fun _ _ h => (h.2.1 45 (by decide)).2.2.2.2) dL_test_329 rfl ?_
    refine T_cV1 (c_J4_append_15ec4 hX hB sk_45 (And.intro (by omega) (by omega)) (by omega) (by simp only [List.length_append, List.length_cons, List.length_nil]; omega) (Or.inl sc_45)) hX kL_37 hB.rcv (by decide) (Nat.le_of_ble_eq_true rfl) dL_test_331 rfl ?_
    rintro _ szc τc Mc ⟨rfl, v1, cap1, hB2, hA, hc1⟩
    have hA1 := hA.1
    have hA2 := hA.2.2.2
    have hB3 := hB2.cp
    replace ho := ho.ap hA (And.intro (by omega) (And.intro (by omega) (by omega)))
    replace ho_h := ho_h.ap hA (And.intro (by omega) (And.intro (by omega) (by omega)))
    replace ho_g := ho_g.ap hA (And.intro (by omega) (And.intro (by omega) (by omega)))
    replace ho_t := ho_t.ap hA (And.intro (by omega) (And.intro (by omega) (by omega)))
    clear hA hB
    have hB := hB2
    clear hB2
    refine T_aload4 dL_test_334 rfl ?_
    refine T_cV1 (c_J4_append_15ec4 hX hB (hs_h.old ho_h (Or.inr (And.intro (by omega) (by omega)))) (And.intro (by omega) (by omega)) (by omega) (by simp only [List.length_append, List.length_cons, List.length_nil]; omega) (Or.inr (And.intro (by omega) (And.intro (by omega) (by omega))))) hX kL_37 hB.rcv (by decide) (Nat.le_of_ble_eq_true rfl) dL_test_336 rfl ?_
    rintro _ szc τc Mc ⟨rfl, v1, cap1, hB2, hA, hc1⟩
    have hA1 := hA.1
    have hA2 := hA.2.2.2
    have hB3 := hB2.cp
    replace ho := ho.ap hA (And.intro (by omega) (And.intro (by omega) (by omega)))
    replace ho_h := ho_h.ap hA (And.intro (by omega) (And.intro (by omega) (by omega)))
    replace ho_g := ho_g.ap hA (And.intro (by omega) (And.intro (by omega) (by omega)))
    replace ho_t := ho_t.ap hA (And.intro (by omega) (And.intro (by omega) (by omega)))
    clear hA hB
    have hB := hB2
    clear hB2
    refine T_ldcS (fun _ _ h => (h.2.1 46 (by decide)).2.2.2.2) dL_test_339 rfl ?_
    refine T_cV1 (c_J4_append_15ec4 hX hB sk_46 (And.intro (by omega) (by omega)) (by omega) (by simp only [List.length_append, List.length_cons, List.length_nil]; omega) (Or.inl sc_46)) hX kL_37 hB.rcv (by decide) (Nat.le_of_ble_eq_true rfl) dL_test_341 rfl ?_
    rintro _ szc τc Mc ⟨rfl, v1, cap1, hB2, hA, hc1⟩
    have hA1 := hA.1
    have hA2 := hA.2.2.2
    have hB3 := hB2.cp
    replace ho := ho.ap hA (And.intro (by omega) (And.intro (by omega) (by omega)))
    replace ho_h := ho_h.ap hA (And.intro (by omega) (And.intro (by omega) (by omega)))
    replace ho_g := ho_g.ap hA (And.intro (by omega) (And.intro (by omega) (by omega)))
    replace ho_t := ho_t.ap hA (And.intro (by omega) (And.intro (by omega) (by omega)))
    clear hA hB
    have hB := hB2
    clear hB2
    refine T_aload5 dL_test_344 rfl ?_
    refine T_cV1 (c_J4_append_15ec4 hX hB (hs_g.old ho_g (Or.inr (And.intro (by omega) (by omega)))) (And.intro (by omega) (by omega)) (by omega) (by simp only [List.length_append, List.length_cons, List.length_nil]; omega) (Or.inr (And.intro (by omega) (And.intro (by omega) (by omega))))) hX kL_37 hB.rcv (by decide) (Nat.le_of_ble_eq_true rfl) dL_test_346 rfl ?_
    rintro _ szc τc Mc ⟨rfl, v1, cap1, hB2, hA, hc1⟩
    have hA1 := hA.1
    have hA2 := hA.2.2.2
    have hB3 := hB2.cp
    replace ho := ho.ap hA (And.intro (by omega) (And.intro (by omega) (by omega)))
    replace ho_h := ho_h.ap hA (And.intro (by omega) (And.intro (by omega) (by omega)))
    replace ho_g := ho_g.ap hA (And.intro (by omega) (And.intro (by omega) (by omega)))
    replace ho_t := ho_t.ap hA (And.intro (by omega) (And.intro (by omega) (by omega)))
    clear hA hB
    have hB := hB2
    clear hB2
    refine T_ldcS (fun _ _ h => (h.2.1 47 (by decide)).2.2.2.2) dL_test_349 rfl ?_
    refine T_cV1 (c_J4_append_15ec4 hX hB sk_47 (And.intro (by omega) (by omega)) (by omega) (by simp only [List.length_append, List.length_cons, List.length_nil]; omega) (Or.inl sc_47)) hX kL_37 hB.rcv (by decide) (Nat.le_of_ble_eq_true rfl) dL_test_351 rfl ?_
    rintro _ szc τc Mc ⟨rfl, v1, cap1, hB2, hA, hc1⟩
    have hA1 := hA.1
    have hA2 := hA.2.2.2
    have hB3 := hB2.cp
    replace ho := ho.ap hA (And.intro (by omega) (And.intro (by omega) (by omega)))
    replace ho_h := ho_h.ap hA (And.intro (by omega) (And.intro (by omega) (by omega)))
    replace ho_g := ho_g.ap hA (And.intro (by omega) (And.intro (by omega) (by omega)))
    replace ho_t := ho_t.ap hA (And.intro (by omega) (And.intro (by omega) (by omega)))
    clear hA hB
    have hB := hB2
    clear hB2
    refine T_iload1 dL_test_354 rfl ?_
    refine T_cV1 (c_J4_append_bf812 hX hB (n := n) (by omega) (And.intro (by omega) (by omega)) (by omega) (by simp only [List.length_append, List.length_cons, List.length_nil]; omega)) hX kL_47 hB.rcv (by decide) (Nat.le_of_ble_eq_true rfl) dL_test_355 rfl ?_
    rintro _ szc τc Mc ⟨rfl, v1, cap1, hB2, hA, hc1⟩
    have hA1 := hA.1
    have hA2 := hA.2.2.2
    have hB3 := hB2.cp
    replace ho := ho.ap hA (And.intro (by omega) (And.intro (by omega) (by omega)))
    replace ho_h := ho_h.ap hA (And.intro (by omega) (And.intro (by omega) (by omega)))
    replace ho_g := ho_g.ap hA (And.intro (by omega) (And.intro (by omega) (by omega)))
    replace ho_t := ho_t.ap hA (And.intro (by omega) (And.intro (by omega) (by omega)))
    clear hA hB
    have hB := hB2
    clear hB2
    refine T_cV0 (c_J4_toString_0e30d hX hB (And.intro (by omega) (by omega)) (by simp only [List.length_append, List.length_cons, List.length_nil]; omega)) hX kL_50 hB.rcv (by decide) (Nat.le_of_ble_eq_true rfl) dL_test_358 rfl ?_
    rintro _ _ τc Mc ⟨rfl, rfl, hT, hT0, hT1, hT2⟩
    replace ho := ho.tr (And.intro hT1 hT2 : OLD _ _ _ _ _) (by omega)
    replace ho_h := ho_h.tr (And.intro hT1 hT2 : OLD _ _ _ _ _) (by omega)
    replace ho_g := ho_g.tr (And.intro hT1 hT2 : OLD _ _ _ _ _) (by omega)
    replace ho_t := ho_t.tr (And.intro hT1 hT2 : OLD _ _ _ _ _) (by omega)
    refine T_aret rfl dL_test_361 ?_
    refine ⟨_, _, rfl, ?_, hT, ho⟩
    exact ⟨by omega, Nat.lt_add_of_pos_right (by decide), by omega, by omega, by omega, Nat.ne_of_lt (Nat.lt_succ_self _)⟩
def smT (kd n v nt nh : Nat) : List Nat := match kd with
  | 0 => (([] ++ []) ++ dgL (n))
  | 1 => ((([] ++ [109, 105, 110, 40, 112, 105, 108, 101, 47, 50, 44]) ++ dgL (n)) ++ [41])
  | 2 => ((([] ++ dgL (n)) ++ [32, 45, 32, 116, 105, 114, 101, 100, 32]) ++ (([] ++ [104]) ++ dgL (v % nh)))
  | 3 => (((((([] ++ [108, 105, 110, 107, 115, 32]) ++ (([] ++ [104]) ++ dgL (v % nh))) ++ [42]) ++ dgL (n)) ++ [47, 57, 43, 102, 114, 111, 115, 116, 32]) ++ (([] ++ [115]) ++ dgL (v % nt)))
  | 4 => (([] ++ dgL (n)) ++ [43, 119, 101, 97, 116, 104, 101, 114, 42, 53, 45, 104, 111, 117, 114, 47, 49, 48])
  | _ => (((([] ++ [109, 97, 120, 40, 114, 97, 102, 116, 44]) ++ dgL (n)) ++ [41, 45, 108, 111, 97, 100, 32]) ++ (([] ++ [104]) ++ dgL (v % nh)))
theorem sk_20 {adK adV : Nat → Nat} {τ : TY} {M : ME} : ST adK adV τ M (adK 20) (adV 20) [] := stc (by decide) (by decide) (by decide) (by decide)
theorem sc_20 {adK adV : Nat → Nat} : CSt adK adV (adK 20) (adV 20) [] := stcC (by decide) (by decide) (by decide)
theorem sk_21 {adK adV : Nat → Nat} {τ : TY} {M : ME} : ST adK adV τ M (adK 21) (adV 21) [109, 105, 110, 40, 112, 105, 108, 101, 47, 50, 44] := stc (by decide) (by decide) (by decide) (by decide)
theorem sc_21 {adK adV : Nat → Nat} : CSt adK adV (adK 21) (adV 21) [109, 105, 110, 40, 112, 105, 108, 101, 47, 50, 44] := stcC (by decide) (by decide) (by decide)
theorem sk_22 {adK adV : Nat → Nat} {τ : TY} {M : ME} : ST adK adV τ M (adK 22) (adV 22) [41] := stc (by decide) (by decide) (by decide) (by decide)
theorem sc_22 {adK adV : Nat → Nat} : CSt adK adV (adK 22) (adV 22) [41] := stcC (by decide) (by decide) (by decide)
theorem sk_23 {adK adV : Nat → Nat} {τ : TY} {M : ME} : ST adK adV τ M (adK 23) (adV 23) [32, 45, 32, 116, 105, 114, 101, 100, 32] := stc (by decide) (by decide) (by decide) (by decide)
theorem sc_23 {adK adV : Nat → Nat} : CSt adK adV (adK 23) (adV 23) [32, 45, 32, 116, 105, 114, 101, 100, 32] := stcC (by decide) (by decide) (by decide)
theorem sk_24 {adK adV : Nat → Nat} {τ : TY} {M : ME} : ST adK adV τ M (adK 24) (adV 24) [108, 105, 110, 107, 115, 32] := stc (by decide) (by decide) (by decide) (by decide)
theorem sc_24 {adK adV : Nat → Nat} : CSt adK adV (adK 24) (adV 24) [108, 105, 110, 107, 115, 32] := stcC (by decide) (by decide) (by decide)
theorem sk_25 {adK adV : Nat → Nat} {τ : TY} {M : ME} : ST adK adV τ M (adK 25) (adV 25) [42] := stc (by decide) (by decide) (by decide) (by decide)
theorem sc_25 {adK adV : Nat → Nat} : CSt adK adV (adK 25) (adV 25) [42] := stcC (by decide) (by decide) (by decide)
theorem sk_26 {adK adV : Nat → Nat} {τ : TY} {M : ME} : ST adK adV τ M (adK 26) (adV 26) [47, 57, 43, 102, 114, 111, 115, 116, 32] := stc (by decide) (by decide) (by decide) (by decide)
theorem sc_26 {adK adV : Nat → Nat} : CSt adK adV (adK 26) (adV 26) [47, 57, 43, 102, 114, 111, 115, 116, 32] := stcC (by decide) (by decide) (by decide)
theorem sk_27 {adK adV : Nat → Nat} {τ : TY} {M : ME} : ST adK adV τ M (adK 27) (adV 27) [43, 119, 101, 97, 116, 104, 101, 114, 42, 53, 45, 104, 111, 117, 114, 47, 49, 48] := stc (by decide) (by decide) (by decide) (by decide)
theorem sc_27 {adK adV : Nat → Nat} : CSt adK adV (adK 27) (adV 27) [43, 119, 101, 97, 116, 104, 101, 114, 42, 53, 45, 104, 111, 117, 114, 47, 49, 48] := stcC (by decide) (by decide) (by decide)
theorem sk_28 {adK adV : Nat → Nat} {τ : TY} {M : ME} : ST adK adV τ M (adK 28) (adV 28) [109, 97, 120, 40, 114, 97, 102, 116, 44] := stc (by decide) (by decide) (by decide) (by decide)
theorem sc_28 {adK adV : Nat → Nat} : CSt adK adV (adK 28) (adV 28) [109, 97, 120, 40, 114, 97, 102, 116, 44] := stcC (by decide) (by decide) (by decide)
theorem sk_29 {adK adV : Nat → Nat} {τ : TY} {M : ME} : ST adK adV τ M (adK 29) (adV 29) [41, 45, 108, 111, 97, 100, 32] := stc (by decide) (by decide) (by decide) (by decide)
theorem sc_29 {adK adV : Nat → Nat} : CSt adK adV (adK 29) (adV 29) [41, 45, 108, 111, 97, 100, 32] := stcC (by decide) (by decide) (by decide)
set_option maxHeartbeats 1000000 in
theorem c_L_sum {l : Launch} {D : va_G} {cA : Nat → ClassId} {n0 : Nat} {sg adK adV : Nat → Nat} {sgA smA wdA bS LS : Nat} {xs : Nat → Int32} (hX : SF n0 (XW0 sg adK adV sgA smA wdA n0 bS LS xs)) {sz : Nat} {τ : TY} {M : ME} {j a3 a4 nt nh : Nat} (hP : PSm τ M j a3 a4 nt nh) (hj : j < sz ∧ a3 < sz ∧ a4 < sz) {a0 kd n v : Nat} (hr : τ a0 = (100, 7)) (ha0 : a0 < sz) (h1 : M a0 1 = .int (nI kd)) (h2 : M a0 2 = .int (nI n)) (h3 : M a0 3 = .int (nI v)) (hkd : kd < 6) (hn : n < 100) (hv : v < 10) : CT l D cA n0 (XW0 sg adK adV sgA smA wdA n0 bS LS xs) mL_sum 12 60 150000 sz τ M [.ref a0, .ref j] (fun v' sz' τ' M' => ∃ a w, v' = some (.ref a) ∧ (sz ≤ a ∧ a < sz' ∧ sz ≤ w ∧ w < sz' ∧ sz ≤ sz' ∧ a ≠ w) ∧ ST adK adV τ' M' a w (smT kd n v nt nh) ∧ OLD sz τ M τ' M') := by
  refine CT.of (ls := [.ref a0, .ref j, UU, UU, UU]) (by decide) (Nat.le_of_ble_eq_true rfl) rfl ?_
  obtain ⟨l1, l2⟩ := hP.2.2
  have m4 : v % nh < nh := Nat.mod_lt _ (by omega)
  have m3 : v % nt < nt := Nat.mod_lt _ (by omega)
  have m5 : n % nh < nh := Nat.mod_lt _ (by omega)
  have m6 : n % 20 < 20 := Nat.mod_lt _ (by decide)
  have m7 : n % 9 < 9 := Nat.mod_lt _ (by decide)
  have m8 : n % 3 < 3 := Nat.mod_lt _ (by decide)
  have ho : OLD sz τ M τ M := OLD.rf
  have dl0 := dg_le2 (n)
  have dl1 := dg_le2 (v % nh)
  have dl2 := dg_le2 (v % nt)
  refine T_aload0 dL_sum_0 rfl ?_
  refine T_iconst (2) dL_sum_1 rfl rfl ?_
  refine T_iald 2 ((ho.1 _ ha0).trans hr) rfl (by decide) (by decide) dL_sum_2 rfl ((congrFun (ho.2 _ ha0) 2).trans h2) ?_
  refine T_istore2 rfl (by decide) dL_sum_3 rfl ?_
  refine nL_32 rfl dL_sum_4 rfl ?_
  refine T_dup dL_sum_7 rfl rfl ?_
  refine T_cI0 (c_J4_init_da8c8 hX (tyN_s _ _ _) (by omega) (congrFun (meN_s _ _ _) 3)) hX kL_34 (by decide) (Nat.le_of_ble_eq_true rfl) dL_sum_8 rfl ?_
  rintro _ _ _ Mt ⟨rfl, rfl, rfl, hB, hF⟩
  have hN := OLD.new hB hF
  replace ho := ho.tr hN (by omega)
  refine T_ldcS (fun _ _ h => (h.2.1 18 (by decide)).2.2.2.2) dL_sum_11 rfl ?_
  refine T_cV1 (c_J4_append_15ec4 hX hB sk_18 (And.intro (by omega) (by omega)) (by omega) (by simp only [List.length_append, List.length_cons, List.length_nil]; omega) (Or.inl sc_18)) hX kL_37 hB.rcv (by decide) (Nat.le_of_ble_eq_true rfl) dL_sum_13 rfl ?_
  rintro _ szc τc Mc ⟨rfl, v1, cap1, hB2, hA, hc1⟩
  have hA1 := hA.1
  have hA2 := hA.2.2.2
  have hB3 := hB2.cp
  replace ho := ho.ap hA (And.intro (by omega) (And.intro (by omega) (by omega)))
  clear hA hB
  have hB := hB2
  clear hB2
  refine T_aload0 dL_sum_16 rfl ?_
  refine T_iconst (3) dL_sum_17 rfl rfl ?_
  refine T_iald 3 ((ho.1 _ ha0).trans hr) rfl (by decide) (by decide) dL_sum_18 rfl ((congrFun (ho.2 _ ha0) 3).trans h3) ?_
  refine T_aload1 dL_sum_19 rfl ?_
  refine gL_41 _ rfl (hP.old ho hj).1.1 (hP.old ho hj).2.1.2 dL_sum_20 rfl ?_
  refine T_alen (j := 8) (hP.old ho hj).1.2.2 (by decide) dL_sum_23 rfl ?_
  refine T_irem dL_sum_24 rfl (fun q => by have := (nI_eq (a := nh) (b := 0) (by omega) (by omega)).mp q; omega) ?_
  rw [nI_mod (by omega) (by omega)]
  refine T_cV1 (c_J4_append_bf812 hX hB (n := v % nh) (by omega) (And.intro (by omega) (by omega)) (by omega) (by simp only [List.length_append, List.length_cons, List.length_nil]; omega)) hX kL_47 hB.rcv (by decide) (Nat.le_of_ble_eq_true rfl) dL_sum_25 rfl ?_
  rintro _ szc τc Mc ⟨rfl, v1, cap1, hB2, hA, hc1⟩
  have hA1 := hA.1
  have hA2 := hA.2.2.2
  have hB3 := hB2.cp
  replace ho := ho.ap hA (And.intro (by omega) (And.intro (by omega) (by omega)))
  clear hA hB
  have hB := hB2
  clear hB2
  refine T_cV0 (c_J4_toString_0e30d hX hB (And.intro (by omega) (by omega)) (by simp only [List.length_append, List.length_cons, List.length_nil]; omega)) hX kL_50 hB.rcv (by decide) (Nat.le_of_ble_eq_true rfl) dL_sum_28 rfl ?_
  rintro _ _ τc Mc ⟨rfl, rfl, hT, hT0, hT1, hT2⟩
  replace ho := ho.tr (And.intro hT1 hT2 : OLD _ _ _ _ _) (by omega)
  have hs_h := hT
  have ho_h := hT.o
  refine T_astore3 rfl (by decide) dL_sum_31 rfl ?_
  refine nL_32 rfl dL_sum_32 rfl ?_
  refine T_dup dL_sum_35 rfl rfl ?_
  refine T_cI0 (c_J4_init_da8c8 hX (tyN_s _ _ _) (by omega) (congrFun (meN_s _ _ _) 3)) hX kL_34 (by decide) (Nat.le_of_ble_eq_true rfl) dL_sum_36 rfl ?_
  rintro _ _ _ Mt ⟨rfl, rfl, rfl, hB, hF⟩
  have hN := OLD.new hB hF
  replace ho := ho.tr hN (by omega)
  replace ho_h := ho_h.tr hN (by omega)
  refine T_ldcS (fun _ _ h => (h.2.1 19 (by decide)).2.2.2.2) dL_sum_39 rfl ?_
  refine T_cV1 (c_J4_append_15ec4 hX hB sk_19 (And.intro (by omega) (by omega)) (by omega) (by simp only [List.length_append, List.length_cons, List.length_nil]; omega) (Or.inl sc_19)) hX kL_37 hB.rcv (by decide) (Nat.le_of_ble_eq_true rfl) dL_sum_41 rfl ?_
  rintro _ szc τc Mc ⟨rfl, v1, cap1, hB2, hA, hc1⟩
  have hA1 := hA.1
  have hA2 := hA.2.2.2
  have hB3 := hB2.cp
  replace ho := ho.ap hA (And.intro (by omega) (And.intro (by omega) (by omega)))
  replace ho_h := ho_h.ap hA (And.intro (by omega) (And.intro (by omega) (by omega)))
  clear hA hB
  have hB := hB2
  clear hB2
  refine T_aload0 dL_sum_44 rfl ?_
  refine T_iconst (3) dL_sum_45 rfl rfl ?_
  refine T_iald 3 ((ho.1 _ ha0).trans hr) rfl (by decide) (by decide) dL_sum_46 rfl ((congrFun (ho.2 _ ha0) 3).trans h3) ?_
  refine T_aload1 dL_sum_47 rfl ?_
  refine gL_56 _ rfl (hP.old ho hj).1.1 (hP.old ho hj).2.1.1 dL_sum_48 rfl ?_
  refine T_alen (j := 8) (hP.old ho hj).1.2.1 (by decide) dL_sum_51 rfl ?_
  refine T_irem dL_sum_52 rfl (fun q => by have := (nI_eq (a := nt) (b := 0) (by omega) (by omega)).mp q; omega) ?_
  rw [nI_mod (by omega) (by omega)]
  refine T_cV1 (c_J4_append_bf812 hX hB (n := v % nt) (by omega) (And.intro (by omega) (by omega)) (by omega) (by simp only [List.length_append, List.length_cons, List.length_nil]; omega)) hX kL_47 hB.rcv (by decide) (Nat.le_of_ble_eq_true rfl) dL_sum_53 rfl ?_
  rintro _ szc τc Mc ⟨rfl, v1, cap1, hB2, hA, hc1⟩
  have hA1 := hA.1
  have hA2 := hA.2.2.2
  have hB3 := hB2.cp
  replace ho := ho.ap hA (And.intro (by omega) (And.intro (by omega) (by omega)))
  replace ho_h := ho_h.ap hA (And.intro (by omega) (And.intro (by omega) (by omega)))
  clear hA hB
  have hB := hB2
  clear hB2
  refine T_cV0 (c_J4_toString_0e30d hX hB (And.intro (by omega) (by omega)) (by simp only [List.length_append, List.length_cons, List.length_nil]; omega)) hX kL_50 hB.rcv (by decide) (Nat.le_of_ble_eq_true rfl) dL_sum_56 rfl ?_
  rintro _ _ τc Mc ⟨rfl, rfl, hT, hT0, hT1, hT2⟩
  replace ho := ho.tr (And.intro hT1 hT2 : OLD _ _ _ _ _) (by omega)
  replace ho_h := ho_h.tr (And.intro hT1 hT2 : OLD _ _ _ _ _) (by omega)
  have hs_t := hT
  have ho_t := hT.o
  refine T_astore4 rfl (by decide) dL_sum_59 rfl ?_
  refine T_aload0 dL_sum_61 rfl ?_
  refine T_iconst (1) dL_sum_62 rfl rfl ?_
  refine T_iald 1 ((ho.1 _ ha0).trans hr) rfl (by decide) (by decide) dL_sum_63 rfl ((congrFun (ho.2 _ ha0) 1).trans h1) ?_
  rcases (show kd = 0 ∨ kd = 1 ∨ kd = 2 ∨ kd = 3 ∨ kd = 4 ∨ kd = 5 by omega) with rfl | rfl | rfl | rfl | rfl | rfl
  ·
    refine T_tin (off := 36) 100 dL_sum_64 (by decide +kernel) (by decide +kernel) (by decide +kernel) (by decide) ?_
    refine nL_32 rfl dL_sum_100 rfl ?_
    refine T_dup dL_sum_103 rfl rfl ?_
    refine T_cI0 (c_J4_init_da8c8 hX (tyN_s _ _ _) (by omega) (congrFun (meN_s _ _ _) 3)) hX kL_34 (by decide) (Nat.le_of_ble_eq_true rfl) dL_sum_104 rfl ?_
    rintro _ _ _ Mt ⟨rfl, rfl, rfl, hB, hF⟩
    have hN := OLD.new hB hF
    replace ho := ho.tr hN (by omega)
    replace ho_h := ho_h.tr hN (by omega)
    replace ho_t := ho_t.tr hN (by omega)
    refine T_ldcS (fun _ _ h => (h.2.1 20 (by decide)).2.2.2.2) dL_sum_107 rfl ?_
    refine T_cV1 (c_J4_append_15ec4 hX hB sk_20 (And.intro (by omega) (by omega)) (by omega) (by simp only [List.length_append, List.length_cons, List.length_nil]; omega) (Or.inl sc_20)) hX kL_37 hB.rcv (by decide) (Nat.le_of_ble_eq_true rfl) dL_sum_109 rfl ?_
    rintro _ szc τc Mc ⟨rfl, v1, cap1, hB2, hA, hc1⟩
    have hA1 := hA.1
    have hA2 := hA.2.2.2
    have hB3 := hB2.cp
    replace ho := ho.ap hA (And.intro (by omega) (And.intro (by omega) (by omega)))
    replace ho_h := ho_h.ap hA (And.intro (by omega) (And.intro (by omega) (by omega)))
    replace ho_t := ho_t.ap hA (And.intro (by omega) (And.intro (by omega) (by omega)))
    clear hA hB
    have hB := hB2
    clear hB2
    refine T_iload2 dL_sum_112 rfl ?_
    refine T_cV1 (c_J4_append_bf812 hX hB (n := n) (by omega) (And.intro (by omega) (by omega)) (by omega) (by simp only [List.length_append, List.length_cons, List.length_nil]; omega)) hX kL_47 hB.rcv (by decide) (Nat.le_of_ble_eq_true rfl) dL_sum_113 rfl ?_
    rintro _ szc τc Mc ⟨rfl, v1, cap1, hB2, hA, hc1⟩
    have hA1 := hA.1
    have hA2 := hA.2.2.2
    have hB3 := hB2.cp
    replace ho := ho.ap hA (And.intro (by omega) (And.intro (by omega) (by omega)))
    replace ho_h := ho_h.ap hA (And.intro (by omega) (And.intro (by omega) (by omega)))
    replace ho_t := ho_t.ap hA (And.intro (by omega) (And.intro (by omega) (by omega)))
    clear hA hB
    have hB := hB2
    clear hB2
    refine T_cV0 (c_J4_toString_0e30d hX hB (And.intro (by omega) (by omega)) (by simp only [List.length_append, List.length_cons, List.length_nil]; omega)) hX kL_50 hB.rcv (by decide) (Nat.le_of_ble_eq_true rfl) dL_sum_116 rfl ?_
    rintro _ _ τc Mc ⟨rfl, rfl, hT, hT0, hT1, hT2⟩
    replace ho := ho.tr (And.intro hT1 hT2 : OLD _ _ _ _ _) (by omega)
    replace ho_h := ho_h.tr (And.intro hT1 hT2 : OLD _ _ _ _ _) (by omega)
    replace ho_t := ho_t.tr (And.intro hT1 hT2 : OLD _ _ _ _ _) (by omega)
    refine T_aret rfl dL_sum_119 ?_
    refine ⟨_, _, rfl, ?_, hT, ho⟩
    exact ⟨by omega, Nat.lt_add_of_pos_right (by decide), by omega, by omega, by omega, Nat.ne_of_lt (Nat.lt_succ_self _)⟩
  ·
    refine T_tin (off := 56) 120 dL_sum_64 (by decide +kernel) (by decide +kernel) (by decide +kernel) (by decide) ?_
    refine nL_32 rfl dL_sum_120 rfl ?_
    refine T_dup dL_sum_123 rfl rfl ?_
    refine T_cI0 (c_J4_init_da8c8 hX (tyN_s _ _ _) (by omega) (congrFun (meN_s _ _ _) 3)) hX kL_34 (by decide) (Nat.le_of_ble_eq_true rfl) dL_sum_124 rfl ?_
    rintro _ _ _ Mt ⟨rfl, rfl, rfl, hB, hF⟩
    have hN := OLD.new hB hF
    replace ho := ho.tr hN (by omega)
    replace ho_h := ho_h.tr hN (by omega)
    replace ho_t := ho_t.tr hN (by omega)
    refine T_ldcS (fun _ _ h => (h.2.1 21 (by decide)).2.2.2.2) dL_sum_127 rfl ?_
    refine T_cV1 (c_J4_append_15ec4 hX hB sk_21 (And.intro (by omega) (by omega)) (by omega) (by simp only [List.length_append, List.length_cons, List.length_nil]; omega) (Or.inl sc_21)) hX kL_37 hB.rcv (by decide) (Nat.le_of_ble_eq_true rfl) dL_sum_129 rfl ?_
    rintro _ szc τc Mc ⟨rfl, v1, cap1, hB2, hA, hc1⟩
    have hA1 := hA.1
    have hA2 := hA.2.2.2
    have hB3 := hB2.cp
    replace ho := ho.ap hA (And.intro (by omega) (And.intro (by omega) (by omega)))
    replace ho_h := ho_h.ap hA (And.intro (by omega) (And.intro (by omega) (by omega)))
    replace ho_t := ho_t.ap hA (And.intro (by omega) (And.intro (by omega) (by omega)))
    clear hA hB
    have hB := hB2
    clear hB2
    refine T_iload2 dL_sum_132 rfl ?_
    refine T_cV1 (c_J4_append_bf812 hX hB (n := n) (by omega) (And.intro (by omega) (by omega)) (by omega) (by simp only [List.length_append, List.length_cons, List.length_nil]; omega)) hX kL_47 hB.rcv (by decide) (Nat.le_of_ble_eq_true rfl) dL_sum_133 rfl ?_
    rintro _ szc τc Mc ⟨rfl, v1, cap1, hB2, hA, hc1⟩
    have hA1 := hA.1
    have hA2 := hA.2.2.2
    have hB3 := hB2.cp
    replace ho := ho.ap hA (And.intro (by omega) (And.intro (by omega) (by omega)))
    replace ho_h := ho_h.ap hA (And.intro (by omega) (And.intro (by omega) (by omega)))
    replace ho_t := ho_t.ap hA (And.intro (by omega) (And.intro (by omega) (by omega)))
    clear hA hB
    have hB := hB2
    clear hB2
    refine T_ldcS (fun _ _ h => (h.2.1 22 (by decide)).2.2.2.2) dL_sum_136 rfl ?_
    refine T_cV1 (c_J4_append_15ec4 hX hB sk_22 (And.intro (by omega) (by omega)) (by omega) (by simp only [List.length_append, List.length_cons, List.length_nil]; omega) (Or.inl sc_22)) hX kL_37 hB.rcv (by decide) (Nat.le_of_ble_eq_true rfl) dL_sum_138 rfl ?_
    rintro _ szc τc Mc ⟨rfl, v1, cap1, hB2, hA, hc1⟩
    have hA1 := hA.1
    have hA2 := hA.2.2.2
    have hB3 := hB2.cp
    replace ho := ho.ap hA (And.intro (by omega) (And.intro (by omega) (by omega)))
    replace ho_h := ho_h.ap hA (And.intro (by omega) (And.intro (by omega) (by omega)))
    replace ho_t := ho_t.ap hA (And.intro (by omega) (And.intro (by omega) (by omega)))
    clear hA hB
    have hB := hB2
    clear hB2
    refine T_cV0 (c_J4_toString_0e30d hX hB (And.intro (by omega) (by omega)) (by simp only [List.length_append, List.length_cons, List.length_nil]; omega)) hX kL_50 hB.rcv (by decide) (Nat.le_of_ble_eq_true rfl) dL_sum_141 rfl ?_
    rintro _ _ τc Mc ⟨rfl, rfl, hT, hT0, hT1, hT2⟩
    replace ho := ho.tr (And.intro hT1 hT2 : OLD _ _ _ _ _) (by omega)
    replace ho_h := ho_h.tr (And.intro hT1 hT2 : OLD _ _ _ _ _) (by omega)
    replace ho_t := ho_t.tr (And.intro hT1 hT2 : OLD _ _ _ _ _) (by omega)
    refine T_aret rfl dL_sum_144 ?_
    refine ⟨_, _, rfl, ?_, hT, ho⟩
    exact ⟨by omega, Nat.lt_add_of_pos_right (by decide), by omega, by omega, by omega, Nat.ne_of_lt (Nat.lt_succ_self _)⟩
  ·
    refine T_tin (off := 81) 145 dL_sum_64 (by decide +kernel) (by decide +kernel) (by decide +kernel) (by decide) ?_
    refine nL_32 rfl dL_sum_145 rfl ?_
    refine T_dup dL_sum_148 rfl rfl ?_
    refine T_cI0 (c_J4_init_da8c8 hX (tyN_s _ _ _) (by omega) (congrFun (meN_s _ _ _) 3)) hX kL_34 (by decide) (Nat.le_of_ble_eq_true rfl) dL_sum_149 rfl ?_
    rintro _ _ _ Mt ⟨rfl, rfl, rfl, hB, hF⟩
    have hN := OLD.new hB hF
    replace ho := ho.tr hN (by omega)
    replace ho_h := ho_h.tr hN (by omega)
    replace ho_t := ho_t.tr hN (by omega)
    refine T_iload2 dL_sum_152 rfl ?_
    refine T_cV1 (c_J4_append_bf812 hX hB (n := n) (by omega) (And.intro (by omega) (by omega)) (by omega) (by simp only [List.length_append, List.length_cons, List.length_nil]; omega)) hX kL_47 hB.rcv (by decide) (Nat.le_of_ble_eq_true rfl) dL_sum_153 rfl ?_
    rintro _ szc τc Mc ⟨rfl, v1, cap1, hB2, hA, hc1⟩
    have hA1 := hA.1
    have hA2 := hA.2.2.2
    have hB3 := hB2.cp
    replace ho := ho.ap hA (And.intro (by omega) (And.intro (by omega) (by omega)))
    replace ho_h := ho_h.ap hA (And.intro (by omega) (And.intro (by omega) (by omega)))
    replace ho_t := ho_t.ap hA (And.intro (by omega) (And.intro (by omega) (by omega)))
    clear hA hB
    have hB := hB2
    clear hB2
    refine T_ldcS (fun _ _ h => (h.2.1 23 (by decide)).2.2.2.2) dL_sum_156 rfl ?_
    refine T_cV1 (c_J4_append_15ec4 hX hB sk_23 (And.intro (by omega) (by omega)) (by omega) (by simp only [List.length_append, List.length_cons, List.length_nil]; omega) (Or.inl sc_23)) hX kL_37 hB.rcv (by decide) (Nat.le_of_ble_eq_true rfl) dL_sum_158 rfl ?_
    rintro _ szc τc Mc ⟨rfl, v1, cap1, hB2, hA, hc1⟩
    have hA1 := hA.1
    have hA2 := hA.2.2.2
    have hB3 := hB2.cp
    replace ho := ho.ap hA (And.intro (by omega) (And.intro (by omega) (by omega)))
    replace ho_h := ho_h.ap hA (And.intro (by omega) (And.intro (by omega) (by omega)))
    replace ho_t := ho_t.ap hA (And.intro (by omega) (And.intro (by omega) (by omega)))
    clear hA hB
    have hB := hB2
    clear hB2
    refine T_aload3 dL_sum_161 rfl ?_
    refine T_cV1 (c_J4_append_15ec4 hX hB (hs_h.old ho_h (Or.inr (And.intro (by omega) (by omega)))) (And.intro (by omega) (by omega)) (by omega) (by simp only [List.length_append, List.length_cons, List.length_nil]; omega) (Or.inr (And.intro (by omega) (And.intro (by omega) (by omega))))) hX kL_37 hB.rcv (by decide) (Nat.le_of_ble_eq_true rfl) dL_sum_162 rfl ?_
    rintro _ szc τc Mc ⟨rfl, v1, cap1, hB2, hA, hc1⟩
    have hA1 := hA.1
    have hA2 := hA.2.2.2
    have hB3 := hB2.cp
    replace ho := ho.ap hA (And.intro (by omega) (And.intro (by omega) (by omega)))
    replace ho_h := ho_h.ap hA (And.intro (by omega) (And.intro (by omega) (by omega)))
    replace ho_t := ho_t.ap hA (And.intro (by omega) (And.intro (by omega) (by omega)))
    clear hA hB
    have hB := hB2
    clear hB2
    refine T_cV0 (c_J4_toString_0e30d hX hB (And.intro (by omega) (by omega)) (by simp only [List.length_append, List.length_cons, List.length_nil]; omega)) hX kL_50 hB.rcv (by decide) (Nat.le_of_ble_eq_true rfl) dL_sum_165 rfl ?_
    rintro _ _ τc Mc ⟨rfl, rfl, hT, hT0, hT1, hT2⟩
    replace ho := ho.tr (And.intro hT1 hT2 : OLD _ _ _ _ _) (by omega)
    replace ho_h := ho_h.tr (And.intro hT1 hT2 : OLD _ _ _ _ _) (by omega)
    replace ho_t := ho_t.tr (And.intro hT1 hT2 : OLD _ _ _ _ _) (by omega)
    refine T_aret rfl dL_sum_168 ?_
    refine ⟨_, _, rfl, ?_, hT, ho⟩
    exact ⟨by omega, Nat.lt_add_of_pos_right (by decide), by omega, by omega, by omega, Nat.ne_of_lt (Nat.lt_succ_self _)⟩
  ·
    refine T_tin (off := 105) 169 dL_sum_64 (by decide +kernel) (by decide +kernel) (by decide +kernel) (by decide) ?_
    refine nL_32 rfl dL_sum_169 rfl ?_
    refine T_dup dL_sum_172 rfl rfl ?_
    refine T_cI0 (c_J4_init_da8c8 hX (tyN_s _ _ _) (by omega) (congrFun (meN_s _ _ _) 3)) hX kL_34 (by decide) (Nat.le_of_ble_eq_true rfl) dL_sum_173 rfl ?_
    rintro _ _ _ Mt ⟨rfl, rfl, rfl, hB, hF⟩
    have hN := OLD.new hB hF
    replace ho := ho.tr hN (by omega)
    replace ho_h := ho_h.tr hN (by omega)
    replace ho_t := ho_t.tr hN (by omega)
    refine T_ldcS (fun _ _ h => (h.2.1 24 (by decide)).2.2.2.2) dL_sum_176 rfl ?_
    refine T_cV1 (c_J4_append_15ec4 hX hB sk_24 (And.intro (by omega) (by omega)) (by omega) (by simp only [List.length_append, List.length_cons, List.length_nil]; omega) (Or.inl sc_24)) hX kL_37 hB.rcv (by decide) (Nat.le_of_ble_eq_true rfl) dL_sum_178 rfl ?_
    rintro _ szc τc Mc ⟨rfl, v1, cap1, hB2, hA, hc1⟩
    have hA1 := hA.1
    have hA2 := hA.2.2.2
    have hB3 := hB2.cp
    replace ho := ho.ap hA (And.intro (by omega) (And.intro (by omega) (by omega)))
    replace ho_h := ho_h.ap hA (And.intro (by omega) (And.intro (by omega) (by omega)))
    replace ho_t := ho_t.ap hA (And.intro (by omega) (And.intro (by omega) (by omega)))
    clear hA hB
    have hB := hB2
    clear hB2
    refine T_aload3 dL_sum_181 rfl ?_
    refine T_cV1 (c_J4_append_15ec4 hX hB (hs_h.old ho_h (Or.inr (And.intro (by omega) (by omega)))) (And.intro (by omega) (by omega)) (by omega) (by simp only [List.length_append, List.length_cons, List.length_nil]; omega) (Or.inr (And.intro (by omega) (And.intro (by omega) (by omega))))) hX kL_37 hB.rcv (by decide) (Nat.le_of_ble_eq_true rfl) dL_sum_182 rfl ?_
    rintro _ szc τc Mc ⟨rfl, v1, cap1, hB2, hA, hc1⟩
    have hA1 := hA.1
    have hA2 := hA.2.2.2
    have hB3 := hB2.cp
    replace ho := ho.ap hA (And.intro (by omega) (And.intro (by omega) (by omega)))
    replace ho_h := ho_h.ap hA (And.intro (by omega) (And.intro (by omega) (by omega)))
    replace ho_t := ho_t.ap hA (And.intro (by omega) (And.intro (by omega) (by omega)))
    clear hA hB
    have hB := hB2
    clear hB2
    refine T_ldcS (fun _ _ h => (h.2.1 25 (by decide)).2.2.2.2) dL_sum_185 rfl ?_
    refine T_cV1 (c_J4_append_15ec4 hX hB sk_25 (And.intro (by omega) (by omega)) (by omega) (by simp only [List.length_append, List.length_cons, List.length_nil]; omega) (Or.inl sc_25)) hX kL_37 hB.rcv (by decide) (Nat.le_of_ble_eq_true rfl) dL_sum_187 rfl ?_
    rintro _ szc τc Mc ⟨rfl, v1, cap1, hB2, hA, hc1⟩
    have hA1 := hA.1
    have hA2 := hA.2.2.2
    have hB3 := hB2.cp
    replace ho := ho.ap hA (And.intro (by omega) (And.intro (by omega) (by omega)))
    replace ho_h := ho_h.ap hA (And.intro (by omega) (And.intro (by omega) (by omega)))
    replace ho_t := ho_t.ap hA (And.intro (by omega) (And.intro (by omega) (by omega)))
    clear hA hB
    have hB := hB2
    clear hB2
    refine T_iload2 dL_sum_190 rfl ?_
    refine T_cV1 (c_J4_append_bf812 hX hB (n := n) (by omega) (And.intro (by omega) (by omega)) (by omega) (by simp only [List.length_append, List.length_cons, List.length_nil]; omega)) hX kL_47 hB.rcv (by decide) (Nat.le_of_ble_eq_true rfl) dL_sum_191 rfl ?_
    rintro _ szc τc Mc ⟨rfl, v1, cap1, hB2, hA, hc1⟩
    have hA1 := hA.1
    have hA2 := hA.2.2.2
    have hB3 := hB2.cp
    replace ho := ho.ap hA (And.intro (by omega) (And.intro (by omega) (by omega)))
    replace ho_h := ho_h.ap hA (And.intro (by omega) (And.intro (by omega) (by omega)))
    replace ho_t := ho_t.ap hA (And.intro (by omega) (And.intro (by omega) (by omega)))
    clear hA hB
    have hB := hB2
    clear hB2
    refine T_ldcS (fun _ _ h => (h.2.1 26 (by decide)).2.2.2.2) dL_sum_194 rfl ?_
    refine T_cV1 (c_J4_append_15ec4 hX hB sk_26 (And.intro (by omega) (by omega)) (by omega) (by simp only [List.length_append, List.length_cons, List.length_nil]; omega) (Or.inl sc_26)) hX kL_37 hB.rcv (by decide) (Nat.le_of_ble_eq_true rfl) dL_sum_196 rfl ?_
    rintro _ szc τc Mc ⟨rfl, v1, cap1, hB2, hA, hc1⟩
    have hA1 := hA.1
    have hA2 := hA.2.2.2
    have hB3 := hB2.cp
    replace ho := ho.ap hA (And.intro (by omega) (And.intro (by omega) (by omega)))
    replace ho_h := ho_h.ap hA (And.intro (by omega) (And.intro (by omega) (by omega)))
    replace ho_t := ho_t.ap hA (And.intro (by omega) (And.intro (by omega) (by omega)))
    clear hA hB
    have hB := hB2
    clear hB2
    refine T_aload4 dL_sum_199 rfl ?_
    refine T_cV1 (c_J4_append_15ec4 hX hB (hs_t.old ho_t (Or.inr (And.intro (by omega) (by omega)))) (And.intro (by omega) (by omega)) (by omega) (by simp only [List.length_append, List.length_cons, List.length_nil]; omega) (Or.inr (And.intro (by omega) (And.intro (by omega) (by omega))))) hX kL_37 hB.rcv (by decide) (Nat.le_of_ble_eq_true rfl) dL_sum_201 rfl ?_
    rintro _ szc τc Mc ⟨rfl, v1, cap1, hB2, hA, hc1⟩
    have hA1 := hA.1
    have hA2 := hA.2.2.2
    have hB3 := hB2.cp
    replace ho := ho.ap hA (And.intro (by omega) (And.intro (by omega) (by omega)))
    replace ho_h := ho_h.ap hA (And.intro (by omega) (And.intro (by omega) (by omega)))
    replace ho_t := ho_t.ap hA (And.intro (by omega) (And.intro (by omega) (by omega)))
    clear hA hB
    have hB := hB2
    clear hB2
    refine T_cV0 (c_J4_toString_0e30d hX hB (And.intro (by omega) (by omega)) (by simp only [List.length_append, List.length_cons, List.length_nil]; omega)) hX kL_50 hB.rcv (by decide) (Nat.le_of_ble_eq_true rfl) dL_sum_204 rfl ?_
    rintro _ _ τc Mc ⟨rfl, rfl, hT, hT0, hT1, hT2⟩
    replace ho := ho.tr (And.intro hT1 hT2 : OLD _ _ _ _ _) (by omega)
    replace ho_h := ho_h.tr (And.intro hT1 hT2 : OLD _ _ _ _ _) (by omega)
    replace ho_t := ho_t.tr (And.intro hT1 hT2 : OLD _ _ _ _ _) (by omega)
    refine T_aret rfl dL_sum_207 ?_
    refine ⟨_, _, rfl, ?_, hT, ho⟩
    exact ⟨by omega, Nat.lt_add_of_pos_right (by decide), by omega, by omega, by omega, Nat.ne_of_lt (Nat.lt_succ_self _)⟩
  ·
    refine T_tin (off := 144) 208 dL_sum_64 (by decide +kernel) (by decide +kernel) (by decide +kernel) (by decide) ?_
    refine nL_32 rfl dL_sum_208 rfl ?_
    refine T_dup dL_sum_211 rfl rfl ?_
    refine T_cI0 (c_J4_init_da8c8 hX (tyN_s _ _ _) (by omega) (congrFun (meN_s _ _ _) 3)) hX kL_34 (by decide) (Nat.le_of_ble_eq_true rfl) dL_sum_212 rfl ?_
    rintro _ _ _ Mt ⟨rfl, rfl, rfl, hB, hF⟩
    have hN := OLD.new hB hF
    replace ho := ho.tr hN (by omega)
    replace ho_h := ho_h.tr hN (by omega)
    replace ho_t := ho_t.tr hN (by omega)
    refine T_iload2 dL_sum_215 rfl ?_
    refine T_cV1 (c_J4_append_bf812 hX hB (n := n) (by omega) (And.intro (by omega) (by omega)) (by omega) (by simp only [List.length_append, List.length_cons, List.length_nil]; omega)) hX kL_47 hB.rcv (by decide) (Nat.le_of_ble_eq_true rfl) dL_sum_216 rfl ?_
    rintro _ szc τc Mc ⟨rfl, v1, cap1, hB2, hA, hc1⟩
    have hA1 := hA.1
    have hA2 := hA.2.2.2
    have hB3 := hB2.cp
    replace ho := ho.ap hA (And.intro (by omega) (And.intro (by omega) (by omega)))
    replace ho_h := ho_h.ap hA (And.intro (by omega) (And.intro (by omega) (by omega)))
    replace ho_t := ho_t.ap hA (And.intro (by omega) (And.intro (by omega) (by omega)))
    clear hA hB
    have hB := hB2
    clear hB2
    refine T_ldcS (fun _ _ h => (h.2.1 27 (by decide)).2.2.2.2) dL_sum_219 rfl ?_
    refine T_cV1 (c_J4_append_15ec4 hX hB sk_27 (And.intro (by omega) (by omega)) (by omega) (by simp only [List.length_append, List.length_cons, List.length_nil]; omega) (Or.inl sc_27)) hX kL_37 hB.rcv (by decide) (Nat.le_of_ble_eq_true rfl) dL_sum_221 rfl ?_
    rintro _ szc τc Mc ⟨rfl, v1, cap1, hB2, hA, hc1⟩
    have hA1 := hA.1
    have hA2 := hA.2.2.2
    have hB3 := hB2.cp
    replace ho := ho.ap hA (And.intro (by omega) (And.intro (by omega) (by omega)))
    replace ho_h := ho_h.ap hA (And.intro (by omega) (And.intro (by omega) (by omega)))
    replace ho_t := ho_t.ap hA (And.intro (by omega) (And.intro (by omega) (by omega)))
    clear hA hB
    have hB := hB2
    clear hB2
    refine T_cV0 (c_J4_toString_0e30d hX hB (And.intro (by omega) (by omega)) (by simp only [List.length_append, List.length_cons, List.length_nil]; omega)) hX kL_50 hB.rcv (by decide) (Nat.le_of_ble_eq_true rfl) dL_sum_224 rfl ?_
    rintro _ _ τc Mc ⟨rfl, rfl, hT, hT0, hT1, hT2⟩
    replace ho := ho.tr (And.intro hT1 hT2 : OLD _ _ _ _ _) (by omega)
    replace ho_h := ho_h.tr (And.intro hT1 hT2 : OLD _ _ _ _ _) (by omega)
    replace ho_t := ho_t.tr (And.intro hT1 hT2 : OLD _ _ _ _ _) (by omega)
    refine T_aret rfl dL_sum_227 ?_
    refine ⟨_, _, rfl, ?_, hT, ho⟩
    exact ⟨by omega, Nat.lt_add_of_pos_right (by decide), by omega, by omega, by omega, Nat.ne_of_lt (Nat.lt_succ_self _)⟩
  ·
    refine T_tout 228 dL_sum_64 (by decide +kernel) (by decide) ?_
    refine nL_32 rfl dL_sum_228 rfl ?_
    refine T_dup dL_sum_231 rfl rfl ?_
    refine T_cI0 (c_J4_init_da8c8 hX (tyN_s _ _ _) (by omega) (congrFun (meN_s _ _ _) 3)) hX kL_34 (by decide) (Nat.le_of_ble_eq_true rfl) dL_sum_232 rfl ?_
    rintro _ _ _ Mt ⟨rfl, rfl, rfl, hB, hF⟩
    have hN := OLD.new hB hF
    replace ho := ho.tr hN (by omega)
    replace ho_h := ho_h.tr hN (by omega)
    replace ho_t := ho_t.tr hN (by omega)
    refine T_ldcS (fun _ _ h => (h.2.1 28 (by decide)).2.2.2.2) dL_sum_235 rfl ?_
    refine T_cV1 (c_J4_append_15ec4 hX hB sk_28 (And.intro (by omega) (by omega)) (by omega) (by simp only [List.length_append, List.length_cons, List.length_nil]; omega) (Or.inl sc_28)) hX kL_37 hB.rcv (by decide) (Nat.le_of_ble_eq_true rfl) dL_sum_237 rfl ?_
    rintro _ szc τc Mc ⟨rfl, v1, cap1, hB2, hA, hc1⟩
    have hA1 := hA.1
    have hA2 := hA.2.2.2
    have hB3 := hB2.cp
    replace ho := ho.ap hA (And.intro (by omega) (And.intro (by omega) (by omega)))
    replace ho_h := ho_h.ap hA (And.intro (by omega) (And.intro (by omega) (by omega)))
    replace ho_t := ho_t.ap hA (And.intro (by omega) (And.intro (by omega) (by omega)))
    clear hA hB
    have hB := hB2
    clear hB2
    refine T_iload2 dL_sum_240 rfl ?_
    refine T_cV1 (c_J4_append_bf812 hX hB (n := n) (by omega) (And.intro (by omega) (by omega)) (by omega) (by simp only [List.length_append, List.length_cons, List.length_nil]; omega)) hX kL_47 hB.rcv (by decide) (Nat.le_of_ble_eq_true rfl) dL_sum_241 rfl ?_
    rintro _ szc τc Mc ⟨rfl, v1, cap1, hB2, hA, hc1⟩
    have hA1 := hA.1
    have hA2 := hA.2.2.2
    have hB3 := hB2.cp
    replace ho := ho.ap hA (And.intro (by omega) (And.intro (by omega) (by omega)))
    replace ho_h := ho_h.ap hA (And.intro (by omega) (And.intro (by omega) (by omega)))
    replace ho_t := ho_t.ap hA (And.intro (by omega) (And.intro (by omega) (by omega)))
    clear hA hB
    have hB := hB2
    clear hB2
    refine T_ldcS (fun _ _ h => (h.2.1 29 (by decide)).2.2.2.2) dL_sum_244 rfl ?_
    refine T_cV1 (c_J4_append_15ec4 hX hB sk_29 (And.intro (by omega) (by omega)) (by omega) (by simp only [List.length_append, List.length_cons, List.length_nil]; omega) (Or.inl sc_29)) hX kL_37 hB.rcv (by decide) (Nat.le_of_ble_eq_true rfl) dL_sum_246 rfl ?_
    rintro _ szc τc Mc ⟨rfl, v1, cap1, hB2, hA, hc1⟩
    have hA1 := hA.1
    have hA2 := hA.2.2.2
    have hB3 := hB2.cp
    replace ho := ho.ap hA (And.intro (by omega) (And.intro (by omega) (by omega)))
    replace ho_h := ho_h.ap hA (And.intro (by omega) (And.intro (by omega) (by omega)))
    replace ho_t := ho_t.ap hA (And.intro (by omega) (And.intro (by omega) (by omega)))
    clear hA hB
    have hB := hB2
    clear hB2
    refine T_aload3 dL_sum_249 rfl ?_
    refine T_cV1 (c_J4_append_15ec4 hX hB (hs_h.old ho_h (Or.inr (And.intro (by omega) (by omega)))) (And.intro (by omega) (by omega)) (by omega) (by simp only [List.length_append, List.length_cons, List.length_nil]; omega) (Or.inr (And.intro (by omega) (And.intro (by omega) (by omega))))) hX kL_37 hB.rcv (by decide) (Nat.le_of_ble_eq_true rfl) dL_sum_250 rfl ?_
    rintro _ szc τc Mc ⟨rfl, v1, cap1, hB2, hA, hc1⟩
    have hA1 := hA.1
    have hA2 := hA.2.2.2
    have hB3 := hB2.cp
    replace ho := ho.ap hA (And.intro (by omega) (And.intro (by omega) (by omega)))
    replace ho_h := ho_h.ap hA (And.intro (by omega) (And.intro (by omega) (by omega)))
    replace ho_t := ho_t.ap hA (And.intro (by omega) (And.intro (by omega) (by omega)))
    clear hA hB
    have hB := hB2
    clear hB2
    refine T_cV0 (c_J4_toString_0e30d hX hB (And.intro (by omega) (by omega)) (by simp only [List.length_append, List.length_cons, List.length_nil]; omega)) hX kL_50 hB.rcv (by decide) (Nat.le_of_ble_eq_true rfl) dL_sum_253 rfl ?_
    rintro _ _ τc Mc ⟨rfl, rfl, hT, hT0, hT1, hT2⟩
    replace ho := ho.tr (And.intro hT1 hT2 : OLD _ _ _ _ _) (by omega)
    replace ho_h := ho_h.tr (And.intro hT1 hT2 : OLD _ _ _ _ _) (by omega)
    replace ho_t := ho_t.tr (And.intro hT1 hT2 : OLD _ _ _ _ _) (by omega)
    refine T_aret rfl dL_sum_256 ?_
    refine ⟨_, _, rfl, ?_, hT, ho⟩
    exact ⟨by omega, Nat.lt_add_of_pos_right (by decide), by omega, by omega, by omega, Nat.ne_of_lt (Nat.lt_succ_self _)⟩
