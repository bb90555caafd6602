theorem dec1 {n : Nat} (h : 1 ≤ n) : nI n + Int32.ofInt (-1) = nI (n - 1) := by
  obtain ⟨k, rfl⟩ : ∃ k, n = k + 1 := ⟨n - 1, by omega⟩
  rw [Nat.add_sub_cancel, show Int32.ofInt (-1) = -1 from rfl, ← Int32.sub_eq_add_neg]
  exact nI_pred k
theorem ng_6 : ∀ n, n < 100 → (-100 : Int32) < -(nI n) := by decide
theorem gc1 {M : ME} {v ix n : Nat} (hn : n < 10) (hi : 1 ≤ ix) : up M v (ix - 1) (.int (vp_nar .byte (nI (48 + n % 10)))) = cbM M (txB (dgL n)) v 0 (ix - (dgL n).length) (dgL n).length := by
  have hd : dgL n = [48 + n] := if_pos hn
  rw [(ng_5 n (by omega)).1, hd]
  funext q i
  by_cases e : q = v
  · subst e
    by_cases e2 : i = ix - 1
    · subst e2
      rw [up_s, cbM_i (by simp) (by simp only [List.length_cons, List.length_nil]; omega), Nat.mod_eq_of_lt hn]
      show Value.int (nI (48 + n)) = .int (nI ([48 + n].getD (0 + (ix - 1 - (ix - (0 + 1)))) 0))
      rw [show 0 + (ix - 1 - (ix - (0 + 1))) = 0 by omega]
      rfl
    · rw [up_k e2, cbM_o (by simp only [List.length_cons, List.length_nil]; omega)]
  · rw [up_a e, cbM_a e]
theorem gc2 {M : ME} {v ix n : Nat} (hn : ¬ n < 10) (hn2 : n < 100) (hi : 2 ≤ ix) : up (up M v (ix - 1) (.int (vp_nar .byte (nI (48 + n % 10))))) v (ix - 1 - 1) (.int (vp_nar .byte (nI (48 + n / 10)))) = cbM M (txB (dgL n)) v 0 (ix - (dgL n).length) (dgL n).length := by
  have hd : dgL n = [48 + n / 10, 48 + n % 10] := if_neg hn
  rw [(ng_5 n hn2).1, (ng_5 n hn2).2, hd]
  funext q i
  by_cases e : q = v
  · subst e
    by_cases e1 : i = ix - 1 - 1
    · subst e1
      rw [up_s, cbM_i (by simp only [List.length_cons, List.length_nil]; omega) (by simp only [List.length_cons, List.length_nil]; omega)]
      show Value.int (nI (48 + n / 10)) = .int (nI ([48 + n / 10, 48 + n % 10].getD (0 + (ix - 1 - 1 - (ix - (0 + 1 + 1)))) 0))
      rw [show 0 + (ix - 1 - 1 - (ix - (0 + 1 + 1))) = 0 by omega]
      rfl
    · rw [up_k e1]
      by_cases e2 : i = ix - 1
      · subst e2
        rw [up_s, cbM_i (by simp only [List.length_cons, List.length_nil]; omega) (by simp only [List.length_cons, List.length_nil]; omega)]
        show Value.int (nI (48 + n % 10)) = .int (nI ([48 + n / 10, 48 + n % 10].getD (0 + (ix - 1 - (ix - (0 + 1 + 1)))) 0))
        rw [show 0 + (ix - 1 - (ix - (0 + 1 + 1))) = 1 by omega]
        rfl
      · rw [up_k e2, cbM_o (by simp only [List.length_cons, List.length_nil]; omega)]
  · rw [up_a e, up_a e, cbM_a e]
set_option maxHeartbeats 1000000 in
theorem c_J6_getChars_ba4f3 {l : Launch} {D : va_G} {cA : Nat → ClassId} {n0 : Nat} {sg adK adV : Nat → Nat} {sgA smA wdA bS LS : Nat} {xs : Nat → Int32} (hX : SF n0 (XW0 sg adK adV sgA smA wdA n0 bS LS xs)) {sz : Nat} {τ : TY} {M : ME} {v cap n ix : Nat} (hv : τ v = (101, cap)) (hcap : cap ≤ 6000) (hn : n < 100) (h1 : (dgL n).length ≤ ix) (h2 : ix ≤ cap) : CT l D cA n0 (XW0 sg adK adV sgA smA wdA n0 bS LS xs) mJ6_getChars_ba4f3 1 0 0 sz τ M [.int (nI n), .int (nI ix), .ref v] (fun v' sz' τ' M' => (∃ x, v' = some (.int x)) ∧ sz' = sz ∧ τ' = τ ∧ M' = cbM M (txB (dgL n)) v 0 (ix - (dgL n).length) (dgL n).length) := by
  refine CT.of (ls := [.int (nI n), .int (nI ix), .ref v, UU, UU, UU, UU]) (by decide) (Nat.le_of_ble_eq_true rfl) rfl ?_
  have hdl := @dg_len n
  have hix : 1 ≤ ix := by rw [hdl] at h1; split at h1 <;> omega
  refine T_iload1 dJ6_getChars_ba4f3_0 rfl ?_
  refine T_istore5 rfl (by decide) dJ6_getChars_ba4f3_1 rfl ?_
  refine T_iload0 dJ6_getChars_ba4f3_3 rfl ?_
  refine T_if_ge_t 11 dJ6_getChars_ba4f3_4 (by decide) (nI_pos' (by omega)) ?_
  refine T_iconst (0) dJ6_getChars_ba4f3_11 rfl rfl ?_
  refine T_istore6 rfl (by decide) dJ6_getChars_ba4f3_12 rfl ?_
  refine T_iload6 dJ6_getChars_ba4f3_14 rfl ?_
  refine T_if_ne_f 22 19 dJ6_getChars_ba4f3_16 (by decide) rfl rfl ?_
  refine T_iload0 dJ6_getChars_ba4f3_19 rfl ?_
  refine T_ineg dJ6_getChars_ba4f3_20 rfl ?_
  refine T_istore0 (by decide) dJ6_getChars_ba4f3_21 rfl ?_
  refine T_iload0 dJ6_getChars_ba4f3_22 rfl ?_
  refine T_bipush (-100) dJ6_getChars_ba4f3_23 rfl rfl ?_
  refine T_icmp_gt_t 72 dJ6_getChars_ba4f3_25 (by decide) (ng_6 n hn) ?_
  refine T_aload2 dJ6_getChars_ba4f3_72 rfl ?_
  refine T_iinc5 rfl (by decide) dJ6_getChars_ba4f3_73 rfl (dec1 hix) ?_
  refine T_iload5 dJ6_getChars_ba4f3_76 rfl ?_
  refine T_gets (v := .ref (adV 95)) (fun _ _ h => h.2.2.1.2.2.2.2.1) ksJ6_83 dJ6_getChars_ba4f3_78 rfl ?_
  refine T_iload0 dJ6_getChars_ba4f3_81 rfl ?_
  refine T_ineg dJ6_getChars_ba4f3_82 rfl ?_
  rw [Int32.neg_neg]
  refine T_tb (N := 100) (f := fun j => .int (nI (48 + j % 10))) n (fun _ _ h => h.2.2.1.2.2.2.2.2.1) rfl hn (by decide) rfl dJ6_getChars_ba4f3_83 rfl ?_
  refine T_bast (ix - 1) hv rfl (by omega) (by omega) dJ6_getChars_ba4f3_84 rfl ?_
  refine T_iload0 dJ6_getChars_ba4f3_85 rfl ?_
  refine T_bipush (-9) dJ6_getChars_ba4f3_86 rfl rfl ?_
  refine T_icmp_ge 104 91 dJ6_getChars_ba4f3_88 (by decide) rfl (fun c88 => ?_) (fun c88 => ?_)
  ·
    rw [ng_3 n hn] at c88
    refine T_iload6 dJ6_getChars_ba4f3_104 rfl ?_
    refine T_if_eq_t 118 dJ6_getChars_ba4f3_106 (by decide) rfl ?_
    refine T_iload5 dJ6_getChars_ba4f3_118 rfl ?_
    refine T_iret rfl rfl dJ6_getChars_ba4f3_120 ?_
    refine ⟨⟨_, rfl⟩, rfl, rfl, ?_⟩
    first | (have h10 : n < 10 := c88; exact gc1 h10 hix) | (have h10 : ¬ n < 10 := c88; exact gc2 h10 hn hix2)
  ·
    rw [ng_3 n hn] at c88
    have hix2 : 2 ≤ ix := by rw [hdl, if_neg c88] at h1; exact h1
    refine T_aload2 dJ6_getChars_ba4f3_91 rfl ?_
    refine T_iinc5 rfl (by decide) dJ6_getChars_ba4f3_92 rfl (dec1 (by omega)) ?_
    refine T_iload5 dJ6_getChars_ba4f3_95 rfl ?_
    refine T_gets (v := .ref (adV 96)) (fun _ _ h => h.2.2.1.2.2.2.2.2.2.1) ksJ6_87 dJ6_getChars_ba4f3_97 rfl ?_
    refine T_iload0 dJ6_getChars_ba4f3_100 rfl ?_
    refine T_ineg dJ6_getChars_ba4f3_101 rfl ?_
    rw [Int32.neg_neg]
    refine T_tb (N := 100) (f := fun j => .int (nI (48 + j / 10))) n (fun _ _ h => h.2.2.1.2.2.2.2.2.2.2) rfl hn (by decide) rfl dJ6_getChars_ba4f3_102 rfl ?_
    refine T_bast (ix - 1 - 1) hv rfl (by omega) (by omega) dJ6_getChars_ba4f3_103 rfl ?_
    refine T_iload6 dJ6_getChars_ba4f3_104 rfl ?_
    refine T_if_eq_t 118 dJ6_getChars_ba4f3_106 (by decide) rfl ?_
    refine T_iload5 dJ6_getChars_ba4f3_118 rfl ?_
    refine T_iret rfl rfl dJ6_getChars_ba4f3_120 ?_
    refine ⟨⟨_, rfl⟩, rfl, rfl, ?_⟩
    first | (have h10 : n < 10 := c88; exact gc1 h10 hix) | (have h10 : ¬ n < 10 := c88; exact gc2 h10 hn hix2)
set_option maxHeartbeats 1000000 in
theorem c_J5_isLatin1_aae02 {l : Launch} {D : va_G} {cA : Nat → ClassId} {n0 : Nat} {sg adK adV : Nat → Nat} {sgA smA wdA bS LS : Nat} {xs : Nat → Int32} (hX : SF n0 (XW0 sg adK adV sgA smA wdA n0 bS LS xs)) {sz : Nat} {τ : TY} {M : ME} {b v cap : Nat} {tx : List Nat} (hB : SBt τ M b v cap tx) : CT l D cA n0 (XW0 sg adK adV sgA smA wdA n0 bS LS xs) mJ5_isLatin1_aae02 1 0 0 sz τ M [.ref b] (ROq (.int (1)) sz τ M) := by
  refine CT.of (ls := [.ref b]) (by decide) (Nat.le_of_ble_eq_true rfl) rfl ?_
  refine T_gets (v := .int 1) (fun _ _ h => h.2.2.2.1.1) ksJ5_18 dJ5_isLatin1_aae02_0 rfl ?_
  refine T_if_eq_f 17 6 dJ5_isLatin1_aae02_3 (by decide) rfl (by decide) ?_
  refine T_aload0 dJ5_isLatin1_aae02_6 rfl ?_
  refine gJ5_22 _ rfl hB.tb hB.g1 dJ5_isLatin1_aae02_7 rfl ?_
  refine T_if_ne_f 17 13 dJ5_isLatin1_aae02_10 (by decide) rfl (by decide) ?_
  refine T_iconst (1) dJ5_isLatin1_aae02_13 rfl rfl ?_
  refine T_goto 18 dJ5_isLatin1_aae02_14 (by decide) ?_
  refine T_iret rfl rfl dJ5_isLatin1_aae02_18 ?_
  exact ⟨rfl, rfl, rfl, rfl⟩
set_option maxHeartbeats 1000000 in
theorem c_J5_getValue_6d5f1 {l : Launch} {D : va_G} {cA : Nat → ClassId} {n0 : Nat} {sg adK adV : Nat → Nat} {sgA smA wdA bS LS : Nat} {xs : Nat → Int32} (hX : SF n0 (XW0 sg adK adV sgA smA wdA n0 bS LS xs)) {sz : Nat} {τ : TY} {M : ME} {b v cap : Nat} {tx : List Nat} (hB : SBt τ M b v cap tx) : CT l D cA n0 (XW0 sg adK adV sgA smA wdA n0 bS LS xs) mJ5_getValue_6d5f1 1 0 0 sz τ M [.ref b] (ROq (.ref v) sz τ M) := by
  refine CT.of (ls := [.ref b]) (by decide) (Nat.le_of_ble_eq_true rfl) rfl ?_
  refine T_aload0 dJ5_getValue_6d5f1_0 rfl ?_
  refine gJ5_15 _ rfl hB.tb hB.g0 dJ5_getValue_6d5f1_1 rfl ?_
  refine T_aretA rfl dJ5_getValue_6d5f1_4 ?_
  exact ⟨rfl, rfl, rfl, rfl⟩
set_option maxHeartbeats 1000000 in
theorem c_J5_length_8abf5 {l : Launch} {D : va_G} {cA : Nat → ClassId} {n0 : Nat} {sg adK adV : Nat → Nat} {sgA smA wdA bS LS : Nat} {xs : Nat → Int32} (hX : SF n0 (XW0 sg adK adV sgA smA wdA n0 bS LS xs)) {sz : Nat} {τ : TY} {M : ME} {b v cap : Nat} {tx : List Nat} (hB : SBt τ M b v cap tx) : CT l D cA n0 (XW0 sg adK adV sgA smA wdA n0 bS LS xs) mJ5_length_8abf5 1 0 0 sz τ M [.ref b] (ROq (.int (nI tx.length)) sz τ M) := by
  refine CT.of (ls := [.ref b]) (by decide) (Nat.le_of_ble_eq_true rfl) rfl ?_
  refine T_aload0 dJ5_length_8abf5_0 rfl ?_
  refine gJ5_79 _ rfl hB.tb hB.g3 dJ5_length_8abf5_1 rfl ?_
  refine T_iret rfl rfl dJ5_length_8abf5_4 ?_
  exact ⟨rfl, rfl, rfl, rfl⟩
theorem ksu_343 : WSU mJ5_length_8abf5 RJ4 343 0 := ⟨wb_J5_length_8abf5, (inGW (List.mem_of_getElem? (i := 1406) (by decide +kernel)) (by decide +kernel)), (inGW (List.mem_of_getElem? (i := 1402) (by decide +kernel)) (by decide +kernel)), (inGW (List.mem_of_getElem? (i := 1213) (by decide +kernel)) (by decide +kernel)), (inGW (List.mem_of_getElem? (i := 1401) (by decide +kernel)) (by decide +kernel)), by decide⟩
set_option maxHeartbeats 1000000 in
theorem c_J4_length_8abf5 {l : Launch} {D : va_G} {cA : Nat → ClassId} {n0 : Nat} {sg adK adV : Nat → Nat} {sgA smA wdA bS LS : Nat} {xs : Nat → Int32} (hX : SF n0 (XW0 sg adK adV sgA smA wdA n0 bS LS xs)) {sz : Nat} {τ : TY} {M : ME} {b v cap : Nat} {tx : List Nat} (hB : SBt τ M b v cap tx) : CT l D cA n0 (XW0 sg adK adV sgA smA wdA n0 bS LS xs) mJ4_length_8abf5 2 0 0 sz τ M [.ref b] (ROq (.int (nI tx.length)) sz τ M) := by
  refine CT.of (ls := [.ref b]) (by decide) (Nat.le_of_ble_eq_true rfl) rfl ?_
  refine T_aload0 dJ4_length_8abf5_0 rfl ?_
  refine T_callSU (n := 0) (As := []) (rest := []) (c_J5_length_8abf5 hX hB) hX ksu_343 hB.tb (by decide) rfl (by decide) rfl rfl (Nat.le_of_ble_eq_true rfl) dJ4_length_8abf5_1 rfl ?_
  rintro _ _ _ _ ⟨rfl, rfl, rfl, rfl⟩
  refine T_iret rfl rfl dJ4_length_8abf5_4 ?_
  exact ⟨rfl, rfl, rfl, rfl⟩
theorem kvJ5_83 : WVC mJ5_isLatin1_aae02 RJ5 83 0 RJ4 := ⟨wb_J5_isLatin1_aae02, inGW (List.mem_of_getElem? (i := 1251) (by decide +kernel)) (by decide +kernel), inGW (List.mem_of_getElem? (i := 1252) (by decide +kernel)) (by decide +kernel), inGW (List.mem_of_getElem? (i := 1254) (by decide +kernel)) (by decide +kernel)⟩
set_option maxHeartbeats 1000000 in
theorem c_J5_append_c97b9 {l : Launch} {D : va_G} {cA : Nat → ClassId} {n0 : Nat} {sg adK adV : Nat → Nat} {sgA smA wdA bS LS : Nat} {xs : Nat → Int32} (hX : SF n0 (XW0 sg adK adV sgA smA wdA n0 bS LS xs)) {sz : Nat} {τ : TY} {M : ME} {b v cap : Nat} {tx : List Nat} (hB : SBt τ M b v cap tx) {n : Nat} (hn : n < 100) (hbs : b < sz ∧ v < sz) (hc1 : 1 ≤ cap) (hlen : tx.length + (dgL n).length ≤ 2000) : CT l D cA n0 (XW0 sg adK adV sgA smA wdA n0 bS LS xs) mJ5_append_c97b9 9 1 6004 sz τ M [.ref b, .int (nI n)] (fun v' sz' τ' M' => v' = some (.ref b) ∧ ∃ v1 cap1, SBt τ' M' b v1 cap1 (tx ++ dgL n) ∧ AP sz τ M b v sz' τ' M' v1 ∧ 1 ≤ cap1) := by
  refine CT.of (ls := [.ref b, .int (nI n), UU, UU]) (by decide) (Nat.le_of_ble_eq_true rfl) rfl ?_
  refine T_aload0 dJ5_append_c97b9_0 rfl ?_
  refine gJ5_79 _ rfl hB.tb hB.g3 dJ5_append_c97b9_1 rfl ?_
  refine T_istore2 rfl (by decide) dJ5_append_c97b9_4 rfl ?_
  refine T_iload2 dJ5_append_c97b9_5 rfl ?_
  refine T_iload1 dJ5_append_c97b9_6 rfl ?_
  refine T_cS1 (c_J6_stringSize_0f7a4 hX hn) hX kJ5_245 (by decide) (Nat.le_of_ble_eq_true rfl) dJ5_append_c97b9_7 rfl ?_
  rintro _ _ _ _ ⟨rfl, rfl, rfl, rfl⟩
  refine T_iadd dJ5_append_c97b9_10 rfl ?_
  rw [nI_add]
  refine T_istore3 rfl (by decide) dJ5_append_c97b9_11 rfl ?_
  refine T_aload0 dJ5_append_c97b9_12 rfl ?_
  refine T_iload3 dJ5_append_c97b9_13 rfl ?_
  refine T_callVC (n := 1) (As := [.int (nI (tx.length + (dgL n).length))]) (rest := []) (c_J5_ensureCapacityInternal_d00df hX hB hbs (And.intro hc1 (fun _ => hB.cp)) hlen) hX kvJ5_100 hB.rcv (by decide) rfl rfl (Nat.le_of_ble_eq_true rfl) dJ5_append_c97b9_14 rfl ?_
  rintro _ sz1 τ1 M1 ⟨rfl, v1, cap1, ⟨hc8, hcc⟩, hB1, hA1⟩
  have hcp1 := hB1.cp
  have hda := @dg_asc n hn
  have hdl := @dg_len n
  have hd1 : 1 ≤ (dgL n).length := by rw [hdl]; split <;> omega
  refine T_aload0 dJ5_append_c97b9_17 rfl ?_
  refine T_callVC (n := 0) (As := []) (rest := []) (c_J5_isLatin1_aae02 hX hB1) hX kvJ5_83 hB1.rcv (by decide) rfl rfl (Nat.le_of_ble_eq_true rfl) dJ5_append_c97b9_18 rfl ?_
  rintro _ _ _ _ ⟨rfl, rfl, rfl, rfl⟩
  refine T_if_eq_f 37 24 dJ5_append_c97b9_21 (by decide) rfl (by decide) ?_
  refine T_iload1 dJ5_append_c97b9_24 rfl ?_
  refine T_iload3 dJ5_append_c97b9_25 rfl ?_
  refine T_aload0 dJ5_append_c97b9_26 rfl ?_
  refine gJ5_15 _ rfl hB1.tb hB1.g0 dJ5_append_c97b9_27 rfl ?_
  refine T_cS3 (c_J6_getChars_ba4f3 hX hB1.tv (by omega) hn (by omega) hcc) hX kJ5_248 (by decide) (Nat.le_of_ble_eq_true rfl) dJ5_append_c97b9_30 rfl ?_
  rintro _ _ _ _ ⟨⟨x9, rfl⟩, rfl, rfl, rfl⟩
  rw [show tx.length + (dgL n).length - (dgL n).length = tx.length by omega]
  refine T_pop dJ5_append_c97b9_33 rfl rfl ?_
  refine T_goto 48 dJ5_append_c97b9_34 (by decide) ?_
  refine T_aload0 dJ5_append_c97b9_48 rfl ?_
  refine T_iload3 dJ5_append_c97b9_49 rfl ?_
  refine pJ5_79 rfl hB1.tb dJ5_append_c97b9_50 rfl ?_
  refine T_aload0 dJ5_append_c97b9_53 rfl ?_
  refine T_aret rfl dJ5_append_c97b9_54 ?_
  exact ⟨rfl, v1, cap1, hB1.put hcc hda rfl, hA1.tr AP.put, by omega⟩
theorem ksu_53 : WSU mJ5_append_c97b9 RJ4 53 1 := ⟨wb_J5_append_c97b9, (inGW (List.mem_of_getElem? (i := 1318) (by decide +kernel)) (by decide +kernel)), (inGW (List.mem_of_getElem? (i := 1507) (by decide +kernel)) (by decide +kernel)), (inGW (List.mem_of_getElem? (i := 1213) (by decide +kernel)) (by decide +kernel)), (inGW (List.mem_of_getElem? (i := 1319) (by decide +kernel)) (by decide +kernel)), by decide⟩
set_option maxHeartbeats 1000000 in
theorem c_J4_append_bf812 {l : Launch} {D : va_G} {cA : Nat → ClassId} {n0 : Nat} {sg adK adV : Nat → Nat} {sgA smA wdA bS LS : Nat} {xs : Nat → Int32} (hX : SF n0 (XW0 sg adK adV sgA smA wdA n0 bS LS xs)) {sz : Nat} {τ : TY} {M : ME} {b v cap : Nat} {tx : List Nat} (hB : SBt τ M b v cap tx) {n : Nat} (hn : n < 100) (hbs : b < sz ∧ v < sz) (hc1 : 1 ≤ cap) (hlen : tx.length + (dgL n).length ≤ 2000) : CT l D cA n0 (XW0 sg adK adV sgA smA wdA n0 bS LS xs) mJ4_append_bf812 10 1 6004 sz τ M [.ref b, .int (nI n)] (fun v' sz' τ' M' => v' = some (.ref b) ∧ ∃ v1 cap1, SBt τ' M' b v1 cap1 (tx ++ dgL n) ∧ AP sz τ M b v sz' τ' M' v1 ∧ 1 ≤ cap1) := by
  refine CT.of (ls := [.ref b, .int (nI n)]) (by decide) (Nat.le_of_ble_eq_true rfl) rfl ?_
  refine T_aload0 dJ4_append_bf812_0 rfl ?_
  refine T_iload1 dJ4_append_bf812_1 rfl ?_
  refine T_callSU (n := 1) (As := [.int (nI n)]) (rest := []) (c_J5_append_c97b9 hX hB hn hbs hc1 hlen) hX ksu_53 hB.tb (by decide) rfl (by decide) rfl rfl (Nat.le_of_ble_eq_true rfl) dJ4_append_bf812_2 rfl ?_
  rintro _ sz1 τ1 M1 ⟨rfl, v1, cap1, hB1, hA1, hc9⟩
  refine T_pop dJ4_append_bf812_5 rfl rfl ?_
  refine T_aload0 dJ4_append_bf812_6 rfl ?_
  refine T_aret rfl dJ4_append_bf812_7 ?_
  exact ⟨rfl, v1, cap1, hB1, hA1, hc9⟩
set_option maxHeartbeats 1000000 in
theorem c_J5_init_d00df {l : Launch} {D : va_G} {cA : Nat → ClassId} {n0 : Nat} {sg adK adV : Nat → Nat} {sgA smA wdA bS LS : Nat} {xs : Nat → Int32} (hX : SF n0 (XW0 sg adK adV sgA smA wdA n0 bS LS xs)) {sz : Nat} {τ : TY} {M : ME} {b : Nat} (hb : τ b = (11, 0)) (hbs : b < sz) (h3 : M b 3 = .int 0) : CT l D cA n0 (XW0 sg adK adV sgA smA wdA n0 bS LS xs) mJ5_init_d00df 1 1 16 sz τ M [.ref b, .int 16] (fun v' sz' τ' M' => v' = none ∧ sz' = sz + 1 ∧ τ' = tyN τ sz (101, 16) ∧ SBt τ' M' b sz 16 [] ∧ ∀ q, q < sz → q ≠ b → M' q = M q) := by
  refine CT.of (ls := [.ref b, .int 16]) (by decide) (Nat.le_of_ble_eq_true rfl) rfl ?_
  refine T_aload0 dJ5_init_d00df_0 rfl ?_
  refine T_obj koJ5_3 ko1 ko2 (by decide) (Nat.le_of_ble_eq_true rfl) dJ5_init_d00df_1 rfl ?_
  refine T_gets (v := .int 1) (fun _ _ h => h.2.2.2.1.1) ksJ5_18 dJ5_init_d00df_4 rfl ?_
  refine T_if_eq_f 25 10 dJ5_init_d00df_7 (by decide) rfl (by decide) ?_
  refine T_aload0 dJ5_init_d00df_10 rfl ?_
  refine T_iload1 dJ5_init_d00df_11 rfl ?_
  refine T_newa (atype := .byte) 1 (fun _ => .int 0) ka_byte (by decide) rfl (show (16 : Int32) = nI 16 from rfl) (by decide) rfl dJ5_init_d00df_12 rfl ?_
  refine pJ5_15 rfl ((tyN_n (by omega)).trans hb) dJ5_init_d00df_14 rfl ?_
  refine T_aload0 dJ5_init_d00df_17 rfl ?_
  refine T_iconst (0) dJ5_init_d00df_18 rfl rfl ?_
  refine pJ5_22 rfl rfl ((tyN_n (by omega)).trans hb) dJ5_init_d00df_19 rfl ?_
  refine T_goto 38 dJ5_init_d00df_22 (by decide) ?_
  refine T_vret rfl dJ5_init_d00df_38 ?_
  refine ⟨rfl, rfl, rfl, ⟨(tyN_n (by omega)).trans hb, tyN_s _ _ _, ⟨?_, ?_, ?_⟩, ⟨Nat.zero_le _, by decide, fun c hc => absurd hc (by simp)⟩, fun k hk => ?_⟩, fun q hq hne => ?_⟩
  · rw [up_k (by decide), up_s]
  · rw [up_s]
  · rw [up_k (by decide), up_k (by decide), meN_n (by omega)]; exact h3
  · rw [up_a (by omega), up_a (by omega), meN_s]; rfl
  · rw [up_a hne, up_a hne, meN_n (by omega)]
set_option maxHeartbeats 1000000 in
theorem c_J4_init_da8c8 {l : Launch} {D : va_G} {cA : Nat → ClassId} {n0 : Nat} {sg adK adV : Nat → Nat} {sgA smA wdA bS LS : Nat} {xs : Nat → Int32} (hX : SF n0 (XW0 sg adK adV sgA smA wdA n0 bS LS xs)) {sz : Nat} {τ : TY} {M : ME} {b : Nat} (hb : τ b = (11, 0)) (hbs : b < sz) (h3 : M b 3 = .int 0) : CT l D cA n0 (XW0 sg adK adV sgA smA wdA n0 bS LS xs) mJ4_init_da8c8 2 1 16 sz τ M [.ref b] (fun v' sz' τ' M' => v' = none ∧ sz' = sz + 1 ∧ τ' = tyN τ sz (101, 16) ∧ SBt τ' M' b sz 16 [] ∧ ∀ q, q < sz → q ≠ b → M' q = M q) := by
  refine CT.of (ls := [.ref b]) (by decide) (Nat.le_of_ble_eq_true rfl) rfl ?_
  refine T_aload0 dJ4_init_da8c8_0 rfl ?_
  refine T_bipush (16) dJ4_init_da8c8_1 rfl rfl ?_
  refine T_cI1 (c_J5_init_d00df hX hb hbs h3) hX kJ4_1 (by decide) (Nat.le_of_ble_eq_true rfl) dJ4_init_da8c8_3 rfl ?_
  rintro _ _ _ Mt ⟨rfl, rfl, rfl, hB, hF⟩
  refine T_vret rfl dJ4_init_da8c8_6 ?_
  exact ⟨rfl, rfl, rfl, hB, hF⟩
set_option maxHeartbeats 1000000 in
theorem c_J7_checkLength_df160 {l : Launch} {D : va_G} {cA : Nat → ClassId} {n0 : Nat} {sg adK adV : Nat → Nat} {sgA smA wdA bS LS : Nat} {xs : Nat → Int32} (hX : SF n0 (XW0 sg adK adV sgA smA wdA n0 bS LS xs)) {sz : Nat} {τ : TY} {M : ME} {n : Nat} (hn : n < 2 ^ 31) : CT l D cA n0 (XW0 sg adK adV sgA smA wdA n0 bS LS xs) mJ7_checkLength_df160 1 0 0 sz τ M [.int 0, .int (nI n)] (ROv sz τ M) := by
  refine CT.of (ls := [.int 0, .int (nI n)]) (by decide) (Nat.le_of_ble_eq_true rfl) rfl ?_
  refine T_iload1 dJ7_checkLength_df160_0 rfl ?_
  refine T_iload0 dJ7_checkLength_df160_1 rfl ?_
  refine T_icmp_ge_t 37 dJ7_checkLength_df160_2 (by decide) (nI_pos' hn) ?_
  refine T_vret rfl dJ7_checkLength_df160_37 ?_
  exact ⟨rfl, rfl, rfl, rfl⟩
set_option maxHeartbeats 1000000 in
theorem c_J7_copyOfRangeByte_39247 {l : Launch} {D : va_G} {cA : Nat → ClassId} {n0 : Nat} {sg adK adV : Nat → Nat} {sgA smA wdA bS LS : Nat} {xs : Nat → Int32} (hX : SF n0 (XW0 sg adK adV sgA smA wdA n0 bS LS xs)) {sz : Nat} {τ : TY} {M : ME} {v cap n : Nat} {f : Nat → Int32} (hv : τ v = (101, cap)) (hf : ∀ j, j < cap → M v j = .int (f j)) (hfit : ∀ j, j < cap → fits .byte (.int (f j)) = true) (hvs : v < sz) (h1 : n ≤ cap) (h2 : cap ≤ 4002) : CT l D cA n0 (XW0 sg adK adV sgA smA wdA n0 bS LS xs) mJ7_copyOfRangeByte_39247 2 1 4002 sz τ M [.ref v, .int 0, .int (nI n)] (fun v' sz' τ' M' => v' = some (.ref sz) ∧ sz' = sz + 1 ∧ τ' = tyN τ sz (101, n) ∧ (∀ j, j < n → M' sz j = .int (f j)) ∧ ∀ q, q ≠ sz → M' q = M q) := by
  refine CT.of (ls := [.ref v, .int 0, .int (nI n), UU, UU]) (by decide) (Nat.le_of_ble_eq_true rfl) rfl ?_
  refine T_iload1 dJ7_copyOfRangeByte_39247_0 rfl ?_
  refine T_iload2 dJ7_copyOfRangeByte_39247_1 rfl ?_
  refine T_cS2 (c_J7_checkLength_df160 hX (by omega)) hX kJ7_343 (by decide) (Nat.le_of_ble_eq_true rfl) dJ7_copyOfRangeByte_39247_2 rfl ?_
  rintro _ _ _ _ ⟨rfl, rfl, rfl, rfl⟩
  refine T_iload2 dJ7_copyOfRangeByte_39247_5 rfl ?_
  refine T_iload1 dJ7_copyOfRangeByte_39247_6 rfl ?_
  refine T_isub dJ7_copyOfRangeByte_39247_7 rfl ?_
  rw [Int32.sub_zero]
  refine T_istore3 rfl (by decide) dJ7_copyOfRangeByte_39247_8 rfl ?_
  refine T_iload3 dJ7_copyOfRangeByte_39247_9 rfl ?_
  refine T_less (bk1 := 0 + 1) (bn1 := 0 + n) (by omega) (by omega) ?_
  refine T_newa (atype := .byte) 1 (fun _ => .int 0) ka_byte (by decide) rfl rfl (by omega) rfl dJ7_copyOfRangeByte_39247_10 rfl ?_
  refine T_astore4 rfl (by decide) dJ7_copyOfRangeByte_39247_12 rfl ?_
  refine T_aload0 dJ7_copyOfRangeByte_39247_14 rfl ?_
  refine T_iload1 dJ7_copyOfRangeByte_39247_15 rfl ?_
  refine T_aload4 dJ7_copyOfRangeByte_39247_16 rfl ?_
  refine T_iconst (0) dJ7_copyOfRangeByte_39247_18 rfl rfl ?_
  refine T_aload0 dJ7_copyOfRangeByte_39247_19 rfl ?_
  refine T_alen (j := 1) ((tyN_n (by omega)).trans hv) (by decide) dJ7_copyOfRangeByte_39247_20 rfl ?_
  refine T_iload1 dJ7_copyOfRangeByte_39247_21 rfl ?_
  refine T_isub dJ7_copyOfRangeByte_39247_22 rfl ?_
  rw [Int32.sub_zero]
  refine T_iload3 dJ7_copyOfRangeByte_39247_23 rfl ?_
  refine T_min kmJ7_304 (by decide) (Nat.le_of_ble_eq_true rfl) dJ7_copyOfRangeByte_39247_24 rfl ?_
  rw [show (if nI n < nI cap then nI n else nI cap) = nI n from by by_cases h9 : n < cap; exact if_pos (nI_lt h9 (by omega)); rw [if_neg (nI_nlt (by omega) (by omega)), show cap = n by omega]]
  refine T_cpb (f := f) (sp := 0) (dp := 0) (w := n) (Src.arr ((tyN_n (by omega)).trans hv) (fun j hj => by rw [meN_n (by omega)]; exact hf j hj)) hfit rfl rfl rfl (tyN_s _ _ _) (by omega) (by omega) (by omega) (by omega) kxJ7_150 (by decide) (Nat.le_of_ble_eq_true rfl) dJ7_copyOfRangeByte_39247_27 rfl ?_
  refine T_aload4 dJ7_copyOfRangeByte_39247_30 rfl ?_
  refine T_aretA rfl dJ7_copyOfRangeByte_39247_32 ?_
  refine ⟨rfl, rfl, rfl, fun j hj => ?_, fun q hq => ?_⟩
  · rw [cbM_i (by omega) (by omega), Nat.zero_add, Nat.sub_zero]
  · rw [cbM_a hq, meN_n hq]
set_option maxHeartbeats 1000000 in
theorem c_J7_copyOfRange_39247 {l : Launch} {D : va_G} {cA : Nat → ClassId} {n0 : Nat} {sg adK adV : Nat → Nat} {sgA smA wdA bS LS : Nat} {xs : Nat → Int32} (hX : SF n0 (XW0 sg adK adV sgA smA wdA n0 bS LS xs)) {sz : Nat} {τ : TY} {M : ME} {v cap n : Nat} {f : Nat → Int32} (hv : τ v = (101, cap)) (hf : ∀ j, j < cap → M v j = .int (f j)) (hfit : ∀ j, j < cap → fits .byte (.int (f j)) = true) (hvs : v < sz) (h1 : n ≤ cap) (h2 : cap ≤ 4002) : CT l D cA n0 (XW0 sg adK adV sgA smA wdA n0 bS LS xs) mJ7_copyOfRange_39247 3 1 4002 sz τ M [.ref v, .int 0, .int (nI n)] (fun v' sz' τ' M' => v' = some (.ref sz) ∧ sz' = sz + 1 ∧ τ' = tyN τ sz (101, n) ∧ (∀ j, j < n → M' sz j = .int (f j)) ∧ ∀ q, q ≠ sz → M' q = M q) := by
  refine CT.of (ls := [.ref v, .int 0, .int (nI n)]) (by decide) (Nat.le_of_ble_eq_true rfl) rfl ?_
  refine T_iload1 dJ7_copyOfRange_39247_0 rfl ?_
  refine T_if_ne_f 10 4 dJ7_copyOfRange_39247_1 (by decide) rfl rfl ?_
  refine T_iload2 dJ7_copyOfRange_39247_4 rfl ?_
  refine T_aload0 dJ7_copyOfRange_39247_5 rfl ?_
  refine T_alen (j := 1) hv (by decide) dJ7_copyOfRange_39247_6 rfl ?_
  refine T_icmp_eq 17 10 dJ7_copyOfRange_39247_7 (by decide) rfl (fun c7 => ?_) (fun c7 => ?_)
  ·
    obtain rfl : n = cap := (nI_eq (by omega) (by omega)).mp c7
    refine T_aload0 dJ7_copyOfRange_39247_17 rfl ?_
    refine T_less (bk1 := 0 + 1) (bn1 := 0 + n) (by omega) (by omega) ?_
    refine T_clB hv (fun i hi => by rw [hf i hi]; exact hfit i hi) kxJ7_310 (by decide) (Nat.le_of_ble_eq_true rfl) dJ7_copyOfRange_39247_18 rfl ?_
    refine T_ccB (tyN_s _ _ _) kcJ7_311 dJ7_copyOfRange_39247_21 rfl ?_
    refine T_aretA rfl dJ7_copyOfRange_39247_24 ?_
    exact ⟨rfl, rfl, rfl, fun j hj => by rw [meN_s]; exact hf j hj, fun q hq => meN_n hq⟩
  ·
    refine T_aload0 dJ7_copyOfRange_39247_10 rfl ?_
    refine T_iload1 dJ7_copyOfRange_39247_11 rfl ?_
    refine T_iload2 dJ7_copyOfRange_39247_12 rfl ?_
    refine T_cS3 (c_J7_copyOfRangeByte_39247 hX hv hf hfit hvs h1 h2) hX kJ7_339 (by decide) (Nat.le_of_ble_eq_true rfl) dJ7_copyOfRange_39247_13 rfl ?_
    rintro _ _ _ Mt ⟨rfl, rfl, rfl, hm1, hm2⟩
    refine T_aretA rfl dJ7_copyOfRange_39247_16 ?_
    exact ⟨rfl, rfl, rfl, hm1, hm2⟩
theorem kvo_549 : WVO yJ5_length_8abf5 mJ4_length_8abf5 RJ0 549 0 RJ4 RJ5 := ⟨wb_J4_length_8abf5, (inGW (List.mem_of_getElem? (i := 1400) (by decide +kernel)) (by decide +kernel)), (inGW (List.mem_of_getElem? (i := 1402) (by decide +kernel)) (by decide +kernel)), (inGW (List.mem_of_getElem? (i := 1401) (by decide +kernel)) (by decide +kernel)), (inGW (List.mem_of_getElem? (i := 1403) (by decide +kernel)) (by decide +kernel)), (inGW (List.mem_of_getElem? (i := 1404) (by decide +kernel)) (by decide +kernel)), ⟨_, _, _, (wb_J5_length_8abf5).2.1⟩, by decide, by decide, by decide +kernel⟩
theorem kvJ0_552 : WVC mJ5_getValue_6d5f1 RJ0 552 0 RJ4 := ⟨wb_J5_getValue_6d5f1, inGW (List.mem_of_getElem? (i := 1395) (by decide +kernel)) (by decide +kernel), inGW (List.mem_of_getElem? (i := 1396) (by decide +kernel)) (by decide +kernel), inGW (List.mem_of_getElem? (i := 1398) (by decide +kernel)) (by decide +kernel)⟩
theorem kvJ0_1047 : WVC mJ5_isLatin1_aae02 RJ0 1047 0 RJ4 := ⟨wb_J5_isLatin1_aae02, inGW (List.mem_of_getElem? (i := 1408) (by decide +kernel)) (by decide +kernel), inGW (List.mem_of_getElem? (i := 1252) (by decide +kernel)) (by decide +kernel), inGW (List.mem_of_getElem? (i := 1254) (by decide +kernel)) (by decide +kernel)⟩
set_option maxHeartbeats 1000000 in
theorem c_J0_init_db425 {l : Launch} {D : va_G} {cA : Nat → ClassId} {n0 : Nat} {sg adK adV : Nat → Nat} {sgA smA wdA bS LS : Nat} {xs : Nat → Int32} (hX : SF n0 (XW0 sg adK adV sgA smA wdA n0 bS LS xs)) {sz : Nat} {τ : TY} {M : ME} {b v cap : Nat} {tx : List Nat} (hB : SBt τ M b v cap tx) (hbs : b < sz ∧ v < sz) {a : Nat} (ha : τ a = (10, 0)) (has : a < sz) : CT l D cA n0 (XW0 sg adK adV sgA smA wdA n0 bS LS xs) mJ0_init_db425 9 1 4002 sz τ M [.ref a, .ref b, .null] (fun v' sz' τ' M' => v' = none ∧ sz' = sz + 1 ∧ τ' = tyN τ sz (101, tx.length) ∧ (M' a 0 = .ref sz ∧ M' a 1 = .int 0 ∧ ∀ j, j < tx.length → M' sz j = .int (nI (tx.getD j 0))) ∧ ∀ q, q < sz → q ≠ a → M' q = M q) := by
  refine CT.of (ls := [.ref a, .ref b, .null, UU, UU]) (by decide) (Nat.le_of_ble_eq_true rfl) rfl ?_
  have hB1ne : v ≠ a := kne hB.tv ha (by simp)
  refine T_aload0 dJ0_init_db425_0 rfl ?_
  refine T_obj koJ0_1 ko1 ko2 (by decide) (Nat.le_of_ble_eq_true rfl) dJ0_init_db425_1 rfl ?_
  refine T_aload1 dJ0_init_db425_4 rfl ?_
  refine T_callVC (n := 0) (As := []) (rest := []) (c_J5_getValue_6d5f1 hX hB) hX kvJ0_552 hB.rcv (by decide) rfl rfl (Nat.le_of_ble_eq_true rfl) dJ0_init_db425_5 rfl ?_
  rintro _ _ _ _ ⟨rfl, rfl, rfl, rfl⟩
  refine T_astore3 rfl (by decide) dJ0_init_db425_8 rfl ?_
  refine T_aload1 dJ0_init_db425_9 rfl ?_
  refine T_callVO (n := 0) (As := []) (rest := []) (c_J4_length_8abf5 hX hB) hX kvo_549 hB.rcv (by decide) rfl rfl (Nat.le_of_ble_eq_true rfl) dJ0_init_db425_10 rfl ?_
  rintro _ _ _ _ ⟨rfl, rfl, rfl, rfl⟩
  refine T_istore4 rfl (by decide) dJ0_init_db425_13 rfl ?_
  refine T_aload1 dJ0_init_db425_15 rfl ?_
  refine T_callVC (n := 0) (As := []) (rest := []) (c_J5_isLatin1_aae02 hX hB) hX kvJ0_1047 hB.rcv (by decide) rfl rfl (Nat.le_of_ble_eq_true rfl) dJ0_init_db425_16 rfl ?_
  rintro _ _ _ _ ⟨rfl, rfl, rfl, rfl⟩
  refine T_if_eq_f 41 22 dJ0_init_db425_19 (by decide) rfl (by decide) ?_
  refine T_aload0 dJ0_init_db425_22 rfl ?_
  refine T_iconst (0) dJ0_init_db425_23 rfl rfl ?_
  refine pJ0_15 rfl rfl rfl ha dJ0_init_db425_24 rfl ?_
  refine T_aload0 dJ0_init_db425_27 rfl ?_
  refine T_aload3 dJ0_init_db425_28 rfl ?_
  refine T_iconst (0) dJ0_init_db425_29 rfl rfl ?_
  refine T_iload4 dJ0_init_db425_30 rfl ?_
  refine T_cS3 (c_J7_copyOfRange_39247 hX (f := txB tx) hB.tv (fun j hj => (congrFun (up_a hB1ne) j).trans (hB.by j hj)) (fun j _ => fitsB (getD_128 hB.asc j)) hbs.2 hB.lc hB.cp) hX kJ0_54 (by decide) (Nat.le_of_ble_eq_true rfl) dJ0_init_db425_32 rfl ?_
  rintro _ _ _ Mt ⟨rfl, rfl, rfl, hm1, hm2⟩
  refine pJ0_9 rfl rfl ((tyN_n (by omega)).trans ha) dJ0_init_db425_35 rfl ?_
  refine T_goto 97 dJ0_init_db425_38 (by decide) ?_
  refine T_vret rfl dJ0_init_db425_97 ?_
  refine ⟨rfl, rfl, rfl, ⟨?_, ?_, fun j hj => ?_⟩, fun q hq hne => ?_⟩
  · rw [up_s]
  · rw [up_k (by decide), hm2 a (by omega), up_s]
  · rw [up_a (by omega)]; exact hm1 j hj
  · rw [up_a hne, hm2 q (by omega), up_a hne]
set_option maxHeartbeats 1000000 in
theorem c_J0_init_81219 {l : Launch} {D : va_G} {cA : Nat → ClassId} {n0 : Nat} {sg adK adV : Nat → Nat} {sgA smA wdA bS LS : Nat} {xs : Nat → Int32} (hX : SF n0 (XW0 sg adK adV sgA smA wdA n0 bS LS xs)) {sz : Nat} {τ : TY} {M : ME} {b v cap : Nat} {tx : List Nat} (hB : SBt τ M b v cap tx) (hbs : b < sz ∧ v < sz) {a : Nat} (ha : τ a = (10, 0)) (has : a < sz) : CT l D cA n0 (XW0 sg adK adV sgA smA wdA n0 bS LS xs) mJ0_init_81219 10 1 4002 sz τ M [.ref a, .ref b] (fun v' sz' τ' M' => v' = none ∧ sz' = sz + 1 ∧ τ' = tyN τ sz (101, tx.length) ∧ (M' a 0 = .ref sz ∧ M' a 1 = .int 0 ∧ ∀ j, j < tx.length → M' sz j = .int (nI (tx.getD j 0))) ∧ ∀ q, q < sz → q ≠ a → M' q = M q) := by
  refine CT.of (ls := [.ref a, .ref b]) (by decide) (Nat.le_of_ble_eq_true rfl) rfl ?_
  refine T_aload0 dJ0_init_81219_0 rfl ?_
  refine T_aload1 dJ0_init_81219_1 rfl ?_
  refine T_null dJ0_init_81219_2 rfl ?_
  refine T_cI2 (c_J0_init_db425 hX hB hbs ha has) hX kJ0_489 (by decide) (Nat.le_of_ble_eq_true rfl) dJ0_init_81219_3 rfl ?_
  rintro _ _ _ Mt ⟨rfl, rfl, rfl, hm1, hm2⟩
  refine T_vret rfl dJ0_init_81219_6 ?_
  exact ⟨rfl, rfl, rfl, hm1, hm2⟩
set_option maxHeartbeats 1000000 in
theorem c_J4_toString_0e30d {l : Launch} {D : va_G} {cA : Nat → ClassId} {n0 : Nat} {sg adK adV : Nat → Nat} {sgA smA wdA bS LS : Nat} {xs : Nat → Int32} (hX : SF n0 (XW0 sg adK adV sgA smA wdA n0 bS LS xs)) {sz : Nat} {τ : TY} {M : ME} {b v cap : Nat} {tx : List Nat} (hB : SBt τ M b v cap tx) (hbs : b < sz ∧ v < sz) (hlen : tx.length ≤ 2000) : CT l D cA n0 (XW0 sg adK adV sgA smA wdA n0 bS LS xs) mJ4_toString_0e30d 11 2 4006 sz τ M [.ref b] (fun v' sz' τ' M' => v' = some (.ref sz) ∧ sz' = sz + 2 ∧ ST adK adV τ' M' sz (sz + 1) tx ∧ τ' sz = (10, 0) ∧ (∀ q, q < sz → τ' q = τ q) ∧ ∀ q, q < sz → M' q = M q) := by
  refine CT.of (ls := [.ref b]) (by decide) (Nat.le_of_ble_eq_true rfl) rfl ?_
  refine nJ4_18 rfl dJ4_toString_0e30d_0 rfl ?_
  refine T_dup dJ4_toString_0e30d_3 rfl rfl ?_
  refine T_aload0 dJ4_toString_0e30d_4 rfl ?_
  refine T_cI1 (c_J0_init_81219 hX (hB.fr (And.intro (tyN_n (by omega)) (tyN_n (by omega))) (And.intro (meN_n (by omega)) (meN_n (by omega)))) (And.intro (by omega) (by omega)) (tyN_s _ _ _) (by omega)) hX kJ4_137 (by decide) (Nat.le_of_ble_eq_true rfl) dJ4_toString_0e30d_5 rfl ?_
  rintro _ _ _ Mt ⟨rfl, rfl, rfl, ⟨hm0, hm1, hm2⟩, hm3⟩
  refine T_aret rfl dJ4_toString_0e30d_8 ?_
  refine ⟨rfl, rfl, ⟨⟨hlen, hB.asc⟩, Or.inr ⟨(tyN_n (by omega)).trans (tyN_s _ _ _), tyN_s _ _ _, hm0, hm1, hm2⟩⟩, (tyN_n (by omega)).trans (tyN_s _ _ _), fun q hq => (tyN_n (by omega)).trans (tyN_n (by omega)), fun q hq => (hm3 q (by omega) (by omega)).trans (meN_n (by omega))⟩
