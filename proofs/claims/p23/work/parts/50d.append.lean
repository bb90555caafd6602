set_option maxHeartbeats 1000000 in
theorem c_J5_inflateIfNeededFor_a7421 {l : Launch} {D : va_G} {cA : Nat → ClassId} {n0 : Nat} {sg adK adV : Nat → Nat} {sgA smA wdA bS LS : Nat} {xs : Nat → Int32} (hX : SF n0 (XW0 sg adK adV sgA smA wdA n0 bS LS xs)) {sz : Nat} {τ : TY} {M : ME} {b v cap : Nat} {tx : List Nat} (hB : SBt τ M b v cap tx) {a w : Nat} {s : List Nat} (hs : ST adK adV τ M a w s) : CT l D cA n0 (XW0 sg adK adV sgA smA wdA n0 bS LS xs) mJ5_inflateIfNeededFor_a7421 2 0 0 sz τ M [.ref b, .ref a] (ROv sz τ M) := by
  refine CT.of (ls := [.ref b, .ref a]) (by decide) (Nat.le_of_ble_eq_true rfl) rfl ?_
  refine T_gets (v := .int 1) (fun _ _ h => h.2.2.2.1.1) ksJ5_18 dJ5_inflateIfNeededFor_a7421_0 rfl ?_
  refine T_if_eq_f 21 6 dJ5_inflateIfNeededFor_a7421_3 (by decide) rfl (by decide) ?_
  refine T_aload0 dJ5_inflateIfNeededFor_a7421_6 rfl ?_
  refine gJ5_22 _ rfl hB.tb hB.g1 dJ5_inflateIfNeededFor_a7421_7 rfl ?_
  refine T_aload1 dJ5_inflateIfNeededFor_a7421_10 rfl ?_
  refine T_cV0 (s_coder hX hs) hX kJ5_40 hs.rcv (by decide) (Nat.le_of_ble_eq_true rfl) dJ5_inflateIfNeededFor_a7421_11 rfl ?_
  rintro _ _ _ _ ⟨rfl, rfl, rfl, rfl⟩
  refine T_icmp_eq_t 21 dJ5_inflateIfNeededFor_a7421_14 (by decide) rfl ?_
  refine T_vret rfl dJ5_inflateIfNeededFor_a7421_21 ?_
  exact ⟨rfl, rfl, rfl, rfl⟩
theorem kvJ5_397 : WVC mJ5_inflateIfNeededFor_a7421 RJ5 397 1 RJ4 := ⟨wb_J5_inflateIfNeededFor_a7421, inGW (List.mem_of_getElem? (i := 1277) (by decide +kernel)) (by decide +kernel), inGW (List.mem_of_getElem? (i := 1279) (by decide +kernel)) (by decide +kernel), inGX (List.mem_of_getElem? (i := 3) rfl) (by decide +kernel)⟩
set_option maxHeartbeats 1000000 in
theorem c_J5_putStringAt_47b60 {l : Launch} {D : va_G} {cA : Nat → ClassId} {n0 : Nat} {sg adK adV : Nat → Nat} {sgA smA wdA bS LS : Nat} {xs : Nat → Int32} (hX : SF n0 (XW0 sg adK adV sgA smA wdA n0 bS LS xs)) {sz : Nat} {τ : TY} {M : ME} {b v cap : Nat} {tx : List Nat} (hB : SBt τ M b v cap tx) {a w : Nat} {s : List Nat} (hs : ST adK adV τ M a w s) {off : Nat} (ho : off + s.length ≤ cap) : CT l D cA n0 (XW0 sg adK adV sgA smA wdA n0 bS LS xs) mJ5_putStringAt_47b60 3 0 0 sz τ M [.ref b, .int (nI off), .ref a] (fun v' sz' τ' M' => v' = none ∧ sz' = sz ∧ τ' = τ ∧ M' = cbM M (txB s) v 0 off s.length) := by
  refine CT.of (ls := [.ref b, .int (nI off), .ref a]) (by decide) (Nat.le_of_ble_eq_true rfl) rfl ?_
  have hcp := hB.cp
  refine T_aload0 dJ5_putStringAt_47b60_0 rfl ?_
  refine T_aload2 dJ5_putStringAt_47b60_1 rfl ?_
  refine T_callVC (n := 1) (As := [.ref a]) (rest := []) (c_J5_inflateIfNeededFor_a7421 hX hB hs) hX kvJ5_397 hB.rcv (by decide) rfl rfl (Nat.le_of_ble_eq_true rfl) dJ5_putStringAt_47b60_2 rfl ?_
  rintro _ _ _ _ ⟨rfl, rfl, rfl, rfl⟩
  refine T_aload2 dJ5_putStringAt_47b60_5 rfl ?_
  refine T_aload0 dJ5_putStringAt_47b60_6 rfl ?_
  refine gJ5_15 _ rfl hB.tb hB.g0 dJ5_putStringAt_47b60_7 rfl ?_
  refine T_iload1 dJ5_putStringAt_47b60_10 rfl ?_
  refine T_aload0 dJ5_putStringAt_47b60_11 rfl ?_
  refine gJ5_22 _ rfl hB.tb hB.g1 dJ5_putStringAt_47b60_12 rfl ?_
  refine T_cV3 (s_getBytes hX hs hB.tv ho (by omega)) hX kJ5_399 hs.rcv (by decide) (Nat.le_of_ble_eq_true rfl) dJ5_putStringAt_47b60_15 rfl ?_
  rintro _ _ _ _ ⟨rfl, rfl, rfl, rfl⟩
  refine T_vret rfl dJ5_putStringAt_47b60_18 ?_
  exact ⟨rfl, rfl, rfl, rfl⟩
theorem SBt.put {τ : TY} {M : ME} {b v cap : Nat} {tx s : List Nat} {x : Int32} (h : SBt τ M b v cap tx) (hl : tx.length + s.length ≤ cap) (ha : ∀ c ∈ s, c < 128) (hx : x = nI (tx.length + s.length)) : SBt τ (up (cbM M (txB s) v 0 tx.length s.length) b 3 (.int x)) b v cap (tx ++ s) := by
  have hne := h.ne
  refine ⟨h.tb, h.tv, ⟨?_, ?_, ?_⟩, ⟨by rw [List.length_append]; exact hl, h.cp, fun c hc => ?_⟩, fun k hk => ?_⟩
  · rw [up_k (by decide), cbM_a hne]; exact h.g0
  · rw [up_k (by decide), cbM_a hne]; exact h.g1
  · rw [up_s, hx, List.length_append]
  · rcases List.mem_append.mp hc with q | q
    · exact h.asc c q
    · exact ha c q
  · rw [up_a hne.symm]
    by_cases h1 : k < tx.length
    · rw [cbM_o (by omega), getD_appL h1]; exact h.by k hk
    · by_cases h2 : k < tx.length + s.length
      · rw [cbM_i (by omega) h2, getD_appR (by omega), Nat.zero_add]
        rfl
      · rw [cbM_o (by omega), getD_appR (by omega), getD_out (s := s) (by omega), h.by k hk, getD_out (by omega)]
theorem AP.put {sz : Nat} {τ : TY} {M : ME} {b v n : Nat} {f : Nat → Int32} {x : Value} {w : Nat} : AP sz τ M b v sz τ (up (cbM M f v 0 n w) b 3 x) v := ⟨Nat.le_refl _, fun _ _ => rfl, fun q _ h1 h2 => by rw [up_a h1, cbM_a h2], Or.inl rfl⟩
theorem kvJ5_100 : WVC mJ5_ensureCapacityInternal_d00df RJ5 100 1 RJ4 := ⟨wb_J5_ensureCapacityInternal_d00df, inGW (List.mem_of_getElem? (i := 1220) (by decide +kernel)) (by decide +kernel), inGW (List.mem_of_getElem? (i := 1222) (by decide +kernel)) (by decide +kernel), inGX (List.mem_of_getElem? (i := 0) rfl) (by decide +kernel)⟩
theorem kvJ5_208 : WVC mJ5_putStringAt_47b60 RJ5 208 2 RJ4 := ⟨wb_J5_putStringAt_47b60, inGW (List.mem_of_getElem? (i := 1273) (by decide +kernel)) (by decide +kernel), inGW (List.mem_of_getElem? (i := 1275) (by decide +kernel)) (by decide +kernel), inGX (List.mem_of_getElem? (i := 2) rfl) (by decide +kernel)⟩
set_option maxHeartbeats 1000000 in
theorem c_J5_append_cf1ce {l : Launch} {D : va_G} {cA : Nat → ClassId} {n0 : Nat} {sg adK adV : Nat → Nat} {sgA smA wdA bS LS : Nat} {xs : Nat → Int32} (hX : SF n0 (XW0 sg adK adV sgA smA wdA n0 bS LS xs)) {sz : Nat} {τ : TY} {M : ME} {b v cap : Nat} {tx : List Nat} (hB : SBt τ M b v cap tx) {a w : Nat} {s : List Nat} (hs : ST adK adV τ M a w s) (hbs : b < sz ∧ v < sz) (hc1 : 1 ≤ cap) (hlen : tx.length + s.length ≤ 2000) (hd9 : CSt adK adV a w s ∨ (a < sz ∧ w < sz ∧ w ≠ v)) : CT l D cA n0 (XW0 sg adK adV sgA smA wdA n0 bS LS xs) mJ5_append_cf1ce 9 1 6004 sz τ M [.ref b, .ref a] (fun v' sz' τ' M' => v' = some (.ref b) ∧ ∃ v1 cap1, SBt τ' M' b v1 cap1 (tx ++ s) ∧ AP sz τ M b v sz' τ' M' v1 ∧ 1 ≤ cap1) := by
  refine CT.of (ls := [.ref b, .ref a, UU]) (by decide) (Nat.le_of_ble_eq_true rfl) rfl ?_
  refine T_aload1 dJ5_append_cf1ce_0 rfl ?_
  refine T_ifnn 9 dJ5_append_cf1ce_1 (by decide) ?_
  refine T_aload1 dJ5_append_cf1ce_9 rfl ?_
  refine T_cV0 (s_length hX hs) hX kJ5_32 hs.rcv (by decide) (Nat.le_of_ble_eq_true rfl) dJ5_append_cf1ce_10 rfl ?_
  rintro _ _ _ _ ⟨rfl, rfl, rfl, rfl⟩
  refine T_istore2 rfl (by decide) dJ5_append_cf1ce_13 rfl ?_
  refine T_aload0 dJ5_append_cf1ce_14 rfl ?_
  refine T_aload0 dJ5_append_cf1ce_15 rfl ?_
  refine gJ5_79 _ rfl hB.tb hB.g3 dJ5_append_cf1ce_16 rfl ?_
  refine T_iload2 dJ5_append_cf1ce_19 rfl ?_
  refine T_iadd dJ5_append_cf1ce_20 rfl ?_
  rw [nI_add]
  refine T_callVC (n := 1) (As := [.int (nI (tx.length + s.length))]) (rest := []) (c_J5_ensureCapacityInternal_d00df hX hB hbs (And.intro hc1 (fun _ => hB.cp)) hlen) hX kvJ5_100 hB.rcv (by decide) rfl rfl (Nat.le_of_ble_eq_true rfl) dJ5_append_cf1ce_21 rfl ?_
  rintro _ sz1 τ1 M1 ⟨rfl, v1, cap1, ⟨hc8, hcc⟩, hB1, hA1⟩
  have hs1 := hs.ap hA1 hB hd9
  refine T_aload0 dJ5_append_cf1ce_24 rfl ?_
  refine T_aload0 dJ5_append_cf1ce_25 rfl ?_
  refine gJ5_79 _ rfl hB1.tb hB1.g3 dJ5_append_cf1ce_26 rfl ?_
  refine T_aload1 dJ5_append_cf1ce_29 rfl ?_
  refine T_callVC (n := 2) (As := [.int (nI tx.length), .ref a]) (rest := []) (c_J5_putStringAt_47b60 hX hB1 hs1 hcc) hX kvJ5_208 hB1.rcv (by decide) rfl rfl (Nat.le_of_ble_eq_true rfl) dJ5_append_cf1ce_30 rfl ?_
  rintro _ _ _ _ ⟨rfl, rfl, rfl, rfl⟩
  refine T_aload0 dJ5_append_cf1ce_33 rfl ?_
  refine T_dup dJ5_append_cf1ce_34 rfl rfl ?_
  refine gJ5_79 _ rfl hB1.tb ((congrFun (cbM_a hB1.ne) 3).trans hB1.g3) dJ5_append_cf1ce_35 rfl ?_
  refine T_iload2 dJ5_append_cf1ce_38 rfl ?_
  refine T_iadd dJ5_append_cf1ce_39 rfl ?_
  refine pJ5_79 rfl hB1.tb dJ5_append_cf1ce_40 rfl ?_
  refine T_aload0 dJ5_append_cf1ce_43 rfl ?_
  refine T_aret rfl dJ5_append_cf1ce_44 ?_
  refine ⟨rfl, v1, cap1, hB1.put hcc hs.asc (nI_add _ _), hA1.tr AP.put, ?_⟩
  omega
theorem ksu_29 : WSU mJ5_append_cf1ce RJ4 29 1 := ⟨wb_J5_append_cf1ce, (inGW (List.mem_of_getElem? (i := 1212) (by decide +kernel)) (by decide +kernel)), (inGW (List.mem_of_getElem? (i := 1500) (by decide +kernel)) (by decide +kernel)), (inGW (List.mem_of_getElem? (i := 1213) (by decide +kernel)) (by decide +kernel)), (inGW (List.mem_of_getElem? (i := 1214) (by decide +kernel)) (by decide +kernel)), by decide⟩
set_option maxHeartbeats 1000000 in
theorem c_J4_append_15ec4 {l : Launch} {D : va_G} {cA : Nat → ClassId} {n0 : Nat} {sg adK adV : Nat → Nat} {sgA smA wdA bS LS : Nat} {xs : Nat → Int32} (hX : SF n0 (XW0 sg adK adV sgA smA wdA n0 bS LS xs)) {sz : Nat} {τ : TY} {M : ME} {b v cap : Nat} {tx : List Nat} (hB : SBt τ M b v cap tx) {a w : Nat} {s : List Nat} (hs : ST adK adV τ M a w s) (hbs : b < sz ∧ v < sz) (hc1 : 1 ≤ cap) (hlen : tx.length + s.length ≤ 2000) (hd9 : CSt adK adV a w s ∨ (a < sz ∧ w < sz ∧ w ≠ v)) : CT l D cA n0 (XW0 sg adK adV sgA smA wdA n0 bS LS xs) mJ4_append_15ec4 10 1 6004 sz τ M [.ref b, .ref a] (fun v' sz' τ' M' => v' = some (.ref b) ∧ ∃ v1 cap1, SBt τ' M' b v1 cap1 (tx ++ s) ∧ AP sz τ M b v sz' τ' M' v1 ∧ 1 ≤ cap1) := by
  refine CT.of (ls := [.ref b, .ref a]) (by decide) (Nat.le_of_ble_eq_true rfl) rfl ?_
  refine T_aload0 dJ4_append_15ec4_0 rfl ?_
  refine T_aload1 dJ4_append_15ec4_1 rfl ?_
  refine T_callSU (n := 1) (As := [.ref a]) (rest := []) (c_J5_append_cf1ce hX hB hs hbs hc1 hlen hd9) hX ksu_29 hB.tb (by decide) rfl (by decide) rfl rfl (Nat.le_of_ble_eq_true rfl) dJ4_append_15ec4_2 rfl ?_
  rintro _ sz1 τ1 M1 ⟨rfl, v1, cap1, hB1, hA1, hc9⟩
  refine T_pop dJ4_append_15ec4_5 rfl rfl ?_
  refine T_aload0 dJ4_append_15ec4_6 rfl ?_
  refine T_aret rfl dJ4_append_15ec4_7 ?_
  exact ⟨rfl, v1, cap1, hB1, hA1, hc9⟩
def dgL (n : Nat) : List Nat := if n < 10 then [48 + n] else [48 + n / 10, 48 + n % 10]
theorem dg_len {n : Nat} : (dgL n).length = if n < 10 then 1 else 2 := by unfold dgL; split <;> rfl
theorem dg_asc {n : Nat} (h : n < 100) : ∀ c ∈ dgL n, c < 128 := (by decide : ∀ n, n < 100 → ∀ c ∈ dgL n, c < 128) n h
theorem ng_1 : ∀ n, n < 100 → (-(nI n) ≤ (-10 : Int32) ↔ 10 ≤ n) := by decide
theorem ng_2 : ∀ n, n < 100 → ¬ (-(nI n) ≤ (10 * -10 : Int32)) := by decide
theorem ng_3 : ∀ n, n < 100 → ((-9 : Int32) ≤ -(nI n) ↔ n < 10) := by decide
theorem ng_4 : ∀ n, n < 100 → ¬ (-(nI n) ≤ (-100 : Int32)) := by decide
theorem ng_5 : ∀ n, n < 100 → vp_nar .byte (nI (48 + n % 10)) = nI (48 + n % 10) ∧ vp_nar .byte (nI (48 + n / 10)) = nI (48 + n / 10) := by decide
set_option maxHeartbeats 1000000 in
theorem c_J6_stringSize_0f7a4 {l : Launch} {D : va_G} {cA : Nat → ClassId} {n0 : Nat} {sg adK adV : Nat → Nat} {sgA smA wdA bS LS : Nat} {xs : Nat → Int32} (hX : SF n0 (XW0 sg adK adV sgA smA wdA n0 bS LS xs)) {sz : Nat} {τ : TY} {M : ME} {n : Nat} (hn : n < 100) : CT l D cA n0 (XW0 sg adK adV sgA smA wdA n0 bS LS xs) mJ6_stringSize_0f7a4 1 0 0 sz τ M [.int (nI n)] (ROq (.int (nI (dgL n).length)) sz τ M) := by
  refine CT.of (ls := [.int (nI n), UU, UU, UU]) (by decide) (Nat.le_of_ble_eq_true rfl) rfl ?_
  refine T_iconst (1) dJ6_stringSize_0f7a4_0 rfl rfl ?_
  refine T_istore1 rfl (by decide) dJ6_stringSize_0f7a4_1 rfl ?_
  refine T_iload0 dJ6_stringSize_0f7a4_2 rfl ?_
  refine T_if_lt_f 11 6 dJ6_stringSize_0f7a4_3 (by decide) rfl (nI_pos (by omega)) ?_
  refine T_iconst (0) dJ6_stringSize_0f7a4_6 rfl rfl ?_
  refine T_istore1 rfl (by decide) dJ6_stringSize_0f7a4_7 rfl ?_
  refine T_iload0 dJ6_stringSize_0f7a4_8 rfl ?_
  refine T_ineg dJ6_stringSize_0f7a4_9 rfl ?_
  refine T_istore0 (by decide) dJ6_stringSize_0f7a4_10 rfl ?_
  refine T_bipush (-10) dJ6_stringSize_0f7a4_11 rfl rfl ?_
  refine T_istore2 rfl (by decide) dJ6_stringSize_0f7a4_13 rfl ?_
  refine T_iconst (1) dJ6_stringSize_0f7a4_14 rfl rfl ?_
  refine T_istore3 rfl (by decide) dJ6_stringSize_0f7a4_15 rfl ?_
  refine T_iload3 dJ6_stringSize_0f7a4_16 rfl ?_
  refine T_bipush (10) dJ6_stringSize_0f7a4_17 rfl rfl ?_
  refine T_icmp_ge_f 42 22 dJ6_stringSize_0f7a4_19 (by decide) rfl (by decide) ?_
  refine T_iload0 dJ6_stringSize_0f7a4_22 rfl ?_
  refine T_iload2 dJ6_stringSize_0f7a4_23 rfl ?_
  refine T_icmp_le 31 27 dJ6_stringSize_0f7a4_24 (by decide) rfl (fun c24 => ?_) (fun c24 => ?_)
  ·
    refine T_bipush (10) dJ6_stringSize_0f7a4_31 rfl rfl ?_
    refine T_iload2 dJ6_stringSize_0f7a4_33 rfl ?_
    refine T_imul dJ6_stringSize_0f7a4_34 rfl ?_
    refine T_istore2 rfl (by decide) dJ6_stringSize_0f7a4_35 rfl ?_
    first | refine T_iinc3 rfl (by decide) dJ6_stringSize_0f7a4_36 rfl (inc1 _) ?_ | refine T_iinc3 rfl (by decide) dJ6_stringSize_0f7a4_36 rfl rfl ?_
    refine T_goto 16 dJ6_stringSize_0f7a4_39 (by decide) ?_
    refine T_iload3 dJ6_stringSize_0f7a4_16 rfl ?_
    refine T_bipush (10) dJ6_stringSize_0f7a4_17 rfl rfl ?_
    refine T_icmp_ge_f 42 22 dJ6_stringSize_0f7a4_19 (by decide) rfl (by decide) ?_
    refine T_iload0 dJ6_stringSize_0f7a4_22 rfl ?_
    refine T_iload2 dJ6_stringSize_0f7a4_23 rfl ?_
    refine T_icmp_le 31 27 dJ6_stringSize_0f7a4_24 (by decide) rfl (fun c24 => ?_) (fun c24 => ?_)
    ·
      refine T_bipush (10) dJ6_stringSize_0f7a4_31 rfl rfl ?_
      refine T_iload2 dJ6_stringSize_0f7a4_33 rfl ?_
      refine T_imul dJ6_stringSize_0f7a4_34 rfl ?_
      refine T_istore2 rfl (by decide) dJ6_stringSize_0f7a4_35 rfl ?_
      first | refine T_iinc3 rfl (by decide) dJ6_stringSize_0f7a4_36 rfl (inc1 _) ?_ | refine T_iinc3 rfl (by decide) dJ6_stringSize_0f7a4_36 rfl rfl ?_
      refine T_goto 16 dJ6_stringSize_0f7a4_39 (by decide) ?_
      exact absurd c24 (ng_2 n hn)
    ·
      refine T_iload3 dJ6_stringSize_0f7a4_27 rfl ?_
      refine T_iload1 dJ6_stringSize_0f7a4_28 rfl ?_
      refine T_iadd dJ6_stringSize_0f7a4_29 rfl ?_
      refine T_iret rfl rfl dJ6_stringSize_0f7a4_30 ?_
      refine ⟨congrArg (fun w9 => some (Value.int w9)) ?_, rfl, rfl, rfl⟩
      rw [dg_len]
      first
        | (rw [if_pos (show n < 10 from Nat.lt_of_not_le (fun q => c24 ((ng_1 n hn).mpr q)))]; decide)
        | (rw [if_neg (show ¬ n < 10 from fun q => absurd q (Nat.not_lt.mpr ((ng_1 n hn).mp (by assumption))))]; decide)
  ·
    refine T_iload3 dJ6_stringSize_0f7a4_27 rfl ?_
    refine T_iload1 dJ6_stringSize_0f7a4_28 rfl ?_
    refine T_iadd dJ6_stringSize_0f7a4_29 rfl ?_
    refine T_iret rfl rfl dJ6_stringSize_0f7a4_30 ?_
    refine ⟨congrArg (fun w9 => some (Value.int w9)) ?_, rfl, rfl, rfl⟩
    rw [dg_len]
    first
      | (rw [if_pos (show n < 10 from Nat.lt_of_not_le (fun q => c24 ((ng_1 n hn).mpr q)))]; decide)
      | (rw [if_neg (show ¬ n < 10 from fun q => absurd q (Nat.not_lt.mpr ((ng_1 n hn).mp (by assumption))))]; decide)
