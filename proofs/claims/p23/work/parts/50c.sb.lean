/-- a StringBuilder at b with its bytes at v -/
def SBt (τ : TY) (M : ME) (b v cap : Nat) (tx : List Nat) : Prop := τ b = (11, 0) ∧ τ v = (101, cap) ∧ (M b 0 = .ref v ∧ M b 1 = .int 0 ∧ M b 3 = .int (nI tx.length)) ∧ (tx.length ≤ cap ∧ cap ≤ 4002 ∧ ∀ c ∈ tx, c < 128) ∧ (∀ k, k < cap → M v k = .int (nI (tx.getD k 0)))
section SBP
variable {l : Launch} {D : va_G} {cA : Nat → ClassId} {n0 : Nat} {XW : State → Heap → Prop} {sz : Nat} {τ : TY} {M M1 : ME} {b v cap : Nat} {tx : List Nat}
theorem SBt.tb (h : SBt τ M b v cap tx) : τ b = (11, 0) := h.1
theorem SBt.tv (h : SBt τ M b v cap tx) : τ v = (101, cap) := h.2.1
theorem SBt.g0 (h : SBt τ M b v cap tx) : M b 0 = .ref v := h.2.2.1.1
theorem SBt.g1 (h : SBt τ M b v cap tx) : M b 1 = .int 0 := h.2.2.1.2.1
theorem SBt.g3 (h : SBt τ M b v cap tx) : M b 3 = .int (nI tx.length) := h.2.2.1.2.2
theorem SBt.lc (h : SBt τ M b v cap tx) : tx.length ≤ cap := h.2.2.2.1.1
theorem SBt.cp (h : SBt τ M b v cap tx) : cap ≤ 4002 := h.2.2.2.1.2.1
theorem SBt.asc (h : SBt τ M b v cap tx) : ∀ c ∈ tx, c < 128 := h.2.2.2.1.2.2
theorem SBt.by (h : SBt τ M b v cap tx) : ∀ k, k < cap → M v k = .int (nI (tx.getD k 0)) := h.2.2.2.2
theorem SBt.ne (h : SBt τ M b v cap tx) : b ≠ v := kne h.tb h.tv (by simp)
theorem SBt.rcv (h : SBt τ M b v cap tx) : Rcv D XW n0 τ RJ4 b := Or.inl ⟨11, 0, _, _, h.tb, by decide, rfl⟩
theorem SBt.src (h : SBt τ M b v cap tx) : Src D cA n0 XW sz τ M v cap (txB tx) := Src.arr h.tv h.by
theorem SBt.fr {τ' : TY} (h : SBt τ M b v cap tx) (ht : τ' b = τ b ∧ τ' v = τ v) (hm : M1 b = M b ∧ M1 v = M v) : SBt τ' M1 b v cap tx := by
  obtain ⟨h1, h2, ⟨h3, h4, h5⟩, h6, h7⟩ := h
  exact ⟨ht.1.trans h1, ht.2.trans h2, ⟨by rw [hm.1]; exact h3, by rw [hm.1]; exact h4, by rw [hm.1]; exact h5⟩, h6, fun k hk => by rw [hm.2]; exact h7 k hk⟩
/-- what an append may change: the builder, its bytes, and what is new -/
def AP (sz : Nat) (τ : TY) (M : ME) (b v : Nat) (sz' : Nat) (τ' : TY) (M' : ME) (v1 : Nat) : Prop := sz ≤ sz' ∧ (∀ q, q < sz → τ' q = τ q) ∧ (∀ q, q < sz → q ≠ b → q ≠ v → M' q = M q) ∧ (v1 = v ∨ (sz ≤ v1 ∧ v1 < sz'))
theorem AP.rf : AP sz τ M b v sz τ M v := ⟨Nat.le_refl _, fun _ _ => rfl, fun _ _ _ _ => rfl, Or.inl rfl⟩
theorem AP.tr {sz1 sz2 v1 v2 : Nat} {τ1 τ2 : TY} {M1 M2 : ME} (h : AP sz τ M b v sz1 τ1 M1 v1) (h2 : AP sz1 τ1 M1 b v1 sz2 τ2 M2 v2) : AP sz τ M b v sz2 τ2 M2 v2 := by
  obtain ⟨a1, a2, a3, a4⟩ := h
  obtain ⟨b1, b2, b3, b4⟩ := h2
  refine ⟨Nat.le_trans a1 b1, fun q hq => (b2 q (by omega)).trans (a2 q hq), fun q hq h1 h2 => (b3 q (by omega) h1 (by rcases a4 with rfl | a4; exact h2; omega)).trans (a3 q hq h1 h2), ?_⟩
  rcases a4 with rfl | a4
  · rcases b4 with rfl | b4
    · exact Or.inl rfl
    · exact Or.inr ⟨by omega, b4.2⟩
  · rcases b4 with rfl | b4
    · exact Or.inr ⟨a4.1, by omega⟩
    · exact Or.inr ⟨by omega, b4.2⟩
theorem AP.bytes {w : Nat} {f : Nat → Int32} (h : SBt τ M b v cap tx) : AP sz τ M b v sz τ (cbM M f v 0 w tx.length) v := ⟨Nat.le_refl _, fun _ _ => rfl, fun _ _ _ h2 => cbM_a h2, Or.inl rfl⟩
theorem ST.ap {adK adV : Nat → Nat} {sz1 v1 a w : Nat} {τ1 : TY} {M1 : ME} {s : List Nat} (hs : ST adK adV τ M a w s) (h : AP sz τ M b v sz1 τ1 M1 v1) (hB : SBt τ M b v cap tx) (ha : CSt adK adV a w s ∨ (a < sz ∧ w < sz ∧ w ≠ v)) : ST adK adV τ1 M1 a w s := by
  rcases ha with hd | ⟨l1, l2, l3⟩
  · exact ⟨hs.1, Or.inl hd⟩
  · obtain ⟨h0, h1⟩ := hs
    refine ⟨h0, ?_⟩
    rcases h1 with h1 | ⟨q1, q2, q3, q4, q5⟩
    · exact Or.inl h1
    · have n1 : a ≠ b := kne q1 hB.tb (by simp)
      have n2 : w ≠ b := kne q2 hB.tb (by simp)
      have n3 : a ≠ v := kne q1 hB.tv (by simp)
      refine Or.inr ⟨(h.2.1 a l1).trans q1, (h.2.1 w l2).trans q2, ?_, ?_, fun j hj => ?_⟩
      · rw [h.2.2.1 a l1 n1 n3]; exact q3
      · rw [h.2.2.1 a l1 n1 n3]; exact q4
      · rw [h.2.2.1 w l2 n2 l3]; exact q5 j hj
theorem OLD.ap {s0 sz1 v1 : Nat} {τ0 τ1 : TY} {M0 M1 : ME} (ho : OLD s0 τ0 M0 τ M) (h : AP sz τ M b v sz1 τ1 M1 v1) (hb : s0 ≤ b ∧ s0 ≤ v ∧ s0 ≤ sz) : OLD s0 τ0 M0 τ1 M1 :=
  ⟨fun q hq => (h.2.1 q (by omega)).trans (ho.1 q hq), fun q hq => (h.2.2.1 q (by omega) (by omega) (by omega)).trans (ho.2 q hq)⟩
theorem OLD.tr {s0 s1 : Nat} {τ0 τ1 τ2 : TY} {M0 M1 M2 : ME} (ho : OLD s0 τ0 M0 τ1 M1) (h : OLD s1 τ1 M1 τ2 M2) (hb : s0 ≤ s1) : OLD s0 τ0 M0 τ2 M2 := ⟨fun q hq => (h.1 q (by omega)).trans (ho.1 q hq), fun q hq => (h.2 q (by omega)).trans (ho.2 q hq)⟩
theorem OLD.rf {s0 : Nat} {τ0 : TY} {M0 : ME} : OLD s0 τ0 M0 τ0 M0 := ⟨fun _ _ => rfl, fun _ _ => rfl⟩
end SBP
theorem mx_nI {m p : Nat} (hm : m < 2 ^ 31) (hp : p < 2 ^ 31) : maxI (nI m) (nI p) = nI (max m p) := by
  unfold maxI
  by_cases h : m < p
  · rw [if_pos (nI_lt h hp), Nat.max_eq_right (Nat.le_of_lt h)]
  · rw [if_neg (nI_nlt (by omega) hm), Nat.max_eq_left (by omega)]
theorem sub_le0 {a b : Nat} (ha : a < 2 ^ 30) (hb : b < 2 ^ 30) : nI a - nI b ≤ 0 ↔ a ≤ b := by
  rw [Int32.le_iff_toInt_le, i32_sub (by rw [nI_toInt (by omega), nI_toInt (by omega)]; omega) (by rw [nI_toInt (by omega), nI_toInt (by omega)]; omega), nI_toInt (by omega), nI_toInt (by omega)]
  show (a : Int) - b ≤ 0 ↔ _
  omega
set_option maxHeartbeats 1000000 in
theorem c_J8_newLength_cabcc {l : Launch} {D : va_G} {cA : Nat → ClassId} {n0 : Nat} {sg adK adV : Nat → Nat} {sgA smA wdA bS LS : Nat} {xs : Nat → Int32} (hX : SF n0 (XW0 sg adK adV sgA smA wdA n0 bS LS xs)) {sz : Nat} {τ : TY} {M : ME} {o m p : Nat} (ho : 1 ≤ o ∧ o ≤ 10000) (hm : m ≤ 10000) (hp : p ≤ 10000) : CT l D cA n0 (XW0 sg adK adV sgA smA wdA n0 bS LS xs) mJ8_newLength_cabcc 2 0 0 sz τ M [.int (nI o), .int (nI m), .int (nI p)] (ROq (.int (nI (o + max m p))) sz τ M) := by
  refine CT.of (ls := [.int (nI o), .int (nI m), .int (nI p), UU]) (by decide) (Nat.le_of_ble_eq_true rfl) rfl ?_
  have hx9 : max m p ≤ 10000 := Nat.max_le.mpr ⟨hm, hp⟩
  refine T_iload0 dJ8_newLength_cabcc_0 rfl ?_
  refine T_iload1 dJ8_newLength_cabcc_1 rfl ?_
  refine T_iload2 dJ8_newLength_cabcc_2 rfl ?_
  refine T_max kmJ8_194 (by decide) (Nat.le_of_ble_eq_true rfl) dJ8_newLength_cabcc_3 rfl ?_
  rw [mx_nI (by omega) (by omega)]
  refine T_iadd dJ8_newLength_cabcc_6 rfl ?_
  rw [nI_add]
  refine T_istore3 rfl (by decide) dJ8_newLength_cabcc_7 rfl ?_
  refine T_iconst (0) dJ8_newLength_cabcc_8 rfl rfl ?_
  refine T_iload3 dJ8_newLength_cabcc_9 rfl ?_
  refine T_icmp_ge_f 21 13 dJ8_newLength_cabcc_10 (by decide) rfl (nI_nle (by omega) (by omega)) ?_
  refine T_iload3 dJ8_newLength_cabcc_13 rfl ?_
  refine T_ldcI (inGW (List.mem_of_getElem? (i := 1232) (by decide +kernel)) (by decide +kernel) : Cond.constant RJ8 200 2147483639 ∈ GW) dJ8_newLength_cabcc_14 rfl ?_
  refine T_icmp_gt_f 21 19 dJ8_newLength_cabcc_16 (by decide) rfl (nI_nlt (a := 2147483639) (by omega) (by decide)) ?_
  refine T_iload3 dJ8_newLength_cabcc_19 rfl ?_
  refine T_iret rfl rfl dJ8_newLength_cabcc_20 ?_
  exact ⟨rfl, rfl, rfl, rfl⟩
set_option maxHeartbeats 1000000 in
theorem c_J5_newCapacity_0f7a4 {l : Launch} {D : va_G} {cA : Nat → ClassId} {n0 : Nat} {sg adK adV : Nat → Nat} {sgA smA wdA bS LS : Nat} {xs : Nat → Int32} (hX : SF n0 (XW0 sg adK adV sgA smA wdA n0 bS LS xs)) {sz : Nat} {τ : TY} {M : ME} {b v cap : Nat} {tx : List Nat} (hB : SBt τ M b v cap tx) {mn : Nat} (h1 : cap < mn) (h2 : mn ≤ 2000) (h3 : 1 ≤ cap) : CT l D cA n0 (XW0 sg adK adV sgA smA wdA n0 bS LS xs) mJ5_newCapacity_0f7a4 3 0 0 sz τ M [.ref b, .int (nI mn)] (ROq (.int (nI (cap + max (mn - cap) (cap + 2)))) sz τ M) := by
  refine CT.of (ls := [.ref b, .int (nI mn), UU, UU, UU, UU]) (by decide) (Nat.le_of_ble_eq_true rfl) rfl ?_
  have hcp := hB.cp
  have hx9 : max (mn - cap) (cap + 2) ≤ 4004 := Nat.max_le.mpr ⟨by omega, by omega⟩
  refine T_aload0 dJ5_newCapacity_0f7a4_0 rfl ?_
  refine gJ5_15 _ rfl hB.tb hB.g0 dJ5_newCapacity_0f7a4_1 rfl ?_
  refine T_alen (j := 1) hB.tv (by decide) dJ5_newCapacity_0f7a4_4 rfl ?_
  refine T_istore2 rfl (by decide) dJ5_newCapacity_0f7a4_5 rfl ?_
  refine T_iload1 dJ5_newCapacity_0f7a4_6 rfl ?_
  refine T_aload0 dJ5_newCapacity_0f7a4_7 rfl ?_
  refine gJ5_22 _ rfl hB.tb hB.g1 dJ5_newCapacity_0f7a4_8 rfl ?_
  refine T_ishl dJ5_newCapacity_0f7a4_11 rfl ?_
  rw [shl0]
  refine T_istore3 rfl (by decide) dJ5_newCapacity_0f7a4_12 rfl ?_
  refine T_iload3 dJ5_newCapacity_0f7a4_13 rfl ?_
  refine T_iload2 dJ5_newCapacity_0f7a4_14 rfl ?_
  refine T_isub dJ5_newCapacity_0f7a4_15 rfl ?_
  rw [nI_sub (by omega) (by omega)]
  refine T_istore4 rfl (by decide) dJ5_newCapacity_0f7a4_16 rfl ?_
  refine T_iload2 dJ5_newCapacity_0f7a4_18 rfl ?_
  refine T_iload4 dJ5_newCapacity_0f7a4_19 rfl ?_
  refine T_iload2 dJ5_newCapacity_0f7a4_21 rfl ?_
  refine T_iconst (2) dJ5_newCapacity_0f7a4_22 rfl rfl ?_
  refine T_aload0 dJ5_newCapacity_0f7a4_23 rfl ?_
  refine gJ5_22 _ rfl hB.tb hB.g1 dJ5_newCapacity_0f7a4_24 rfl ?_
  refine T_ishl dJ5_newCapacity_0f7a4_27 rfl ?_
  rw [shl0]
  refine T_iadd dJ5_newCapacity_0f7a4_28 rfl ?_
  rw [show nI cap + 2 = nI (cap + 2) from nI_add cap 2]
  refine T_cS3 (c_J8_newLength_cabcc hX (And.intro (by omega) (by omega)) (by omega) (by omega)) hX kJ5_114 (by decide) (Nat.le_of_ble_eq_true rfl) dJ5_newCapacity_0f7a4_29 rfl ?_
  rintro _ _ _ _ ⟨rfl, rfl, rfl, rfl⟩
  refine T_istore5 rfl (by decide) dJ5_newCapacity_0f7a4_32 rfl ?_
  refine T_iload5 dJ5_newCapacity_0f7a4_34 rfl ?_
  refine T_ldcI (inGW (List.mem_of_getElem? (i := 1236) (by decide +kernel)) (by decide +kernel) : Cond.constant RJ5 39 2147483647 ∈ GW) dJ5_newCapacity_0f7a4_36 rfl ?_
  refine T_icmp_ne_t 51 dJ5_newCapacity_0f7a4_38 (by decide) (fun q => by have := (nI_eq (a := cap + max (mn - cap) (cap + 2)) (b := 2147483647) (by omega) (by decide)).mp q; omega) ?_
  refine T_iload5 dJ5_newCapacity_0f7a4_51 rfl ?_
  refine T_aload0 dJ5_newCapacity_0f7a4_53 rfl ?_
  refine gJ5_22 _ rfl hB.tb hB.g1 dJ5_newCapacity_0f7a4_54 rfl ?_
  refine T_ishr dJ5_newCapacity_0f7a4_57 rfl ?_
  rw [shr0]
  refine T_iret rfl rfl dJ5_newCapacity_0f7a4_58 ?_
  exact ⟨rfl, rfl, rfl, rfl⟩
set_option maxHeartbeats 1000000 in
theorem c_J7_copyOf_9075b {l : Launch} {D : va_G} {cA : Nat → ClassId} {n0 : Nat} {sg adK adV : Nat → Nat} {sgA smA wdA bS LS : Nat} {xs : Nat → Int32} (hX : SF n0 (XW0 sg adK adV sgA smA wdA n0 bS LS xs)) {sz : Nat} {τ : TY} {M : ME} {v cap n2 : Nat} {f : Nat → Int32} (hv : τ v = (101, cap)) (hf : ∀ j, j < cap → M v j = .int (f j)) (hfit : ∀ j, j < cap → fits .byte (.int (f j)) = true) (hvs : v < sz) (h1 : cap < n2) (h2 : n2 ≤ 6004) : CT l D cA n0 (XW0 sg adK adV sgA smA wdA n0 bS LS xs) mJ7_copyOf_9075b 2 1 6004 sz τ M [.ref v, .int (nI n2)] (fun v' sz' τ' M' => v' = some (.ref sz) ∧ sz' = sz + 1 ∧ τ' = tyN τ sz (101, n2) ∧ M' = cbM (meN M sz fun _ => .int 0) f sz 0 0 cap) := by
  refine CT.of (ls := [.ref v, .int (nI n2), UU]) (by decide) (Nat.le_of_ble_eq_true rfl) rfl ?_
  refine T_iload1 dJ7_copyOf_9075b_0 rfl ?_
  refine T_aload0 dJ7_copyOf_9075b_1 rfl ?_
  refine T_alen (j := 1) hv (by decide) dJ7_copyOf_9075b_2 rfl ?_
  refine T_icmp_ne_t 14 dJ7_copyOf_9075b_3 (by decide) (fun q => by have := (nI_eq (by omega) (by omega)).mp q; omega) ?_
  refine T_iload1 dJ7_copyOf_9075b_14 rfl ?_
  refine T_less (bk1 := 0 + 1) (bn1 := 0 + n2) (by omega) (by omega) ?_
  refine T_newa (atype := .byte) 1 (fun _ => .int 0) ka_byte (by decide) rfl rfl (by omega) rfl dJ7_copyOf_9075b_15 rfl ?_
  refine T_astore2 rfl (by decide) dJ7_copyOf_9075b_17 rfl ?_
  refine T_aload0 dJ7_copyOf_9075b_18 rfl ?_
  refine T_iconst (0) dJ7_copyOf_9075b_19 rfl rfl ?_
  refine T_aload2 dJ7_copyOf_9075b_20 rfl ?_
  refine T_iconst (0) dJ7_copyOf_9075b_21 rfl rfl ?_
  refine T_aload0 dJ7_copyOf_9075b_22 rfl ?_
  refine T_alen (j := 1) ((tyN_n (by omega)).trans hv) (by decide) dJ7_copyOf_9075b_23 rfl ?_
  refine T_iload1 dJ7_copyOf_9075b_24 rfl ?_
  refine T_min kmJ7_304 (by decide) (Nat.le_of_ble_eq_true rfl) dJ7_copyOf_9075b_25 rfl ?_
  rw [if_neg (nI_nlt (by omega) (by omega))]
  refine T_cpb (f := f) (sp := 0) (dp := 0) (w := cap) (Src.arr ((tyN_n (by omega)).trans hv) (fun j hj => by rw [meN_n (by omega)]; exact hf j hj)) hfit rfl rfl rfl (tyN_s _ _ _) (by omega) (by omega) (by omega) (by omega) kxJ7_150 (by decide) (Nat.le_of_ble_eq_true rfl) dJ7_copyOf_9075b_28 rfl ?_
  refine T_aload2 dJ7_copyOf_9075b_31 rfl ?_
  refine T_aretA rfl dJ7_copyOf_9075b_32 ?_
  exact ⟨rfl, rfl, rfl, rfl⟩
theorem kvJ5_104 : WVC mJ5_newCapacity_0f7a4 RJ5 104 1 RJ4 := ⟨wb_J5_newCapacity_0f7a4, inGW (List.mem_of_getElem? (i := 1224) (by decide +kernel)) (by decide +kernel), inGW (List.mem_of_getElem? (i := 1226) (by decide +kernel)) (by decide +kernel), inGX (List.mem_of_getElem? (i := 1) rfl) (by decide +kernel)⟩
theorem SBt.grow {sz : Nat} {τ : TY} {M : ME} {b v cap n2 : Nat} {tx : List Nat} (h : SBt τ M b v cap tx) (hb : b < sz) (hn : cap < n2) (hn2 : n2 ≤ 4002) : SBt (tyN τ sz (101, n2)) (up (cbM (meN M sz fun _ => .int 0) (txB tx) sz 0 0 cap) b 0 (.ref sz)) b sz n2 tx := by
  have lc := h.lc
  refine ⟨(tyN_n (by omega)).trans h.tb, tyN_s _ _ _, ⟨by rw [up_s], ?_, ?_⟩, ⟨by omega, hn2, h.asc⟩, fun k hk => ?_⟩
  · rw [up_k (by decide), cbM_a (by omega), meN_n (by omega)]; exact h.g1
  · rw [up_k (by decide), cbM_a (by omega), meN_n (by omega)]; exact h.g3
  · rw [up_a (by omega)]
    by_cases hc : k < cap
    · rw [cbM_i (by omega) (by omega)]
      show Value.int (nI (tx.getD (0 + (k - 0)) 0)) = _
      rw [Nat.zero_add, Nat.sub_zero]
    · rw [cbM_o (by omega), meN_s, getD_out (by omega)]
      rfl
theorem AP.grow {sz : Nat} {τ : TY} {M : ME} {b v n2 cap : Nat} {f : Nat → Int32} (hb : b < sz) : AP sz τ M b v (sz + 1) (tyN τ sz (101, n2)) (up (cbM (meN M sz fun _ => .int 0) f sz 0 0 cap) b 0 (.ref sz)) sz :=
  ⟨by omega, fun q hq => tyN_n (by omega), fun q hq h1 _ => by rw [up_a h1, cbM_a (by omega), meN_n (by omega)], Or.inr ⟨Nat.le_refl _, by omega⟩⟩
set_option maxHeartbeats 1000000 in
theorem c_J5_ensureCapacityInternal_d00df {l : Launch} {D : va_G} {cA : Nat → ClassId} {n0 : Nat} {sg adK adV : Nat → Nat} {sgA smA wdA bS LS : Nat} {xs : Nat → Int32} (hX : SF n0 (XW0 sg adK adV sgA smA wdA n0 bS LS xs)) {sz : Nat} {τ : TY} {M : ME} {b v cap : Nat} {tx : List Nat} (hB : SBt τ M b v cap tx) (hbs : b < sz ∧ v < sz) (hc1 : 1 ≤ cap ∧ (2000 < cap → cap ≤ 4002)) {mn : Nat} (h2 : mn ≤ 2000) : CT l D cA n0 (XW0 sg adK adV sgA smA wdA n0 bS LS xs) mJ5_ensureCapacityInternal_d00df 7 1 6004 sz τ M [.ref b, .int (nI mn)] (fun v' sz' τ' M' => v' = none ∧ ∃ v1 cap1, (cap ≤ cap1 ∧ mn ≤ cap1) ∧ SBt τ' M' b v1 cap1 tx ∧ AP sz τ M b v sz' τ' M' v1) := by
  refine CT.of (ls := [.ref b, .int (nI mn), UU]) (by decide) (Nat.le_of_ble_eq_true rfl) rfl ?_
  have hcp := hB.cp
  have hlc := hB.lc
  refine T_aload0 dJ5_ensureCapacityInternal_d00df_0 rfl ?_
  refine gJ5_15 _ rfl hB.tb hB.g0 dJ5_ensureCapacityInternal_d00df_1 rfl ?_
  refine T_alen (j := 1) hB.tv (by decide) dJ5_ensureCapacityInternal_d00df_4 rfl ?_
  refine T_aload0 dJ5_ensureCapacityInternal_d00df_5 rfl ?_
  refine gJ5_22 _ rfl hB.tb hB.g1 dJ5_ensureCapacityInternal_d00df_6 rfl ?_
  refine T_ishr dJ5_ensureCapacityInternal_d00df_9 rfl ?_
  rw [shr0]
  refine T_istore2 rfl (by decide) dJ5_ensureCapacityInternal_d00df_10 rfl ?_
  refine T_iload1 dJ5_ensureCapacityInternal_d00df_11 rfl ?_
  refine T_iload2 dJ5_ensureCapacityInternal_d00df_12 rfl ?_
  refine T_isub dJ5_ensureCapacityInternal_d00df_13 rfl ?_
  refine T_if_le 38 17 dJ5_ensureCapacityInternal_d00df_14 (by decide) rfl (fun c14 => ?_) (fun c14 => ?_)
  ·
    rw [sub_le0 (by omega) (by omega)] at c14
    refine T_vret rfl dJ5_ensureCapacityInternal_d00df_38 ?_
    first
      | exact ⟨rfl, v, cap, ⟨Nat.le_refl _, c14⟩, hB, AP.rf⟩
      | exact ⟨rfl, _, cap + max (mn - cap) (cap + 2), ⟨by omega, by omega⟩, hB.grow hbs.1 (by omega) (by omega), AP.grow hbs.1⟩
  ·
    rw [sub_le0 (by omega) (by omega)] at c14
    have hx9 : max (mn - cap) (cap + 2) ≤ 2002 := Nat.max_le.mpr ⟨by omega, by omega⟩
    have hy9 : mn - cap ≤ max (mn - cap) (cap + 2) := Nat.le_max_left _ _
    have hz9 : cap + 2 ≤ max (mn - cap) (cap + 2) := Nat.le_max_right _ _
    refine T_aload0 dJ5_ensureCapacityInternal_d00df_17 rfl ?_
    refine T_aload0 dJ5_ensureCapacityInternal_d00df_18 rfl ?_
    refine gJ5_15 _ rfl hB.tb hB.g0 dJ5_ensureCapacityInternal_d00df_19 rfl ?_
    refine T_aload0 dJ5_ensureCapacityInternal_d00df_22 rfl ?_
    refine T_iload1 dJ5_ensureCapacityInternal_d00df_23 rfl ?_
    refine T_callVC (n := 1) (As := [.int (nI mn)]) (rest := [.ref v, .ref b]) (c_J5_newCapacity_0f7a4 hX hB (by omega) h2 (by omega)) hX kvJ5_104 hB.rcv (by decide) rfl rfl (Nat.le_of_ble_eq_true rfl) dJ5_ensureCapacityInternal_d00df_24 rfl ?_
    rintro _ _ _ _ ⟨rfl, rfl, rfl, rfl⟩
    refine T_aload0 dJ5_ensureCapacityInternal_d00df_27 rfl ?_
    refine gJ5_22 _ rfl hB.tb hB.g1 dJ5_ensureCapacityInternal_d00df_28 rfl ?_
    refine T_ishl dJ5_ensureCapacityInternal_d00df_31 rfl ?_
    rw [shl0]
    refine T_cS2 (c_J7_copyOf_9075b hX (f := txB tx) hB.tv hB.by (fun j _ => fitsB (getD_128 hB.asc j)) hbs.2 (by omega) (by omega)) hX kJ5_108 (by decide) (Nat.le_of_ble_eq_true rfl) dJ5_ensureCapacityInternal_d00df_32 rfl ?_
    rintro _ _ _ _ ⟨rfl, rfl, rfl, rfl⟩
    refine pJ5_15 rfl ((tyN_n (by omega)).trans hB.tb) dJ5_ensureCapacityInternal_d00df_35 rfl ?_
    refine T_vret rfl dJ5_ensureCapacityInternal_d00df_38 ?_
    first
      | exact ⟨rfl, v, cap, ⟨Nat.le_refl _, c14⟩, hB, AP.rf⟩
      | exact ⟨rfl, _, cap + max (mn - cap) (cap + 2), ⟨by omega, by omega⟩, hB.grow hbs.1 (by omega) (by omega), AP.grow hbs.1⟩
