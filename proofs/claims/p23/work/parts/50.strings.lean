section GETQ
variable {l : Launch} {D : va_G} {cA : Nat → ClassId} {n0 : Nat} {XW : State → Heap → Prop} {nm : MI} {d bk bn sz : Nat} {τ : TY} {M : ME} {Q : QT} {QX : QXT} {ls st : List Value} {pc pc' idx : Nat}
/-- a static that is null or some object -/
theorem T_getsQ {C n d' : String} (hZ : ∀ (U : State) (H : Heap), XW U H → va_Zq C n d' (AA n0) U H) (hw : Cond.fieldLink nm.y.cls idx C n d' ∈ GW) (hd : decode nm.cc pc = .ok (.getstatic idx, 3)) (hp : pc + 3 = pc')
    (k : ∀ v : Value, (v = .null ∨ ∃ t, v = .ref t) → T l D cA n0 XW nm d bk bn sz τ M pc' ls (v :: st) Q QX) : T l D cA n0 XW nm d bk bn sz τ M pc ls st Q QX := by
  subst hp
  intro p e R s m args below meth c H locs cells slots mc ms la X Y hR hS g1 g2 hL r1 r2 r3
  obtain ⟨hx, hbc, hml, -, hown, hSW, -⟩ := id Y
  rcases hZ _ _ hSW.2.2 with j | ⟨t, j⟩
  · exact va_gets hx hbc j hS hown (hSW.words (args := args) _ hw) (fun x h => h) hd (k _ (Or.inl rfl) p e R s m args below meth c H locs cells slots mc ms la X Y hR hS g1 g2 hL r1 r2 r3)
  · exact va_gets hx hbc j hS hown (hSW.words (args := args) _ hw) (fun x h => h) hd (k _ (Or.inr ⟨t, rfl⟩) p e R s m args below meth c H locs cells slots mc ms la X Y hR hS g1 g2 hL r1 r2 r3)
end GETQ
theorem shr0 (x : Int32) : x >>> ((0 : Int32) &&& 31) = x := by
  show x >>> (0 : Int32) = x
  simp
/-- a character of a constant -/
def chF (i j : Nat) : Int32 := (stB.getD i []).getD j 0
theorem ch_ok : ∀ i, i < 95 → ∀ j, j < stL.getD i 0 → ((chF i j &&& 255).toUInt32 % 65536).toInt32 = chF i j := by decide +kernel
theorem ch_nr : ∀ i, i < 95 → ∀ j, j < stL.getD i 0 → ((chF i j).toUInt32 % 65536).toInt32 = chF i j := by decide +kernel
theorem ch_nw {i j : Nat} (hi : i < 95) (hj : j < stL.getD i 0) : narrow .char (.int (chF i j)) = .int (chF i j) := congrArg Value.int (ch_nr i hi j hj)
theorem stL_64 : ∀ i, i < 95 → stL.getD i 0 < 64 := by decide +kernel
set_option maxHeartbeats 1000000 in
theorem c_J0_coder_7d493 {l : Launch} {D : va_G} {cA : Nat → ClassId} {n0 : Nat} {sg adK adV : Nat → Nat} {sgA smA wdA bS LS : Nat} {xs : Nat → Int32} (hX : SF n0 (XW0 sg adK adV sgA smA wdA n0 bS LS xs)) {sz : Nat} {τ : TY} {M : ME} {i : Nat} (hi : i < 95) : CT l D cA n0 (XW0 sg adK adV sgA smA wdA n0 bS LS xs) mJ0_coder_7d493 1 0 0 sz τ M [.ref (adK i)] (ROq (.int (0)) sz τ M) := by
  refine CT.of (ls := [.ref (adK i)]) (by decide) (Nat.le_of_ble_eq_true rfl) rfl ?_
  refine T_gets (v := .int 1) (fun _ _ h => h.2.2.2.1.1) ksJ0_38 dJ0_coder_7d493_0 rfl ?_
  refine T_if_eq_f 13 6 dJ0_coder_7d493_3 (by decide) rfl (by decide) ?_
  refine T_aload0 dJ0_coder_7d493_6 rfl ?_
  refine T_getc (v := .int 0) (fun _ _ h => (h.2.1 i hi).2.1) kfJ0_15 (Or.inl rfl) dJ0_coder_7d493_7 rfl ?_
  refine T_goto 14 dJ0_coder_7d493_10 (by decide) ?_
  refine T_iret rfl rfl dJ0_coder_7d493_14 ?_
  exact ⟨rfl, rfl, rfl, rfl⟩
set_option maxHeartbeats 1000000 in
theorem c_J0_isLatin1_aae02 {l : Launch} {D : va_G} {cA : Nat → ClassId} {n0 : Nat} {sg adK adV : Nat → Nat} {sgA smA wdA bS LS : Nat} {xs : Nat → Int32} (hX : SF n0 (XW0 sg adK adV sgA smA wdA n0 bS LS xs)) {sz : Nat} {τ : TY} {M : ME} {i : Nat} (hi : i < 95) : CT l D cA n0 (XW0 sg adK adV sgA smA wdA n0 bS LS xs) mJ0_isLatin1_aae02 1 0 0 sz τ M [.ref (adK i)] (ROq (.int (1)) sz τ M) := by
  refine CT.of (ls := [.ref (adK i)]) (by decide) (Nat.le_of_ble_eq_true rfl) rfl ?_
  refine T_gets (v := .int 1) (fun _ _ h => h.2.2.2.1.1) ksJ0_38 dJ0_isLatin1_aae02_0 rfl ?_
  refine T_if_eq_f 17 6 dJ0_isLatin1_aae02_3 (by decide) rfl (by decide) ?_
  refine T_aload0 dJ0_isLatin1_aae02_6 rfl ?_
  refine T_getc (v := .int 0) (fun _ _ h => (h.2.1 i hi).2.1) kfJ0_15 (Or.inl rfl) dJ0_isLatin1_aae02_7 rfl ?_
  refine T_if_ne_f 17 13 dJ0_isLatin1_aae02_10 (by decide) rfl (by decide) ?_
  refine T_iconst (1) dJ0_isLatin1_aae02_13 rfl rfl ?_
  refine T_goto 18 dJ0_isLatin1_aae02_14 (by decide) ?_
  refine T_iret rfl rfl dJ0_isLatin1_aae02_18 ?_
  exact ⟨rfl, rfl, rfl, rfl⟩
set_option maxHeartbeats 1000000 in
theorem c_J0_length_8abf5 {l : Launch} {D : va_G} {cA : Nat → ClassId} {n0 : Nat} {sg adK adV : Nat → Nat} {sgA smA wdA bS LS : Nat} {xs : Nat → Int32} (hX : SF n0 (XW0 sg adK adV sgA smA wdA n0 bS LS xs)) {sz : Nat} {τ : TY} {M : ME} {i : Nat} (hi : i < 95) : CT l D cA n0 (XW0 sg adK adV sgA smA wdA n0 bS LS xs) mJ0_length_8abf5 2 0 0 sz τ M [.ref (adK i)] (ROq (.int (nI (stL.getD i 0))) sz τ M) := by
  refine CT.of (ls := [.ref (adK i)]) (by decide) (Nat.le_of_ble_eq_true rfl) rfl ?_
  refine T_aload0 dJ0_length_8abf5_0 rfl ?_
  refine T_getc (v := .ref (adV i)) (fun _ _ h => (h.2.1 i hi).2.2.1) kfJ0_9 (Or.inl rfl) dJ0_length_8abf5_1 rfl ?_
  refine T_tlen (fun _ _ h => (h.2.1 i hi).2.2.2.1) dJ0_length_8abf5_4 rfl ?_
  refine T_aload0 dJ0_length_8abf5_5 rfl ?_
  refine T_cV0 (c_J0_coder_7d493 hX hi) hX kJ0_335 (Or.inr (fun _ _ h => (h.2.1 i hi).1)) (by decide) (Nat.le_of_ble_eq_true rfl) dJ0_length_8abf5_6 rfl ?_
  rintro _ _ _ _ ⟨rfl, rfl, rfl, rfl⟩
  refine T_ishr dJ0_length_8abf5_9 rfl ?_
  refine T_iret rfl rfl dJ0_length_8abf5_10 ?_
  exact ⟨congrArg (fun z => some (Value.int z)) (shr0 _), rfl, rfl, rfl⟩
theorem c_J3_checkIndex {l : Launch} {D : va_G} {cA : Nat → ClassId} {n0 : Nat} {XW : State → Heap → Prop} {sz : Nat} {τ : TY} {M : ME} {j n : Nat} (hj : j < n) (hn : n < 2 ^ 31) (v : Value) (hv : v = .null ∨ ∃ t, v = .ref t) : CT l D cA n0 XW mJ3_checkIndex_8e157 1 0 0 sz τ M [.int (nI j), .int (nI n), v] (ROq (.int (nI j)) sz τ M) := by
  rcases hv with rfl | ⟨t, rfl⟩
  all_goals
    refine CT.of (ls := [_, _, _]) (by decide) (Nat.le_of_ble_eq_true rfl) rfl ?_
    refine T_iload0 dJ3_checkIndex_8e157_0 rfl ?_
    refine T_if_lt_f 9 4 dJ3_checkIndex_8e157_1 (by decide) rfl (nI_pos (by omega)) ?_
    refine T_iload0 dJ3_checkIndex_8e157_4 rfl ?_
    refine T_iload1 dJ3_checkIndex_8e157_5 rfl ?_
    refine T_icmp_lt_t 16 dJ3_checkIndex_8e157_6 (by decide) (nI_lt hj hn) ?_
    refine T_iload0 dJ3_checkIndex_8e157_16 rfl ?_
    exact T_iret rfl rfl dJ3_checkIndex_8e157_17 ⟨rfl, rfl, rfl, rfl⟩
set_option maxHeartbeats 1000000 in
theorem c_J0_checkIndex_df160 {l : Launch} {D : va_G} {cA : Nat → ClassId} {n0 : Nat} {sg adK adV : Nat → Nat} {sgA smA wdA bS LS : Nat} {xs : Nat → Int32} (hX : SF n0 (XW0 sg adK adV sgA smA wdA n0 bS LS xs)) {sz : Nat} {τ : TY} {M : ME} {j n : Nat} (hj : j < n) (hn : n < 2 ^ 31) : CT l D cA n0 (XW0 sg adK adV sgA smA wdA n0 bS LS xs) mJ0_checkIndex_df160 2 0 0 sz τ M [.int (nI j), .int (nI n)] (ROv sz τ M) := by
  refine CT.of (ls := [.int (nI j), .int (nI n)]) (by decide) (Nat.le_of_ble_eq_true rfl) rfl ?_
  refine T_iload0 dJ0_checkIndex_df160_0 rfl ?_
  refine T_iload1 dJ0_checkIndex_df160_1 rfl ?_
  refine T_getsQ (fun _ _ h => h.2.2.2.1.2.1) ksJ0_1053 dJ0_checkIndex_df160_2 rfl (fun v hv => ?_)
  refine T_cS3 (c_J3_checkIndex hj hn v hv) hX kJ0_1059 (by decide) (Nat.le_of_ble_eq_true rfl) dJ0_checkIndex_df160_5 rfl ?_
  rintro _ _ _ _ ⟨rfl, rfl, rfl, rfl⟩
  refine T_pop dJ0_checkIndex_df160_8 rfl rfl ?_
  refine T_vret rfl dJ0_checkIndex_df160_9 ?_
  exact ⟨rfl, rfl, rfl, rfl⟩
set_option maxHeartbeats 1000000 in
theorem c_J1_charAt_3b067 {l : Launch} {D : va_G} {cA : Nat → ClassId} {n0 : Nat} {sg adK adV : Nat → Nat} {sgA smA wdA bS LS : Nat} {xs : Nat → Int32} (hX : SF n0 (XW0 sg adK adV sgA smA wdA n0 bS LS xs)) {sz : Nat} {τ : TY} {M : ME} {i : Nat} (hi : i < 95) {j : Nat} (hj : j < stL.getD i 0) : CT l D cA n0 (XW0 sg adK adV sgA smA wdA n0 bS LS xs) mJ1_charAt_3b067 3 0 0 sz τ M [.ref (adV i), .int (nI j)] (ROq (.int (chF i j)) sz τ M) := by
  refine CT.of (ls := [.ref (adV i), .int (nI j)]) (by decide) (Nat.le_of_ble_eq_true rfl) rfl ?_
  refine T_iload1 dJ1_charAt_3b067_0 rfl ?_
  refine T_aload0 dJ1_charAt_3b067_1 rfl ?_
  refine T_tlen (fun _ _ h => (h.2.1 i hi).2.2.2.1) dJ1_charAt_3b067_2 rfl ?_
  refine T_cS2 (c_J0_checkIndex_df160 hX hj (by have := stL_64 i hi; omega)) hX kJ1_9 (by decide) (Nat.le_of_ble_eq_true rfl) dJ1_charAt_3b067_3 rfl ?_
  rintro _ _ _ _ ⟨rfl, rfl, rfl, rfl⟩
  refine T_aload0 dJ1_charAt_3b067_6 rfl ?_
  refine T_iload1 dJ1_charAt_3b067_7 rfl ?_
  refine T_tb j (fun _ _ h => (h.2.1 i hi).2.2.2.1) rfl hj (by have := stL_64 i hi; omega) rfl dJ1_charAt_3b067_8 rfl ?_
  refine T_sipush (255) dJ1_charAt_3b067_9 rfl rfl ?_
  refine T_iand dJ1_charAt_3b067_12 rfl ?_
  refine T_i2c dJ1_charAt_3b067_13 rfl ?_
  rw [show (((stB.getD i []).getD j 0 &&& 255).toUInt32 % 65536).toInt32 = chF i j from ch_ok i hi j hj]
  refine T_iret rfl (ch_nw hi hj) dJ1_charAt_3b067_14 ?_
  exact ⟨rfl, rfl, rfl, rfl⟩
set_option maxHeartbeats 1000000 in
theorem c_J0_charAt_5068e {l : Launch} {D : va_G} {cA : Nat → ClassId} {n0 : Nat} {sg adK adV : Nat → Nat} {sgA smA wdA bS LS : Nat} {xs : Nat → Int32} (hX : SF n0 (XW0 sg adK adV sgA smA wdA n0 bS LS xs)) {sz : Nat} {τ : TY} {M : ME} {i : Nat} (hi : i < 95) {j : Nat} (hj : j < stL.getD i 0) : CT l D cA n0 (XW0 sg adK adV sgA smA wdA n0 bS LS xs) mJ0_charAt_5068e 4 0 0 sz τ M [.ref (adK i), .int (nI j)] (ROq (.int (chF i j)) sz τ M) := by
  refine CT.of (ls := [.ref (adK i), .int (nI j)]) (by decide) (Nat.le_of_ble_eq_true rfl) rfl ?_
  refine T_aload0 dJ0_charAt_5068e_0 rfl ?_
  refine T_cV0 (c_J0_isLatin1_aae02 hX hi) hX kJ0_492 (Or.inr (fun _ _ h => (h.2.1 i hi).1)) (by decide) (Nat.le_of_ble_eq_true rfl) dJ0_charAt_5068e_1 rfl ?_
  rintro _ _ _ _ ⟨rfl, rfl, rfl, rfl⟩
  refine T_if_eq_f 16 7 dJ0_charAt_5068e_4 (by decide) rfl (by decide) ?_
  refine T_aload0 dJ0_charAt_5068e_7 rfl ?_
  refine T_getc (v := .ref (adV i)) (fun _ _ h => (h.2.1 i hi).2.2.1) kfJ0_9 (Or.inl rfl) dJ0_charAt_5068e_8 rfl ?_
  refine T_iload1 dJ0_charAt_5068e_11 rfl ?_
  refine T_cS2 (c_J1_charAt_3b067 hX hi hj) hX kJ0_495 (by decide) (Nat.le_of_ble_eq_true rfl) dJ0_charAt_5068e_12 rfl ?_
  rintro _ _ _ _ ⟨rfl, rfl, rfl, rfl⟩
  refine T_iret rfl (ch_nw hi hj) dJ0_charAt_5068e_15 ?_
  exact ⟨rfl, rfl, rfl, rfl⟩

