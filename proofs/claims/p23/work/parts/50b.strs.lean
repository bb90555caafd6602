/-- a text's bytes -/
def txB (s : List Nat) : Nat → Int32 := fun k => nI (s.getD k 0)
theorem fitsB {c : Nat} (h : c < 128) : fits .byte (.int (nI c)) = true := (by decide : ∀ c, c < 128 → fits .byte (.int (nI c)) = true) c h
theorem getD_128 {s : List Nat} (h : ∀ c ∈ s, c < 128) (k : Nat) : s.getD k 0 < 128 := by
  rw [List.getD_eq_getElem?_getD]
  cases hk : s[k]? with
  | none => simp
  | some c => simpa using h c (List.mem_of_getElem? hk)
theorem getD_out {s : List Nat} {k : Nat} (h : s.length ≤ k) : s.getD k 0 = 0 := by
  rw [List.getD_eq_getElem?_getD, List.getElem?_eq_none h]; rfl
theorem getD_appL {s u : List Nat} {k : Nat} (h : k < s.length) : (s ++ u).getD k 0 = s.getD k 0 := by
  rw [List.getD_eq_getElem?_getD, List.getD_eq_getElem?_getD, List.getElem?_append_left h]
theorem getD_appR {s u : List Nat} {k : Nat} (h : s.length ≤ k) : (s ++ u).getD k 0 = u.getD (k - s.length) 0 := by
  rw [List.getD_eq_getElem?_getD, List.getD_eq_getElem?_getD, List.getElem?_append_right h]
/-- a constant with the text s -/
def CSt (adK adV : Nat → Nat) (a v : Nat) (s : List Nat) : Prop := ∃ i, i < 95 ∧ a = adK i ∧ v = adV i ∧ s.length = stL.getD i 0 ∧ ∀ j, j < s.length → chF i j = nI (s.getD j 0)
/-- a string object at a with its bytes at v: a constant, or made -/
def ST (adK adV : Nat → Nat) (τ : TY) (M : ME) (a v : Nat) (s : List Nat) : Prop := (s.length ≤ 2000 ∧ ∀ c ∈ s, c < 128) ∧ (CSt adK adV a v s ∨ (τ a = (10, 0) ∧ τ v = (101, s.length) ∧ M a 0 = .ref v ∧ M a 1 = .int 0 ∧ ∀ j, j < s.length → M v j = .int (nI (s.getD j 0))))
/-- what was there before is as it was -/
def OLD (sz : Nat) (τ : TY) (M : ME) (τ' : TY) (M' : ME) : Prop := (∀ q, q < sz → τ' q = τ q) ∧ ∀ q, q < sz → M' q = M q
section STP
variable {l : Launch} {D : va_G} {cA : Nat → ClassId} {n0 : Nat} {sg adK adV : Nat → Nat} {sgA smA wdA bS LS : Nat} {xs : Nat → Int32} {nm : MI} {d bk bn sz : Nat} {τ : TY} {M : ME} {Q : QT} {QX : QXT} {ls st : List Value} {pc pc' : Nat} {a v : Nat} {s : List Nat}
theorem ST.lt (h : ST adK adV τ M a v s) : s.length ≤ 2000 := h.1.1
theorem ST.asc (h : ST adK adV τ M a v s) : ∀ c ∈ s, c < 128 := h.1.2
theorem ST.old {τ' : TY} {M' : ME} (h : ST adK adV τ M a v s) (ho : OLD sz τ M τ' M') (hd : CSt adK adV a v s ∨ (a < sz ∧ v < sz)) : ST adK adV τ' M' a v s := by
  rcases hd with hd | ⟨d1, d2⟩
  · exact ⟨h.1, Or.inl hd⟩
  · rcases h.2 with h1 | ⟨q1, q2, q3, q4, q5⟩
    · exact ⟨h.1, Or.inl h1⟩
    · exact ⟨h.1, Or.inr ⟨(ho.1 a d1).trans q1, (ho.1 v d2).trans q2, by rw [ho.2 a d1]; exact q3, by rw [ho.2 a d1]; exact q4, fun j hj => by rw [ho.2 v d2]; exact q5 j hj⟩⟩
theorem stc {i : Nat} {s : List Nat} (hi : i < 95) (h : s.length = stL.getD i 0 ∧ s.length ≤ 2000) (h2 : ∀ c ∈ s, c < 128) (h3 : ∀ j, j < s.length → chF i j = nI (s.getD j 0)) : ST adK adV τ M (adK i) (adV i) s := ⟨⟨h.2, h2⟩, Or.inl ⟨i, hi, rfl, rfl, h.1, h3⟩⟩
theorem stcC {i : Nat} {s : List Nat} (hi : i < 95) (h : s.length = stL.getD i 0) (h3 : ∀ j, j < s.length → chF i j = nI (s.getD j 0)) : CSt adK adV (adK i) (adV i) s := ⟨i, hi, rfl, rfl, h, h3⟩
theorem ST.rcv (h : ST adK adV τ M a v s) : Rcv D (XW0 sg adK adV sgA smA wdA n0 bS LS xs) n0 τ RJ0 a := by
  rcases h.2 with ⟨i, hi, rfl, -, -⟩ | ⟨h1, -⟩
  · exact Or.inr (fun _ _ h => (h.2.1 i hi).1)
  · exact Or.inl ⟨10, 0, _, _, h1, by decide, rfl⟩
theorem ST.src (h : ST adK adV τ M a v s) : Src D cA n0 (XW0 sg adK adV sgA smA wdA n0 bS LS xs) sz τ M v s.length (txB s) := by
  rcases h.2 with ⟨i, hi, -, rfl, hl, hc⟩ | ⟨-, h2, -, -, h5⟩
  · rw [hl] at hc ⊢
    intro s' H locs hSW hR hS
    obtain ⟨cs, g1, g2, g3, g4, g5, g6⟩ := Src.cst (D := D) (cA := cA) (sz := sz) (τ := τ) (M := M) (XW := XW0 sg adK adV sgA smA wdA n0 bS LS xs) (f := chF i) (fun _ _ h => (h.2.1 i hi).2.2.2.1) s' H locs hSW hR hS
    exact ⟨cs, g1, g2, g3, g4, g5, fun j hj => (g6 j hj).trans (by rw [hc j hj]; rfl)⟩
  · exact Src.arr h2 h5
theorem T_sval (h : ST adK adV τ M a v s) (ho : nm.y.cls = RJ0) (hd : decode nm.cc pc = .ok (.getfield 9, 3)) (hp : pc + 3 = pc') (k : T l D cA n0 (XW0 sg adK adV sgA smA wdA n0 bS LS xs) nm d bk bn sz τ M pc' ls (.ref v :: st) Q QX) : T l D cA n0 (XW0 sg adK adV sgA smA wdA n0 bS LS xs) nm d bk bn sz τ M pc ls (.ref a :: st) Q QX := by
  rcases h.2 with ⟨i, hi, rfl, rfl, -⟩ | ⟨h1, -, h3, -⟩
  · exact T_getc (v := .ref (adV i)) (fun _ _ h => (h.2.1 i hi).2.2.1) (by rw [ho]; exact kfJ0_9) (Or.inl rfl) hd hp k
  · exact gJ0_9 _ ho h1 h3 hd hp k
theorem T_scod (h : ST adK adV τ M a v s) (ho : nm.y.cls = RJ0) (hd : decode nm.cc pc = .ok (.getfield 15, 3)) (hp : pc + 3 = pc') (k : T l D cA n0 (XW0 sg adK adV sgA smA wdA n0 bS LS xs) nm d bk bn sz τ M pc' ls (.int 0 :: st) Q QX) : T l D cA n0 (XW0 sg adK adV sgA smA wdA n0 bS LS xs) nm d bk bn sz τ M pc ls (.ref a :: st) Q QX := by
  rcases h.2 with ⟨i, hi, rfl, rfl, -⟩ | ⟨h1, -, -, h4, -⟩
  · exact T_getc (v := .int 0) (fun _ _ h => (h.2.1 i hi).2.1) (by rw [ho]; exact kfJ0_15) (Or.inl rfl) hd hp k
  · exact gJ0_15 _ ho h1 h4 hd hp k
theorem T_slen (h : ST adK adV τ M a v s) (hd : decode nm.cc pc = .ok (.arraylength, 1)) (hp : pc + 1 = pc') (k : T l D cA n0 (XW0 sg adK adV sgA smA wdA n0 bS LS xs) nm d bk bn sz τ M pc' ls (.int (nI s.length) :: st) Q QX) : T l D cA n0 (XW0 sg adK adV sgA smA wdA n0 bS LS xs) nm d bk bn sz τ M pc ls (.ref v :: st) Q QX := by
  rcases h.2 with ⟨i, hi, -, rfl, hl, -⟩ | ⟨-, h2, -⟩
  · rw [hl] at k
    exact T_tlen (fun _ _ h => (h.2.1 i hi).2.2.2.1) hd hp k
  · exact T_alen (j := 1) h2 (by decide) hd hp k
theorem T_sbl {j : Nat} (h : ST adK adV τ M a v s) (hj : j < s.length) (hd : decode nm.cc pc = .ok (.baload, 1)) (hp : pc + 1 = pc') (k : T l D cA n0 (XW0 sg adK adV sgA smA wdA n0 bS LS xs) nm d bk bn sz τ M pc' ls (.int (nI (s.getD j 0)) :: st) Q QX) : T l D cA n0 (XW0 sg adK adV sgA smA wdA n0 bS LS xs) nm d bk bn sz τ M pc ls (.int (nI j) :: .ref v :: st) Q QX := by
  have hlt := h.lt
  rcases h.2 with ⟨i, hi, -, rfl, hl, hc⟩ | ⟨-, h2, -, -, h5⟩
  · exact T_tb (N := stL.getD i 0) (f := fun j => .int (chF i j)) j (fun _ _ h => (h.2.1 i hi).2.2.2.1) rfl (by omega) (by omega) (by rw [← hc j hj]) hd hp k
  · exact T_bald j h2 rfl hj (by omega) hd hp (h5 j hj) k
theorem shl0 (x : Int32) : x <<< ((0 : Int32) &&& 31) = x := by
  show x <<< (0 : Int32) = x
  simp
end STP
set_option maxHeartbeats 1000000 in
theorem s_coder {l : Launch} {D : va_G} {cA : Nat → ClassId} {n0 : Nat} {sg adK adV : Nat → Nat} {sgA smA wdA bS LS : Nat} {xs : Nat → Int32} (hX : SF n0 (XW0 sg adK adV sgA smA wdA n0 bS LS xs)) {sz : Nat} {τ : TY} {M : ME} {a v : Nat} {s : List Nat} (hs : ST adK adV τ M a v s) : CT l D cA n0 (XW0 sg adK adV sgA smA wdA n0 bS LS xs) mJ0_coder_7d493 1 0 0 sz τ M [.ref a] (ROq (.int (0)) sz τ M) := by
  refine CT.of (ls := [.ref a]) (by decide) (Nat.le_of_ble_eq_true rfl) rfl ?_
  refine T_gets (v := .int 1) (fun _ _ h => h.2.2.2.1.1) ksJ0_38 dJ0_coder_7d493_0 rfl ?_
  refine T_if_eq_f 13 6 dJ0_coder_7d493_3 (by decide) rfl (by decide) ?_
  refine T_aload0 dJ0_coder_7d493_6 rfl ?_
  refine T_scod hs rfl dJ0_coder_7d493_7 rfl ?_
  refine T_goto 14 dJ0_coder_7d493_10 (by decide) ?_
  refine T_iret rfl rfl dJ0_coder_7d493_14 ?_
  exact ⟨rfl, rfl, rfl, rfl⟩
set_option maxHeartbeats 1000000 in
theorem s_isLatin1 {l : Launch} {D : va_G} {cA : Nat → ClassId} {n0 : Nat} {sg adK adV : Nat → Nat} {sgA smA wdA bS LS : Nat} {xs : Nat → Int32} (hX : SF n0 (XW0 sg adK adV sgA smA wdA n0 bS LS xs)) {sz : Nat} {τ : TY} {M : ME} {a v : Nat} {s : List Nat} (hs : ST adK adV τ M a v s) : CT l D cA n0 (XW0 sg adK adV sgA smA wdA n0 bS LS xs) mJ0_isLatin1_aae02 1 0 0 sz τ M [.ref a] (ROq (.int (1)) sz τ M) := by
  refine CT.of (ls := [.ref a]) (by decide) (Nat.le_of_ble_eq_true rfl) rfl ?_
  refine T_gets (v := .int 1) (fun _ _ h => h.2.2.2.1.1) ksJ0_38 dJ0_isLatin1_aae02_0 rfl ?_
  refine T_if_eq_f 17 6 dJ0_isLatin1_aae02_3 (by decide) rfl (by decide) ?_
  refine T_aload0 dJ0_isLatin1_aae02_6 rfl ?_
  refine T_scod hs rfl dJ0_isLatin1_aae02_7 rfl ?_
  refine T_if_ne_f 17 13 dJ0_isLatin1_aae02_10 (by decide) rfl (by decide) ?_
  refine T_iconst (1) dJ0_isLatin1_aae02_13 rfl rfl ?_
  refine T_goto 18 dJ0_isLatin1_aae02_14 (by decide) ?_
  refine T_iret rfl rfl dJ0_isLatin1_aae02_18 ?_
  exact ⟨rfl, rfl, rfl, rfl⟩
set_option maxHeartbeats 1000000 in
theorem s_length {l : Launch} {D : va_G} {cA : Nat → ClassId} {n0 : Nat} {sg adK adV : Nat → Nat} {sgA smA wdA bS LS : Nat} {xs : Nat → Int32} (hX : SF n0 (XW0 sg adK adV sgA smA wdA n0 bS LS xs)) {sz : Nat} {τ : TY} {M : ME} {a v : Nat} {s : List Nat} (hs : ST adK adV τ M a v s) : CT l D cA n0 (XW0 sg adK adV sgA smA wdA n0 bS LS xs) mJ0_length_8abf5 2 0 0 sz τ M [.ref a] (ROq (.int (nI s.length)) sz τ M) := by
  refine CT.of (ls := [.ref a]) (by decide) (Nat.le_of_ble_eq_true rfl) rfl ?_
  refine T_aload0 dJ0_length_8abf5_0 rfl ?_
  refine T_sval hs rfl dJ0_length_8abf5_1 rfl ?_
  refine T_slen hs dJ0_length_8abf5_4 rfl ?_
  refine T_aload0 dJ0_length_8abf5_5 rfl ?_
  refine T_cV0 (s_coder hX hs) hX kJ0_335 hs.rcv (by decide) (Nat.le_of_ble_eq_true rfl) dJ0_length_8abf5_6 rfl ?_
  rintro _ _ _ _ ⟨rfl, rfl, rfl, rfl⟩
  refine T_ishr dJ0_length_8abf5_9 rfl ?_
  refine T_iret rfl rfl dJ0_length_8abf5_10 ?_
  exact ⟨congrArg (fun w9 => some (Value.int w9)) (shr0 _), rfl, rfl, rfl⟩
theorem ch_ok2 {c : Nat} (h : c < 128) : ((nI c &&& 255).toUInt32 % 65536).toInt32 = nI c ∧ narrow .char (.int (nI c)) = .int (nI c) := (by decide +kernel : ∀ c, c < 128 → ((nI c &&& 255).toUInt32 % 65536).toInt32 = nI c ∧ narrow .char (.int (nI c)) = .int (nI c)) c h
set_option maxHeartbeats 1000000 in
theorem s_charAt1 {l : Launch} {D : va_G} {cA : Nat → ClassId} {n0 : Nat} {sg adK adV : Nat → Nat} {sgA smA wdA bS LS : Nat} {xs : Nat → Int32} (hX : SF n0 (XW0 sg adK adV sgA smA wdA n0 bS LS xs)) {sz : Nat} {τ : TY} {M : ME} {a v : Nat} {s : List Nat} (hs : ST adK adV τ M a v s) {j : Nat} (hj : j < s.length) : CT l D cA n0 (XW0 sg adK adV sgA smA wdA n0 bS LS xs) mJ1_charAt_3b067 3 0 0 sz τ M [.ref v, .int (nI j)] (ROq (.int (nI (s.getD j 0))) sz τ M) := by
  refine CT.of (ls := [.ref v, .int (nI j)]) (by decide) (Nat.le_of_ble_eq_true rfl) rfl ?_
  have hlt := hs.lt
  have hc1 := ch_ok2 (getD_128 hs.asc j)
  refine T_iload1 dJ1_charAt_3b067_0 rfl ?_
  refine T_aload0 dJ1_charAt_3b067_1 rfl ?_
  refine T_slen hs dJ1_charAt_3b067_2 rfl ?_
  refine T_cS2 (c_J0_checkIndex_df160 hX hj (by omega)) hX kJ1_9 (by decide) (Nat.le_of_ble_eq_true rfl) dJ1_charAt_3b067_3 rfl ?_
  rintro _ _ _ _ ⟨rfl, rfl, rfl, rfl⟩
  refine T_aload0 dJ1_charAt_3b067_6 rfl ?_
  refine T_iload1 dJ1_charAt_3b067_7 rfl ?_
  refine T_sbl hs hj dJ1_charAt_3b067_8 rfl ?_
  refine T_sipush (255) dJ1_charAt_3b067_9 rfl rfl ?_
  refine T_iand dJ1_charAt_3b067_12 rfl ?_
  refine T_i2c dJ1_charAt_3b067_13 rfl ?_
  rw [hc1.1]
  refine T_iret rfl hc1.2 dJ1_charAt_3b067_14 ?_
  exact ⟨rfl, rfl, rfl, rfl⟩
set_option maxHeartbeats 1000000 in
theorem s_charAt {l : Launch} {D : va_G} {cA : Nat → ClassId} {n0 : Nat} {sg adK adV : Nat → Nat} {sgA smA wdA bS LS : Nat} {xs : Nat → Int32} (hX : SF n0 (XW0 sg adK adV sgA smA wdA n0 bS LS xs)) {sz : Nat} {τ : TY} {M : ME} {a v : Nat} {s : List Nat} (hs : ST adK adV τ M a v s) {j : Nat} (hj : j < s.length) : CT l D cA n0 (XW0 sg adK adV sgA smA wdA n0 bS LS xs) mJ0_charAt_5068e 4 0 0 sz τ M [.ref a, .int (nI j)] (ROq (.int (nI (s.getD j 0))) sz τ M) := by
  refine CT.of (ls := [.ref a, .int (nI j)]) (by decide) (Nat.le_of_ble_eq_true rfl) rfl ?_
  have hlt := hs.lt
  have hc1 := ch_ok2 (getD_128 hs.asc j)
  refine T_aload0 dJ0_charAt_5068e_0 rfl ?_
  refine T_cV0 (s_isLatin1 hX hs) hX kJ0_492 hs.rcv (by decide) (Nat.le_of_ble_eq_true rfl) dJ0_charAt_5068e_1 rfl ?_
  rintro _ _ _ _ ⟨rfl, rfl, rfl, rfl⟩
  refine T_if_eq_f 16 7 dJ0_charAt_5068e_4 (by decide) rfl (by decide) ?_
  refine T_aload0 dJ0_charAt_5068e_7 rfl ?_
  refine T_sval hs rfl dJ0_charAt_5068e_8 rfl ?_
  refine T_iload1 dJ0_charAt_5068e_11 rfl ?_
  refine T_cS2 (s_charAt1 hX hs hj) hX kJ0_495 (by decide) (Nat.le_of_ble_eq_true rfl) dJ0_charAt_5068e_12 rfl ?_
  rintro _ _ _ _ ⟨rfl, rfl, rfl, rfl⟩
  refine T_iret rfl hc1.2 dJ0_charAt_5068e_15 ?_
  exact ⟨rfl, rfl, rfl, rfl⟩
set_option maxHeartbeats 1000000 in
theorem s_getBytes {l : Launch} {D : va_G} {cA : Nat → ClassId} {n0 : Nat} {sg adK adV : Nat → Nat} {sgA smA wdA bS LS : Nat} {xs : Nat → Int32} (hX : SF n0 (XW0 sg adK adV sgA smA wdA n0 bS LS xs)) {sz : Nat} {τ : TY} {M : ME} {a v : Nat} {s : List Nat} (hs : ST adK adV τ M a v s) {a2 n2 off : Nat} (h2 : τ a2 = (101, n2)) (ho : off + s.length ≤ n2) (hn2 : n2 ≤ 6000) : CT l D cA n0 (XW0 sg adK adV sgA smA wdA n0 bS LS xs) mJ0_getBytes_840e7 2 0 0 sz τ M [.ref a, .ref a2, .int (nI off), .int 0] (fun v' sz' τ' M' => v' = none ∧ sz' = sz ∧ τ' = τ ∧ M' = cbM M (txB s) a2 0 off s.length) := by
  refine CT.of (ls := [.ref a, .ref a2, .int (nI off), .int 0]) (by decide) (Nat.le_of_ble_eq_true rfl) rfl ?_
  have hlt := hs.lt
  refine T_aload0 dJ0_getBytes_840e7_0 rfl ?_
  refine T_cV0 (s_coder hX hs) hX kJ0_335 hs.rcv (by decide) (Nat.le_of_ble_eq_true rfl) dJ0_getBytes_840e7_1 rfl ?_
  rintro _ _ _ _ ⟨rfl, rfl, rfl, rfl⟩
  refine T_iload3 dJ0_getBytes_840e7_4 rfl ?_
  refine T_icmp_ne_f 28 8 dJ0_getBytes_840e7_5 (by decide) rfl (by decide) ?_
  refine T_aload0 dJ0_getBytes_840e7_8 rfl ?_
  refine T_sval hs rfl dJ0_getBytes_840e7_9 rfl ?_
  refine T_iconst (0) dJ0_getBytes_840e7_12 rfl rfl ?_
  refine T_aload1 dJ0_getBytes_840e7_13 rfl ?_
  refine T_iload2 dJ0_getBytes_840e7_14 rfl ?_
  refine T_iload3 dJ0_getBytes_840e7_15 rfl ?_
  refine T_ishl dJ0_getBytes_840e7_16 rfl ?_
  refine T_aload0 dJ0_getBytes_840e7_17 rfl ?_
  refine T_sval hs rfl dJ0_getBytes_840e7_18 rfl ?_
  refine T_slen hs dJ0_getBytes_840e7_21 rfl ?_
  refine T_cpb (f := txB s) (sp := 0) (dp := off) (w := s.length) hs.src (fun j _ => fitsB (getD_128 hs.asc j)) rfl (shl0 _) rfl h2 (by omega) (by omega) (by omega) (by omega) kxJ0_212 (by decide) (Nat.le_of_ble_eq_true rfl) dJ0_getBytes_840e7_22 rfl ?_
  refine T_goto 43 dJ0_getBytes_840e7_25 (by decide) ?_
  refine T_vret rfl dJ0_getBytes_840e7_43 ?_
  exact ⟨rfl, rfl, rfl, rfl⟩
