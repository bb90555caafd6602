def sgN : List String := ["STRETCH", "LONG", "SLOPE", "FROST", "HORSE", "PULL", "LINKS", "IRON", "BELL", "LOG", "WEIGHT", "HAUL", "WITH", "WHEN", "WAIT", "AT", "HOUR", "WEATHER", "PILE", "RAFT", "TIRED", "LOAD", "FALLEN", "NOT", "AND", "OR", "MIN", "MAX", "OPEN", "CLOSE", "OPEN_TEST", "CLOSE_TEST", "SEMICOLON", "COMMA", "PLUS", "MINUS", "TIMES", "OVER", "LESS", "MORE", "SAME", "AT_MOST", "AT_LEAST", "NAME", "NUMBER", "END", "BAD", "OPPOSITE"]
def sgK : List Int32 := [0, 0, 0, 0, 0, 0, 0, 0, 0, 0, 0, 0, 0, 0, 0, 0, 0, 0, 0, 0, 0, 0, 0, 1, 2, 2, 2, 2, 0, 0, 0, 0, 0, 0, 2, 2, 2, 2, 2, 2, 2, 2, 2, 0, 0, 0, 0, 1]
def sgT : List Nat := [57, 5, 6, 8, 58, 9, 10, 11, 12, 59, 13, 60, 14, 21, 61, 27, 62, 63, 64, 65, 66, 67, 68, 22, 25, 26, 69, 70, 16, 15, 23, 24, 28, 17, 20, 7, 18, 19, 71, 72, 73, 74, 75, 4, 4, 4, 4, 4]
def smV : List Int32 := [1, 0, 0, 14, 2, 0, 13, 0, 0, 3, 0, 4, 0, 0, 5, 0, 7, 8, 9, 10, 11, 12, 15, 29, 30, 31, 18, 19, 17, 0, 0, 0, 0, 0, 25, 16, 26, 27, 20, 21, 22, 23, 24, 0, 6, 0, 0, 28]
def stO : List (String × Nat × String) := [("FjordHaul", 155, "there is no such number"), ("FjordHaul", 51, "the tape would be longer than 2000 bytes"), ("FjordHaul", 160, "the number is out of its range"), ("FjordHaulModel", 102, "()[];,+-*/<>="), ("FjordHaul$Sign", 311, ""), ("FjordHaul$Sign", 182, "long"), ("FjordHaul$Sign", 185, "slope"), ("FjordHaul$Sign", 287, "-"), ("FjordHaul$Sign", 188, "frost"), ("FjordHaul$Sign", 194, "pull"), ("FjordHaul$Sign", 197, "links"), ("FjordHaul$Sign", 200, "iron"), ("FjordHaul$Sign", 203, "bell"), ("FjordHaul$Sign", 209, "weight"), ("FjordHaul$Sign", 215, "with"), ("FjordHaul$Sign", 269, ")"), ("FjordHaul$Sign", 266, "("), ("FjordHaul$Sign", 281, ","), ("FjordHaul$Sign", 290, "*"), ("FjordHaul$Sign", 293, "/"), ("FjordHaul$Sign", 284, "+"), ("FjordHaul$Sign", 218, "when"), ("FjordHaul$Sign", 248, "not"), ("FjordHaul$Sign", 272, "["), ("FjordHaul$Sign", 275, "]"), ("FjordHaul$Sign", 254, "and"), ("FjordHaul$Sign", 257, "or"), ("FjordHaul$Sign", 224, "at"), ("FjordHaul$Sign", 278, ";"), ("FjordHaulModel", 384, "stretch"), ("FjordHaulModel", 386, "long"), ("FjordHaulModel", 388, "slope"), ("FjordHaulModel", 389, "frost"), ("FjordHaulModel", 390, "horse"), ("FjordHaulModel", 392, "pull"), ("FjordHaulModel", 393, "links"), ("FjordHaulModel", 394, "iron"), ("FjordHaulModel", 395, "bell"), ("FjordHaulModel", 396, "log"), ("FjordHaulModel", 398, "weight"), ("FjordHaulModel", 399, "haul"), ("FjordHaulModel", 401, "with"), ("FjordHaulModel", 403, "when"), ("FjordHaulModel", 405, "wait"), ("FjordHaulModel", 407, "at"), ("FjordHaulModel", 408, "hour"), ("FjordHaulModel", 409, "weather"), ("FjordHaulModel", 410, "pile"), ("FjordHaulModel", 412, "raft"), ("FjordHaulModel", 414, "tired"), ("FjordHaulModel", 415, "load"), ("FjordHaulModel", 416, "fallen"), ("FjordHaulModel", 418, "not"), ("FjordHaulModel", 420, "and"), ("FjordHaulModel", 422, "or"), ("FjordHaulModel", 424, "min"), ("FjordHaulModel", 425, "max"), ("FjordHaul$Sign", 176, "stretch"), ("FjordHaul$Sign", 191, "horse"), ("FjordHaul$Sign", 206, "log"), ("FjordHaul$Sign", 212, "haul"), ("FjordHaul$Sign", 221, "wait"), ("FjordHaul$Sign", 227, "hour"), ("FjordHaul$Sign", 230, "weather"), ("FjordHaul$Sign", 233, "pile"), ("FjordHaul$Sign", 236, "raft"), ("FjordHaul$Sign", 239, "tired"), ("FjordHaul$Sign", 242, "load"), ("FjordHaul$Sign", 245, "fallen"), ("FjordHaul$Sign", 260, "min"), ("FjordHaul$Sign", 263, "max"), ("FjordHaul$Sign", 296, "<"), ("FjordHaul$Sign", 299, ">"), ("FjordHaul$Sign", 302, "="), ("FjordHaul$Sign", 305, "<="), ("FjordHaul$Sign", 308, ">=")]
def stL : List Nat := [23, 40, 30, 13, 0, 4, 5, 1, 5, 4, 5, 4, 4, 6, 4, 1, 1, 1, 1, 1, 1, 4, 3, 1, 1, 3, 2, 2, 1, 7, 4, 5, 5, 5, 4, 5, 4, 4, 3, 6, 4, 4, 4, 4, 2, 4, 7, 4, 4, 5, 4, 6, 3, 3, 2, 3, 3, 7, 5, 3, 4, 4, 4, 7, 4, 4, 5, 4, 6, 3, 3, 1, 1, 1, 2, 2]
def stB : List (List Int32) := [[116, 104, 101, 114, 101, 32, 105, 115, 32, 110, 111, 32, 115, 117, 99, 104, 32, 110, 117, 109, 98, 101, 114], [116, 104, 101, 32, 116, 97, 112, 101, 32, 119, 111, 117, 108, 100, 32, 98, 101, 32, 108, 111, 110, 103, 101, 114, 32, 116, 104, 97, 110, 32, 50, 48, 48, 48, 32, 98, 121, 116, 101, 115], [116, 104, 101, 32, 110, 117, 109, 98, 101, 114, 32, 105, 115, 32, 111, 117, 116, 32, 111, 102, 32, 105, 116, 115, 32, 114, 97, 110, 103, 101], [40, 41, 91, 93, 59, 44, 43, 45, 42, 47, 60, 62, 61], [], [108, 111, 110, 103], [115, 108, 111, 112, 101], [45], [102, 114, 111, 115, 116], [112, 117, 108, 108], [108, 105, 110, 107, 115], [105, 114, 111, 110], [98, 101, 108, 108], [119, 101, 105, 103, 104, 116], [119, 105, 116, 104], [41], [40], [44], [42], [47], [43], [119, 104, 101, 110], [110, 111, 116], [91], [93], [97, 110, 100], [111, 114], [97, 116], [59], [115, 116, 114, 101, 116, 99, 104], [108, 111, 110, 103], [115, 108, 111, 112, 101], [102, 114, 111, 115, 116], [104, 111, 114, 115, 101], [112, 117, 108, 108], [108, 105, 110, 107, 115], [105, 114, 111, 110], [98, 101, 108, 108], [108, 111, 103], [119, 101, 105, 103, 104, 116], [104, 97, 117, 108], [119, 105, 116, 104], [119, 104, 101, 110], [119, 97, 105, 116], [97, 116], [104, 111, 117, 114], [119, 101, 97, 116, 104, 101, 114], [112, 105, 108, 101], [114, 97, 102, 116], [116, 105, 114, 101, 100], [108, 111, 97, 100], [102, 97, 108, 108, 101, 110], [110, 111, 116], [97, 110, 100], [111, 114], [109, 105, 110], [109, 97, 120], [115, 116, 114, 101, 116, 99, 104], [104, 111, 114, 115, 101], [108, 111, 103], [104, 97, 117, 108], [119, 97, 105, 116], [104, 111, 117, 114], [119, 101, 97, 116, 104, 101, 114], [112, 105, 108, 101], [114, 97, 102, 116], [116, 105, 114, 101, 100], [108, 111, 97, 100], [102, 97, 108, 108, 101, 110], [109, 105, 110], [109, 97, 120], [60], [62], [61], [60, 61], [62, 61]]
def wdI : List Nat := [29, 30, 31, 32, 33, 34, 35, 36, 37, 38, 39, 40, 41, 42, 43, 44, 45, 46, 47, 48, 49, 50, 51, 52, 53, 54, 55, 56]
def XSg (sg adK : Nat → Nat) (n0 : Nat) (U : State) (H : Heap) : Prop := ∀ i, i < 48 → va_Z RX7 (sgN.getD i "") "LFjordHaul$Sign;" (.ref (sg i)) (AA n0) U H ∧ va_O RX7 (sg i) (AA n0) U H ∧ va_OF "java/lang/Enum" "ordinal" "I" (.int (nI i)) (sg i) (AA n0) U H ∧ va_OF RX7 "takes" "I" (.int (sgK.getD i 0)) (sg i) (AA n0) U H ∧ va_OF RX7 "text" "Ljava/lang/String;" (.ref (adK (sgT.getD i 0))) (sg i) (AA n0) U H
def XStr (adK adV : Nat → Nat) (n0 : Nat) (U : State) (H : Heap) : Prop := ∀ i, i < 76 → va_O "java/lang/String" (adK i) (AA n0) U H ∧ va_OF "java/lang/String" "coder" "B" (.int 0) (adK i) (AA n0) U H ∧ va_OF "java/lang/String" "value" "[B" (.ref (adV i)) (adK i) (AA n0) U H ∧ va_T .byte (adV i) (stL.getD i 0) (fun j => .int ((stB.getD i []).getD j 0)) (AA n0) U H ∧ vk_R (stO.getD i ("", 0, "")).1 (stO.getD i ("", 0, "")).2.1 (stO.getD i ("", 0, "")).2.2 (adK i) U
def XArr (sg adK : Nat → Nat) (sgA smA wdA n0 : Nat) (U : State) (H : Heap) : Prop := va_Z RX9 "SIGNS" "[LFjordHaul$Sign;" (.ref sgA) (AA n0) U H ∧ va_T (.object RX7) sgA 48 (fun j => .ref (sg j)) (AA n0) U H ∧ va_Z RX0 "$SwitchMap$FjordHaul$Sign" "[I" (.ref smA) (AA n0) U H ∧ va_T .int smA 48 (fun j => .int (smV.getD j 0)) (AA n0) U H ∧ va_Z RX13 "WORDS" "[Ljava/lang/String;" (.ref wdA) (AA n0) U H ∧ va_T (.object "java/lang/String") wdA 28 (fun j => .ref (adK (wdI.getD j 0))) (AA n0) U H
def XJdk (n0 : Nat) (U : State) (H : Heap) : Prop := va_Z "java/lang/String" "COMPACT_STRINGS" "Z" (.int 1) (AA n0) U H ∧ va_Zq "jdk/internal/util/Preconditions" "SIOOBE_FORMATTER" "Ljava/util/function/BiFunction;" (AA n0) U H ∧ vx_Zq Bundle.tN "UNASSIGNED_STACK" Bundle.steD (AA n0) U H ∧ vx_Zq Bundle.tN "SUPPRESSED_SENTINEL" Bundle.listD (AA n0) U H ∧ va_AO RX1 U ∧ va_AO RX2 U ∧ va_AO RX3 U ∧ va_AO RX8 U ∧ va_AO RX7 U
/-- all of it; b: the script of L ints xs -/
def XW0 (sg adK adV : Nat → Nat) (sgA smA wdA n0 b L : Nat) (xs : Nat → Int32) (U : State) (H : Heap) : Prop := XSg sg adK n0 U H ∧ XStr adK adV n0 U H ∧ XArr sg adK sgA smA wdA n0 U H ∧ XJdk n0 U H ∧ va_X b L xs U H ∧ b < n0 ∧ va_Nc "java/lang/IllegalArgumentException" "java/lang/IndexOutOfBoundsException" U ∧ va_Nc "java/lang/IndexOutOfBoundsException" "java/lang/IllegalArgumentException" U
section STATIC
variable {sg adK adV : Nat → Nat} {sgA smA wdA n0 b L : Nat} {xs : Nat → Int32}
theorem kp_of {n0 : Nat} {H H1 : Heap} (h : ∀ q : Nat, q < n0 → H1[q]? = H[q]?) : ∀ a : Nat, a < H.size → ¬ AA n0 a → H1[a]? = H[a]? := fun a _ h2 => h a (Nat.lt_of_not_le h2)
theorem XW0.sf : SF n0 (XW0 sg adK adV sgA smA wdA n0 b L xs) := by
  intro s U H H1 h hW hH
  have hk := kp_of hH
  have hv := hW.alike
  obtain ⟨h1, h2, ⟨a1, a2, a3, a4, a5, a6⟩, ⟨j1, j2, j3, j4, j5, j6, j7, j8, j9⟩, hx, hb, hn1, hn2⟩ := h
  refine ⟨fun i hi => ?_, fun i hi => ?_, ⟨(va_Z.moved hv a1).kept hk, (va_T.moved hv a2).kept hk, (va_Z.moved hv a3).kept hk, (va_T.moved hv a4).kept hk, (va_Z.moved hv a5).kept hk, (va_T.moved hv a6).kept hk⟩, ⟨(va_Z.moved hv j1).kept hk, ?_, (vx_Zq.moved hv j3).kept hk, (vx_Zq.moved hv j4).kept hk, va_AO.moved hv j5, va_AO.moved hv j6, va_AO.moved hv j7, va_AO.moved hv j8, va_AO.moved hv j9⟩, (va_X.moved hv hx).kept (hH b hb), hb, va_Nc.moved hv hn1, va_Nc.moved hv hn2⟩
  · obtain ⟨g1, g2, g3, g4, g5⟩ := h1 i hi
    exact ⟨(va_Z.moved hv g1).kept hk, (va_O.moved hv g2).kept hk, (va_OF.moved hv g3).kept hk, (va_OF.moved hv g4).kept hk, (va_OF.moved hv g5).kept hk⟩
  · obtain ⟨g1, g2, g3, g4, g5⟩ := h2 i hi
    exact ⟨(va_O.moved hv g1).kept hk, (va_OF.moved hv g2).kept hk, (va_OF.moved hv g3).kept hk, (va_T.moved hv g4).kept hk, vk_R.warm hW g5⟩
  · rcases j2 with j2 | ⟨t, j2⟩
    · exact Or.inl ((va_Z.moved hv j2).kept hk)
    · exact Or.inr ⟨t, (va_Z.moved hv j2).kept hk⟩
end STATIC
section SRULES
variable {l : Launch} {D : va_G} {cA : Nat → ClassId} {sg adK adV : Nat → Nat} {sgA smA wdA n0 b L : Nat} {xs : Nat → Int32} {nm : MI} {d bk bn sz : Nat} {τ : TY} {M : ME} {Q : QT} {QX : QXT} {ls st : List Value} {pc pc' idx : Nat}
theorem SG_o {i : Nat} (hi : i < 48) : ∀ (U : State) (H : Heap), XW0 sg adK adV sgA smA wdA n0 b L xs U H → va_O RX7 (sg i) (AA n0) U H := fun _ _ h => (h.1 i hi).2.1
theorem SG_inj {i j : Nat} {U : State} {H : Heap} (h : XW0 sg adK adV sgA smA wdA n0 b L xs U H) (hi : i < 48) (hj : j < 48) (e : sg i = sg j) : i = j := by
  obtain ⟨cf, k, fi, f, cell, h1, h2, h3, h4, h5, -⟩ := (h.1 i hi).2.2.1
  obtain ⟨cf', k', fi', f', cell', h1', h2', h3', h4', h5', -⟩ := (h.1 j hj).2.2.1
  rw [h1] at h1'
  obtain ⟨rfl, rfl, rfl, rfl⟩ : cf = cf' ∧ k = k' ∧ fi = fi' ∧ f = f' := by simpa using h1'
  rw [e] at h3
  rw [h3] at h3'
  cases h3'
  rw [h5] at h5'
  have h6 : nI i = nI j := by simpa using h5'
  exact (nI_eq (by omega) (by omega)).mp h6
/-- a constant of the enum -/
theorem T_sgn {i : Nat} (hi : i < 48) (hw : Cond.fieldLink nm.y.cls idx RX7 (sgN.getD i "") "LFjordHaul$Sign;" ∈ GW) (hd : decode nm.cc pc = .ok (.getstatic idx, 3)) (hp : pc + 3 = pc')
    (k : T l D cA n0 (XW0 sg adK adV sgA smA wdA n0 b L xs) nm d bk bn sz τ M pc' ls (.ref (sg i) :: st) Q QX) : T l D cA n0 (XW0 sg adK adV sgA smA wdA n0 b L xs) nm d bk bn sz τ M pc ls st Q QX := T_gets (fun _ _ h => (h.1 i hi).1) hw hd hp k
theorem T_tks {i : Nat} (hi : i < 48) (hw : Cond.fieldLink nm.y.cls idx RX7 "takes" "I" ∈ GW) (hd : decode nm.cc pc = .ok (.getfield idx, 3)) (hp : pc + 3 = pc')
    (k : T l D cA n0 (XW0 sg adK adV sgA smA wdA n0 b L xs) nm d bk bn sz τ M pc' ls (.int (sgK.getD i 0) :: st) Q QX) : T l D cA n0 (XW0 sg adK adV sgA smA wdA n0 b L xs) nm d bk bn sz τ M pc ls (.ref (sg i) :: st) Q QX := T_getc (fun _ _ h => (h.1 i hi).2.2.2.1) hw (Or.inl rfl) hd hp k
theorem T_txt {i : Nat} (hi : i < 48) (hw : Cond.fieldLink nm.y.cls idx RX7 "text" "Ljava/lang/String;" ∈ GW) (hd : decode nm.cc pc = .ok (.getfield idx, 3)) (hp : pc + 3 = pc')
    (k : T l D cA n0 (XW0 sg adK adV sgA smA wdA n0 b L xs) nm d bk bn sz τ M pc' ls (.ref (adK (sgT.getD i 0)) :: st) Q QX) : T l D cA n0 (XW0 sg adK adV sgA smA wdA n0 b L xs) nm d bk bn sz τ M pc ls (.ref (sg i) :: st) Q QX := T_getc (fun _ _ h => (h.1 i hi).2.2.2.2) hw (Or.inl rfl) hd hp k
theorem T_smap (hw : Cond.fieldLink nm.y.cls idx RX0 "$SwitchMap$FjordHaul$Sign" "[I" ∈ GW) (hd : decode nm.cc pc = .ok (.getstatic idx, 3)) (hp : pc + 3 = pc')
    (k : T l D cA n0 (XW0 sg adK adV sgA smA wdA n0 b L xs) nm d bk bn sz τ M pc' ls (.ref smA :: st) Q QX) : T l D cA n0 (XW0 sg adK adV sgA smA wdA n0 b L xs) nm d bk bn sz τ M pc ls st Q QX := T_gets (fun _ _ h => h.2.2.1.2.2.1) hw hd hp k
theorem T_smld {i : Nat} (hi : i < 48) (hd : decode nm.cc pc = .ok (.iaload, 1)) (hp : pc + 1 = pc')
    (k : T l D cA n0 (XW0 sg adK adV sgA smA wdA n0 b L xs) nm d bk bn sz τ M pc' ls (.int (smV.getD i 0) :: st) Q QX) : T l D cA n0 (XW0 sg adK adV sgA smA wdA n0 b L xs) nm d bk bn sz τ M pc ls (.int (nI i) :: .ref smA :: st) Q QX := T_ti i (fun _ _ h => h.2.2.1.2.2.2.1) rfl hi (by decide) rfl hd hp k
theorem c_ordinal {τ : TY} {M : ME} {sz i : Nat} (hi : i < 48) : CT l D cA n0 (XW0 sg adK adV sgA smA wdA n0 b L xs) mJx29ce0_ordinal_8abf5 1 0 0 sz τ M [.ref (sg i)] (ROq (.int (nI i)) sz τ M) := by
  refine CT.of (ls := [.ref (sg i)]) (by decide) (Nat.le_of_ble_eq_true rfl) rfl ?_
  refine T_aload0 dJx29ce0_ordinal_8abf5_0 rfl ?_
  refine T_getc (v := .int (nI i)) (fun _ _ h => (h.1 i hi).2.2.1) kfJx29ce0_7 (Or.inl rfl) dJx29ce0_ordinal_8abf5_1 rfl ?_
  exact T_iret rfl rfl dJx29ce0_ordinal_8abf5_4 ⟨rfl, rfl, rfl, rfl⟩
/-- ordinal(): the enum's constant calls Enum's own method -/
theorem T_ord {i : Nat} (hi : i < 48) (hw : Cond.methodLink nm.y.cls idx ⟨RX7, "ordinal", "()I"⟩ ∈ GW) (hdd : 2 ≤ d) (hcat : (st.map fun v => v.category).sum ≤ 8) (hd : decode nm.cc pc = .ok (.invokevirtual idx, 3)) (hp : pc + 3 = pc')
    (k : T l D cA n0 (XW0 sg adK adV sgA smA wdA n0 b L xs) nm d bk bn sz τ M pc' ls (.int (nI i) :: st) Q QX) : T l D cA n0 (XW0 sg adK adV sgA smA wdA n0 b L xs) nm d bk bn sz τ M pc ls (.ref (sg i) :: st) Q QX := by
  subst hp
  refine T_run (mc' := 0) (ms' := 0) (Q' := ROq (.int (nI i)) sz τ M) (rest := st) ?_ (fun v sz' τ' M' hq => ?_)
  · intro p e R s m args below meth c H locs cells slots mc ms la X hR hS h1 h2 hL
    obtain ⟨hx, hbc, hml, -, hown, hSW, hsz, -, -, hdR, hlR, hmc, hms, -⟩ := id X
    have hts := hSW.words (args := args)
    obtain ⟨cell, g1, g2, g3, -⟩ := (SG_o hi _ _ hSW.2.2).kept hS.2.1
    refine ⟨_, va_runU (C := RX7) (owner := "java/lang/Enum") (x := ⟨RX7, "ordinal", "()I"⟩) (Ts := GW) ⟨hx, hbc, hml, hown, hts⟩ (c_ordinal (τ := τ) (M := M) (sz := sz) hi) (va_cwU (Ts := GW) (ws' := []) 0 hts ?_ rfl rfl rfl rfl (by decide +kernel) ⟨?_, ?_⟩) ⟨PreM.blind XW0.sf _, ⟨cell, g1, g2, g3⟩, fun U hU hW => ⟨rfl, PreM.at XW0.sf hsz hSW hR hS hU hW⟩⟩ rfl (As := []) rfl hL rfl (by simpa [JFrame.monitorRoom] using hcat) hd ⟨by omega, by omega⟩⟩
    · intro w hw'
      simp only [va_wsU, List.mem_append, List.mem_cons, List.not_mem_nil, or_false] at hw'
      rcases hw' with (rfl | rfl | rfl | rfl | rfl) | rfl
      · exact ⟨hw, gw_good hw (by simp [isGW])⟩
      · exact ⟨(inGW (List.mem_of_getElem? (i := 580) (by decide +kernel)) (by decide +kernel)), gw_good (inGW (List.mem_of_getElem? (i := 580) (by decide +kernel)) (by decide +kernel)) (by simp [isGW])⟩
      · exact ⟨(inGW (List.mem_of_getElem? (i := 582) (by decide +kernel)) (by decide +kernel)), gw_good (inGW (List.mem_of_getElem? (i := 582) (by decide +kernel)) (by decide +kernel)) (by simp [isGW])⟩
      · exact ⟨(inGW (List.mem_of_getElem? (i := 583) (by decide +kernel)) (by decide +kernel)), gw_good (inGW (List.mem_of_getElem? (i := 583) (by decide +kernel)) (by decide +kernel)) (by simp [isGW])⟩
      · exact ⟨(inGW (List.mem_of_getElem? (i := 115) (by decide +kernel)) (by decide +kernel)), gw_good (inGW (List.mem_of_getElem? (i := 115) (by decide +kernel)) (by decide +kernel)) (by simp [isGW])⟩
      · exact ⟨(inGW (List.mem_of_getElem? (i := 584) (by decide +kernel)) (by decide +kernel)), gw_good (inGW (List.mem_of_getElem? (i := 584) (by decide +kernel)) (by decide +kernel)) (by simp [isGW])⟩
    · show 1 + 1 ≤ R.frames
      omega
    · show 8 + (1 + 11) + 41 * 1 ≤ R.locals
      omega
  · obtain ⟨rfl, rfl, rfl, rfl⟩ := hq
    exact k
end SRULES
