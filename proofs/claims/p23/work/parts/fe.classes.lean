/-! the classes at the start -/
theorem kArr_p {s : State} {args : Array Value} {ty : FieldType} (h : (Cond.arrayClass ty).before args s = true) : ∃ c : ClassId, ArrOfT s c ty ∧ s.vm.findClass ("[" ++ ty.toString) = some c := by
  obtain ⟨c, k, comp, h1, h2, h3⟩ := Cond.arrayClass_spec (args := args) (first := s) (o := none) (s := s) (idx := []) h
  exact ⟨c, fun n z => ⟨fun k h => (by cases h), k, h2, comp, h3⟩, h1⟩
theorem kArr_o {s : State} {args : Array Value} {C : String} (h : (Cond.arrayOver (.object C)).before args s = true) : ∃ c : ClassId, ArrOfT s c (.object C) ∧ va_RA s c (.object C) := by
  obtain ⟨comp, c, k, h1, h2, h3, h4, h5⟩ := Cond.arrayOver_spec (args := args) (first := s) (o := none) (s := s) (idx := []) h
  exact ⟨c, fun n z => ⟨fun k h => (by cases h), k, h3, comp, h4⟩, k, comp, h3, h4, h1, h5⟩
theorem kArr_a {s : State} {args : Array Value} {t : FieldType} (h : (Cond.arrayOver (.array t)).before args s = true) : ∃ c : ClassId, ArrOfT s c (.array t) ∧ s.vm.findClass ("[" ++ (FieldType.array t).toString) = some c := by
  obtain ⟨comp, c, k, h1, h2, h3, h4, h5⟩ := arrayOverA_spec (args := args) (first := s) (s := s) (o := none) (idx := []) h
  exact ⟨c, fun n z => ⟨fun k h => (by cases h), k, h3, comp, h4⟩, h5⟩
theorem xsel_ok {s : State} {b : Nat} (hts : ∀ w ∈ lw_tbl, w.before #[Value.ref b] s = true) : ∀ w ∈ xsel ++ lw_tbl, w.before #[Value.ref b] s = true := by
  have hT : ∀ (k : Nat) (c : Cond), lw_tbl[k]? = some c → c.before #[Value.ref b] s = true := fun k c h => hts c (List.mem_of_getElem? h)
  have h0 := hT 1254 (.selects RJ4 yJ5_isLatin1_aae02 yJ5_isLatin1_aae02) (by decide +kernel)
  have hi := hT 1361 (.instantiable RJ4 4) (by decide +kernel)
  intro w hw
  rcases List.mem_append.mp hw with h | h
  · simp only [xsel, List.mem_cons, List.not_mem_nil, or_false] at h
    rcases h with rfl | rfl | rfl | rfl
    · exact sel_priv ⟨by decide +kernel, by decide +kernel⟩ h0 rfl hi (hT 1221 (.privateMethod yJ5_ensureCapacityInternal_d00df) (by decide +kernel)) (hT 1222 (.instanceMethod yJ5_ensureCapacityInternal_d00df) (by decide +kernel))
    · exact sel_priv ⟨by decide +kernel, by decide +kernel⟩ h0 rfl hi (hT 1225 (.privateMethod yJ5_newCapacity_0f7a4) (by decide +kernel)) (hT 1226 (.instanceMethod yJ5_newCapacity_0f7a4) (by decide +kernel))
    · exact sel_priv ⟨by decide +kernel, by decide +kernel⟩ h0 rfl hi (hT 1274 (.privateMethod yJ5_putStringAt_47b60) (by decide +kernel)) (hT 1275 (.instanceMethod yJ5_putStringAt_47b60) (by decide +kernel))
    · exact sel_priv ⟨by decide +kernel, by decide +kernel⟩ h0 rfl hi (hT 1278 (.privateMethod yJ5_inflateIfNeededFor_a7421) (by decide +kernel)) (hT 1279 (.instanceMethod yJ5_inflateIfNeededFor_a7421) (by decide +kernel))
  · exact hts w h
set_option maxHeartbeats 4000000 in
theorem world_K {s : State} {b : Nat} (hts : ∀ w ∈ lw_tbl, w.before #[Value.ref b] s = true) : ∃ (D : va_G) (cA : Nat → ClassId), va_K D vwCl (tysL cA) s := by
  have hT : ∀ (k : Nat) (c : Cond), lw_tbl[k]? = some c → c.before #[Value.ref b] s = true := fun k c h => hts c (List.mem_of_getElem? h)
  have hG : ∀ w ∈ GW, w.before #[Value.ref b] s = true := fun w hw => xsel_ok hts w (List.mem_filter.mp hw).1
  obtain ⟨c0, i0, h0⟩ := u_known (C := RX1) (T := TX1) (N := 11) (n := 11) hG inWX1 (hT 127 (.instantiable RX1 11) (by decide +kernel))
  obtain ⟨c1, i1, h1⟩ := u_known (C := RX2) (T := TX2) (N := 5) (n := 5) hG inWX2 (hT 179 (.instantiable RX2 5) (by decide +kernel))
  obtain ⟨c2, i2, h2⟩ := u_known (C := RX3) (T := TX3) (N := 5) (n := 5) hG inWX3 (hT 252 (.instantiable RX3 5) (by decide +kernel))
  obtain ⟨c3, i3, h3⟩ := u_known (C := RX4) (T := TX4) (N := 8) (n := 8) hG inWX4 (hT 245 (.instantiable RX4 8) (by decide +kernel))
  obtain ⟨c4, i4, h4⟩ := u_known (C := RX5) (T := TX5) (N := 8) (n := 8) hG inWX5 (hT 312 (.instantiable RX5 8) (by decide +kernel))
  obtain ⟨c5, i5, h5⟩ := u_known (C := RX6) (T := TX6) (N := 9) (n := 9) hG inWX6 (hT 95 (.instantiable RX6 9) (by decide +kernel))
  obtain ⟨c6, i6, h6⟩ := u_known (C := RX8) (T := TX8) (N := 4) (n := 4) hG inWX8 (hT 102 (.instantiable RX8 4) (by decide +kernel))
  obtain ⟨c7, i7, h7⟩ := u_known (C := RX9) (T := TX9) (N := 6) (n := 6) hG inWX9 (hT 318 (.instantiable RX9 6) (by decide +kernel))
  obtain ⟨c8, i8, h8⟩ := u_known (C := RX10) (T := TX10) (N := 8) (n := 8) hG inWX10 (hT 87 (.instantiable RX10 8) (by decide +kernel))
  obtain ⟨c9, i9, h9⟩ := u_known (C := RX11) (T := TX11) (N := 8) (n := 8) hG inWX11 (hT 747 (.instantiable RX11 8) (by decide +kernel))
  obtain ⟨c10, i10, h10⟩ := u_known (C := RJ0) (T := TJ0) (N := 4) (n := 4) hG inWJ0 (hT 1387 (.instantiable RJ0 4) (by decide +kernel))
  obtain ⟨c11, i11, h11⟩ := u_known (C := RJ4) (T := TJ4) (N := 4) (n := 4) hG inWJ4 (hT 1361 (.instantiable RJ4 4) (by decide +kernel))
  obtain ⟨a0, f0, g0⟩ := kArr_p (ty := .int) (hT 310 (.arrayClass .int) (by decide +kernel))
  obtain ⟨a1, f1, g1⟩ := kArr_p (ty := .byte) (hT 124 (.arrayClass .byte) (by decide +kernel))
  obtain ⟨a2, f2, g2⟩ := kArr_p (ty := .long) (hT 349 (.arrayClass .long) (by decide +kernel))
  obtain ⟨a3, f3, g3⟩ := kArr_o (C := RX1) (hT 126 (.arrayOver (.object RX1)) (by decide +kernel))
  obtain ⟨a4, f4, g4⟩ := kArr_o (C := RX2) (hT 178 (.arrayOver (.object RX2)) (by decide +kernel))
  obtain ⟨a5, f5, g5⟩ := kArr_o (C := RX3) (hT 251 (.arrayOver (.object RX3)) (by decide +kernel))
  obtain ⟨a6, f6, g6⟩ := kArr_o (C := RX8) (hT 101 (.arrayOver (.object RX8)) (by decide +kernel))
  obtain ⟨a7, f7, g7⟩ := kArr_o (C := RX7) (hT 279 (.arrayOver (.object RX7)) (by decide +kernel))
  obtain ⟨a8, f8, g8⟩ := kArr_a (t := .int) (hT 1174 (.arrayOver (.array .int)) (by decide +kernel))
  refine ⟨(fun k => match k with | 0 => c0 | 1 => c1 | 2 => c2 | 3 => c3 | 4 => c4 | 5 => c5 | 6 => c6 | 7 => c7 | 8 => c8 | 9 => c9 | 10 => c10 | _ => c11, fun k => match k with | 0 => i0 | 1 => i1 | 2 => i2 | 3 => i3 | 4 => i4 | 5 => i5 | 6 => i6 | 7 => i7 | 8 => i8 | 9 => i9 | 10 => i10 | _ => i11), (fun k => match k with | 0 => a0 | 1 => a1 | 2 => a2 | 3 => a3 | 4 => a4 | 5 => a5 | 6 => a6 | 7 => a7 | _ => a8), ?_, ?_⟩
  · intro k q hq
    match k, hq with
    | 0, hq => cases hq; exact h0
    | 1, hq => cases hq; exact h1
    | 2, hq => cases hq; exact h2
    | 3, hq => cases hq; exact h3
    | 4, hq => cases hq; exact h4
    | 5, hq => cases hq; exact h5
    | 6, hq => cases hq; exact h6
    | 7, hq => cases hq; exact h7
    | 8, hq => cases hq; exact h8
    | 9, hq => cases hq; exact h9
    | 10, hq => cases hq; exact h10
    | 11, hq => cases hq; exact h11
    | k + 12, hq => simp [vwCl] at hq
  · intro k q hq
    match k, hq with
    | 0, hq => cases hq; exact ⟨f0, g0⟩
    | 1, hq => cases hq; exact ⟨f1, g1⟩
    | 2, hq => cases hq; exact ⟨f2, g2⟩
    | 3, hq => cases hq; exact ⟨f3, g3⟩
    | 4, hq => cases hq; exact ⟨f4, g4⟩
    | 5, hq => cases hq; exact ⟨f5, g5⟩
    | 6, hq => cases hq; exact ⟨f6, g6⟩
    | 7, hq => cases hq; exact ⟨f7, g7⟩
    | 8, hq => cases hq; exact ⟨f8, g8⟩
    | k + 9, hq => simp [tysL] at hq
theorem gw_start {w : Cond} (hw : w ∈ GW) {s : State} {args : Array Value} (h : w.before args s = true) : va_Nw w s := by
  have hg := gw_tab hw
  by_cases hq : goodWord w = true
  · exact word_at (State.WarmedH.refl s) (good_of_word hq) h
  · cases w <;> first | exact va_Nw.of rfl h | (simp [isGW, hq] at hg)
