theorem at_ioobe : ∀ w ∈ vx_atS RX10 157 "java/lang/IndexOutOfBoundsException" ["java/lang/RuntimeException", "java/lang/Exception"], w ∈ lw_tbl ∧ isGW w = true ∧ vx_ot w = true := by decide +kernel
theorem site_checkIndex {sg adK adV : Nat → Nat} {sgA smA wdA n0 bS LS : Nat} {xs : Nat → Int32} {d : Nat} (hd : 6 ≤ d) : ∀ q ∈ mX10_checkIndex.2.2.2.2.2, SiteOK (XW0 sg adK adV sgA smA wdA n0 bS LS xs) n0 mX10_checkIndex d q.1 q.2 := by
  intro q hq
  have hq2 : q = (9, "java/lang/IndexOutOfBoundsException") := by simpa using hq
  subst hq2
  refine ⟨"there is no such number", ["java/lang/RuntimeException", "java/lang/Exception"], 153, 155, 157, adK 0, by decide, by decide, inGW (List.mem_of_getElem? (i := 407) (by decide +kernel)) (by decide +kernel), inGW (List.mem_of_getElem? (i := 85) (by decide +kernel)) (by decide +kernel), fun w hw => inGW (at_ioobe w hw).1 (at_ioobe w hw).2.1, fun w hw => ?_, fun U H h => ⟨(h.2.1 0 (by decide)).2.2.2.2, h.2.2.2.1.2.2.1, h.2.2.2.1.2.2.2.1⟩, dX10_checkIndex_9, dX10_checkIndex_12, dX10_checkIndex_13, dX10_checkIndex_15, dX10_checkIndex_18, by show 2 + 3 < d; omega, by show 13 * (2 + 1) + 51 ≤ 41 * d; omega⟩
  rcases List.mem_cons.mp hw with rfl | hw
  · decide
  · rcases List.mem_cons.mp hw with rfl | hw
    · decide
    · exact (at_ioobe w hw).2.2
theorem at_iae : ∀ w ∈ vx_atS RX10 162 "java/lang/IllegalArgumentException" ["java/lang/RuntimeException", "java/lang/Exception"], w ∈ lw_tbl ∧ isGW w = true ∧ vx_ot w = true := by decide +kernel
theorem site_checkRange {sg adK adV : Nat → Nat} {sgA smA wdA n0 bS LS : Nat} {xs : Nat → Int32} {d : Nat} (hd : 6 ≤ d) : ∀ q ∈ mX10_checkRange.2.2.2.2.2, SiteOK (XW0 sg adK adV sgA smA wdA n0 bS LS xs) n0 mX10_checkRange d q.1 q.2 := by
  intro q hq
  have hq2 : q = (10, "java/lang/IllegalArgumentException") := by simpa using hq
  subst hq2
  refine ⟨"the number is out of its range", ["java/lang/RuntimeException", "java/lang/Exception"], 158, 160, 162, adK 1, by decide, by decide, inGW (List.mem_of_getElem? (i := 552) (by decide +kernel)) (by decide +kernel), inGW (List.mem_of_getElem? (i := 82) (by decide +kernel)) (by decide +kernel), fun w hw => inGW (at_iae w hw).1 (at_iae w hw).2.1, fun w hw => ?_, fun U H h => ⟨(h.2.1 1 (by decide)).2.2.2.2, h.2.2.2.1.2.2.1, h.2.2.2.1.2.2.2.1⟩, dX10_checkRange_10, dX10_checkRange_13, dX10_checkRange_14, dX10_checkRange_16, dX10_checkRange_19, by show 2 + 3 < d; omega, by show 13 * (2 + 1) + 51 ≤ 41 * d; omega⟩
  rcases List.mem_cons.mp hw with rfl | hw
  · decide
  · rcases List.mem_cons.mp hw with rfl | hw
    · decide
    · exact (at_iae w hw).2.2
theorem at_ise : ∀ w ∈ vx_atS RX10 53 "java/lang/IllegalStateException" ["java/lang/RuntimeException", "java/lang/Exception"], w ∈ lw_tbl ∧ isGW w = true ∧ vx_ot w = true := by decide +kernel
theorem site_feed {sg adK adV : Nat → Nat} {sgA smA wdA n0 bS LS : Nat} {xs : Nat → Int32} {d : Nat} (hd : 6 ≤ d) : ∀ q ∈ mX10_feed.2.2.2.2.2, SiteOK (XW0 sg adK adV sgA smA wdA n0 bS LS xs) n0 mX10_feed d q.1 q.2 := by
  intro q hq
  have hq2 : q = (10, "java/lang/IllegalStateException") := by simpa using hq
  subst hq2
  refine ⟨"the tape would be longer than 2000 bytes", ["java/lang/RuntimeException", "java/lang/Exception"], 49, 51, 53, adK 2, by decide, by decide, inGW (List.mem_of_getElem? (i := 863) (by decide +kernel)) (by decide +kernel), inGW (List.mem_of_getElem? (i := 83) (by decide +kernel)) (by decide +kernel), fun w hw => inGW (at_ise w hw).1 (at_ise w hw).2.1, fun w hw => ?_, fun U H h => ⟨(h.2.1 2 (by decide)).2.2.2.2, h.2.2.2.1.2.2.1, h.2.2.2.1.2.2.2.1⟩, dX10_feed_10, dX10_feed_13, dX10_feed_14, dX10_feed_16, dX10_feed_19, by show 2 + 3 < d; omega, by show 13 * (2 + 1) + 51 ≤ 41 * d; omega⟩
  rcases List.mem_cons.mp hw with rfl | hw
  · decide
  · rcases List.mem_cons.mp hw with rfl | hw
    · decide
    · exact (at_ise w hw).2.2
set_option maxHeartbeats 1000000 in
theorem c_X10_checkIndex {l : Launch} {D : va_G} {cA : Nat → ClassId} {n0 : Nat} {sg adK adV : Nat → Nat} {sgA smA wdA bS LS : Nat} {xs : Nat → Int32} (hX : SF n0 (XW0 sg adK adV sgA smA wdA n0 bS LS xs)) (hl : l.stackTraces = false) {sz : Nat} {τ : TY} {M : ME} (x y : Int32) : CX l D cA n0 (XW0 sg adK adV sgA smA wdA n0 bS LS xs) mX10_checkIndex 6 1 6 sz τ M [.int x, .int y] (fun v' sz' τ' M' => v' = none ∧ sz' = sz ∧ τ' = τ ∧ M' = M ∧ ¬ hasI x y = 0) (fun E sz' τ' M' => E = "java/lang/IndexOutOfBoundsException" ∧ sz' = sz ∧ τ' = τ ∧ M' = M ∧ hasI x y = 0) := by
  refine CX.of (ls := [.int x, .int y]) hl rfl ?_ (by decide) (Nat.le_of_ble_eq_true rfl) rfl ?_
  · exact site_checkIndex (by decide)
  refine T_iload0 dX10_checkIndex_0 rfl ?_
  refine T_if_lt 9 4 dX10_checkIndex_1 (by decide) rfl (fun c1 => ?_) (fun c1 => ?_)
  ·
    refine T_site (E := "java/lang/IndexOutOfBoundsException") (by decide) (Nat.le_of_ble_eq_true rfl) ?_
    first | exact ⟨rfl, rfl, rfl, rfl, hasI_f c1⟩ | exact ⟨rfl, rfl, rfl, rfl, (hasI_0b (Int32.not_lt.mp c6)).symm⟩
  ·
    refine T_iload0 dX10_checkIndex_4 rfl ?_
    refine T_iload1 dX10_checkIndex_5 rfl ?_
    refine T_icmp_lt 19 9 dX10_checkIndex_6 (by decide) rfl (fun c6 => ?_) (fun c6 => ?_)
    ·
      refine T_vret rfl dX10_checkIndex_19 ?_
      exact ⟨rfl, rfl, rfl, rfl, fun q => by rw [← hasI_1 c1 (Int32.not_le.mpr c6)] at q; exact absurd q (by decide)⟩
    ·
      refine T_site (E := "java/lang/IndexOutOfBoundsException") (by decide) (Nat.le_of_ble_eq_true rfl) ?_
      first | exact ⟨rfl, rfl, rfl, rfl, hasI_f c1⟩ | exact ⟨rfl, rfl, rfl, rfl, (hasI_0b (Int32.not_lt.mp c6)).symm⟩
set_option maxHeartbeats 1000000 in
theorem c_X10_checkRange {l : Launch} {D : va_G} {cA : Nat → ClassId} {n0 : Nat} {sg adK adV : Nat → Nat} {sgA smA wdA bS LS : Nat} {xs : Nat → Int32} (hX : SF n0 (XW0 sg adK adV sgA smA wdA n0 bS LS xs)) (hl : l.stackTraces = false) {sz : Nat} {τ : TY} {M : ME} (x y z : Int32) : CX l D cA n0 (XW0 sg adK adV sgA smA wdA n0 bS LS xs) mX10_checkRange 6 1 6 sz τ M [.int x, .int y, .int z] (fun v' sz' τ' M' => v' = none ∧ sz' = sz ∧ τ' = τ ∧ M' = M ∧ ¬ iiF x y z = 0) (fun E sz' τ' M' => E = "java/lang/IllegalArgumentException" ∧ sz' = sz ∧ τ' = τ ∧ M' = M ∧ iiF x y z = 0) := by
  refine CX.of (ls := [.int x, .int y, .int z]) hl rfl ?_ (by decide) (Nat.le_of_ble_eq_true rfl) rfl ?_
  · exact site_checkRange (by decide)
  refine T_iload0 dX10_checkRange_0 rfl ?_
  refine T_iload1 dX10_checkRange_1 rfl ?_
  refine T_icmp_lt 10 5 dX10_checkRange_2 (by decide) rfl (fun c1 => ?_) (fun c1 => ?_)
  ·
    refine T_site (E := "java/lang/IllegalArgumentException") (by decide) (Nat.le_of_ble_eq_true rfl) ?_
    refine ⟨rfl, rfl, rfl, rfl, if_neg (fun q => ?_)⟩
    first | exact Int32.not_le.mpr c1 q.1 | exact c6 q.2
  ·
    refine T_iload0 dX10_checkRange_5 rfl ?_
    refine T_iload2 dX10_checkRange_6 rfl ?_
    refine T_icmp_le 20 10 dX10_checkRange_7 (by decide) rfl (fun c6 => ?_) (fun c6 => ?_)
    ·
      refine T_vret rfl dX10_checkRange_20 ?_
      exact ⟨rfl, rfl, rfl, rfl, fun q => by rw [ii_1 (Int32.not_lt.mp c1) c6] at q; exact absurd q (by decide)⟩
    ·
      refine T_site (E := "java/lang/IllegalArgumentException") (by decide) (Nat.le_of_ble_eq_true rfl) ?_
      refine ⟨rfl, rfl, rfl, rfl, if_neg (fun q => ?_)⟩
      first | exact Int32.not_le.mpr c1 q.1 | exact c6 q.2

