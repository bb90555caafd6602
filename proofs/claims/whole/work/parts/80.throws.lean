theorem at_ioobe : ∀ w ∈ vx_atS RX10 157 "java/lang/IndexOutOfBoundsException" ["java/lang/RuntimeException", "java/lang/Exception"], w ∈ lw_tbl ∧ isGW w = true ∧ vx_ot w = true := by decide +kernel
theorem site_checkIndex {sg adK adV : Nat → Nat} {sgA smA wdA n0 bS LS : Nat} {xs : Nat → Int32} {d : Nat} (hd : 6 ≤ d) : ∀ q ∈ mX10_checkIndex.2.2.2.2.2, SiteOK (XW0 sg adK adV sgA smA wdA n0 bS LS xs) n0 mX10_checkIndex d q.1 q.2 := by
  intro q hq
  have hq2 : q = (9, "java/lang/IndexOutOfBoundsException") := by simpa using hq
  subst hq2
  refine ⟨"there is no such number", ["java/lang/RuntimeException", "java/lang/Exception"], 153, 155, 157, adK 0, by decide, by decide, inGW (List.mem_of_getElem? (i := 830) (by decide +kernel)) (by decide +kernel), inGW (List.mem_of_getElem? (i := 135) (by decide +kernel)) (by decide +kernel), fun w hw => inGW (at_ioobe w hw).1 (at_ioobe w hw).2.1, fun w hw => ?_, fun U H h => ⟨(h.2.1 0 (by decide)).2.2.2.2, h.2.2.2.1.2.2.1, h.2.2.2.1.2.2.2.1⟩, dX10_checkIndex_9, dX10_checkIndex_12, dX10_checkIndex_13, dX10_checkIndex_15, dX10_checkIndex_18, by show 2 + 3 < d; omega, by show 13 * (2 + 1) + 51 ≤ 41 * d; omega⟩
  rcases List.mem_cons.mp hw with rfl | hw
  · decide
  · rcases List.mem_cons.mp hw with rfl | hw
    · decide
    · exact (at_ioobe w hw).2.2
