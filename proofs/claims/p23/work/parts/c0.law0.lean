section SCR
variable {l : Launch} {D : va_G} {cA : Nat → ClassId} {n0 : Nat} {sg adK adV : Nat → Nat} {sgA smA wdA bS LS : Nat} {xs : Nat → Int32} {nm : MI} {d bk bn sz : Nat} {τ : TY} {M : ME} {Q : QT} {QX : QXT} {ls st : List Value} {pc pc' : Nat}
theorem T_sld {i : Int32} (j : Nat) (hi : i = nI j) (hj : j < LS) (hL : LS < 2 ^ 31) (hd : decode nm.cc pc = .ok (.iaload, 1)) (hp : pc + 1 = pc') (k : T l D cA n0 (XW0 sg adK adV sgA smA wdA n0 bS LS xs) nm d bk bn sz τ M pc' ls (.int (xs j) :: st) Q QX) : T l D cA n0 (XW0 sg adK adV sgA smA wdA n0 bS LS xs) nm d bk bn sz τ M pc ls (.int i :: .ref bS :: st) Q QX := by
  subst hp
  intro p e R s m args below meth c H locs cells slots mc ms la Z X hR hS g1 g2 hLv r1 r2 r3
  obtain ⟨hx, hb, hml, -, hown, hSW, hsz, -⟩ := id X
  obtain ⟨y1, y2⟩ := nI_in' hi hj hL
  have hb0 : bS < n0 := hSW.2.2.2.2.2.2.2.1
  refine va_sld hx hb hSW.2.2.2.2.2.2.1 (by omega) (fun q => by unfold AA at q; omega) hS y1 hd ?_
  rw [y2]
  exact k p e R s m args below meth c H locs cells slots mc ms la Z X hR hS g1 g2 hLv r1 r2 r3
theorem T_slenS (hd : decode nm.cc pc = .ok (.arraylength, 1)) (hp : pc + 1 = pc') (k : T l D cA n0 (XW0 sg adK adV sgA smA wdA n0 bS LS xs) nm d bk bn sz τ M pc' ls (.int (nI LS) :: st) Q QX) : T l D cA n0 (XW0 sg adK adV sgA smA wdA n0 bS LS xs) nm d bk bn sz τ M pc ls (.ref bS :: st) Q QX := by
  subst hp
  intro p e R s m args below meth c H locs cells slots mc ms la Z X hR hS g1 g2 hLv r1 r2 r3
  obtain ⟨hx, hb, hml, -, hown, hSW, hsz, -⟩ := id X
  have hb0 : bS < n0 := hSW.2.2.2.2.2.2.2.1
  exact va_slen hx hb hSW.2.2.2.2.2.2.1 (by omega) (fun q => by unfold AA at q; omega) hS hd (k p e R s m args below meth c H locs cells slots mc ms la Z X hR hS g1 g2 hLv r1 r2 r3)
end SCR
theorem and_nn (v : Int32) : ¬ v &&& 2147483647 < 0 := by
  have hm : (v &&& 2147483647).toBitVec.msb = false := by
    rw [Int32.toBitVec_and, BitVec.msb_and]
    have : (2147483647 : Int32).toBitVec.msb = false := by decide
    rw [this, Bool.and_false]
  rw [Int32.lt_iff_toInt_lt]
  have h2 : (v &&& 2147483647).toInt = (v &&& 2147483647).toBitVec.toInt := rfl
  rw [h2, BitVec.toInt_eq_msb_cond, hm]
  show ¬ (((v &&& 2147483647).toBitVec.toNat : Int) < 0)
  omega
/-- a number below n that v chooses -/
def blF (v : Int32) (n : Nat) : Nat := (v &&& 2147483647).toNatClampNeg % n
theorem bl_lt {v : Int32} {n : Nat} (h : 1 ≤ n) : blF v n < n := Nat.mod_lt _ h
theorem bl_eq {v : Int32} {n : Nat} (h : n < 2 ^ 31) : (v &&& 2147483647) - (v &&& 2147483647) / nI n * nI n = nI (blF v n) := by
  obtain ⟨j, hj, e⟩ := nI_of (and_nn v)
  unfold blF
  rw [e, nI_clamp hj]
  exact nI_mod hj h
def clF (LS : Nat) (xs : Nat → Int32) (k : Nat) : Int32 := if k < LS then xs k else 790386105 * (nI k + 3)
set_option maxHeartbeats 1000000 in
theorem c_L_below {l : Launch} {D : va_G} {cA : Nat → ClassId} {n0 : Nat} {sg adK adV : Nat → Nat} {sgA smA wdA bS LS : Nat} {xs : Nat → Int32} (hX : SF n0 (XW0 sg adK adV sgA smA wdA n0 bS LS xs)) {sz : Nat} {τ : TY} {M : ME} (v : Int32) {n : Nat} (hn : 1 ≤ n ∧ n < 2 ^ 31) : CT l D cA n0 (XW0 sg adK adV sgA smA wdA n0 bS LS xs) mL_below 1 0 0 sz τ M [.int v, .int (nI n)] (ROq (.int (nI (blF v n))) sz τ M) := by
  refine CT.of (ls := [.int v, .int (nI n)]) (by decide) (Nat.le_of_ble_eq_true rfl) rfl ?_
  refine T_iload0 dL_below_0 rfl ?_
  refine T_ldcI (inGW (List.mem_of_getElem? (i := 799) (by decide +kernel)) (by decide +kernel) : Cond.constant RL 7 2147483647 ∈ GW) dL_below_1 rfl ?_
  refine T_iand dL_below_3 rfl ?_
  refine T_iload1 dL_below_4 rfl ?_
  refine T_irem dL_below_5 rfl (fun q => by have := (nI_eq (a := n) (b := 0) (by omega) (by omega)).mp q; omega) ?_
  refine T_iret rfl rfl dL_below_6 ?_
  exact ⟨congrArg (fun w9 => some (Value.int w9)) (bl_eq hn.2), rfl, rfl, rfl⟩
set_option maxHeartbeats 1000000 in
theorem c_L_cell {l : Launch} {D : va_G} {cA : Nat → ClassId} {n0 : Nat} {sg adK adV : Nat → Nat} {sgA smA wdA bS LS : Nat} {xs : Nat → Int32} (hX : SF n0 (XW0 sg adK adV sgA smA wdA n0 bS LS xs)) {sz : Nat} {τ : TY} {M : ME} (hL : LS ≤ 260) {k : Nat} (hk : k < 2 ^ 30) : CT l D cA n0 (XW0 sg adK adV sgA smA wdA n0 bS LS xs) mL_cell 1 0 0 sz τ M [.ref bS, .int (nI k)] (ROq (.int (clF LS xs k)) sz τ M) := by
  refine CT.of (ls := [.ref bS, .int (nI k)]) (by decide) (Nat.le_of_ble_eq_true rfl) rfl ?_
  refine T_iload1 dL_cell_0 rfl ?_
  refine T_aload0 dL_cell_1 rfl ?_
  refine T_slenS dL_cell_2 rfl ?_
  refine T_icmp_ge 12 6 dL_cell_3 (by decide) rfl (fun c3 => ?_) (fun c3 => ?_)
  ·
    have c3 := (nI_leI (by omega) (by omega)).mp c3
    refine T_ldcI (inGW (List.mem_of_getElem? (i := 803) (by decide +kernel)) (by decide +kernel) : Cond.constant RL 8 790386105 ∈ GW) dL_cell_12 rfl ?_
    refine T_iload1 dL_cell_14 rfl ?_
    refine T_iconst (3) dL_cell_15 rfl rfl ?_
    refine T_iadd dL_cell_16 rfl ?_
    refine T_imul dL_cell_17 rfl ?_
    refine T_iret rfl rfl dL_cell_18 ?_
    refine ⟨congrArg (fun w9 => some (Value.int w9)) ?_, rfl, rfl, rfl⟩
    first | exact (if_pos c3).symm | exact (if_neg (Nat.not_lt.mpr c3)).symm
  ·
    have c3 : k < LS := Nat.lt_of_not_le (fun q => c3 ((nI_leI (by omega) (by omega)).mpr q))
    refine T_aload0 dL_cell_6 rfl ?_
    refine T_iload1 dL_cell_7 rfl ?_
    refine T_sld k rfl c3 (by omega) dL_cell_8 rfl ?_
    refine T_goto 18 dL_cell_9 (by decide) ?_
    refine T_iret rfl rfl dL_cell_18 ?_
    refine ⟨congrArg (fun w9 => some (Value.int w9)) ?_, rfl, rfl, rfl⟩
    first | exact (if_pos c3).symm | exact (if_neg (Nat.not_lt.mpr c3)).symm
