theorem gw_good {w : Cond} (h : w ∈ GW) (hn : isGW w = goodWord w) : (w.onTables && w.keeps) = true ∨ ∃ ty, w = .arrayClass ty := good_of_word (hn ▸ gw_tab h)
/-- what the tables say of a callee -/
def WB (nm : MI) (n : Nat) : Prop := Cond.initialized nm.y.cls ∈ GW ∧ Cond.code nm.y nm.cc nm.nL nm.ret ∈ GW ∧ nm.y.cls ≠ "java/lang/invoke/MethodHandle" ∧ nm.y.cls ≠ "java/lang/invoke/VarHandle" ∧ (parseMethodDescriptor nm.y.desc).map (fun d => d.parameters.length) = some n ∧ nm.nL ≤ 22
def WV (nm : MI) (own : String) (idx n : Nat) : Prop := WB nm n ∧ Cond.methodLink own idx nm.y ∈ GW ∧ Cond.instanceMethod nm.y ∈ GW ∧ Cond.selects nm.y.cls nm.y nm.y ∈ GW
def WS (nm : MI) (own : String) (idx n : Nat) : Prop := WB nm n ∧ Cond.methodLink own idx nm.y ∈ GW ∧ Cond.static nm.y ∈ GW
def WI (nm : MI) (own : String) (idx n : Nat) : Prop := WB nm n ∧ Cond.methodLink own idx nm.y ∈ GW ∧ Cond.instanceMethod nm.y ∈ GW ∧ nm.y.name = "<init>" ∧ nm.ret = none
def WIN (nm : MI) (own : String) (idx n : Nat) (host : String) : Prop := WB nm n ∧ Cond.methodLinkNest own idx nm.y host ∈ GW ∧ Cond.instanceMethod nm.y ∈ GW ∧ nm.y.name = "<init>" ∧ nm.ret = none
def WVN (nm : MI) (own : String) (idx n : Nat) (host : String) : Prop := WB nm n ∧ Cond.methodLinkNest own idx nm.y host ∈ GW ∧ Cond.instanceMethod nm.y ∈ GW ∧ Cond.selects nm.y.cls nm.y nm.y ∈ GW
def WSN (nm : MI) (own : String) (idx n : Nat) (host : String) : Prop := WB nm n ∧ Cond.methodLinkNest own idx nm.y host ∈ GW ∧ Cond.static nm.y ∈ GW
section CALL
variable {l : Launch} {D : va_G} {cA : Nat → ClassId} {n0 : Nat} {XW : State → Heap → Prop} {nm nm' : MI} {d d' bk bn mc' ms' sz : Nat} {τ : TY} {M : ME} {Q Q' : QT} {QX QX' : QXT} {ls st rest As : List Value} {pc pc' idx n : Nat}
theorem PreM.blind (hX : SF n0 XW) (av : List Value) : FrameBlind (va_Pc av (PreM D cA n0 XW sz τ M)) := by
  intro a U g mk h
  obtain ⟨h1, h2, h3, h4⟩ := h
  exact ⟨h1, SW.sf hX U (U.calling g mk a) U.heap (U.calling g mk a).heap h2 (State.WarmedH.refl U) (fun q _ => rfl), h3, h4⟩
theorem PreM.at {s U : State} {H : Heap} {locs : List Loc} (hX : SF n0 XW) (hS0 : n0 ≤ s.heap.size) (hSW : SW D cA XW s s.heap) (hR : Rep D cA n0 sz τ M H) (hS : va_S (AA n0) s.heap H locs) (hU : U.heap = H) (hW : s.WarmedH U.vm) : PreM D cA n0 XW sz τ M U := by
  refine ⟨SW.sf hX s U s.heap U.heap hSW hW (fun q hq => ?_), hU ▸ hR, ?_⟩
  · rw [hU]
    exact hS.2.1 q (by omega) (fun h => by unfold AA at h; omega)
  · rw [hU]
    exact Nat.le_trans hS0 hS.1
theorem va_S.after {s st₀ t T' : State} {H : Heap} {locs L : List Loc} (hS0 : n0 ≤ s.heap.size) (hS : va_S (AA n0) s.heap H locs) (h0 : st₀.heap = H) (hk : KeepM n0 st₀ t) (e1 : T'.heap = t.heap) (hL : ∀ q ∈ L, AA n0 q.base) : va_S (AA n0) s.heap T'.heap (locs ++ L) := by
  obtain ⟨k1, k2⟩ := hk
  rw [h0] at k1 k2
  refine ⟨by rw [e1]; exact Nat.le_trans hS.1 k1, fun q h1 h2 => ?_, fun q hq => ?_⟩
  · rw [e1, k2 q (Nat.lt_of_not_le h2)]
    exact hS.2.1 q h1 h2
  · rcases List.mem_append.mp hq with h | h
    · exact hS.2.2 q h
    · exact hL q h
/-- behind a call that returns -/
theorem T_run (hr : ∀ (p : Program) (e : Env) (R : Room) (s : State) (m : MethodId) (args : Array Value) (below : List Frame) (meth : Method) (c : Code) (H : Heap) (locs : List Loc) (cells slots mc ms : Nat) (la : Array Slot), Cx D cA n0 XW nm d p R s m meth c mc ms → Rep D cA n0 sz τ M H → va_S (AA n0) s.heap H locs → cells + (bk + mc') ≤ mc → slots + (bn + ms') ≤ ms → la.size = nm.nL → ∃ args', va_Run p l e R s m args below meth c H locs cells slots mc' ms' (F0 m pc la st) rest (PostM D cA n0 Q' args') (AA n0))
    (k : ∀ (v : Option Value) (sz' : Nat) (τ' : TY) (M' : ME), Q' v sz' τ' M' → T l D cA n0 XW nm d bk bn sz' τ' M' (pc + 3) ls (v.toList ++ rest) Q QX) : T l D cA n0 XW nm d (bk + mc') (bn + ms') sz τ M pc ls st Q QX := by
  intro p e R s m args below meth c H locs cells slots mc ms la Z X hR hS h1 h2 hL r1 r2 r3
  obtain ⟨args', hrun⟩ := hr p e R s m args below meth c H locs cells slots mc ms la X hR hS h1 h2 hL.1
  intro T0 hT X0
  obtain ⟨v, st₀, t, T', L, h0, X', hL', e1, e2, ⟨v', sz', τ', M', hv, hq, hR', hk⟩, goes⟩ := hrun T0 hT X0
  cases hv
  obtain ⟨t2, a1, b1⟩ := k v sz' τ' M' hq p e R s m args below meth c T'.heap (locs ++ L) (cells + mc') (slots + ms') mc ms la Z X (e1 ▸ hR') (va_S.after X.2.2.2.2.2.2.1 hS h0 hk e1 hL') (by omega) (by omega) hL r1 r2 r3 T' rfl X'
  exact ⟨t2, goes t2 a1, b1⟩
theorem WB.cb {own : String} {R : Room} {s : State} {args : Array Value} (hw : WB nm' n) (hts : ∀ w ∈ GW, w.before args s = true) (hl : Cond.methodLink own idx nm'.y ∈ GW) (hdd : d' + 1 ≤ d) (hdR : d ≤ R.frames) (hlR : 41 * d ≤ R.locals) : CallB R s args own idx nm'.y nm'.cc nm'.nL nm'.ret [.code nm'.y nm'.cc nm'.nL nm'.ret] (rmD d' mc' ms') mc' ms' n := by
  obtain ⟨w1, w2, w3, w4, w5, w6⟩ := hw
  refine callB_of n hts (fun w hq => ?_) rfl rfl rfl (hts _ w1) (hts _ hl) ⟨w3, w4, w5⟩ ⟨?_, ?_⟩
  · rcases List.mem_cons.mp hq with rfl | hq
    · exact ⟨w2, gw_good w2 (by simp [isGW])⟩
    · cases hq
  · show d' + 1 ≤ R.frames
    omega
  · show 8 + (nm'.nL + 11) + 41 * d' ≤ R.locals
    omega
theorem WB.cn {own host : String} {R : Room} {s : State} {args : Array Value} (hw : WB nm' n) (hts : ∀ w ∈ GW, w.before args s = true) (hl : va_Nw (Cond.methodLinkNest own idx nm'.y host) s) (hdd : d' + 1 ≤ d) (hdR : d ≤ R.frames) (hlR : 41 * d ≤ R.locals) : va_CN R s args own idx nm'.y host nm'.cc nm'.nL nm'.ret [.code nm'.y nm'.cc nm'.nL nm'.ret] (rmD d' mc' ms') mc' ms' n := by
  obtain ⟨w1, w2, w3, w4, w5, w6⟩ := hw
  refine va_cnB n hts (fun w hq => ?_) rfl rfl rfl hl (hts _ w1) ⟨w3, w4, w5⟩ ⟨?_, ?_⟩
  · rcases List.mem_cons.mp hq with rfl | hq
    · exact ⟨w2, gw_good w2 (by simp [isGW])⟩
    · cases hq
  · show d' + 1 ≤ R.frames
    omega
  · show 8 + (nm'.nL + 11) + 41 * d' ≤ R.locals
    omega
/-- the receiver: an object of the memory, or a constant one -/
def Rcv (D : va_G) (XW : State → Heap → Prop) (n0 : Nat) (τ : TY) (C : String) (b : Nat) : Prop := (∃ (c nb : Nat) (TT : u_T) (N : Nat), τ b = (c, nb) ∧ c < 100 ∧ vwCl[c]? = some (C, TT, N)) ∨ (∀ (U : State) (H : Heap), XW U H → va_O C b (AA n0) U H)
theorem Rcv.get {s : State} {H : Heap} {locs : List Loc} {C : String} {b : Nat} (h : Rcv D XW n0 τ C b) (hSW : SW D cA XW s s.heap) (hR : Rep D cA n0 sz τ M H) (hS : va_S (AA n0) s.heap H locs) : ∃ cell : Cell, H[b]? = some cell ∧ cell.vm.isStatics = false ∧ s.vm.findClass C = some cell.cls := by
  rcases h with ⟨c, nb, TT, N, h1, h2, h3⟩ | h
  · exact va_recv (ws := [(b, .inr (c, (List.range (kN c)).map (M b)))]) (q := (C, TT, N)) (q0 := 0) hSW.1 (fun j x hj => by
      cases j with
      | zero => simp at hj; subst hj; exact hR.obj h1 h2
      | succ j => simp at hj) h3 rfl
  · obtain ⟨cell, g1, g2, g3, -⟩ := (h _ _ hSW.2.2).kept hS.2.1
    exact ⟨cell, g1, g2, g3⟩
theorem T_callV {b : Nat} (hM : CT l D cA n0 XW nm' d' mc' ms' sz τ M (.ref b :: As) Q') (hX : SF n0 XW) (hw : WV nm' nm.y.cls idx n) (hb : Rcv D XW n0 τ nm'.y.cls b) (hdd : d' + 1 ≤ d) (hn : As.length = n) (hst : st = As.reverse ++ .ref b :: rest) (hcat : (rest.map fun v => v.category).sum ≤ 8) (hd : decode nm.cc pc = .ok (.invokevirtual idx, 3)) (hp : pc + 3 = pc')
    (k : ∀ (v : Option Value) (sz' : Nat) (τ' : TY) (M' : ME), Q' v sz' τ' M' → T l D cA n0 XW nm d bk bn sz' τ' M' pc' ls (v.toList ++ rest) Q QX) : T l D cA n0 XW nm d (bk + mc') (bn + ms') sz τ M pc ls st Q QX := by
  subst hp
  refine T_run (Q' := Q') (rest := rest) ?_ k
  intro p e R s m args below meth c H locs cells slots mc ms la X hR hS h1 h2 hL
  obtain ⟨hx, hbc, hml, -, hown, hSW, hsz, -, -, hdR, hlR, hmc, hms, -⟩ := id X
  have hts := hSW.words (args := args)
  obtain ⟨w1, w2, w3, w4⟩ := hw
  exact ⟨_, va_runV (C := nm'.y.cls) ⟨hx, hbc, hml, hown, hts⟩ hM ⟨w1.cb hts w2 hdd hdR hlR, hts _ w3, hts _ w4⟩ ⟨PreM.blind hX _, hb.get hSW hR hS, fun U hU hW => ⟨rfl, PreM.at hX hsz hSW hR hS hU hW⟩⟩ rfl hn hL hst (by simpa [JFrame.monitorRoom] using hcat) hd ⟨by omega, by omega⟩⟩
theorem T_callVN {b : Nat} {host : String} (hM : CT l D cA n0 XW nm' d' mc' ms' sz τ M (.ref b :: As) Q') (hX : SF n0 XW) (hw : WVN nm' nm.y.cls idx n host) (hb : Rcv D XW n0 τ nm'.y.cls b) (hdd : d' + 1 ≤ d) (hn : As.length = n) (hst : st = As.reverse ++ .ref b :: rest) (hcat : (rest.map fun v => v.category).sum ≤ 8) (hd : decode nm.cc pc = .ok (.invokevirtual idx, 3)) (hp : pc + 3 = pc')
    (k : ∀ (v : Option Value) (sz' : Nat) (τ' : TY) (M' : ME), Q' v sz' τ' M' → T l D cA n0 XW nm d bk bn sz' τ' M' pc' ls (v.toList ++ rest) Q QX) : T l D cA n0 XW nm d (bk + mc') (bn + ms') sz τ M pc ls st Q QX := by
  subst hp
  refine T_run (Q' := Q') (rest := rest) ?_ k
  intro p e R s m args below meth c H locs cells slots mc ms la X hR hS h1 h2 hL
  obtain ⟨hx, hbc, hml, -, hown, hSW, hsz, -, -, hdR, hlR, hmc, hms, -⟩ := id X
  have hts := hSW.words (args := args)
  obtain ⟨w1, w2, w3, w4⟩ := hw
  exact ⟨_, va_runVN (C := nm'.y.cls) ⟨hx, hbc, hml, hown, hts⟩ hM ⟨w1.cn hts (hSW.2.1 _ w2) hdd hdR hlR, hts _ w3, hts _ w4⟩ ⟨PreM.blind hX _, hb.get hSW hR hS, fun U hU hW => ⟨rfl, PreM.at hX hsz hSW hR hS hU hW⟩⟩ rfl hn hL hst (by simpa [JFrame.monitorRoom] using hcat) hd ⟨by omega, by omega⟩⟩
theorem T_callS (hM : CT l D cA n0 XW nm' d' mc' ms' sz τ M As Q') (hX : SF n0 XW) (hw : WS nm' nm.y.cls idx n) (hdd : d' + 1 ≤ d) (hn : As.length = n) (hst : st = As.reverse ++ rest) (hcat : (rest.map fun v => v.category).sum ≤ 8) (hd : decode nm.cc pc = .ok (.invokestatic idx, 3)) (hp : pc + 3 = pc')
    (k : ∀ (v : Option Value) (sz' : Nat) (τ' : TY) (M' : ME), Q' v sz' τ' M' → T l D cA n0 XW nm d bk bn sz' τ' M' pc' ls (v.toList ++ rest) Q QX) : T l D cA n0 XW nm d (bk + mc') (bn + ms') sz τ M pc ls st Q QX := by
  subst hp
  refine T_run (Q' := Q') (rest := rest) ?_ k
  intro p e R s m args below meth c H locs cells slots mc ms la X hR hS h1 h2 hL
  obtain ⟨hx, hbc, hml, -, hown, hSW, hsz, -, -, hdR, hlR, hmc, hms, -⟩ := id X
  have hts := hSW.words (args := args)
  obtain ⟨w1, w2, w3⟩ := hw
  exact ⟨_, va_runS ⟨hx, hbc, hml, hown, hts⟩ hM ⟨w1.cb hts w2 hdd hdR hlR, hts _ w3⟩ ⟨PreM.blind hX _, fun U hU hW => ⟨rfl, PreM.at hX hsz hSW hR hS hU hW⟩⟩ rfl hn hL hst (by simpa [JFrame.monitorRoom] using hcat) hd ⟨by omega, by omega⟩⟩
theorem T_callI {b : Nat} (hM : CT l D cA n0 XW nm' d' mc' ms' sz τ M (.ref b :: As) Q') (hX : SF n0 XW) (hw : WI nm' nm.y.cls idx n) (hdd : d' + 1 ≤ d) (hn : As.length = n) (hst : st = As.reverse ++ .ref b :: rest) (hcat : (rest.map fun v => v.category).sum ≤ 8) (hd : decode nm.cc pc = .ok (.invokespecial idx, 3)) (hp : pc + 3 = pc')
    (k : ∀ (v : Option Value) (sz' : Nat) (τ' : TY) (M' : ME), Q' v sz' τ' M' → T l D cA n0 XW nm d bk bn sz' τ' M' pc' ls (v.toList ++ rest) Q QX) : T l D cA n0 XW nm d (bk + mc') (bn + ms') sz τ M pc ls st Q QX := by
  subst hp
  refine T_run (Q' := Q') (rest := rest) ?_ k
  intro p e R s m args below meth c H locs cells slots mc ms la X hR hS h1 h2 hL
  obtain ⟨hx, hbc, hml, -, hown, hSW, hsz, -, -, hdR, hlR, hmc, hms, -⟩ := id X
  have hts := hSW.words (args := args)
  obtain ⟨w1, w2, w3, w4, w5⟩ := hw
  have hcb := w1.cb (mc' := mc') (ms' := ms') hts w2 hdd hdR hlR
  unfold CT at hM
  rw [w5] at hcb hM
  exact ⟨_, va_runI ⟨hx, hbc, hml, hown, hts⟩ hM ⟨hcb, w4, hts _ w3⟩ ⟨PreM.blind hX _, fun U hU hW => ⟨rfl, PreM.at hX hsz hSW hR hS hU hW⟩⟩ rfl hn hL hst (by simpa [JFrame.monitorRoom] using hcat) hd ⟨by omega, by omega⟩⟩
theorem T_callIN {b : Nat} {host : String} (hM : CT l D cA n0 XW nm' d' mc' ms' sz τ M (.ref b :: As) Q') (hX : SF n0 XW) (hw : WIN nm' nm.y.cls idx n host) (hdd : d' + 1 ≤ d) (hn : As.length = n) (hst : st = As.reverse ++ .ref b :: rest) (hcat : (rest.map fun v => v.category).sum ≤ 8) (hd : decode nm.cc pc = .ok (.invokespecial idx, 3)) (hp : pc + 3 = pc')
    (k : ∀ (v : Option Value) (sz' : Nat) (τ' : TY) (M' : ME), Q' v sz' τ' M' → T l D cA n0 XW nm d bk bn sz' τ' M' pc' ls (v.toList ++ rest) Q QX) : T l D cA n0 XW nm d (bk + mc') (bn + ms') sz τ M pc ls st Q QX := by
  subst hp
  refine T_run (Q' := Q') (rest := rest) ?_ k
  intro p e R s m args below meth c H locs cells slots mc ms la X hR hS h1 h2 hL
  obtain ⟨hx, hbc, hml, -, hown, hSW, hsz, -, -, hdR, hlR, hmc, hms, -⟩ := id X
  have hts := hSW.words (args := args)
  obtain ⟨w1, w2, w3, w4, w5⟩ := hw
  have hcb := w1.cn (mc' := mc') (ms' := ms') hts (hSW.2.1 _ w2) hdd hdR hlR
  unfold CT at hM
  rw [w5] at hcb hM
  exact ⟨_, va_runIN ⟨hx, hbc, hml, hown, hts⟩ hM ⟨hcb, w4, hts _ w3⟩ ⟨PreM.blind hX _, fun U hU hW => ⟨rfl, PreM.at hX hsz hSW hR hS hU hW⟩⟩ rfl hn hL hst (by simpa [JFrame.monitorRoom] using hcat) hd ⟨by omega, by omega⟩⟩
/-- Object's own constructor, Math -/
theorem T_obj {b : Nat} (h1 : Cond.methodLink nm.y.cls idx Lib.objectInit ∈ GW) (h2 : Cond.instanceMethod Lib.objectInit ∈ GW) (h3 : Cond.code Lib.objectInit ⟨#[0xb1]⟩ 1 none ∈ GW) (hdd : 1 ≤ d) (hcat : (st.map fun v => v.category).sum ≤ 8) (hd : decode nm.cc pc = .ok (.invokespecial idx, 3)) (hp : pc + 3 = pc')
    (k : T l D cA n0 XW nm d bk bn sz τ M pc' ls st Q QX) : T l D cA n0 XW nm d bk bn sz τ M pc ls (.ref b :: st) Q QX := by
  subst hp
  intro p e R s m args below meth c H locs cells slots mc ms la Z X hR hS g1 g2 hL r1 r2 r3
  obtain ⟨hx, hbc, hml, -, hown, hSW, hsz, -, -, hdR, hlR, hmc, hms, -⟩ := id X
  have hts := hSW.words (args := args)
  exact W.objInit hx hbc hown (hts _ h1) (hts _ h2) (hts _ h3) rfl (hL.1.trans hml.symm) rfl hd (by omega) (by simp [JFrame.monitorRoom]; omega) (k p e R s m args below meth c H locs cells slots mc ms la Z X hR hS g1 g2 hL r1 r2 r3)
def maxI (x y : Int32) : Int32 := if x < y then y else x
def minI (x y : Int32) : Int32 := if x < y then x else y
def WM (own : String) (idx : Nat) (y : MethodName) (b : ByteArray) : Prop := Cond.methodLink own idx y ∈ GW ∧ Cond.static y ∈ GW ∧ Cond.initialized "java/lang/Math" ∈ GW ∧ Cond.code y b 2 (some .int) ∈ GW
theorem T_max {x y : Int32} (h : WM nm.y.cls idx Lib.Math.max.name Lib.Math.max.code) (hdd : 1 ≤ d) (hcat : (st.map fun v => v.category).sum ≤ 8) (hd : decode nm.cc pc = .ok (.invokestatic idx, 3)) (hp : pc + 3 = pc')
    (k : T l D cA n0 XW nm d bk bn sz τ M pc' ls (.int (maxI x y) :: st) Q QX) : T l D cA n0 XW nm d bk bn sz τ M pc ls (.int y :: .int x :: st) Q QX := by
  subst hp
  intro p e R s m args below meth c H locs cells slots mc ms la Z X hR hS g1 g2 hL r1 r2 r3
  obtain ⟨hx, hbc, hml, -, hown, hSW, hsz, -, -, hdR, hlR, hmc, hms, -⟩ := id X
  have hts := hSW.words (args := args)
  obtain ⟨w1, w2, w3, w4⟩ := h
  exact va_mmax hx hbc (hml.trans hL.1.symm) hown (hts _ w1) (hts _ w2) (hts _ w3) (hts _ w4) (by omega) (by omega) (by omega) (by omega) hd (k p e R s m args below meth c H locs cells slots mc ms la Z X hR hS g1 g2 hL r1 r2 r3)
end CALL
