/-! methods with handlers; the script -/
section HND
variable {l : Launch} {D : va_G} {cA : Nat → ClassId} {n0 : Nat} {XW : State → Heap → Prop} {nm nm' : MI} {hh : List (Nat × Nat × Nat × Nat)} {d d' bk bn mc ms mc' ms' sz : Nat} {τ : TY} {M : ME} {Q Q' : QT} {QX QX' : QXT} {ls st rest As av : List Value} {pc pc' idx n : Nat}
/-- contract of a method with handlers that lets nothing out -/
def CW (l : Launch) (D : va_G) (cA : Nat → ClassId) (n0 : Nat) (XW : State → Heap → Prop) (nm : MI) (hh : List (Nat × Nat × Nat × Nat)) (d mc ms sz : Nat) (τ : TY) (M : ME) (av : List Value) (Q : QT) : Prop :=
  vx_Met l nm.y [.codeWith nm.y nm.cc nm.nL nm.ret hh] (rmD d mc ms) (va_Pc av (PreM D cA n0 XW sz τ M)) (PostM D cA n0 Q) (PostX D cA n0 (fun _ _ _ _ => False)) mc ms (AA n0)
theorem CW.of (hn : nm.hh = (0, 0, 0, 0) :: hh) (hy : plainName nm.y.cls = true) (hL : (lg_sl av).length ≤ nm.nL) (hls : lpad av nm.nL = ls) (k : T l D cA n0 XW nm d mc ms sz τ M 0 ls [] Q (fun _ _ _ _ => False)) : CW l D cA n0 XW nm hh d mc ms sz τ M av Q := by
  refine vx_ofWH (cc := nm.cc) (maxL := nm.nL) (ret := nm.ret) (hh := hh) hy rfl ?_
  intro p e s m args below meth c s₁ B hml hv
  obtain ⟨rfl, hSW, hR, hsz⟩ := hv
  rw [lg_entry_eq]
  have ht : c.exceptionTable.toList = tableOf hh := vx_table (x := nm.y) B (atoms_spec (ws := [Cond.codeWith nm.y nm.cc nm.nL nm.ret hh]) B.pre _ List.mem_cons_self)
  refine k p e (rmD d mc ms) s m av.toArray below meth c s.heap [] 0 0 mc ms _ _ ⟨B.exec, B.bytes, hml, B.returns, findClass_of_methodNamed B.named, hSW, hsz, B.notSynchronized, (name_of_methodNamed B.named B.method).1, Nat.le_refl _, Nat.le_refl _, Nat.le_refl _, Nat.le_refl _, fun e => (by rw [hn] at e; cases e), fun hh9 e9 => (by rw [hn] at e9; cases e9; exact ht)⟩ hR va_S.rf (by omega) (by omega) (hls ▸ LV.entry av hL) ?_ ?_ ?_
  · intro v sz' τ' M' H' locs' cells' slots' pc' la' hq hR' hS' hc hs hi
    exact vx_ret (ret_MQ B.exec B.bytes B.returns B.notSynchronized hsz hq hR' hS' hc hs hi)
  · intro E sz' τ' M' H' locs' cells' slots' pc' la' st' hq
    exact hq.elim
  · intro E q ce sz' τ' M' H' locs' cells' slots' pc' la' st' hq
    exact hq.elim
/-- the handler at hpc takes E, thrown at pc -/
def Hdl (own : String) (XW : State → Heap → Prop) (hh : List (Nat × Nat × Nat × Nat)) (pc : Nat) (E : String) (hpc : Nat) : Prop :=
  ∃ (pre : List (Nat × Nat × Nat × Nat)) (x : Nat × Nat × Nat × Nat) (suf : List (Nat × Nat × Nat × Nat)) (name : String), hh = pre ++ x :: suf ∧ (∀ z ∈ pre, z.2.2.2 ≠ 0 ∧ ∃ t : String, Cond.classLink own z.2.2.2 t ∈ GW ∧ ∀ U H, XW U H → va_Nc E t U) ∧ covers ⟨x.1, x.2.1, x.2.2.1, x.2.2.2⟩ pc = true ∧ x.2.2.2 ≠ 0 ∧ Cond.classLink own x.2.2.2 name ∈ GW ∧ Cond.castable E name ∈ GW ∧ x.2.2.1 = hpc
/-- behind a call that may throw: a handler here takes it -/
theorem T_runH (hn : nm.hh = (0, 0, 0, 0) :: hh) (hr : ∀ (p : Program) (e : Env) (R : Room) (s : State) (m : MethodId) (args : Array Value) (below : List Frame) (meth : Method) (c : Code) (H : Heap) (locs : List Loc) (cells slots mc ms : Nat) (la : Array Slot), Cx D cA n0 XW nm d p R s m meth c mc ms → Rep D cA n0 sz τ M H → va_S (AA n0) s.heap H locs → cells + (bk + mc') ≤ mc → slots + (bn + ms') ≤ ms → la.size = nm.nL → ∃ args', vx_Run p l e R s m args below meth c H locs cells slots mc' ms' (F0 m pc la st) rest (PostM D cA n0 Q' args') (PostX D cA n0 QX') (AA n0))
    (k : ∀ (v : Option Value) (sz' : Nat) (τ' : TY) (M' : ME), Q' v sz' τ' M' → T l D cA n0 XW nm d bk bn sz' τ' M' (pc + 3) ls (v.toList ++ rest) Q QX)
    (kx : ∀ (E : String) (sz' sz2 : Nat) (τ' : TY) (M' : ME), QX' E sz' τ' M' → sz' ≤ sz2 → ∃ hpc, Hdl nm.y.cls XW hh pc E hpc ∧ ∀ q, T l D cA n0 XW nm d bk bn sz2 τ' M' hpc ls [.ref q] Q QX) : T l D cA n0 XW nm d (bk + mc') (bn + ms') sz τ M pc ls st Q QX := by
  intro p e R s m args below meth c H locs cells slots mc ms la Z X hR hS h1 h2 hL r1 r2 r3
  obtain ⟨args', hrun⟩ := hr p e R s m args below meth c H locs cells slots mc ms la X hR hS h1 h2 hL.1
  intro T0 hT X0
  rcases hrun T0 hT X0 with ⟨v, st₀, t, T', L, h0, X', hL', e1, e2, ⟨v', sz', τ', M', hv, hq, hR', hk⟩, goes⟩ | ⟨q, st₀, t, T', L, E, ce, h0, X', hL', e1, e2, ⟨sz', sz2, τ', M', hq, hz2, hR', hk⟩, g1, g2, g3, hst⟩
  · cases hv
    obtain ⟨t2, a1, b1⟩ := k v sz' τ' M' hq p e R s m args below meth c T'.heap (locs ++ L) (cells + mc') (slots + ms') mc ms la Z X (e1 ▸ hR') (va_S.after X.2.2.2.2.2.2.1 hS h0 hk e1 hL') (by omega) (by omega) hL r1 r2 r3 T' rfl X'
    exact ⟨t2, goes t2 a1, b1⟩
  · obtain ⟨hpc, ⟨pre, x, suf, name, e9, hpre, hcv, hc0, hlk, hcs, rfl⟩, hk9⟩ := kx E sz' sz2 τ' M' hq hz2
    obtain ⟨hx, hbc, hml, -, hown, hSW, hsz, -, -, hdR, hlR, hmc, hms, -, htab⟩ := id X
    have hts := hSW.words (args := args)
    obtain ⟨t2, a1, b1⟩ := vx_catch (own := nm.y.cls) (name := name) (E := E) (ce := ce) (q := q) (H := T'.heap) (rest := rest) hown (tableOf pre) ⟨x.1, x.2.1, x.2.2.1, x.2.2.2⟩ (tableOf suf) (by rw [htab hh hn, e9]; simp [tableOf])
      (fun z hz => by
        obtain ⟨z0, hz0, rfl⟩ := List.mem_map.mp hz
        obtain ⟨y1, t, y2, y3⟩ := hpre z0 hz0
        exact Or.inr ⟨y1, t, hts _ y2, y3 _ _ hSW.2.2⟩) hcv hc0 (hts _ hlk) (hts _ hcs) (by rw [e1]; exact g1) g2 g3
      (hk9 q p e R s m args below meth c T'.heap (locs ++ L) (cells + mc') (slots + ms') mc ms la Z X (e1 ▸ hR') (va_S.after X.2.2.2.2.2.2.1 hS h0 hk e1 hL') (by omega) (by omega) hL r1 r2 r3) T' rfl X'
    exact ⟨t2, hst.trans a1, b1⟩
theorem T_callHV {b : Nat} (hn9 : nm.hh = (0, 0, 0, 0) :: hh) (hM : CX l D cA n0 XW nm' d' mc' ms' sz τ M (.ref b :: As) Q' QX') (hX : SF n0 XW) (hw : WV nm' nm.y.cls idx n) (hb : Rcv D XW n0 τ nm'.y.cls b) (hdd : d' + 1 ≤ d) (hn : As.length = n) (hst : st = As.reverse ++ .ref b :: rest) (hcat : (rest.map fun v => v.category).sum ≤ 8) (hd : decode nm.cc pc = .ok (.invokevirtual idx, 3)) (hp : pc + 3 = pc')
    (k : ∀ (v : Option Value) (sz' : Nat) (τ' : TY) (M' : ME), Q' v sz' τ' M' → T l D cA n0 XW nm d bk bn sz' τ' M' pc' ls (v.toList ++ rest) Q QX)
    (kx : ∀ (E : String) (sz' sz2 : Nat) (τ' : TY) (M' : ME), QX' E sz' τ' M' → sz' ≤ sz2 → ∃ hpc, Hdl nm.y.cls XW hh pc E hpc ∧ ∀ q, T l D cA n0 XW nm d bk bn sz2 τ' M' hpc ls [.ref q] Q QX) : T l D cA n0 XW nm d (bk + mc') (bn + ms') sz τ M pc ls st Q QX := by
  subst hp
  refine T_runH (Q' := Q') (QX' := QX') (rest := rest) hn9 ?_ k kx
  intro p e R s m args below meth c H locs cells slots mc ms la X hR hS h1 h2 hL
  obtain ⟨hx, hbc, hml, -, hown, hSW, hsz, -, -, hdR, hlR, hmc, hms, -⟩ := id X
  have hts := hSW.words (args := args)
  obtain ⟨w1, w2, w3, w4⟩ := hw
  exact ⟨_, vx_runV (C := nm'.y.cls) ⟨hx, hbc, hml, hown, hts⟩ hM ⟨w1.cb hts w2 hdd hdR hlR, hts _ w3, hts _ w4⟩ ⟨PreM.blind hX _, hb.get hSW hR hS, fun U hU hW => ⟨rfl, PreM.at hX hsz hSW hR hS hU hW⟩⟩ rfl hn hL hst (by simpa [JFrame.monitorRoom] using hcat) hd ⟨by omega, by omega⟩⟩
/-- what the tables say of a callee with handlers -/
def WW (nm : MI) (hh : List (Nat × Nat × Nat × Nat)) (own : String) (idx n : Nat) : Prop := Cond.initialized nm.y.cls ∈ GW ∧ Cond.codeWith nm.y nm.cc nm.nL nm.ret hh ∈ GW ∧ nm.y.cls ≠ "java/lang/invoke/MethodHandle" ∧ nm.y.cls ≠ "java/lang/invoke/VarHandle" ∧ (parseMethodDescriptor nm.y.desc).map (fun d => d.parameters.length) = some n ∧ nm.nL ≤ 22 ∧ Cond.methodLink own idx nm.y ∈ GW ∧ Cond.static nm.y ∈ GW
theorem T_callW (hM : CW l D cA n0 XW nm' hh d' mc' ms' sz τ M As Q') (hX : SF n0 XW) (hw : WW nm' hh nm.y.cls idx n) (hdd : d' + 1 ≤ d) (hn : As.length = n) (hst : st = As.reverse ++ rest) (hcat : (rest.map fun v => v.category).sum ≤ 8) (hd : decode nm.cc pc = .ok (.invokestatic idx, 3)) (hp : pc + 3 = pc')
    (k : ∀ (v : Option Value) (sz' : Nat) (τ' : TY) (M' : ME), Q' v sz' τ' M' → T l D cA n0 XW nm d bk bn sz' τ' M' pc' ls (v.toList ++ rest) Q QX) : T l D cA n0 XW nm d (bk + mc') (bn + ms') sz τ M pc ls st Q QX := by
  subst hp
  refine T_runX (Q' := Q') (QX' := fun _ _ _ _ => False) (rest := rest) ?_ k (fun _ _ _ _ _ h => h.elim)
  intro p e R s m args below meth c H locs cells slots mc ms la X hR hS h1 h2 hL
  obtain ⟨hx, hbc, hml, -, hown, hSW, hsz, -, -, hdR, hlR, hmc, hms, -⟩ := id X
  have hts := hSW.words (args := args)
  obtain ⟨w1, w2, w3, w4, w5, w6, w7, w8⟩ := hw
  have hcw : vx_CSW R s args nm.y.cls idx nm'.y nm'.cc nm'.nL nm'.ret hh [.codeWith nm'.y nm'.cc nm'.nL nm'.ret hh] (rmD d' mc' ms') mc' ms' n := vx_cwSW (Ts := GW) (ws' := []) n hts (fun w hq => by
    simp only [va_wsS, List.mem_append, List.mem_cons, List.not_mem_nil, or_false] at hq
    rcases hq with (rfl | rfl | rfl) | rfl
    · exact ⟨w7, gw_good w7 (by simp [isGW])⟩
    · exact ⟨w8, gw_good w8 (by simp [isGW])⟩
    · exact ⟨w1, gw_good w1 (by simp [isGW])⟩
    · exact ⟨w2, gw_good w2 (by simp [isGW])⟩) rfl rfl rfl ⟨w3, w4, w5⟩ ⟨by show d' + 1 ≤ R.frames; omega, by show 8 + (nm'.nL + 11) + 41 * d' ≤ R.locals; omega⟩
  exact ⟨_, vx_runSX ⟨hx, hbc, hml, hown, hts⟩ hM hcw ⟨PreM.blind hX _, fun U hU hW => ⟨rfl, PreM.at hX hsz hSW hR hS hU hW⟩⟩ rfl hn hL hst (by simpa [JFrame.monitorRoom] using hcat) hd ⟨by omega, by omega⟩⟩
/-- fewer locals are told -/
theorem T_ls {ls' : List Value} (h : ∀ (j : Nat) (w : Value), ls'[j]? = some w → isMk w = false → ls[j]? = some w) (k : T l D cA n0 XW nm d bk bn sz τ M pc ls' st Q QX) : T l D cA n0 XW nm d bk bn sz τ M pc ls st Q QX := by
  intro p e R s m args below meth c H locs cells slots mc ms la Z X hR hS g1 g2 hL r1 r2 r3
  exact k p e R s m args below meth c H locs cells slots mc ms la Z X hR hS g1 g2 (LV.sub hL (fun j w h1 h2 => (mem_lvf ls 0).mpr ⟨Nat.zero_le _, h j w h1 h2, h2⟩)) r1 r2 r3
theorem T_ls5 {a0 a1 a2 a3 a4 v5 v6 v7 v8 : Value} (k : T l D cA n0 XW nm d bk bn sz τ M pc [a0, a1, a2, a3, a4, UU, UU, UU, UU] st Q QX) : T l D cA n0 XW nm d bk bn sz τ M pc [a0, a1, a2, a3, a4, v5, v6, v7, v8] st Q QX := T_ls (fun j w h hm => by
  match j, h with
  | 0, h => exact h
  | 1, h => exact h
  | 2, h => exact h
  | 3, h => exact h
  | 4, h => exact h
  | 5, h => simp at h; subst h; cases hm
  | 6, h => simp at h; subst h; cases hm
  | 7, h => simp at h; subst h; cases hm
  | 8, h => simp at h; subst h; cases hm
  | j + 9, h => simp at h) k
end HND
section SCRIPT
variable {l : Launch} {D : va_G} {cA : Nat → ClassId} {n0 : Nat} {sg adK adV : Nat → Nat} {sgA smA wdA bS LS : Nat} {xs : Nat → Int32} {nm : MI} {d bk bn sz : Nat} {τ : TY} {M : ME} {Q : QT} {QX : QXT} {ls st : List Value} {pc pc' : Nat}
theorem T_sld {i : Int32} (j : Nat) (hi : i = nI j) (hj : j < LS) (hL : LS < 2 ^ 31) (hd : decode nm.cc pc = .ok (.iaload, 1)) (hp : pc + 1 = pc') (k : T l D cA n0 (XW0 sg adK adV sgA smA wdA n0 bS LS xs) nm d bk bn sz τ M pc' ls (.int (xs j) :: st) Q QX) : T l D cA n0 (XW0 sg adK adV sgA smA wdA n0 bS LS xs) nm d bk bn sz τ M pc ls (.int i :: .ref bS :: st) Q QX := by
  subst hp
  intro p e R s m args below meth c H locs cells slots mc ms la Z X hR hS g1 g2 hLv r1 r2 r3
  obtain ⟨hx, hb, -, -, hown, hSW, hsz, -⟩ := id X
  obtain ⟨y1, y2⟩ := nI_in' hi hj hL
  have hbn : bS < n0 := hSW.2.2.2.2.2.2.2.1
  refine va_sld hx hb hSW.2.2.2.2.2.2.1 (by omega) (fun q => by unfold AA at q; omega) hS y1 hd ?_
  rw [y2]
  exact k p e R s m args below meth c H locs cells slots mc ms la Z X hR hS g1 g2 hLv r1 r2 r3
theorem T_slen (hd : decode nm.cc pc = .ok (.arraylength, 1)) (hp : pc + 1 = pc') (k : T l D cA n0 (XW0 sg adK adV sgA smA wdA n0 bS LS xs) nm d bk bn sz τ M pc' ls (.int (nI LS) :: st) Q QX) : T l D cA n0 (XW0 sg adK adV sgA smA wdA n0 bS LS xs) nm d bk bn sz τ M pc ls (.ref bS :: st) Q QX := by
  subst hp
  intro p e R s m args below meth c H locs cells slots mc ms la Z X hR hS g1 g2 hLv r1 r2 r3
  obtain ⟨hx, hb, -, -, hown, hSW, hsz, -⟩ := id X
  have hbn : bS < n0 := hSW.2.2.2.2.2.2.2.1
  exact va_slen hx hb hSW.2.2.2.2.2.2.1 (by omega) (fun q => by unfold AA at q; omega) hS hd (k p e R s m args below meth c H locs cells slots mc ms la Z X hR hS g1 g2 hLv r1 r2 r3)
end SCRIPT
