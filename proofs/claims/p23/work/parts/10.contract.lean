/-- a place where the method itself throws: new; dup; ldc; invokespecial; athrow -/
def SiteOK (XW : State → Heap → Prop) (n0 : Nat) (nm : MI) (d : Nat) (pc : Nat) (E : String) : Prop :=
  ∃ (text : String) (names : List String) (ik is ic sa : Nat), Bundle.fit E = true ∧ (∀ n ∈ names, Bundle.fit n = true) ∧ Cond.classLink nm.y.cls ik E ∈ GW ∧ Cond.initialized E ∈ GW ∧ (∀ w ∈ vx_atS nm.y.cls ic E names, w ∈ GW) ∧ (∀ w ∈ Cond.classLink nm.y.cls ik E :: Cond.initialized E :: vx_atS nm.y.cls ic E names, vx_ot w = true) ∧
    (∀ (U : State) (H : Heap), XW U H → vk_R nm.y.cls is text sa U ∧ vx_Zq Bundle.tN "UNASSIGNED_STACK" Bundle.steD (AA n0) U H ∧ vx_Zq Bundle.tN "SUPPRESSED_SENTINEL" Bundle.listD (AA n0) U H) ∧
    decode nm.cc pc = .ok (.new ik, 3) ∧ decode nm.cc (pc + 3) = .ok (.dup, 1) ∧ decode nm.cc (pc + 4) = .ok (.ldc is, 2) ∧ decode nm.cc (pc + 6) = .ok (.invokespecial ic, 3) ∧ decode nm.cc (pc + 9) = .ok (.athrow, 1) ∧ names.length + 3 < d ∧ 13 * (names.length + 1) + 51 ≤ 41 * d
section CONTRACT
variable {l : Launch} {D : va_G} {cA : Nat → ClassId} {n0 : Nat} {XW : State → Heap → Prop} {nm nm' : MI} {d d' bk bn mc ms mc' ms' sz : Nat} {τ : TY} {M : ME} {Q Q' : QT} {QX QX' : QXT} {ls st rest As av : List Value} {pc pc' idx n : Nat}
theorem KeepM.of {s t : State} {H : Heap} {locs : List Loc} (hz : n0 ≤ s.heap.size) (h : va_S (AA n0) s.heap H locs) (ht : t.heap = H) : KeepM n0 s t := ⟨by rw [ht]; exact h.1, fun q hq => by rw [ht]; exact h.2.1 q (by omega) (fun z => by unfold AA at z; omega)⟩
/-- the return of a method -/
theorem ret_MQ {p : Program} {e : Env} {R : Room} {s : State} {m : MethodId} {args : Array Value} {below : List Frame} {meth : Method} {c : Code} (hx : p.tables.exec = Jvm.exec) (hb : c.code = nm.cc) (hr : meth.sig.returnType = nm.ret) (hlocks : meth.locks = false) (hz : n0 ≤ s.heap.size)
    {v : Option Value} {τ' : TY} {M' : ME} {sz' : Nat} {H' : Heap} {locs' : List Loc} {cells' slots' pc' : Nat} {la' : Array Slot} (hq : Q v sz' τ' M') (hR : Rep D cA n0 sz' τ' M' H') (hS : va_S (AA n0) s.heap H' locs') (hc : cells' ≤ mc) (hs : slots' ≤ ms) (hi : RetI nm pc' v) :
    W p l e R s m args below meth c H' locs' cells' slots' (MQ below (PostM D cA n0 Q) args s mc ms (AA n0)) (F0 m pc' la' v.toList) := by
  refine W.widen hc hs ?_
  have hP : ∀ t : State, t.heap = H' → s.WarmedH t.vm → PostM D cA n0 Q args s (.returned v) t := fun t ht _ => ⟨v, sz', τ', M', rfl, hq, by rw [ht]; exact hR, KeepM.of hz hS ht⟩
  rcases hi with ⟨h1, h2, rfl⟩ | ⟨x, ty, h1, h3, h2, rfl⟩ | ⟨x, h1, h2, rfl⟩ | ⟨x, h1, h2, rfl⟩ | ⟨a, rt, hrt, h1, h2, rfl⟩
  · exact W.vret hx hb (by rw [hr, h1]) hP hS.2.2 h2 hlocks
  · exact W.zret hx hb (by rw [hr, h1]) h3 hP hS.2.2 h2 hlocks
  · exact W.lret hx hb (by rw [hr, h1]) hP hS.2.2 h2 hlocks
  · exact W.dret hx hb (by rw [hr, h1]) hP hS.2.2 h2 hlocks
  · exact W.aret hx hb (by rw [hr, h1]) hrt (Or.inr ⟨a, rfl⟩) hP hS.2.2 h2 hlocks
theorem CT.of (hy : plainName nm.y.cls = true) (hL : (lg_sl av).length ≤ nm.nL) (hls : lpad av nm.nL = ls) (k : T l D cA n0 XW nm d mc ms sz τ M 0 ls [] Q (fun _ _ _ _ => False)) (hh0 : nm.hh = [] := by rfl) : CT l D cA n0 XW nm d mc ms sz τ M av Q := by
  refine Met.ofW (cc := nm.cc) (maxL := nm.nL) (ret := nm.ret) hy rfl ?_
  intro p e s m args below meth c s₁ B hml hv
  obtain ⟨rfl, hSW, hR, hsz⟩ := hv
  rw [lg_entry_eq]
  have ht : c.exceptionTable.toList = [] := by
    obtain ⟨meth9, c9, h1, h2, -, -, -, -, h7, -⟩ := Cond.code_spec B.named (atoms_spec (ws := [Cond.code nm.y nm.cc nm.nL nm.ret]) B.pre _ List.mem_cons_self)
    cases Option.some.inj (h1.symm.trans B.method)
    cases Option.some.inj (h2.symm.trans (Stand.of_body B).code)
    rw [Array.isEmpty_iff.mp h7]
  refine k p e (rmD d mc ms) s m av.toArray below meth c s.heap [] 0 0 mc ms _ _ ⟨B.exec, B.bytes, hml, B.returns, findClass_of_methodNamed B.named, hSW, hsz, B.notSynchronized, (name_of_methodNamed B.named B.method).1, Nat.le_refl _, Nat.le_refl _, Nat.le_refl _, Nat.le_refl _, fun _ => ht, fun hh9 e9 => (by rw [hh0] at e9; cases e9)⟩ hR va_S.rf (by omega) (by omega) (hls ▸ LV.entry av hL) ?_ ?_ ?_
  · intro v sz' τ' M' H' locs' cells' slots' pc' la' hq hR' hS' hc hs hi
    exact ret_MQ B.exec B.bytes B.returns B.notSynchronized hsz hq hR' hS' hc hs hi
  · intro E sz' τ' M' H' locs' cells' slots' pc' la' st' hq
    exact hq.elim
  · intro E q ce sz' τ' M' H' locs' cells' slots' pc' la' st' hq
    exact hq.elim
theorem CX.of (hl : l.stackTraces = false) (hh : nm.hh = []) (hsite : ∀ q ∈ nm.sites, SiteOK XW n0 nm d q.1 q.2) (hy : plainName nm.y.cls = true) (hL : (lg_sl av).length ≤ nm.nL) (hls : lpad av nm.nL = ls) (k : T l D cA n0 XW nm d mc ms sz τ M 0 ls [] Q QX) : CX l D cA n0 XW nm d mc ms sz τ M av Q QX := by
  refine vx_ofW (cc := nm.cc) (maxL := nm.nL) (ret := nm.ret) hy rfl ?_
  intro p e s m args below meth c s₁ B hml ht hv
  obtain ⟨rfl, hSW, hR, hsz⟩ := hv
  rw [lg_entry_eq]
  have ht' : c.exceptionTable.toList = [] := List.eq_nil_iff_forall_not_mem.mpr ht
  refine k p e (rmD d mc ms) s m av.toArray below meth c s.heap [] 0 0 mc ms _ _ ⟨B.exec, B.bytes, hml, B.returns, findClass_of_methodNamed B.named, hSW, hsz, B.notSynchronized, (name_of_methodNamed B.named B.method).1, Nat.le_refl _, Nat.le_refl _, Nat.le_refl _, Nat.le_refl _, fun _ => ht', fun hh9 e9 => (by rw [hh] at e9; cases e9)⟩ hR va_S.rf (by omega) (by omega) (hls ▸ LV.entry av hL) ?_ ?_ ?_
  · intro v sz' τ' M' H' locs' cells' slots' pc' la' hq hR' hS' hc hs hi
    exact vx_ret (ret_MQ B.exec B.bytes B.returns B.notSynchronized hsz hq hR' hS' hc hs hi)
  · intro E sz' τ' M' H' locs' cells' slots' pc' la' st' hq hR' hS' hc hs hin hla hcat
    obtain ⟨text, names, ik, is, ic, sa, f1, f2, f3, f4, f5, f6, f7, d0, d3, d4, d6, d9, f8, f9⟩ := hsite _ hin
    obtain ⟨g1, g2, g3⟩ := f7 _ _ hSW.2.2
    have hts := hSW.words (args := av.toArray)
    refine vx_throwS (A := AA n0) (free := AA n0) B.exec B.bytes hl (findClass_of_methodNamed B.named) f1 f2 (hts _ f3) (hts _ f4) g1 (fun w hw => hts _ (f5 w hw)) f6 g2 g3 hS' (hla.trans hml.symm) d0 d3 d4 d6 d9 (fun x hx => (ht x hx).elim) f8 ?_ hc hs B.notSynchronized ?_ hS'.2.2 hc hs
    · show _ ≤ 41 * d
      omega
    · intro t hA1 hA2 hA3
      refine ⟨sz', t.heap.size, τ', M', hq, by rw [← hR'.1]; exact hA2, ⟨rfl, fun a ha => ?_⟩, ⟨Nat.le_trans hS'.1 hA2, fun q hq2 => ?_⟩⟩
      · obtain ⟨y1, y2⟩ := hR'.2 a ha
        have hP : va_P D vwCl [(a, entM cA (τ' a) (M' a))] H' := fun k x hx => by
          cases k with
          | zero => simp at hx; subst hx; exact y2
          | succ k => simp at hx
        exact ⟨y1, (hP 0 _ rfl).kept (hA3 a (by rw [hR'.1]; exact (hR'.lt ha).2))⟩
      · have hlt : q < s.heap.size := by omega
        rw [hA3 q (Nat.lt_of_lt_of_le hlt hS'.1)]
        exact hS'.2.1 q hlt (fun z => by unfold AA at z; omega)
  · intro E q ce sz' τ' M' H' locs' cells' slots' pc' la' st' hq hR' hS' hc hs hce hvm hcl hla
    refine vx_out (fun x hx => (ht x hx).elim) B.notSynchronized hce hvm hcl ?_ hS'.2.2 hc hs
    intro t hA1 hA2
    exact ⟨sz', sz', τ', M', hq, Nat.le_refl _, hA1 ▸ hR', KeepM.of hsz hS' hA1⟩
/-- behind a call that may throw: no handler here -/
theorem T_runX (hr : ∀ (p : Program) (e : Env) (R : Room) (s : State) (m : MethodId) (args : Array Value) (below : List Frame) (meth : Method) (c : Code) (H : Heap) (locs : List Loc) (cells slots mc ms : Nat) (la : Array Slot), Cx D cA n0 XW nm d p R s m meth c mc ms → Rep D cA n0 sz τ M H → va_S (AA n0) s.heap H locs → cells + (bk + mc') ≤ mc → slots + (bn + ms') ≤ ms → la.size = nm.nL → ∃ args', vx_Run p l e R s m args below meth c H locs cells slots mc' ms' (F0 m pc la st) rest (PostM D cA n0 Q' args') (PostX D cA n0 QX') (AA n0))
    (k : ∀ (v : Option Value) (sz' : Nat) (τ' : TY) (M' : ME), Q' v sz' τ' M' → T l D cA n0 XW nm d bk bn sz' τ' M' (pc + 3) ls (v.toList ++ rest) Q QX)
    (kx : ∀ (E : String) (sz' sz2 : Nat) (τ' : TY) (M' : ME), QX' E sz' τ' M' → sz' ≤ sz2 → QX E sz2 τ' M') : T l D cA n0 XW nm d (bk + mc') (bn + ms') sz τ M pc ls st Q QX := by
  intro p e R s m args below meth c H locs cells slots mc ms la Z X hR hS h1 h2 hL r1 r2 r3
  obtain ⟨args', hrun⟩ := hr p e R s m args below meth c H locs cells slots mc ms la X hR hS h1 h2 hL.1
  intro T0 hT X0
  rcases hrun T0 hT X0 with ⟨v, st₀, t, T', L, h0, X', hL', e1, e2, ⟨v', sz', τ', M', hv, hq, hR', hk⟩, goes⟩ | ⟨q, st₀, t, T', L, E, ce, h0, X', hL', e1, e2, ⟨sz', sz2, τ', M', hq, hz2, hR', hk⟩, g1, g2, g3, hst⟩
  · cases hv
    obtain ⟨t2, a1, b1⟩ := k v sz' τ' M' hq p e R s m args below meth c T'.heap (locs ++ L) (cells + mc') (slots + ms') mc ms la Z X (e1 ▸ hR') (va_S.after X.2.2.2.2.2.2.1 hS h0 hk e1 hL') (by omega) (by omega) hL r1 r2 r3 T' rfl X'
    exact ⟨t2, goes t2 a1, b1⟩
  · obtain ⟨t2, a1, b1⟩ := r3 E q ce sz2 τ' M' T'.heap (locs ++ L) (cells + mc') (slots + ms') pc la rest (kx E sz' sz2 τ' M' hq hz2) (e1 ▸ hR') (va_S.after X.2.2.2.2.2.2.1 hS h0 hk e1 hL') (by omega) (by omega) (by rw [e1]; exact g1) g2 g3 hL.1 T' rfl X'
    exact ⟨t2, hst.trans a1, b1⟩
theorem T_callXS (hM : CX l D cA n0 XW nm' d' mc' ms' sz τ M As Q' QX') (hX : SF n0 XW) (hw : WS nm' nm.y.cls idx n) (hdd : d' + 1 ≤ d) (hn : As.length = n) (hst : st = As.reverse ++ rest) (hcat : (rest.map fun v => v.category).sum ≤ 8) (hd : decode nm.cc pc = .ok (.invokestatic idx, 3)) (hp : pc + 3 = pc')
    (k : ∀ (v : Option Value) (sz' : Nat) (τ' : TY) (M' : ME), Q' v sz' τ' M' → T l D cA n0 XW nm d bk bn sz' τ' M' pc' ls (v.toList ++ rest) Q QX) (kx : ∀ (E : String) (sz' sz2 : Nat) (τ' : TY) (M' : ME), QX' E sz' τ' M' → sz' ≤ sz2 → QX E sz2 τ' M') : T l D cA n0 XW nm d (bk + mc') (bn + ms') sz τ M pc ls st Q QX := by
  subst hp
  refine T_runX (Q' := Q') (QX' := QX') (rest := rest) ?_ k kx
  intro p e R s m args below meth c H locs cells slots mc ms la X hR hS h1 h2 hL
  obtain ⟨hx, hbc, hml, -, hown, hSW, hsz, -, -, hdR, hlR, hmc, hms, -⟩ := id X
  have hts := hSW.words (args := args)
  obtain ⟨w1, w2, w3⟩ := hw
  exact ⟨_, vx_runS ⟨hx, hbc, hml, hown, hts⟩ hM ⟨w1.cb hts w2 hdd hdR hlR, hts _ w3⟩ ⟨PreM.blind hX _, fun U hU hW => ⟨rfl, PreM.at hX hsz hSW hR hS hU hW⟩⟩ rfl hn hL hst (by simpa [JFrame.monitorRoom] using hcat) hd ⟨by omega, by omega⟩⟩
theorem T_callXV {b : Nat} (hM : CX l D cA n0 XW nm' d' mc' ms' sz τ M (.ref b :: As) Q' QX') (hX : SF n0 XW) (hw : WV nm' nm.y.cls idx n) (hb : Rcv D XW n0 τ nm'.y.cls b) (hdd : d' + 1 ≤ d) (hn : As.length = n) (hst : st = As.reverse ++ .ref b :: rest) (hcat : (rest.map fun v => v.category).sum ≤ 8) (hd : decode nm.cc pc = .ok (.invokevirtual idx, 3)) (hp : pc + 3 = pc')
    (k : ∀ (v : Option Value) (sz' : Nat) (τ' : TY) (M' : ME), Q' v sz' τ' M' → T l D cA n0 XW nm d bk bn sz' τ' M' pc' ls (v.toList ++ rest) Q QX) (kx : ∀ (E : String) (sz' sz2 : Nat) (τ' : TY) (M' : ME), QX' E sz' τ' M' → sz' ≤ sz2 → QX E sz2 τ' M') : T l D cA n0 XW nm d (bk + mc') (bn + ms') sz τ M pc ls st Q QX := by
  subst hp
  refine T_runX (Q' := Q') (QX' := QX') (rest := rest) ?_ k kx
  intro p e R s m args below meth c H locs cells slots mc ms la X hR hS h1 h2 hL
  obtain ⟨hx, hbc, hml, -, hown, hSW, hsz, -, -, hdR, hlR, hmc, hms, -⟩ := id X
  have hts := hSW.words (args := args)
  obtain ⟨w1, w2, w3, w4⟩ := hw
  exact ⟨_, vx_runV (C := nm'.y.cls) ⟨hx, hbc, hml, hown, hts⟩ hM ⟨w1.cb hts w2 hdd hdR hlR, hts _ w3, hts _ w4⟩ ⟨PreM.blind hX _, hb.get hSW hR hS, fun U hU hW => ⟨rfl, PreM.at hX hsz hSW hR hS hU hW⟩⟩ rfl hn hL hst (by simpa [JFrame.monitorRoom] using hcat) hd ⟨by omega, by omega⟩⟩
end CONTRACT
