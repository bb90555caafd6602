/-! strings: constants, or made -/
theorem wcp2 : Cond.static arraycopyName ∈ GW := (inGW (List.mem_of_getElem? (i := 1249) (by decide +kernel)) (by decide +kernel))
theorem wcp3 : Cond.native arraycopyName ∈ GW := (inGW (List.mem_of_getElem? (i := 1250) (by decide +kernel)) (by decide +kernel))
theorem wcp4 : Cond.initialized "java/lang/System" ∈ GW := (inGW (List.mem_of_getElem? (i := 64) (by decide +kernel)) (by decide +kernel))
theorem nfw_cp : nativeFrameWords "java/lang/System" "arraycopy" 5 ≤ 40 := by decide +kernel
theorem kxJ7_310 : Cond.methodLink RJ7 310 ⟨"[B", "clone", "()Ljava/lang/Object;"⟩ ∈ GW := (inGW (List.mem_of_getElem? (i := 1240) (by decide +kernel)) (by decide +kernel))
theorem kxJ7_150 : Cond.methodLink RJ7 150 arraycopyName ∈ GW := (inGW (List.mem_of_getElem? (i := 1248) (by decide +kernel)) (by decide +kernel))
theorem kxJ0_212 : Cond.methodLink RJ0 212 arraycopyName ∈ GW := (inGW (List.mem_of_getElem? (i := 1312) (by decide +kernel)) (by decide +kernel))
theorem wcl1 : Cond.sameMethod "[B" "java/lang/Object" "clone" "()Ljava/lang/Object;" ∈ GW := (inGW (List.mem_of_getElem? (i := 1241) (by decide +kernel)) (by decide +kernel))
theorem wcl2 : Cond.native ⟨"java/lang/Object", "clone", "()Ljava/lang/Object;"⟩ ∈ GW := (inGW (List.mem_of_getElem? (i := 1242) (by decide +kernel)) (by decide +kernel))
theorem wcl3 : Cond.instanceMethod ⟨"java/lang/Object", "clone", "()Ljava/lang/Object;"⟩ ∈ GW := (inGW (List.mem_of_getElem? (i := 1243) (by decide +kernel)) (by decide +kernel))
theorem wcl4 : Cond.selects "[B" ⟨"[B", "clone", "()Ljava/lang/Object;"⟩ ⟨"java/lang/Object", "clone", "()Ljava/lang/Object;"⟩ ∈ GW := (inGW (List.mem_of_getElem? (i := 1244) (by decide +kernel)) (by decide +kernel))
theorem wcl5 : Cond.castable "[B" "java/lang/Cloneable" ∈ GW := (inGW (List.mem_of_getElem? (i := 1245) (by decide +kernel)) (by decide +kernel))
theorem cp_gen {c1 : ClassId} {cs : Cell} {f g : Nat → Int32} {sp dp n n1 : Nat} (hs : ∀ i, i < n → cs.slots[sp + i]? = some (.int (f (sp + i)))) : (arrV c1 n1 (fun j => .int (g j))).storeRun dp (cs.stretch sp n) = arrV c1 n1 (fun j => .int (va_cpy f g sp dp n j)) := by
  have e : cs.stretch sp n = (arrV c1 (sp + n) (fun j => .int (f j))).stretch sp n := by
    unfold Cell.stretch
    apply List.map_congr_left
    intro i hi
    have hi' := List.mem_range.mp hi
    rw [Array.getD_eq_getD_getElem?, Array.getD_eq_getD_getElem?, hs i hi', arrV_read _ _ (by omega)]
  rw [e]
  exact va_copied (n0 := sp + n) (fun z => .int z) c1 c1 f g (Nat.le_refl _)
/-- w elements of f, from sp on, laid into a at dp -/
def cbM (M : ME) (f : Nat → Int32) (a sp dp w : Nat) : ME := fun b i => if b = a then (if dp ≤ i ∧ i < dp + w then .int (f (sp + (i - dp))) else M a i) else M b i
theorem cbM_a {M : ME} {f : Nat → Int32} {a sp dp w b : Nat} (h : b ≠ a) : cbM M f a sp dp w b = M b := by funext i; simp [cbM, h]
theorem cbM_i {M : ME} {f : Nat → Int32} {a sp dp w i : Nat} (h : dp ≤ i) (h2 : i < dp + w) : cbM M f a sp dp w a i = .int (f (sp + (i - dp))) := by simp [cbM, h, h2]
theorem cbM_o {M : ME} {f : Nat → Int32} {a sp dp w i : Nat} (h : ¬ (dp ≤ i ∧ i < dp + w)) : cbM M f a sp dp w a i = M a i := by
  show (if _ then _ else _) = _
  rw [if_pos rfl, if_neg h]
/-- where bytes can be read -/
def Src (D : va_G) (cA : Nat → ClassId) (n0 : Nat) (XW : State → Heap → Prop) (sz : Nat) (τ : TY) (M : ME) (a0 n1 : Nat) (f : Nat → Int32) : Prop := ∀ (s : State) (H : Heap) (locs : List Loc), SW D cA XW s s.heap → Rep D cA n0 sz τ M H → va_S (AA n0) s.heap H locs →
  ∃ cs : Cell, H[a0]? = some cs ∧ s.isArrayOf cs .byte ∧ cs.vm ≠ .unknown ∧ n1 ≤ cs.slots.size ∧ cs.slots.size.toInt32 = Int32.ofNat n1 ∧ ∀ j, j < n1 → cs.slots[j]? = some (.int (f j))
section STR
variable {l : Launch} {D : va_G} {cA : Nat → ClassId} {n0 : Nat} {XW : State → Heap → Prop} {nm nm' : MI} {d d' bk bn mc' ms' sz : Nat} {τ : TY} {M : ME} {Q Q' : QT} {QX : QXT} {ls st rest As : List Value} {pc pc' idx n : Nat}
theorem Src.arr {a0 n1 : Nat} {f : Nat → Int32} (ha : τ a0 = (101, n1)) (hf : ∀ j, j < n1 → M a0 j = .int (f j)) : Src D cA n0 XW sz τ M a0 n1 f := by
  intro s H locs hSW hR hS
  have h := hR.arr (j := 1) ha (by decide)
  have h2 : H[a0]? = some (arrV (cA 1) n1 (fun j => .int (vI (M a0 j)))) := h
  refine ⟨_, h2, (hSW.1.2 1 _ (tysL_at (by decide))).1 n1 (fun j => .int (vI (M a0 j))), (fun q => by cases q), ?_, ?_, fun j hj => ?_⟩
  · show n1 ≤ (arrV _ _ _).slots.size
    rw [arrV_size]; exact Nat.le_refl _
  · show (arrV _ _ _).slots.size.toInt32 = _
    rw [arrV_size]
  · show (arrV _ _ _).slots[j]? = _
    rw [arrV_read _ _ hj, hf j hj]
    rfl
theorem Src.cst {a0 n1 : Nat} {f : Nat → Int32} (hT : ∀ (U : State) (H : Heap), XW U H → va_T .byte a0 n1 (fun j => .int (f j)) (AA n0) U H) : Src D cA n0 XW sz τ M a0 n1 f := by
  intro s H locs hSW hR hS
  obtain ⟨cs, g1, g2, g3, g4, g5, g6, g7⟩ := (hT _ _ hSW.2.2).kept hS.2.1
  exact ⟨cs, g1, g2, g3, g4, g5, g6⟩
theorem WB.cb0 {R : Room} {s : State} {args : Array Value} (hw : WB nm' n) (hts : ∀ w ∈ GW, w.before args s = true) (hdd : d' + 1 ≤ d) (hdR : d ≤ R.frames) (hlR : 41 * d ≤ R.locals) : (rmD d' mc' ms').cells = mc' ∧ (rmD d' mc' ms').slots = ms' ∧ (rmD d' mc' ms').frames + 1 ≤ R.frames ∧ 8 + (nm'.nL + 11) + (rmD d' mc' ms').locals ≤ R.locals ∧ (∀ w ∈ ([.code nm'.y nm'.cc nm'.nL nm'.ret] : List Cond), ∀ (a' : Array Value) (U : State), s.WarmedH U.vm → w.before a' U = true) ∧ Cond.code nm'.y nm'.cc nm'.nL nm'.ret ∈ ([.code nm'.y nm'.cc nm'.nL nm'.ret] : List Cond) := by
  obtain ⟨w1, w2, -, -, -, w6⟩ := hw
  refine ⟨rfl, rfl, by show d' + 1 ≤ _; omega, by show 8 + (nm'.nL + 11) + 41 * d' ≤ _; omega, fun w hw a' U hW => ?_, List.mem_cons_self⟩
  obtain rfl : w = _ := by simpa using hw
  exact word_at hW (Or.inl (by first | rfl | simp [Cond.onTables, Cond.keeps, Cond.steady])) (hts _ w2)
theorem T_cpb {a0 a n1 n2 sp dp w : Nat} {z0 z1 cn : Int32} {f : Nat → Int32} (hsrc : Src D cA n0 XW sz τ M a0 n1 f) (hfit : ∀ j, j < n1 → fits .byte (.int (f j)) = true) (hz0 : z0 = nI sp) (hz1 : z1 = nI dp) (hcn : cn = nI w) (ha : τ a = (101, n2)) (h1w : sp + w ≤ n1) (h2w : dp + w ≤ n2) (hn1 : n1 < 2 ^ 30) (hn2 : n2 < 2 ^ 30) (hw : Cond.methodLink nm.y.cls idx arraycopyName ∈ GW) (hdd : 2 ≤ d) (hcat : (st.map fun v => v.category).sum ≤ 8) (hd : decode nm.cc pc = .ok (.invokestatic idx, 3)) (hp : pc + 3 = pc')
    (kk : T l D cA n0 XW nm d bk bn sz τ (cbM M f a sp dp w) pc' ls st Q QX) : T l D cA n0 XW nm d bk bn sz τ M pc ls (.int cn :: .int z1 :: .ref a :: .int z0 :: .ref a0 :: st) Q QX := by
  subst hp hz0 hz1 hcn
  intro p e R s m args below meth cd H locs cells slots mc ms la Z X hR hS h1 h2 hL r1 r2 r3
  obtain ⟨hx, hb, hml, -, hown, hSW, -, -, -, hdR, hlR, -⟩ := id X
  have hts := hSW.words (args := args)
  obtain ⟨cs, hc0, hcs, hcu, hcz, -, hcv⟩ := hsrc _ _ _ hSW hR hS
  have hc1 : H[a]? = some (vp_cell (cA 1) (n2, .inl fun i => vI (M a i))) := hR.arr (j := 1) ha (by decide)
  obtain ⟨hcst, k0, hk0, cm0, hkk0⟩ := hcs
  obtain ⟨-, k1, hk1, cm1, hkk1⟩ := (hSW.1.2 1 _ (tysL_at (by decide))).1 n2 (fun j => .int (vI (M a j)))
  have ew : (nI w).toNatClampNeg = w := nI_clamp (by omega)
  have es : (nI sp).toNatClampNeg = sp := nI_clamp (by omega)
  have ed : (nI dp).toNatClampNeg = dp := nI_clamp (by omega)
  have iw : (nI w).toInt = (w : Int) := nI_toInt (by omega)
  have is' : (nI sp).toInt = (sp : Int) := nI_toInt (by omega)
  have id' : (nI dp).toInt = (dp : Int) := nI_toInt (by omega)
  have hln : la.size = nm.nL := hL.1
  intro T0 hT X0
  obtain ⟨vm', X', step⟩ := X0.arraycopy hx hown (hts _ hw) (hts _ wcp3) (hts _ wcp2) (hts _ wcp4) (src := a0) (dst := a) (cs := cs) (cd := vp_cell (cA 1) (n2, .inl fun i => vI (M a i))) (srcPos := nI sp) (destPos := nI dp) (n := nI w) (by rw [hT]; exact hc0) (by rw [hT]; exact hc1)
    hcst (fun _ h => by cases h) hcu (fun h => by cases h) hk0 hk1 hkk0 hkk1 (by simp [refKind, jT]) (nI_pos (by omega)) (nI_pos (by omega)) (nI_pos (by omega))
    (by rw [iw, is']; omega)
    (by rw [iw, id']; show ¬ _ > ((arrV (cA 1) n2 (fun j => .int (vI (M a j)))).slots.size : Int); rw [arrV_size]; omega)
    (fun vm₁ _ i hi => by
      rw [ew] at hi
      have e : cs.slots.getD ((nI sp).toNatClampNeg + i) .null = .int (f (sp + i)) := by
        rw [Array.getD_eq_getD_getElem?, es, hcv _ (by omega)]
        rfl
      refine ⟨?_, ?_⟩
      · rw [e]; exact hfit _ (by omega)
      · rw [e]
        exact trivial)
    (g := F0 m pc la (.int (nI w) :: .int (nI dp) :: .ref a :: .int (nI sp) :: .ref a0 :: st)) rfl (by rw [hml]; exact hln) (rest := st) rfl (by rw [hb]; exact hd) (by omega) (by show 2 * 0 + _ + _ ≤ _; have := nfw_cp; omega)
  have e1 : copied cs (vp_cell (cA 1) (n2, .inl fun i => vI (M a i))) (nI sp) (nI dp) (nI w) = vp_cell (cA 1) (n2, .inl (va_cpy f (fun i => vI (M a i)) sp dp w)) := by
    have h := cp_gen (c1 := cA 1) (cs := cs) (f := f) (g := fun i => vI (M a i)) (sp := sp) (dp := dp) (n := w) (n1 := n2) (fun i hi => hcv _ (by omega))
    rw [← es, ← ed, ← ew] at h
    rw [es, ed, ew] at h
    show (arrV (cA 1) n2 (fun j => .int (vI (M a j)))).storeRun (nI dp).toNatClampNeg (cs.stretch (nI sp).toNatClampNeg (nI w).toNatClampNeg) = _
    rw [es, ed, ew]
    exact h
  rw [e1] at X' step
  have hl : a < H.size := (Array.getElem?_eq_some_iff.mp hc1).1
  generalize hcell : vp_cell (cA 1) (n2, .inl (va_cpy f (fun i => vI (M a i)) sp dp w)) = cnew at X' step
  have hheap : ((T0.setVm vm').setCell a cnew).heap = H.setIfInBounds a cnew := by rw [← hT]; rfl
  have oq : ∀ q : Nat, q ≠ a → (H.setIfInBounds a cnew)[q]? = H[q]? := fun q hq => by simp [Array.getElem?_setIfInBounds, Ne.symm hq]
  have hfree : AA n0 a := (hR.2 a (by rw [ha]; simp)).1
  obtain ⟨t, a1, b1⟩ := kk p e R s m args below meth cd _ _ cells slots mc ms la Z X (hR.set (by simp) oq (fun b hb => cbM_a hb) (by rw [ha]; simp) (by
      rw [ha]
      show (H.setIfInBounds a _)[a]? = some (vp_cell (cA 1) (n2, .inl fun i => vI (cbM M f a sp dp w a i)))
      rw [Array.getElem?_setIfInBounds_self_of_lt hl, ← hcell]
      congr 2
      have e9 : ∀ i, va_cpy f (fun i => vI (M a i)) sp dp w i = vI (cbM M f a sp dp w a i) := fun i => by
        unfold va_cpy
        by_cases hi : dp ≤ i ∧ i < dp + w
        · rw [if_pos hi, cbM_i hi.1 hi.2]
          rfl
        · rw [if_neg hi, cbM_o hi]
      rw [show va_cpy f (fun i => vI (M a i)) sp dp w = fun i => vI (cbM M f a sp dp w a i) from funext e9])) ⟨by simp; exact hS.1, fun q g1 g2 => by
      rw [oq q (fun e => g2 (by rw [e]; exact hfree))]
      exact hS.2.1 q g1 g2, fun q hq => by
      rcases List.mem_append.mp hq with h | h
      · exact hS.2.2 q h
      · obtain ⟨z, -, hz⟩ := List.mem_map.mp h
        rw [← hz]
        exact hfree⟩ h1 h2 hL r1 r2 r3 _ hheap X'
  exact ⟨t, step t a1, b1⟩
/-- a call by an object of another class than the one that has the method -/
def WVC (nm : MI) (own : String) (idx n : Nat) (C : String) : Prop := WB nm n ∧ Cond.methodLink own idx nm.y ∈ GW ∧ Cond.instanceMethod nm.y ∈ GW ∧ Cond.selects C nm.y nm.y ∈ GW
theorem T_callVC {b : Nat} {C : String} (hM : CT l D cA n0 XW nm' d' mc' ms' sz τ M (.ref b :: As) Q') (hX : SF n0 XW) (hw : WVC nm' nm.y.cls idx n C) (hb : Rcv D XW n0 τ C b) (hdd : d' + 1 ≤ d) (hn : As.length = n) (hst : st = As.reverse ++ .ref b :: rest) (hcat : (rest.map fun v => v.category).sum ≤ 8) (hd : decode nm.cc pc = .ok (.invokevirtual idx, 3)) (hp : pc + 3 = pc')
    (k : ∀ (v : Option Value) (sz' : Nat) (τ' : TY) (M' : ME), Q' v sz' τ' M' → T l D cA n0 XW nm d bk bn sz' τ' M' pc' ls (v.toList ++ rest) Q QX) : T l D cA n0 XW nm d (bk + mc') (bn + ms') sz τ M pc ls st Q QX := by
  subst hp
  refine T_run (Q' := Q') (rest := rest) ?_ k
  intro p e R s m args below meth c H locs cells slots mc ms la X hR hS h1 h2 hL
  obtain ⟨hx, hbc, hml, -, hown, hSW, hsz, -, -, hdR, hlR, hmc, hms, -⟩ := id X
  have hts := hSW.words (args := args)
  obtain ⟨w1, w2, w3, w4⟩ := hw
  exact ⟨_, va_runV (C := C) ⟨hx, hbc, hml, hown, hts⟩ hM ⟨w1.cb hts w2 hdd hdR hlR, hts _ w3, hts _ w4⟩ ⟨PreM.blind hX _, hb.get hSW hR hS, fun U hU hW => ⟨rfl, PreM.at hX hsz hSW hR hS hU hW⟩⟩ rfl hn hL hst (by simpa [JFrame.monitorRoom] using hcat) hd ⟨by omega, by omega⟩⟩
theorem T_less {bk1 bn1 : Nat} (h1 : bk1 ≤ bk) (h2 : bn1 ≤ bn) (k : T l D cA n0 XW nm d bk1 bn1 sz τ M pc ls st Q QX) : T l D cA n0 XW nm d bk bn sz τ M pc ls st Q QX := by
  intro p e R s m args below meth c H locs cells slots mc ms la Z X hR hS g1 g2 hL r1 r2 r3
  exact k p e R s m args below meth c H locs cells slots mc ms la Z X hR hS (by omega) (by omega) hL r1 r2 r3
theorem T_ishl {x y : Int32} (hd : decode nm.cc pc = .ok (.ishl, 1)) (hp : pc + 1 = pc') (k : T l D cA n0 XW nm d bk bn sz τ M pc' ls (.int (x <<< (y &&& 31)) :: st) Q QX) : T l D cA n0 XW nm d bk bn sz τ M pc ls (.int y :: .int x :: st) Q QX := by
  subst hp
  exact T_go (fun p e R s m args below meth c H locs cells slots la Z hx hb hL kk => lv_ishl hx hb hd kk) k
theorem T_null (hd : decode nm.cc pc = .ok (.aconst_null, 1)) (hp : pc + 1 = pc') (k : T l D cA n0 XW nm d bk bn sz τ M pc' ls (.null :: st) Q QX) : T l D cA n0 XW nm d bk bn sz τ M pc ls st Q QX := by
  subst hp
  exact T_go (fun p e R s m args below meth c H locs cells slots la Z hx hb hL kk => lv_null hx hb hd kk) k
theorem T_ifnn {x : Nat} {off : Int} (tgt : Nat) (hd : decode nm.cc pc = .ok (.ifnonnull off, 3)) (ht : (pc : Int) + off = (tgt : Int)) (k : T l D cA n0 XW nm d bk bn sz τ M tgt ls st Q QX) : T l D cA n0 XW nm d bk bn sz τ M pc ls (.ref x :: st) Q QX :=
  T_go (fun p e R s m args below meth c H locs cells slots la Z hx hb hL kk => lv_ifnonnull hx hb hd ht kk) k
theorem T_ldcI {v : Int32} (hw : Cond.constant nm.y.cls idx v ∈ GW) (hd : decode nm.cc pc = .ok (.ldc idx, 2)) (hp : pc + 2 = pc') (k : T l D cA n0 XW nm d bk bn sz τ M pc' ls (.int v :: st) Q QX) : T l D cA n0 XW nm d bk bn sz τ M pc ls st Q QX := by
  subst hp
  intro p e R s m args below meth c H locs cells slots mc ms la Z X hR hS g1 g2 hL r1 r2 r3
  obtain ⟨hx, hbc, hml, -, hown, hSW, -⟩ := id X
  exact lv_ldc hx hbc hown (hSW.words (args := args) _ hw) hd (k p e R s m args below meth c H locs cells slots mc ms la Z X hR hS g1 g2 hL r1 r2 r3)
/-- a super class's method, called by an object of the memory -/
def WSU (nm : MI) (own : String) (idx n : Nat) : Prop := WB nm n ∧ Cond.methodLink own idx nm.y ∈ GW ∧ Cond.sameMethod nm.y.cls nm.y.cls nm.y.name nm.y.desc ∈ GW ∧ Cond.superclass own nm.y.cls ∈ GW ∧ Cond.instanceMethod nm.y ∈ GW ∧ nm.y.name ≠ "<init>"
theorem T_callSU {b nb : Nat} {c9 : Nat} {C : String} {TT : u_T} {N : Nat} (hM : CT l D cA n0 XW nm' d' mc' ms' sz τ M (.ref b :: As) Q') (hX : SF n0 XW) (hw : WSU nm' nm.y.cls idx n) (hb : τ b = (c9, nb)) (hc9 : c9 < 100) (hcl : vwCl[c9]? = some (C, TT, N)) (hdd : d' + 1 ≤ d) (hn : As.length = n) (hst : st = As.reverse ++ .ref b :: rest) (hcat : (rest.map fun v => v.category).sum ≤ 8) (hd : decode nm.cc pc = .ok (.invokespecial idx, 3)) (hp : pc + 3 = pc')
    (k : ∀ (v : Option Value) (sz' : Nat) (τ' : TY) (M' : ME), Q' v sz' τ' M' → T l D cA n0 XW nm d bk bn sz' τ' M' pc' ls (v.toList ++ rest) Q QX) : T l D cA n0 XW nm d (bk + mc') (bn + ms') sz τ M pc ls st Q QX := by
  subst hp
  refine T_run (Q' := Q') (rest := rest) ?_ k
  intro p e R s m args below meth c H locs cells slots mc ms la X hR hS h1 h2 hL
  obtain ⟨hx, hbc, hml, -, hown, hSW, hsz, -, -, hdR, hlR, hmc, hms, -⟩ := id X
  have hts := hSW.words (args := args)
  obtain ⟨w1, w2, w3, w4, w5, w6⟩ := hw
  have hcb := w1.cb0 (mc' := mc') (ms' := ms') hts hdd hdR hlR
  have hbb : Rcv D XW n0 τ C b := Or.inl ⟨c9, nb, TT, N, hb, hc9, hcl⟩
  refine ⟨_, va_runSU (C := C) (hSW.1.1 c9 _ hcl).2 ⟨hx, hbc, hml, hown, hts⟩ hM ⟨hcb, hts _ w2, hts _ w3, hts _ w4, hts _ w5, hts _ w1.1, hts _ w1.2.1, w6, fun sig h => ?_⟩ ⟨PreM.blind hX _, hbb.get hSW hR hS, fun U hU hW => ⟨rfl, PreM.at hX hsz hSW hR hS hU hW⟩⟩ rfl hn hL hst (by simpa [JFrame.monitorRoom] using hcat) hd ⟨by omega, by omega⟩⟩
  have h2 := w1.2.2.2.2.1
  rw [h] at h2
  exact (Option.some.inj h2).symm
/-- a call that another class's method answers -/
def WVO (x : MethodName) (nm : MI) (own : String) (idx n : Nat) (C owner : String) : Prop := WB nm n ∧ Cond.methodLink own idx x ∈ GW ∧ Cond.sameMethod x.cls owner x.name x.desc ∈ GW ∧ Cond.instanceMethod ⟨owner, x.name, x.desc⟩ ∈ GW ∧ Cond.selects C x nm.y ∈ GW ∧ Cond.instanceMethod nm.y ∈ GW ∧ (∃ b0 m0 r0, Cond.code ⟨owner, x.name, x.desc⟩ b0 m0 r0 ∈ GW) ∧ owner ≠ "java/lang/invoke/MethodHandle" ∧ owner ≠ "java/lang/invoke/VarHandle" ∧ (parseMethodDescriptor x.desc).map (fun d => d.parameters.length) = some n
theorem T_callVO {x : MethodName} {b : Nat} {C owner : String} (hM : CT l D cA n0 XW nm' d' mc' ms' sz τ M (.ref b :: As) Q') (hX : SF n0 XW) (hw : WVO x nm' nm.y.cls idx n C owner) (hb : Rcv D XW n0 τ C b) (hdd : d' + 1 ≤ d) (hn : As.length = n) (hst : st = As.reverse ++ .ref b :: rest) (hcat : (rest.map fun v => v.category).sum ≤ 8) (hd : decode nm.cc pc = .ok (.invokevirtual idx, 3)) (hp : pc + 3 = pc')
    (k : ∀ (v : Option Value) (sz' : Nat) (τ' : TY) (M' : ME), Q' v sz' τ' M' → T l D cA n0 XW nm d bk bn sz' τ' M' pc' ls (v.toList ++ rest) Q QX) : T l D cA n0 XW nm d (bk + mc') (bn + ms') sz τ M pc ls st Q QX := by
  subst hp
  refine T_run (Q' := Q') (rest := rest) ?_ k
  intro p e R s m args below meth c H locs cells slots mc ms la X hR hS h1 h2 hL
  obtain ⟨hx, hbc, hml, -, hown, hSW, hsz, -, -, hdR, hlR, hmc, hms, -⟩ := id X
  have hts := hSW.words (args := args)
  obtain ⟨w1, w2, w3, w4, w5, w6, ⟨b0, m0, r0, w7⟩, w8, w9, w10⟩ := hw
  have hcb := w1.cb0 (mc' := mc') (ms' := ms') hts hdd hdR hlR
  refine ⟨_, va_runU (C := C) (owner := owner) (x := x) ⟨hx, hbc, hml, hown, hts⟩ hM ⟨hcb, hts _ w1.2.1, hts _ w1.1, ⟨w8, w9⟩, fun sig h => ?_, hts _ w2, hts _ w3, va_Decl.of (hts _ w4) (hts _ w7), hts _ w5, hts _ w6⟩ ⟨PreM.blind hX _, hb.get hSW hR hS, fun U hU hW => ⟨rfl, PreM.at hX hsz hSW hR hS hU hW⟩⟩ rfl hn hL hst (by simpa [JFrame.monitorRoom] using hcat) hd ⟨by omega, by omega⟩⟩
  rw [h] at w10
  exact (Option.some.inj w10).symm
theorem T_clB {a n1 : Nat} (ha : τ a = (101, n1)) (hfit : ∀ i, i < n1 → fits .byte (.int (vI (M a i))) = true) (hw : Cond.methodLink nm.y.cls idx ⟨"[B", "clone", "()Ljava/lang/Object;"⟩ ∈ GW) (hdd : 2 ≤ d) (hcat : (st.map fun v => v.category).sum ≤ 8) (hd : decode nm.cc pc = .ok (.invokevirtual idx, 3)) (hp : pc + 3 = pc')
    (kk : T l D cA n0 XW nm d bk bn (sz + 1) (tyN τ sz (101, n1)) (meN M sz (M a)) pc' ls (.ref sz :: st) Q QX) : T l D cA n0 XW nm d (bk + 1) (bn + n1) sz τ M pc ls (.ref a :: st) Q QX := by
  subst hp
  intro p e R s m args below meth cd H locs cells slots mc ms la Z X hR hS h1 h2 hL r1 r2 r3
  obtain ⟨hx, hb, hml, -, hown, hSW, -, -, -, hdR, hlR, hmc, hms, -⟩ := id X
  have hts := hSW.words (args := args)
  have hz := SzM X hR hS
  have hc1 : H[a]? = some (vp_cell (cA 1) (n1, .inl fun i => vI (M a i))) := hR.arr (j := 1) ha (by decide)
  obtain ⟨-, kS, hkS, compS, hkindS⟩ := (hSW.1.2 1 _ (tysL_at (by decide))).1 0 (fun _ => .null)
  have hnm : s.vm.findClass "[B" = some (cA 1) := va_nm_byte (hSW.1.2 1 _ (tysL_at (by decide))).2
  obtain ⟨c0, t0', f1, f2, f3⟩ := Cond.castable_spec (va_Nw.use (A := args) rfl (hSW.2.1 _ wcl5))
  cases hnm.symm.trans f1
  have hln : la.size = nm.nL := hL.1
  have hsz : (vp_cell (cA 1) (n1, .inl fun i => vI (M a i))).slots.size = n1 := arrV_size _ _ _
  have hcellE : ({ cls := (vp_cell (cA 1) (n1, .inl fun i => vI (M a i))).cls, slots := (vp_cell (cA 1) (n1, .inl fun i => vI (M a i))).slots } : Cell) = vp_cell (cA 1) (n1, .inl fun i => vI (M a i)) := rfl
  intro S hT X0
  obtain ⟨-, kA, hkA, comp, hkind⟩ := State.isArrayOf_alike X0.warmed.alike ((hSW.1.2 1 _ (tysL_at (by decide))).1 0 (fun _ => .null))
  obtain ⟨vm', X', step⟩ := X0.cloneArray hx hown (hts _ hw) (hts _ wcl1) (hts _ wcl2) (hts _ wcl3) (hts _ wcl4) (a := a) (cell := vp_cell (cA 1) (n1, .inl fun i => vI (M a i))) (by rw [hT]; exact hc1) (fun k h => by cases h) (fun h => by cases h) hnm f2 f3
    (fun i v hv => by
      have hk' : S.vm.classes[cA 1]? = some kA := hkA
      have hv2 : fits .byte v = true := va_fit (F := fun i => .int (vI (M a i))) (cA := cA 1) (n := n1) (fun i hi => hfit i hi) i v hv
      have hkb : kA.kind = .array comp .byte := hkind
      show S.fitsSlot (cA 1) _ i v = true
      simpa [State.fitsSlot, State.slotType?, hk', hkb] using hv2)
    (g := F0 m pc la (.ref a :: st)) rfl (by rw [hml]; exact hln) rfl (by rw [hb]; exact hd) (by omega) (by show 2 * 0 + _ + 14 ≤ _; omega) (by omega) (by rw [hsz]; omega) (hloader := Vm.clonesLoader_of_array hkS hkindS)
  rw [hcellE, hsz] at X'
  generalize hH1 : H.push (vp_cell (cA 1) (n1, .inl fun i => vI (M a i))) = H1
  have z1 : H1.size = sz + 1 := by rw [← hH1, Array.size_push, hR.1]
  have e1 : H1[sz]? = some (vp_cell (cA 1) (n1, .inl fun i => vI (M a i))) := by rw [← hH1, ← hR.1, Array.getElem?_push_size]
  have o1 : ∀ q : Nat, q < sz → H1[q]? = H[q]? := fun q hq => by rw [← hH1, Array.getElem?_push, if_neg (by rw [hR.1]; omega)]
  obtain ⟨t, b1, b2⟩ := kk p e R s m args below meth cd H1 locs (cells + 1) (slots + n1) mc ms la Z X (hR.new hz z1 o1 (fun b hb => tyN_n hb) (fun b hb => meN_n hb) (fun _ => by
      rw [tyN_s, meN_s]
      have hE : entM cA (101, n1) (M a) = .inl (cA 1, n1, .inl fun i => vI (M a i)) := by simp [entM, aE, arI]
      rw [hE]
      exact e1)) ⟨Nat.le_trans hS.1 (by rw [hR.1, z1]; omega), fun x y1 y2 => (o1 x (by have := hS.1; rw [hR.1] at this; omega)).trans (hS.2.1 x y1 y2), hS.2.2⟩ (by omega) (by omega) hL r1 r2 r3
    ((S.setVm vm').pushCell (vp_cell (cA 1) (n1, .inl fun i => vI (M a i)))) (by rw [← hH1, ← hT]; rfl) X'
  refine ⟨t, step t ?_, b2⟩
  have eS : S.heap.size = sz := by rw [hT]; exact hR.1
  rw [hcellE, eS]
  exact b1
theorem T_ccB {a n1 : Nat} (ha : τ a = (101, n1)) (hw : Cond.classLink nm.y.cls idx "[B" ∈ GW) (hd : decode nm.cc pc = .ok (.checkcast idx, 3)) (hp : pc + 3 = pc') (kk : T l D cA n0 XW nm d bk bn sz τ M pc' ls (.ref a :: st) Q QX) : T l D cA n0 XW nm d bk bn sz τ M pc ls (.ref a :: st) Q QX := by
  subst hp
  intro p e R s m args below meth cd H locs cells slots mc ms la Z X hR hS h1 h2 hL r1 r2 r3
  obtain ⟨hx, hb, hml, -, hown, hSW, -⟩ := id X
  have hnm : s.vm.findClass "[B" = some (cA 1) := va_nm_byte (hSW.1.2 1 _ (tysL_at (by decide))).2
  exact va_castA (ws := [(a, .inl (cA 1, aE 1 n1 (M a)))]) (D := D) (cl := vwCl) hx hb hown (hSW.words (args := args) _ hw) (fun j x hj => by
    cases j with
    | zero => simp at hj; subst hj; exact hR.arr (j := 1) ha (by decide)
    | succ j => simp at hj) 0 rfl hnm hd (kk p e R s m args below meth cd H locs cells slots mc ms la Z X hR hS h1 h2 hL r1 r2 r3)
end STR
