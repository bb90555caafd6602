section MEM2
variable {l : Launch} {D : va_G} {cA : Nat → ClassId} {n0 : Nat} {XW : State → Heap → Prop} {nm : MI} {d bk bn sz : Nat} {τ : TY} {M : ME} {Q : QT} {QX : QXT} {ls st : List Value} {pc pc' : Nat}
theorem upI {M : ME} {a j : Nat} {x : Int32} : (fun i => vI (up M a j (.int x) a i)) = upd (fun i => vI (M a i)) j x := by
  funext i
  rw [up_row]
  unfold va_up upd
  split <;> rfl
theorem T_iast {a n : Nat} {i x : Int32} (j : Nat) (ha : τ a = (100, n)) (hi : i = nI j) (hj : j < n) (hn : n < 2 ^ 31) (hd : decode nm.cc pc = .ok (.iastore, 1)) (hp : pc + 1 = pc')
    (kk : T l D cA n0 XW nm d bk bn sz τ (up M a j (.int x)) pc' ls st Q QX) : T l D cA n0 XW nm d bk bn sz τ M pc ls (.int x :: .int i :: .ref a :: st) Q QX := by
  subst hp
  intro p e R s m args below meth cd H locs cells slots mc ms la Z X hR hS h1 h2 hL r1 r2 r3
  obtain ⟨hx, hb, -, -, hown, hSW, -⟩ := id X
  obtain ⟨g1, g2⟩ := nI_in' hi hj hn
  refine W.iast hx hb (show H[a]? = some (vp_cell (cA 0) (n, .inl fun i => vI (M a i))) from hR.arr (j := 0) ha (by omega)) ((hSW.1.2 0 _ (tysL_at (by omega))).1 n (fun j => .int (vI (M a j)))) (fun q => by cases q) (by show ¬ (i < 0 ∨ (arrV _ _ _).slots.size ≤ _); rw [arrV_size]; exact g1) rfl rfl hd fun H1 ec z oq => ?_
  refine kk p e R s m args below meth cd H1 _ cells slots mc ms la Z X (hR.set z oq (fun b hb => up_a hb) (by rw [ha]; simp) ?_) (hS.put z oq (hR.2 a (by rw [ha]; simp)).1) h1 h2 hL r1 r2 r3
  rw [ha]
  show H1[a]? = some (vp_cell (cA 0) (n, .inl fun i => vI (up M a j (.int x) a i)))
  rw [upI, ec, vp_cell_i, vp_cell_i, arrV_store, g2]
  congr 2
  funext q
  by_cases hq : q = j
  · subst hq
    simp [updV, upd]
  · simp [updV, upd, hq]
theorem T_bast {a n : Nat} {i x : Int32} (j : Nat) (ha : τ a = (101, n)) (hi : i = nI j) (hj : j < n) (hn : n < 2 ^ 31) (hd : decode nm.cc pc = .ok (.bastore, 1)) (hp : pc + 1 = pc')
    (kk : T l D cA n0 XW nm d bk bn sz τ (up M a j (.int (vp_nar .byte x))) pc' ls st Q QX) : T l D cA n0 XW nm d bk bn sz τ M pc ls (.int x :: .int i :: .ref a :: st) Q QX := by
  subst hp
  intro p e R s m args below meth cd H locs cells slots mc ms la Z X hR hS h1 h2 hL r1 r2 r3
  obtain ⟨hx, hb, -, -, hown, hSW, -⟩ := id X
  obtain ⟨g1, g2⟩ := nI_in' hi hj hn
  refine W.bast hx hb (show H[a]? = some (vp_cell (cA 1) (n, .inl fun i => vI (M a i))) from hR.arr (j := 1) ha (by omega)) ((hSW.1.2 1 _ (tysL_at (by omega))).1 n (fun j => .int (vI (M a j)))) (fun q => by cases q) (by show ¬ (i < 0 ∨ (arrV _ _ _).slots.size ≤ _); rw [arrV_size]; exact g1) rfl rfl hd fun H1 ec z oq => ?_
  refine kk p e R s m args below meth cd H1 _ cells slots mc ms la Z X (hR.set z oq (fun b hb => up_a hb) (by rw [ha]; simp) ?_) (hS.put z oq (hR.2 a (by rw [ha]; simp)).1) h1 h2 hL r1 r2 r3
  rw [ha]
  show H1[a]? = some (vp_cell (cA 1) (n, .inl fun i => vI (up M a j (.int (vp_nar .byte x)) a i)))
  rw [upI, ec, vp_cell_i, vp_cell_i, arrV_store, g2]
  congr 2
  funext q
  by_cases hq : q = j
  · subst hq
    simp [updV, upd, vp_nar, narrow]
  · simp [updV, upd, hq]
theorem T_last {a n : Nat} {i : Int32} {x : Int64} (j : Nat) (ha : τ a = (102, n)) (hi : i = nI j) (hj : j < n) (hn : n < 2 ^ 31) (hd : decode nm.cc pc = .ok (.lastore, 1)) (hp : pc + 1 = pc')
    (kk : T l D cA n0 XW nm d bk bn sz τ (up M a j (.long x)) pc' ls st Q QX) : T l D cA n0 XW nm d bk bn sz τ M pc ls (.long x :: .int i :: .ref a :: st) Q QX := by
  subst hp
  intro p e R s m args below meth cd H locs cells slots mc ms la Z X hR hS h1 h2 hL r1 r2 r3
  obtain ⟨hx, hb, -, -, hown, hSW, -⟩ := id X
  obtain ⟨g1, g2⟩ := nI_in' hi hj hn
  refine W.last hx hb (show H[a]? = some (vp_cell (cA 2) (n, .inr (.inl fun i => vL (M a i)))) from hR.arr (j := 2) ha (by omega)) ((hSW.1.2 2 _ (tysL_at (by omega))).1 n (fun j => .long (vL (M a j)))) (fun q => by cases q) (by show ¬ (i < 0 ∨ (arrV _ _ _).slots.size ≤ _); rw [arrV_size]; exact g1) rfl rfl hd fun H1 ec z oq => ?_
  refine kk p e R s m args below meth cd H1 _ cells slots mc ms la Z X (hR.set z oq (fun b hb => up_a hb) (by rw [ha]; simp) ?_) (hS.put z oq (hR.2 a (by rw [ha]; simp)).1) h1 h2 hL r1 r2 r3
  rw [ha]
  show H1[a]? = some (vp_cell (cA 2) (n, .inr (.inl fun i => vL (up M a j (.long x) a i))))
  rw [ec, vp_cell_l, vp_cell_l, arrV_store, g2]
  congr 2
  funext q
  rw [up_row]
  by_cases hq : q = j
  · subst hq
    simp [updV, va_up, vL]
  · simp [updV, va_up, hq]
/-- an object of the array's own class is put into it -/
theorem T_aast {a n b : Nat} {i : Int32} (t j c nb : Nat) {C : String} {TT : u_T} {N : Nat} (ht : 3 ≤ t ∧ t < 9) (ha : τ a = (100 + t, n)) (hi : i = nI j) (hj : j < n) (hn : n < 2 ^ 31) (hb0 : τ b = (c, nb)) (hc : c < 100) (hcl : vwCl[c]? = some (C, TT, N)) (hjt : jT t = .object C) (hd : decode nm.cc pc = .ok (.aastore, 1)) (hp : pc + 1 = pc')
    (kk : T l D cA n0 XW nm d bk bn sz τ (up M a j (.ref b)) pc' ls st Q QX) : T l D cA n0 XW nm d bk bn sz τ M pc ls (.ref b :: .int i :: .ref a :: st) Q QX := by
  subst hp
  intro p e R s m args below meth cd H locs cells slots mc ms la Z X hR hS h1 h2 hL r1 r2 r3
  obtain ⟨hx, hb, -, -, hown, hSW, -⟩ := id X
  obtain ⟨g1, g2⟩ := nI_in' hi hj hn
  have hE : ∀ f : Nat → Value, aE t n f = (n, .inr (.inr (.inr (.inr fun i => vR (f i))))) := fun f => by simp [aE, arR, show ¬ t < 2 by omega, show ¬ t = 2 by omega]
  obtain ⟨r', hr', cellV, y1, y2, y3, -⟩ := hR.obj hb0 hc
  have hcls := (hSW.1.1 c _ hcl).2
  have hty := hSW.1.2 t _ (tysL_at ht.2)
  rw [hjt] at hty
  obtain ⟨kA, comp, k1, k2, k3, -⟩ := hty.2
  have hcomp : comp = D.1 c := Option.some.inj (k3.symm.trans hcls.1)
  subst hcomp
  obtain ⟨kC, hkC, -⟩ := hcls.2
  have hne : (τ a).1 ≠ 999 := by rw [ha]; simp; omega
  have hA : H[a]? = some (vp_cell (cA t) (n, .inr (.inr (.inr (.inr fun i => vR (M a i)))))) := by have h := hR.arr ha ht.2; rw [hE] at h; exact h
  refine W.aast hx hb hA (fun q h => by cases h) (fun h => by cases h) k1 k2 rfl hkC ⟨fun q => g1 (Or.inl q), by show _ < (arrV _ _ _).slots.size; rw [arrV_size, g2]; exact hj⟩ y1 (fun q h => by rw [y3] at h; cases h) (by rw [y2]; exact hkC) (by rw [y2]; exact va_assign hcls) rfl rfl hd fun H1 ec z oq => ?_
  refine kk p e R s m args below meth cd H1 _ cells slots mc ms la Z X (hR.set z oq (fun b hb => up_a hb) hne ?_) (hS.put z oq (hR.2 a hne).1) h1 h2 hL r1 r2 r3
  rw [ha]
  have e0 : 100 + t - 100 = t := by omega
  have e1 : ¬ 100 + t < 100 := by omega
  have hM : entM cA (100 + t, n) (up M a j (.ref b) a) = .inl (cA t, n, .inr (.inr (.inr (.inr fun i => vR (up M a j (.ref b) a i))))) := by simp [entM, e0, e1, hE]
  rw [hM]
  show H1[a]? = some (vp_cell (cA t) (n, .inr (.inr (.inr (.inr fun i => vR (up M a j (.ref b) a i))))))
  rw [ec, vp_cell_q, vp_cell_q, arrV_store, g2]
  congr 2
  funext q
  rw [up_row]
  by_cases hq : q = j
  · subst hq
    simp [updV, va_up, vR, va_rf]
  · simp [updV, va_up, hq]
/-- a static constant object of a known class is put into an array of that class -/
theorem T_aastO {a n b : Nat} {i : Int32} (t j : Nat) {C : String} (ht : 3 ≤ t ∧ t < 9) (ha : τ a = (100 + t, n)) (hi : i = nI j) (hj : j < n) (hn : n < 2 ^ 31) (hO : ∀ (U : State) (H : Heap), XW U H → va_O C b (AA n0) U H) (hk : ∀ U : State, (∀ w ∈ GW, w.before #[] U = true) → ∃ (c : ClassId) (kC : Class), U.vm.findClass C = some c ∧ U.vm.classes[c]? = some kC) (hjt : jT t = .object C) (hd : decode nm.cc pc = .ok (.aastore, 1)) (hp : pc + 1 = pc')
    (kk : T l D cA n0 XW nm d bk bn sz τ (up M a j (.ref b)) pc' ls st Q QX) : T l D cA n0 XW nm d bk bn sz τ M pc ls (.ref b :: .int i :: .ref a :: st) Q QX := by
  subst hp
  intro p e R s m args below meth cd H locs cells slots mc ms la Z X hR hS h1 h2 hL r1 r2 r3
  obtain ⟨hx, hb, -, -, hown, hSW, -⟩ := id X
  obtain ⟨g1, g2⟩ := nI_in' hi hj hn
  have hE : ∀ f : Nat → Value, aE t n f = (n, .inr (.inr (.inr (.inr fun i => vR (f i))))) := fun f => by simp [aE, arR, show ¬ t < 2 by omega, show ¬ t = 2 by omega]
  obtain ⟨cellV, y1, y2, y3, -⟩ := (hO _ _ hSW.2.2).kept hS.2.1
  obtain ⟨c, kC, hcls, hkC⟩ := hk s hSW.words
  have hyc : cellV.cls = c := Option.some.inj (y3.symm.trans hcls)
  have hty := hSW.1.2 t _ (tysL_at ht.2)
  rw [hjt] at hty
  obtain ⟨kA, comp, k1, k2, k3, -⟩ := hty.2
  have hcomp : comp = c := Option.some.inj (k3.symm.trans hcls)
  subst hcomp
  have hne : (τ a).1 ≠ 999 := by rw [ha]; simp; omega
  have hA : H[a]? = some (vp_cell (cA t) (n, .inr (.inr (.inr (.inr fun i => vR (M a i)))))) := by have h := hR.arr ha ht.2; rw [hE] at h; exact h
  refine W.aast hx hb hA (fun q h => by cases h) (fun h => by cases h) k1 k2 rfl hkC ⟨fun q => g1 (Or.inl q), by show _ < (arrV _ _ _).slots.size; rw [arrV_size, g2]; exact hj⟩ y1 (fun q h => by rw [h] at y2; cases y2) (by rw [hyc]; exact hkC) (by rw [hyc]; exact va_asg _ _) rfl rfl hd fun H1 ec z oq => ?_
  refine kk p e R s m args below meth cd H1 _ cells slots mc ms la Z X (hR.set z oq (fun b hb => up_a hb) hne ?_) (hS.put z oq (hR.2 a hne).1) h1 h2 hL r1 r2 r3
  rw [ha]
  have e0 : 100 + t - 100 = t := by omega
  have e1 : ¬ 100 + t < 100 := by omega
  have hM : entM cA (100 + t, n) (up M a j (.ref b) a) = .inl (cA t, n, .inr (.inr (.inr (.inr fun i => vR (up M a j (.ref b) a i))))) := by simp [entM, e0, e1, hE]
  rw [hM]
  show H1[a]? = some (vp_cell (cA t) (n, .inr (.inr (.inr (.inr fun i => vR (up M a j (.ref b) a i))))))
  rw [ec, vp_cell_q, vp_cell_q, arrV_store, g2]
  congr 2
  funext q
  rw [up_row]
  by_cases hq : q = j
  · subst hq
    simp [updV, va_up, vR, va_rf]
  · simp [updV, va_up, hq]
/-- new objects and arrays: the next cell -/
def tyN (τ : TY) (a : Nat) (kd : KD) : TY := fun b => if b = a then kd else τ b
theorem tyN_s (τ : TY) (a : Nat) (kd : KD) : tyN τ a kd a = kd := by simp [tyN]
theorem tyN_n {τ : TY} {a b : Nat} {kd : KD} (h : b ≠ a) : tyN τ a kd b = τ b := by simp [tyN, h]
def meN (M : ME) (a : Nat) (f : Nat → Value) : ME := fun b => if b = a then f else M b
theorem meN_s (M : ME) (a : Nat) (f : Nat → Value) : meN M a f a = f := by simp [meN]
theorem meN_n {M : ME} {a b : Nat} {f : Nat → Value} (h : b ≠ a) : meN M a f b = M b := by simp [meN, h]
theorem SzM {s : State} {H : Heap} {locs : List Loc} {p : Program} {R : Room} {m : MethodId} {meth : Method} {c : Code} {mc ms : Nat} (X : Cx D cA n0 XW nm d p R s m meth c mc ms) (hR : Rep D cA n0 sz τ M H) (hS : va_S (AA n0) s.heap H locs) : n0 ≤ sz := by
  have h1 := hS.1
  rw [hR.1] at h1
  exact Nat.le_trans X.2.2.2.2.2.2.1 h1
theorem T_new {c N idx : Nat} {C : String} {TT : u_T} (ty0 : Nat → FieldType) (f : Nat → Value) (hty : ∀ k, k < N → parseFieldDescriptor (TT k).2.2.1 = some (ty0 k)) (hc : c < 100) (hcl : vwCl[c]? = some (C, TT, N)) (hkN : kN c = N) (hin : ∀ w ∈ u_ws C TT N, w ∈ GW) (hw : Cond.classLink nm.y.cls idx C ∈ GW) (hw2 : Cond.instantiable C N ∈ GW) (hw3 : Cond.initialized C ∈ GW) (hf : ∀ j, j < N → defaultValue (ty0 j) = f j) (hd : decode nm.cc pc = .ok (.new idx, 3)) (hp : pc + 3 = pc')
    (kk : T l D cA n0 XW nm d bk bn (sz + 1) (tyN τ sz (c, 0)) (meN M sz f) pc' ls (.ref sz :: st) Q QX) : T l D cA n0 XW nm d (bk + 1) (bn + N) sz τ M pc ls st Q QX := by
  subst hp
  intro p e R s m args below meth cd H locs cells slots mc ms la Z X hR hS h1 h2 hL r1 r2 r3
  obtain ⟨hx, hb, -, -, hown, hSW, -, -, -, -, -, hmc, hms, -⟩ := id X
  have hts := hSW.words (args := args)
  have hKn := hSW.1.1 c _ hcl
  have hz := SzM X hR hS
  refine W.newcK hx hb hown (hts _ hw) (hts _ hw2) (hts _ hw3) rfl hd (by omega) (by omega) hKn.2.1 hR.1 fun H1 kC hkC e1 z1 o1 => ?_
  refine kk p e R s m args below meth cd H1 locs (cells + 1) (slots + N) mc ms la Z X (hR.new hz z1 o1 (fun b hb => tyN_n hb) (fun b hb => meN_n hb) (fun _ => ?_)) ⟨Nat.le_trans hS.1 (by rw [hR.1, z1]; omega), fun x y1 y2 => (o1 x (by have := hS.1; rw [hR.1] at this; omega)).trans (hS.2.1 x y1 y2), hS.2.2⟩ (by omega) (by omega) hL r1 r2 r3
  rw [tyN_s, meN_s]
  have hE : entM cA (c, 0) f = .inr (c, (List.range (kN c)).map f) := by simp [entM, hc]
  rw [hE]
  exact ⟨_, hcl, (u_born ty0 hts hin hKn hkC e1 hty).to (fun j hj => by
    rw [hf j hj]
    simp only [vp_V, List.getD_eq_getElem?_getD]
    rw [row_at (by omega)]
    rfl)⟩
theorem T_newa {n : Int32} {N : Nat} {atype : ArrayType} (t : Nat) (f : Nat → Value) (hw : Cond.arrayClass (newarray.typeOf atype) ∈ GW) (ht : t < 3) (hjt : newarray.typeOf atype = jT t) (hn : n = nI N) (hN : N ≤ 65536) (hf : f = fun _ => defaultValue (newarray.typeOf atype)) (hd : decode nm.cc pc = .ok (.newarray atype, 2)) (hp : pc + 2 = pc')
    (kk : T l D cA n0 XW nm d bk bn (sz + 1) (tyN τ sz (100 + t, N)) (meN M sz f) pc' ls (.ref sz :: st) Q QX) : T l D cA n0 XW nm d (bk + 1) (bn + N) sz τ M pc ls (.int n :: st) Q QX := by
  subst hp
  subst hn
  intro p e R s m args below meth cd H locs cells slots mc ms la Z X hR hS h1 h2 hL r1 r2 r3
  obtain ⟨hx, hb, -, -, hown, hSW, -, -, -, -, -, hmc, hms, -⟩ := id X
  have hts := hSW.words (args := args)
  have hz := SzM X hR hS
  refine va_newaK hx hb (hts _ hw) rfl hd rfl (nI_pos (by omega)) (nI_clamp (by omega)) (by rw [hjt]; match t, ht with
    | 0, _ => show N * 4 ≤ 536870912; omega
    | 1, _ => show N * 1 ≤ 536870912; omega
    | 2, _ => show N * 8 ≤ 536870912; omega) (by omega) (by omega) hR.1 fun H1 cA' e1 z1 o1 hAr hNm => ?_
  have hc : cA' = cA t := by
    have h := (hSW.1.2 t _ (tysL_at (by omega))).2
    rw [hjt] at hNm
    have h' : s.vm.findClass ("[" ++ (jT t).toString) = some (cA t) := by
      match t, ht with
      | 0, _ => exact h
      | 1, _ => exact h
      | 2, _ => exact h
    exact Option.some.inj (hNm.symm.trans h')
  subst hc
  refine kk p e R s m args below meth cd H1 locs (cells + 1) (slots + N) mc ms la Z X (hR.new hz z1 o1 (fun b hb => tyN_n hb) (fun b hb => meN_n hb) (fun _ => ?_)) ⟨Nat.le_trans hS.1 (by rw [hR.1, z1]; omega), fun x y1 y2 => (o1 x (by have := hS.1; rw [hR.1] at this; omega)).trans (hS.2.1 x y1 y2), hS.2.2⟩ (by omega) (by omega) hL r1 r2 r3
  rw [tyN_s, meN_s]
  have e0 : 100 + t - 100 = t := by omega
  have e2 : ¬ 100 + t < 100 := by omega
  have hE : entM cA (100 + t, N) f = .inl (cA t, aE t N f) := by simp [entM, e0, e2]
  rw [hE]
  show H1[sz]? = some (vp_cell (cA t) (aE t N f))
  rw [e1, hf, hjt]
  match t, ht with
  | 0, _ => rfl
  | 1, _ => rfl
  | 2, _ => rfl
theorem T_anew {n : Int32} {N idx : Nat} {C : String} (t : Nat) (hw : Cond.classLink nm.y.cls idx C ∈ GW) (hw2 : ∀ (U : State) (H : Heap), XW U H → va_AO C U) (ht : 3 ≤ t ∧ t < 9) (hjt : jT t = .object C) (hn : n = nI N) (hN : N ≤ 65536) (hd : decode nm.cc pc = .ok (.anewarray idx, 3)) (hp : pc + 3 = pc')
    (kk : T l D cA n0 XW nm d bk bn (sz + 1) (tyN τ sz (100 + t, N)) (meN M sz fun _ => .null) pc' ls (.ref sz :: st) Q QX) : T l D cA n0 XW nm d (bk + 1) (bn + N) sz τ M pc ls (.int n :: st) Q QX := by
  subst hp
  subst hn
  intro p e R s m args below meth cd H locs cells slots mc ms la Z X hR hS h1 h2 hL r1 r2 r3
  obtain ⟨hx, hb, -, -, hown, hSW, -, -, -, -, -, hmc, hms, -⟩ := id X
  have hts := hSW.words (args := args)
  have hz := SzM X hR hS
  have hcl : (nI N).toNatClampNeg = N := nI_clamp (by omega)
  refine W.anew hx hb hown (hts _ hw) (va_AO.use (hw2 _ _ hSW.2.2)) rfl hd rfl (nI_pos (by omega)) (by rw [hcl]; omega) (by omega) (by rw [hcl]; omega) fun cA' kA comp f1 f2 f3 f4 => ?_
  rw [hcl]
  generalize hH1 : H.push ({ cls := cA', slots := Array.replicate N .null, vm := .none } : Cell) = H1
  rw [hR.1]
  have z1 : H1.size = sz + 1 := by rw [← hH1, Array.size_push, hR.1]
  have e1 : H1[sz]? = some (arrV cA' N (fun _ => .null)) := by rw [← hH1, ← hR.1, Array.getElem?_push_size, ← arrV_new]
  have o1 : ∀ q : Nat, q < sz → H1[q]? = H[q]? := fun q hq => by rw [← hH1, Array.getElem?_push, if_neg (by rw [hR.1]; omega)]
  have hc : cA' = cA t := by
    have h := (hSW.1.2 t _ (tysL_at (by omega))).2
    rw [hjt] at h
    obtain ⟨kA2, comp2, i1, i2, i3, i4⟩ := h
    exact Option.some.inj (f1.symm.trans i4)
  subst hc
  refine kk p e R s m args below meth cd H1 locs (cells + 1) (slots + N) mc ms la Z X (hR.new hz z1 o1 (fun b hb => tyN_n hb) (fun b hb => meN_n hb) (fun _ => ?_)) ⟨Nat.le_trans hS.1 (by rw [hR.1, z1]; omega), fun x y1 y2 => (o1 x (by have := hS.1; rw [hR.1] at this; omega)).trans (hS.2.1 x y1 y2), hS.2.2⟩ (by omega) (by omega) hL r1 r2 r3
  rw [tyN_s, meN_s]
  have e0 : 100 + t - 100 = t := by omega
  have e2 : ¬ 100 + t < 100 := by omega
  have hE : entM cA (100 + t, N) (fun _ => Value.null) = .inl (cA t, N, .inr (.inr (.inr (.inr fun _ => none)))) := by simp [entM, e0, e2, aE, arR, show ¬ t < 2 by omega, show ¬ t = 2 by omega, vR]
  rw [hE]
  show H1[sz]? = some (vp_cell (cA t) _)
  rw [e1]
  rfl
end MEM2
