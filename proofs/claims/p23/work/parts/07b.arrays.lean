/-! arrays of arrays of ints -/
def va_AOI (U : State) : Prop := (Cond.arrayOver (.array .int)).before #[] U = true
theorem va_AOI.moved {u U : State} (hvm : u.vm.Alike U.vm) (h : va_AOI u) : va_AOI U := by
  obtain ⟨comp, c, k, h1, h2, h3, h4, h5⟩ := arrayOverA_spec h
  obtain ⟨k', hk', he⟩ := hvm.2.2 _ _ h3
  have hi : (U.vm.classes.findIdx? fun (x : Class) => match x.kind with | .array component _ => component == comp | _ => false) = some c := by
    refine (va_idx_bare U.vm comp).symm.trans ?_
    first | rw [← hvm.bare_eq] | rw [hvm.bare_eq]
    exact (va_idx_bare u.vm comp).trans h2
  have hkind : k'.kind = .array comp (.array .int) := by rw [he]; exact h4
  have f1 : U.vm.findClass (FieldType.array .int).toString = some comp := by rw [hvm.findClass]; exact h1
  have f2 : U.vm.findClass ("[" ++ (FieldType.array .int).toString) = some c := by rw [hvm.findClass]; exact h5
  unfold va_AOI Cond.before Cond.holds
  simp only [Cond.value]
  rw [f1, Option.bind_some]
  refine (congrArg (fun o : Option Nat => (o.bind (fun c => (U.vm.classes[c]?).map fun (k : Class) => match k.kind with | .array _ ty => decide (ty = FieldType.array .int) && decide (U.vm.findClass ("[" ++ (FieldType.array .int).toString) = some c) | _ => false) == some true)) hi).trans ?_
  simp [hk', hkind, f2]
theorem arrV_cg {c : ClassId} {n : Nat} {f g : Nat → Value} (h : ∀ i, i < n → f i = g i) : arrV c n f = arrV c n g := by
  unfold arrV
  congr 1
  apply Array.ext
  · simp
  · intro i h1 h2
    simp only [Array.getElem_ofFn]
    exact h i (by simpa using h1)
theorem outC (c : ClassId) (N h0 : Nat) : ∀ i : Nat, Jvm.Free.Multi.outerC c N h0 i = arrV c N (fun j => if j < i then .ref (h0 + 1 + j) else .null)
  | 0 => by
    show ({ cls := c, slots := Array.replicate N .null, vm := .none } : Cell) = _
    rw [arrV_new]
    exact arrV_cg (fun j _ => (if_neg (Nat.not_lt_zero j)).symm)
  | i + 1 => by
    show (Jvm.Free.Multi.outerC c N h0 i).setSlot i (.ref (h0 + 1 + i)) = _
    rw [outC c N h0 i, arrV_store]
    refine arrV_cg (fun j _ => ?_)
    by_cases e : j = i
    · subst e
      simp [updV]
    · by_cases h : j < i
      · simp [updV, e, h, Nat.lt_succ_of_lt h]
      · simp [updV, e, h, show ¬ j < i + 1 by omega]
def tyM (τ : TY) (a n k : Nat) : TY := fun b => if b = a then (108, n) else if a < b ∧ b < a + 1 + n then (100, k) else τ b
def meM (M : ME) (a n : Nat) : ME := fun b => if b = a then (fun i => .ref (a + 1 + i)) else if a < b ∧ b < a + 1 + n then (fun _ => .int 0) else M b
theorem tyM_s {τ : TY} {a n k : Nat} : tyM τ a n k a = (108, n) := if_pos rfl
theorem tyM_r {τ : TY} {a n k i : Nat} (h : i < n) : tyM τ a n k (a + 1 + i) = (100, k) := by unfold tyM; rw [if_neg (by omega), if_pos ⟨by omega, by omega⟩]
theorem tyM_o {τ : TY} {a n k b : Nat} (h : b < a ∨ a + 1 + n ≤ b) : tyM τ a n k b = τ b := by unfold tyM; rw [if_neg (by omega), if_neg (by omega)]
theorem meM_s {M : ME} {a n : Nat} : meM M a n a = fun i => .ref (a + 1 + i) := if_pos rfl
theorem meM_r {M : ME} {a n i : Nat} (h : i < n) : meM M a n (a + 1 + i) = fun _ => .int 0 := by unfold meM; rw [if_neg (by omega), if_pos ⟨by omega, by omega⟩]
theorem meM_o {M : ME} {a n b : Nat} (h : b < a ∨ a + 1 + n ≤ b) : meM M a n b = M b := by unfold meM; rw [if_neg (by omega), if_neg (by omega)]
section ARRS
variable {l : Launch} {D : va_G} {cA : Nat → ClassId} {n0 : Nat} {XW : State → Heap → Prop} {nm : MI} {d bk bn sz : Nat} {τ : TY} {M : ME} {Q : QT} {QX : QXT} {ls st : List Value} {pc pc' : Nat}
theorem aE8 (n : Nat) (f : Nat → Value) : aE 8 n f = (n, .inr (.inr (.inr (.inr fun i => vR (f i))))) := by simp [aE, arR]
theorem T_aaldA {a n b : Nat} {i : Int32} (j : Nat) (ha : τ a = (108, n)) (hi : i = nI j) (hj : j < n) (hn : n < 2 ^ 31) (hd : decode nm.cc pc = .ok (.aaload, 1)) (hp : pc + 1 = pc') (hv : M a j = .ref b)
    (kk : T l D cA n0 XW nm d bk bn sz τ M pc' ls (.ref b :: st) Q QX) : T l D cA n0 XW nm d bk bn sz τ M pc ls (.int i :: .ref a :: st) Q QX := by
  subst hp
  intro p e R s m args below meth cd H locs cells slots mc ms la Z X hR hS h1 h2 hL r1 r2 r3
  obtain ⟨hx, hb, -, -, hown, hSW, -⟩ := id X
  obtain ⟨g1, g2⟩ := nI_in' hi hj hn
  have hA : H[a]? = some (vp_cell (cA 8) (n, .inr (.inr (.inr (.inr fun i => vR (M a i)))))) := by have h := hR.arr (j := 8) ha (by decide); rw [aE8] at h; exact h
  have hlt : i.toNatClampNeg < n := by rw [g2]; exact hj
  refine W.aald (v := va_rf (vR (M a i.toNatClampNeg))) (ty := .array .int) hx hb hA ((hSW.1.2 8 _ (tysL_at (by decide))).1 n (fun j => va_rf (vR (M a j)))) rfl (fun q => by cases q) (by show ¬ (i < 0 ∨ (arrV _ _ _).slots.size ≤ _); rw [arrV_size]; exact g1) (by show (arrV _ _ _).slots[_]? = _; rw [arrV_read _ _ hlt]) rfl rfl hd ?_
  rw [g2, hv]
  exact kk p e R s m args below meth cd H locs cells slots mc ms la Z X hR hS h1 h2 hL r1 r2 r3
theorem T_aastA {a n b nb : Nat} {i : Int32} (j : Nat) (hw2 : ∀ (U : State) (H : Heap), XW U H → va_AOI U) (ha : τ a = (108, n)) (hb0 : τ b = (100, nb)) (hi : i = nI j) (hj : j < n) (hn : n < 2 ^ 31) (hd : decode nm.cc pc = .ok (.aastore, 1)) (hp : pc + 1 = pc')
    (kk : T l D cA n0 XW nm d bk bn sz τ (up M a j (.ref b)) pc' ls st Q QX) : T l D cA n0 XW nm d bk bn sz τ M pc ls (.ref b :: .int i :: .ref a :: st) Q QX := by
  subst hp
  intro p e R s m args below meth cd H locs cells slots mc ms la Z X hR hS h1 h2 hL r1 r2 r3
  obtain ⟨hx, hb, -, -, hown, hSW, -⟩ := id X
  obtain ⟨g1, g2⟩ := nI_in' hi hj hn
  have hA : H[a]? = some (vp_cell (cA 8) (n, .inr (.inr (.inr (.inr fun i => vR (M a i)))))) := by have h := hR.arr (j := 8) ha (by decide); rw [aE8] at h; exact h
  have hB : H[b]? = some (vp_cell (cA 0) (aE 0 nb (M b))) := hR.arr (j := 0) hb0 (by decide)
  obtain ⟨comp, c9, kA, f1, -, f2, f3, f4⟩ := arrayOverA_spec (hw2 _ _ hSW.2.2)
  have h0 : s.vm.findClass (FieldType.array .int).toString = some (cA 0) := (hSW.1.2 0 _ (tysL_at (by decide))).2
  have h8 : s.vm.findClass ("[" ++ (FieldType.array .int).toString) = some (cA 8) := (hSW.1.2 8 _ (tysL_at (by decide))).2
  obtain rfl : comp = cA 0 := Option.some.inj (f1.symm.trans h0)
  obtain rfl : c9 = cA 8 := Option.some.inj (f4.symm.trans h8)
  obtain ⟨kC, hkC, -⟩ := Vm.findClass_spec f1
  have hne : (τ a).1 ≠ 999 := by rw [ha]; simp
  refine W.aast hx hb hA (fun q h => by cases h) (fun h => by cases h) f2 f3 rfl hkC ⟨fun q => g1 (Or.inl q), by show _ < (arrV _ _ _).slots.size; rw [arrV_size, g2]; exact hj⟩ hB (fun q h => by cases h) hkC (va_asg _ _) rfl rfl hd fun H1 ec z oq => ?_
  refine kk p e R s m args below meth cd H1 _ cells slots mc ms la Z X (hR.set z oq (fun b hb => up_a hb) hne ?_) (hS.put z oq (hR.2 a hne).1) h1 h2 hL r1 r2 r3
  rw [ha]
  have hM : entM cA (108, n) (up M a j (.ref b) a) = .inl (cA 8, n, .inr (.inr (.inr (.inr fun i => vR (up M a j (.ref b) a i))))) := by simp [entM, aE8]
  rw [hM]
  show H1[a]? = some (vp_cell (cA 8) (n, .inr (.inr (.inr (.inr fun i => vR (up M a j (.ref b) a i))))))
  rw [ec, vp_cell_q, vp_cell_q, arrV_store, g2]
  congr 2
  funext q
  rw [up_row]
  by_cases hq : q = j
  · subst hq
    simp [updV, va_up, vR, va_rf]
  · simp [updV, va_up, hq]
set_option maxHeartbeats 8000000 in
theorem T_anewA {n : Int32} {N idx : Nat} (hw : Cond.classLink nm.y.cls idx "[I" ∈ GW) (hw2 : ∀ (U : State) (H : Heap), XW U H → va_AOI U) (hn : n = nI N) (hN : N ≤ 65536) (hd : decode nm.cc pc = .ok (.anewarray idx, 3)) (hp : pc + 3 = pc')
    (kk : T l D cA n0 XW nm d bk bn (sz + 1) (tyN τ sz (108, N)) (meN M sz fun _ => .null) pc' ls (.ref sz :: st) Q QX) : T l D cA n0 XW nm d (bk + 1) (bn + N) sz τ M pc ls (.int n :: st) Q QX := by
  subst hp
  subst hn
  intro p e R s m args below meth cd H locs cells slots mc ms la Z X hR hS h1 h2 hL r1 r2 r3
  obtain ⟨hx, hb, -, -, hown, hSW, -, -, -, -, -, hmc, hms, -⟩ := id X
  have hts := hSW.words (args := args)
  have hz := SzM X hR hS
  have hcl : (nI N).toNatClampNeg = N := nI_clamp (by omega)
  have e9 : (FieldType.array .int).toString = "[I" := by decide +kernel
  have hcl0 : (Cond.classLink nm.y.cls idx (FieldType.array .int).toString).before args s = true := by rw [e9]; exact hts _ hw
  refine W.anewA (t := .int) hx hb hown hcl0 (hw2 _ _ hSW.2.2) rfl hd rfl (nI_pos (by omega)) (by rw [hcl]; omega) (by omega) (by rw [hcl]; omega) fun cA' kA comp f1 f2 f3 f4 => ?_
  rw [hcl]
  generalize hH1 : H.push ({ cls := cA', slots := Array.replicate N .null, vm := .none } : Cell) = H1
  rw [hR.1]
  have z1 : H1.size = sz + 1 := by rw [← hH1, Array.size_push, hR.1]
  have e1 : H1[sz]? = some (arrV cA' N (fun _ => .null)) := by rw [← hH1, ← hR.1, Array.getElem?_push_size, ← arrV_new]
  have o1 : ∀ q : Nat, q < sz → H1[q]? = H[q]? := fun q hq => by rw [← hH1, Array.getElem?_push, if_neg (by rw [hR.1]; omega)]
  have h8 : s.vm.findClass ("[" ++ (FieldType.array .int).toString) = some (cA 8) := (hSW.1.2 8 _ (tysL_at (by decide))).2
  obtain rfl : cA' = cA 8 := Option.some.inj (f1.symm.trans h8)
  refine kk p e R s m args below meth cd H1 locs (cells + 1) (slots + N) mc ms la Z X (hR.new hz z1 o1 (fun b hb => tyN_n hb) (fun b hb => meN_n hb) (fun _ => ?_)) ⟨Nat.le_trans hS.1 (by rw [hR.1, z1]; omega), fun x y1 y2 => (o1 x (by have := hS.1; rw [hR.1] at this; omega)).trans (hS.2.1 x y1 y2), hS.2.2⟩ (by omega) (by omega) hL r1 r2 r3
  rw [tyN_s, meN_s]
  have hE : entM cA (108, N) (fun _ => Value.null) = .inl (cA 8, N, .inr (.inr (.inr (.inr fun _ => none)))) := by simp [entM, aE8, vR]
  rw [hE]
  show H1[sz]? = some (vp_cell (cA 8) _)
  rw [e1]
  rfl
theorem T_multi {n k idx : Nat} (hw : Cond.classLink nm.y.cls idx "[[I" ∈ GW) (hw3 : Cond.arrayClass .int ∈ GW) (hw2 : ∀ (U : State) (H : Heap), XW U H → va_AOI U) (hn : n ≤ 65536) (hk : k ≤ 65536) (hd : decode nm.cc pc = .ok (.multianewarray idx 2, 4)) (hp : pc + 4 = pc')
    (kk : T l D cA n0 XW nm d bk bn (sz + 1 + n) (tyM τ sz n k) (meM M sz n) pc' ls (.ref sz :: st) Q QX) : T l D cA n0 XW nm d (bk + (1 + n)) (bn + (n + n * k)) sz τ M pc ls (.int (nI k) :: .int (nI n) :: st) Q QX := by
  subst hp
  intro p e R s m args below meth cd H locs cells slots mc ms la Z X hR hS h1 h2 hL r1 r2 r3
  obtain ⟨hx, hb, -, -, hown, hSW, -, -, -, -, -, hmc, hms, -⟩ := id X
  have hts := hSW.words (args := args)
  have hz := SzM X hR hS
  have c1 : (nI n).toNatClampNeg = n := nI_clamp (by omega)
  have c2 : (nI k).toNatClampNeg = k := nI_clamp (by omega)
  intro S hT Xs
  obtain ⟨vm₁, c8, comp, -, fA, fC, hO, -, X', step⟩ := Xs.multianewarray2F hx (own := nm.y.cls) (index := idx) (ty := .int) hown (by rw [show "[" ++ (FieldType.array .int).toString = "[[I" by decide +kernel]; exact hts _ hw) (hw2 _ _ hSW.2.2) (hts _ hw3) (g := F0 m pc la (.int (nI k) :: .int (nI n) :: st)) rfl (by rw [hb]; exact hd) rfl (nI_pos (by omega)) (nI_pos (by omega)) (by rw [c1]; omega) (by rw [c2]; show k * 4 ≤ _; omega) (by rw [c2]; omega) rfl rfl (by rw [c1]; omega) (by rw [c1, c2]; omega)
  rw [c1, c2] at X' step
  have h0 : s.vm.findClass (FieldType.array .int).toString = some (cA 0) := (hSW.1.2 0 _ (tysL_at (by decide))).2
  have h8 : s.vm.findClass ("[" ++ (FieldType.array .int).toString) = some (cA 8) := (hSW.1.2 8 _ (tysL_at (by decide))).2
  obtain rfl : comp = cA 0 := Option.some.inj (fC.symm.trans h0)
  obtain rfl : c8 = cA 8 := Option.some.inj (fA.symm.trans h8)
  have hTh : (S.setVm vm₁).heap = H := hT
  obtain ⟨f1, f2, -, -⟩ := Jvm.Free.Multi.fill_facts (S.setVm vm₁) (cA 8) (cA 0) n k (defaultValue .int) n
  have hold : ∀ x : Nat, x < sz → (Jvm.Free.Multi.fill (S.setVm vm₁) (cA 8) (cA 0) n k (defaultValue .int) n).heap[x]? = H[x]? := fun x hx => by
    have := Jvm.Free.Multi.fill_old (S.setVm vm₁) (cA 8) (cA 0) n k (defaultValue .int) (a := x) (by rw [hTh, hR.1]; exact hx) n
    rw [hTh] at this
    exact this
  have hrow : ∀ j : Nat, j < n → (Jvm.Free.Multi.fill (S.setVm vm₁) (cA 8) (cA 0) n k (defaultValue .int) n).heap[sz + 1 + j]? = some (Jvm.Free.Multi.innerC (cA 0) k (defaultValue .int)) := fun j hj => by
    have := Jvm.Free.Multi.fill_inner (S.setVm vm₁) (cA 8) (cA 0) n k (defaultValue .int) n j hj
    rw [hTh, hR.1] at this
    exact this
  rw [hTh, hR.1] at f1 f2
  rw [outC] at f2
  generalize Jvm.Free.Multi.fill (S.setVm vm₁) (cA 8) (cA 0) n k (defaultValue .int) n = F at X' step f1 f2 hold hrow
  have hS1 := hS.1
  rw [hR.1] at hS1
  have hR1 : Rep D cA n0 (sz + 1 + n) (tyM τ sz n k) (meM M sz n) F.heap := by
    refine ⟨f1, fun b hb => ?_⟩
    by_cases e1 : b = sz
    · subst e1
      refine ⟨hz, ?_⟩
      rw [tyM_s, meM_s]
      have hE : entM cA (108, n) (fun i => Value.ref (b + 1 + i)) = .inl (cA 8, n, .inr (.inr (.inr (.inr fun i => some (b + 1 + i))))) := by simp [entM, aE8, vR]
      rw [hE]
      show F.heap[b]? = some (vp_cell (cA 8) _)
      rw [f2, vp_cell_q]
      exact congrArg some (arrV_cg (fun i hi => by rw [if_pos hi]; rfl))
    · by_cases e2 : sz < b ∧ b < sz + 1 + n
      · obtain ⟨j, rfl⟩ : ∃ j, b = sz + 1 + j := ⟨b - (sz + 1), by omega⟩
        have hj : j < n := by omega
        refine ⟨by omega, ?_⟩
        rw [tyM_r hj, meM_r hj]
        have hE : entM cA (100, k) (fun _ => Value.int 0) = .inl (cA 0, k, .inl fun _ => 0) := by simp [entM, aE, arI, vI]
        rw [hE]
        show F.heap[sz + 1 + j]? = some (vp_cell (cA 0) _)
        rw [hrow j hj]
        show some ({ cls := cA 0, slots := Array.replicate k (.int 0), vm := .none } : Cell) = _
        rw [arrV_new]
        rfl
      · have hb' : b < sz ∨ sz + 1 + n ≤ b := by omega
        rw [tyM_o hb'] at hb ⊢
        rw [meM_o hb']
        obtain ⟨q1, q2⟩ := hR.2 b hb
        have hl := (hR.lt hb).2
        refine ⟨q1, ?_⟩
        have hP : va_P D vwCl [(b, entM cA (τ b) (M b))] H := fun k x hx => by
          cases k with
          | zero => simp at hx; subst hx; exact q2
          | succ k => simp at hx
        exact ((hP 0 _ rfl).kept (hold b hl))
  obtain ⟨t, a1, b1⟩ := kk p e R s m args below meth cd F.heap locs (cells + 1 + n) (slots + n + n * k) mc ms la Z X hR1 ⟨Nat.le_trans hS.1 (by rw [hR.1, f1]; omega), fun x y1 y2 => (hold x (by omega)).trans (hS.2.1 x y1 y2), hS.2.2⟩ (by omega) (by omega) hL r1 r2 r3 F rfl X'
  have eS : S.heap.size = sz := by rw [hT]; exact hR.1
  refine ⟨t, step t ?_, b1⟩
  rw [eS]
  exact a1
end ARRS
