theorem gw_before {w : Cond} (hw : w ∈ GW) {s : State} {args : Array Value} (h : va_Nw w s) : w.before args s = true := by
  have hg := gw_tab hw
  by_cases hq : goodWord w = true
  · exact word_at (State.WarmedH.refl s) (good_of_word hq) h
  · cases w <;> first | exact va_Nw.use rfl h | (simp [isGW, hq] at hg)
section MEM
variable {l : Launch} {D : va_G} {cA : Nat → ClassId} {n0 : Nat} {XW : State → Heap → Prop} {nm : MI} {d bk bn sz : Nat} {τ : TY} {M : ME} {Q : QT} {QX : QXT} {ls st : List Value} {pc pc' : Nat}
theorem SW.words {s : State} {H : Heap} {args : Array Value} (h : SW D cA XW s H) : ∀ w ∈ GW, w.before args s = true := fun w hw => gw_before hw (h.2.1 w hw)
theorem tysL_at {cA : Nat → ClassId} {j : Nat} (hj : j < 9) : (tysL cA)[j]? = some (cA j, jT j) := by
  unfold tysL
  rw [List.getElem?_map, List.getElem?_range hj]
  rfl
theorem row_at {c k : Nat} {f : Nat → Value} (hk : k < kN c) : ((List.range (kN c)).map f)[k]? = some (f k) := by
  rw [List.getElem?_map, List.getElem?_range hk]
  rfl
theorem row_set {n k : Nat} {f : Nat → Value} (v : Value) : ((List.range n).map f).set k v = (List.range n).map (va_up f k v) := by
  apply List.ext_getElem?
  intro i
  rw [List.getElem?_set, List.getElem?_map, List.getElem?_map]
  by_cases hi : i < n
  · rw [List.getElem?_range hi]
    by_cases e : k = i
    · subst e
      simp [hi, va_up]
    · rw [if_neg e]
      simp [va_up, Ne.symm e]
  · have hn : (List.range n)[i]? = none := by simp; omega
    rw [hn]
    by_cases e : k = i
    · subst e
      simp [hi]
    · rw [if_neg e]
      rfl
/-- reads of a field -/
theorem T_rd {a c n k : Nat} {C rf : String} {TT : u_T} {N idx : Nat} (v : Value) (ha : τ a = (c, n)) (hc : c < 100) (hcl : vwCl[c]? = some (C, TT, N)) (hkN : kN c = N) (hk : k < N) (hin : ∀ w ∈ u_ws C TT N, w ∈ GW) (hw : Cond.fieldLink nm.y.cls idx rf (TT k).2.1 (TT k).2.2.1 ∈ GW) (hC : (TT k).1 = rf) (hd : decode nm.cc pc = .ok (.getfield idx, 3)) (hp : pc + 3 = pc') (hv : M a k = v)
    (kk : T l D cA n0 XW nm d bk bn sz τ M pc' ls (v :: st) Q QX) : T l D cA n0 XW nm d bk bn sz τ M pc ls (.ref a :: st) Q QX := by
  subst hp
  subst hv
  intro p e R s m args below meth cd H locs cells slots mc ms la Z X hR hS h1 h2 hL r1 r2 r3
  obtain ⟨hx, hb, -, -, hown, hSW, -⟩ := id X
  exact va_get (ws := [(a, .inr (c, (List.range (kN c)).map (M a)))]) (D := D) (cl := vwCl) (tys := tysL cA) hx hb (hSW.words (args := args)) hin hown hSW.1 (fun j x hj => by
    cases j with
    | zero => simp at hj; subst hj; exact hR.obj ha hc
    | succ j => simp at hj) 0 rfl hcl k hk (hSW.words _ hw) (fun x h => by rw [hC] at h; exact h) (row_at (by omega)) hd (kk p e R s m args below meth cd H locs cells slots mc ms la Z X hR hS h1 h2 hL r1 r2 r3)
theorem T_rdN {a c n k : Nat} {C host : String} {TT : u_T} {N idx : Nat} (v : Value) (ha : τ a = (c, n)) (hc : c < 100) (hcl : vwCl[c]? = some (C, TT, N)) (hkN : kN c = N) (hk : k < N) (hin : ∀ w ∈ u_ws C TT N, w ∈ GW) (hw : Cond.fieldLinkNest nm.y.cls idx C (TT k).2.1 (TT k).2.2.1 host ∈ GW) (hC : (TT k).1 = C) (hd : decode nm.cc pc = .ok (.getfield idx, 3)) (hp : pc + 3 = pc') (hv : M a k = v)
    (kk : T l D cA n0 XW nm d bk bn sz τ M pc' ls (v :: st) Q QX) : T l D cA n0 XW nm d bk bn sz τ M pc ls (.ref a :: st) Q QX := by
  subst hp
  subst hv
  intro p e R s m args below meth cd H locs cells slots mc ms la Z X hR hS h1 h2 hL r1 r2 r3
  obtain ⟨hx, hb, -, -, hown, hSW, -⟩ := id X
  exact va_getN (ws := [(a, .inr (c, (List.range (kN c)).map (M a)))]) (D := D) (cl := vwCl) (tys := tysL cA) hx hb (hSW.words (args := args)) hin hown hSW.1 (fun j x hj => by
    cases j with
    | zero => simp at hj; subst hj; exact hR.obj ha hc
    | succ j => simp at hj) 0 rfl hcl k hk (hSW.words _ hw) (fun x h => by rw [hC] at h; exact h) (row_at (by omega)) hd (kk p e R s m args below meth cd H locs cells slots mc ms la Z X hR hS h1 h2 hL r1 r2 r3)
/-- the memory behind a write at a -/
theorem put_rep {H H' : Heap} {a c n k : Nat} {s : State} {C : String} {TT : u_T} {N : Nat} {v : Value} (hR : Rep D cA n0 sz τ M H) (ha : τ a = (c, n)) (hc : c < 100) (hcl : vwCl[c]? = some (C, TT, N)) (hkN : kN c = N) (hk : k < N) {cell : Cell} (hap : ∀ x y, x < N → y < N → x ≠ y → (D.2 c) x ≠ (D.2 c) y)
    (e1 : H'[a]? = some (cell.setSlot (D.2 c k) v)) (q2 : cell.cls = D.1 c) (q3 : cell.vm = .none) (q4 : ∀ j, j < N → cell.slots[D.2 c j]? = some (vp_V ((List.range (kN c)).map (M a)) j)) (e2 : H'.size = H.size) (e3 : ∀ q, q ≠ a → H'[q]? = H[q]?) : Rep D cA n0 sz τ (up M a k v) H' := by
  refine hR.set e2 e3 (fun b hb => up_a hb) (by rw [ha]; intro h; simp at h; omega) ?_
  rw [ha, up_row]
  have hE : entM cA (c, n) (va_up (M a) k v) = .inr (c, ((List.range (kN c)).map (M a)).set k v) := by
    simp only [entM, if_pos hc]
    rw [row_set]
  rw [hE]
  exact ⟨_, hcl, t_OB.to (V := updV (vp_V ((List.range (kN c)).map (M a))) k v) ⟨_, e1, q2, q3, t_set q4 hap hk v⟩ (fun j _ => vp_updV_set (by simp; omega) v j)⟩
theorem T_wr {a c n k : Nat} {C rf : String} {TT : u_T} {N idx : Nat} {v : Value} (ty0 : Nat → FieldType) (hty : ∀ k, k < N → parseFieldDescriptor (TT k).2.2.1 = some (ty0 k)) (hnm : ∀ a, a < N → ∀ b, b < N → a ≠ b → (TT a).2.1 ≠ (TT b).2.1) (ha : τ a = (c, n)) (hc : c < 100) (hcl : vwCl[c]? = some (C, TT, N)) (hkN : kN c = N) (hk : k < N) (hin : ∀ w ∈ u_ws C TT N, w ∈ GW) (hw : Cond.fieldLink nm.y.cls idx rf (TT k).2.1 (TT k).2.2.1 ∈ GW) (hC : (TT k).1 = rf) (hfin : (TT k).2.2.2 = false) (hn : narrow (ty0 k) v = v) (hfit : fits (ty0 k) v = true) (hd : decode nm.cc pc = .ok (.putfield idx, 3)) (hp : pc + 3 = pc')
    (kk : T l D cA n0 XW nm d bk bn sz τ (up M a k v) pc' ls st Q QX) : T l D cA n0 XW nm d bk bn sz τ M pc ls (v :: .ref a :: st) Q QX := by
  subst hp
  intro p e R s m args below meth cd H locs cells slots mc ms la Z X hR hS h1 h2 hL r1 r2 r3
  obtain ⟨hx, hb, -, -, hown, hSW, -⟩ := id X
  have hts := hSW.words (args := args)
  have hK := hSW.1
  have hap := va_apart (own := nm.y.cls) hts hin ty0 hty hnm hK hcl
  obtain ⟨r, g1, cell, q1, q2, q3, q4⟩ := hR.obj ha hc
  have hr : r = (C, TT, N) := Option.some.inj (g1.symm.trans hcl)
  subst hr
  obtain ⟨hSl, hfc, kC, hkC, hkind⟩ := hK.1 c _ hcl
  obtain ⟨cf, kf, fi, f, hi, hsl⟩ := hSl k hk
  have hlay := hts _ (hin _ (u_in_lay hk))
  unfold u_lay at hlay
  rw [if_neg (by rw [hfin]; decide)] at hlay
  have hst := (u_facts hfc hkC (u_lays hts hin hk) hi).1
  have h6 := u_store hfc hkC hkind hlay hi (hty k hk) hn hfit
  rw [hC] at hi
  refine W.putK hx hb (f := f) ⟨hown, hts _ hw, ⟨_, _, _, hi⟩, hst⟩ (by rw [q2]; exact h6) q1 q3 (by rw [hsl]; exact k2_hasslot (q4 k hk)) rfl rfl hd fun H' e1 e2 e3 => ?_
  rw [hsl] at e1 ⊢
  exact kk p e R s m args below meth cd H' _ cells slots mc ms la Z X (put_rep (s := s) hR ha hc hcl hkN hk hap e1 q2 q3 q4 e2 e3) (hS.put e2 e3 (hR.2 a (by rw [ha]; intro h; simp at h; omega)).1) h1 h2 hL r1 r2 r3
theorem T_wrN {a c n k : Nat} {C host : String} {TT : u_T} {N idx : Nat} {v : Value} (ty0 : Nat → FieldType) (hty : ∀ k, k < N → parseFieldDescriptor (TT k).2.2.1 = some (ty0 k)) (hnm : ∀ a, a < N → ∀ b, b < N → a ≠ b → (TT a).2.1 ≠ (TT b).2.1) (ha : τ a = (c, n)) (hc : c < 100) (hcl : vwCl[c]? = some (C, TT, N)) (hkN : kN c = N) (hk : k < N) (hin : ∀ w ∈ u_ws C TT N, w ∈ GW) (hw : Cond.fieldLinkNest nm.y.cls idx C (TT k).2.1 (TT k).2.2.1 host ∈ GW) (hC : (TT k).1 = C) (hfin : (TT k).2.2.2 = false) (hn : narrow (ty0 k) v = v) (hfit : fits (ty0 k) v = true) (hd : decode nm.cc pc = .ok (.putfield idx, 3)) (hp : pc + 3 = pc')
    (kk : T l D cA n0 XW nm d bk bn sz τ (up M a k v) pc' ls st Q QX) : T l D cA n0 XW nm d bk bn sz τ M pc ls (v :: .ref a :: st) Q QX := by
  subst hp
  intro p e R s m args below meth cd H locs cells slots mc ms la Z X hR hS h1 h2 hL r1 r2 r3
  obtain ⟨hx, hb, -, -, hown, hSW, -⟩ := id X
  have hts := hSW.words (args := args)
  have hK := hSW.1
  have hap := va_apart (own := nm.y.cls) hts hin ty0 hty hnm hK hcl
  obtain ⟨r, g1, cell, q1, q2, q3, q4⟩ := hR.obj ha hc
  have hr : r = (C, TT, N) := Option.some.inj (g1.symm.trans hcl)
  subst hr
  obtain ⟨hSl, hfc, kC, hkC, hkind⟩ := hK.1 c _ hcl
  obtain ⟨cf, kf, fi, f, hi, hsl⟩ := hSl k hk
  have hlay := hts _ (hin _ (u_in_lay hk))
  unfold u_lay at hlay
  rw [if_neg (by rw [hfin]; decide)] at hlay
  have hst := (u_facts hfc hkC (u_lays hts hin hk) hi).1
  have h6 := u_store hfc hkC hkind hlay hi (hty k hk) hn hfit
  rw [hC] at hi
  refine va_WputK hx hb (f := f) hown (hts _ hw) hi hst (by rw [q2]; exact h6) q1 q3 (by rw [hsl]; exact k2_hasslot (q4 k hk)) rfl rfl hd fun H' e1 e2 e3 => ?_
  rw [hsl] at e1 ⊢
  exact kk p e R s m args below meth cd H' _ cells slots mc ms la Z X (put_rep (s := s) hR ha hc hcl hkN hk hap e1 q2 q3 q4 e2 e3) (hS.put e2 e3 (hR.2 a (by rw [ha]; intro h; simp at h; omega)).1) h1 h2 hL r1 r2 r3
/-- a final field, in its constructor -/
theorem T_wrF {a c n k : Nat} {C : String} {TT : u_T} {N idx : Nat} {v : Value} (ty0 : Nat → FieldType) (hty : ∀ k, k < N → parseFieldDescriptor (TT k).2.2.1 = some (ty0 k)) (hnm : ∀ a, a < N → ∀ b, b < N → a ≠ b → (TT a).2.1 ≠ (TT b).2.1) (ha : τ a = (c, n)) (hc : c < 100) (hcl : vwCl[c]? = some (C, TT, N)) (hkN : kN c = N) (hk : k < N) (hin : ∀ w ∈ u_ws C TT N, w ∈ GW) (hw : Cond.fieldLink nm.y.cls idx C (TT k).2.1 (TT k).2.2.1 ∈ GW) (hC : (TT k).1 = C) (hown : nm.y.cls = C) (hini : nm.y.name = "<init>") (hfin : (TT k).2.2.2 = true) (hn : narrow (ty0 k) v = v) (hfit : fits (ty0 k) v = true) (hd : decode nm.cc pc = .ok (.putfield idx, 3)) (hp : pc + 3 = pc')
    (kk : T l D cA n0 XW nm d bk bn sz τ (up M a k v) pc' ls st Q QX) : T l D cA n0 XW nm d bk bn sz τ M pc ls (v :: .ref a :: st) Q QX := by
  subst hp
  intro p e R s m args below meth cd H locs cells slots mc ms la Z X hR hS h1 h2 hL r1 r2 r3
  obtain ⟨hx, hb, -, -, hown1, hSW, -, -, hname, -⟩ := id X
  have hts := hSW.words (args := args)
  have hK := hSW.1
  have hap := va_apart (own := nm.y.cls) hts hin ty0 hty hnm hK hcl
  obtain ⟨r, g1, cell, q1, q2, q3, q4⟩ := hR.obj ha hc
  have hr : r = (C, TT, N) := Option.some.inj (g1.symm.trans hcl)
  subst hr
  obtain ⟨hSl, hfc, kC, hkC, hkind⟩ := hK.1 c _ hcl
  obtain ⟨cf, kf, fi, f, hi, hsl⟩ := hSl k hk
  have hlay := hts _ (hin _ (u_in_lay hk))
  unfold u_lay at hlay
  rw [if_pos hfin] at hlay
  have hst := (u_facts hfc hkC (u_lays hts hin hk) hi).1
  have hcf : m.cls = cf := by
    obtain ⟨_, _, c', _, _, _, -, -, hf', -, -, -, hown2, -⟩ := Cond.laysFinal_spec hlay
    have e1 : c' = cf := by have := hi.symm.trans hf'; simp at this; exact this.1.symm
    rw [hC, ← hown] at hown2
    rw [← e1]; exact Option.some.inj (hown1.symm.trans hown2)
  have h6 := u_fits hfc hkC hkind (Or.inr hlay) hi (hty k hk) hn hfit
  rw [hC] at hi
  refine W.putFinK hx hb hown1 (hts _ hw) hi hst hcf (hname.trans hini) (by rw [q2]; exact h6) q1 q3 (by rw [hsl]; exact k2_hasslot (q4 k hk)) rfl rfl hd fun H' e1 e2 e3 => ?_
  rw [hsl] at e1 ⊢
  exact kk p e R s m args below meth cd H' _ cells slots mc ms la Z X (put_rep (s := s) hR ha hc hcl hkN hk hap e1 q2 q3 q4 e2 e3) (hS.put e2 e3 (hR.2 a (by rw [ha]; intro h; simp at h; omega)).1) h1 h2 hL r1 r2 r3
/-- arrays: reads -/
theorem nI_in' {i : Int32} {j n : Nat} (hi : i = nI j) (hj : j < n) (hn : n < 2 ^ 31) : vp_in i n ∧ i.toNatClampNeg = j := by
  subst hi
  exact ⟨vp_in_nI hj hn, nI_clamp (by omega)⟩
theorem T_iald {a n : Nat} {i x : Int32} (j : Nat) (ha : τ a = (100, n)) (hi : i = nI j) (hj : j < n) (hn : n < 2 ^ 31) (hd : decode nm.cc pc = .ok (.iaload, 1)) (hp : pc + 1 = pc') (hv : M a j = .int x)
    (kk : T l D cA n0 XW nm d bk bn sz τ M pc' ls (.int x :: st) Q QX) : T l D cA n0 XW nm d bk bn sz τ M pc ls (.int i :: .ref a :: st) Q QX := by
  subst hp
  intro p e R s m args below meth cd H locs cells slots mc ms la Z X hR hS h1 h2 hL r1 r2 r3
  obtain ⟨hx, hb, -, -, hown, hSW, -⟩ := id X
  obtain ⟨g1, g2⟩ := nI_in' hi hj hn
  refine va_iald (ws := [(a, .inl (cA 0, n, .inl fun i => vI (M a i)))]) (D := D) (cl := vwCl) (tys := tysL cA) hx hb hSW.1 (fun j x hj => by
    cases j with
    | zero => simp at hj; subst hj; exact hR.arr (j := 0) ha (by omega)
    | succ j => simp at hj) 0 0 rfl (tysL_at (by omega)) g1 hd ?_
  rw [g2, hv]
  exact kk p e R s m args below meth cd H locs cells slots mc ms la Z X hR hS h1 h2 hL r1 r2 r3
theorem T_bald {a n : Nat} {i x : Int32} (j : Nat) (ha : τ a = (101, n)) (hi : i = nI j) (hj : j < n) (hn : n < 2 ^ 31) (hd : decode nm.cc pc = .ok (.baload, 1)) (hp : pc + 1 = pc') (hv : M a j = .int x)
    (kk : T l D cA n0 XW nm d bk bn sz τ M pc' ls (.int x :: st) Q QX) : T l D cA n0 XW nm d bk bn sz τ M pc ls (.int i :: .ref a :: st) Q QX := by
  subst hp
  intro p e R s m args below meth cd H locs cells slots mc ms la Z X hR hS h1 h2 hL r1 r2 r3
  obtain ⟨hx, hb, -, -, hown, hSW, -⟩ := id X
  obtain ⟨g1, g2⟩ := nI_in' hi hj hn
  refine va_bald (ws := [(a, .inl (cA 1, n, .inl fun i => vI (M a i)))]) (D := D) (cl := vwCl) (tys := tysL cA) hx hb hSW.1 (fun j x hj => by
    cases j with
    | zero => simp at hj; subst hj; exact hR.arr (j := 1) ha (by omega)
    | succ j => simp at hj) 0 1 rfl (tysL_at (by omega)) g1 hd ?_
  rw [g2, hv]
  exact kk p e R s m args below meth cd H locs cells slots mc ms la Z X hR hS h1 h2 hL r1 r2 r3
theorem T_lald {a n : Nat} {i : Int32} {x : Int64} (j : Nat) (ha : τ a = (102, n)) (hi : i = nI j) (hj : j < n) (hn : n < 2 ^ 31) (hd : decode nm.cc pc = .ok (.laload, 1)) (hp : pc + 1 = pc') (hv : M a j = .long x)
    (kk : T l D cA n0 XW nm d bk bn sz τ M pc' ls (.long x :: st) Q QX) : T l D cA n0 XW nm d bk bn sz τ M pc ls (.int i :: .ref a :: st) Q QX := by
  subst hp
  intro p e R s m args below meth cd H locs cells slots mc ms la Z X hR hS h1 h2 hL r1 r2 r3
  obtain ⟨hx, hb, -, -, hown, hSW, -⟩ := id X
  obtain ⟨g1, g2⟩ := nI_in' hi hj hn
  refine va_lald (ws := [(a, .inl (cA 2, n, .inr (.inl fun i => vL (M a i))))]) (D := D) (cl := vwCl) (tys := tysL cA) hx hb hSW.1 (fun j x hj => by
    cases j with
    | zero => simp at hj; subst hj; exact hR.arr (j := 2) ha (by omega)
    | succ j => simp at hj) 0 2 rfl (tysL_at (by omega)) g1 hd ?_
  rw [g2, hv]
  exact kk p e R s m args below meth cd H locs cells slots mc ms la Z X hR hS h1 h2 hL r1 r2 r3
theorem T_aald {a n b : Nat} {i : Int32} (t j : Nat) (ht : 3 ≤ t ∧ t < 8) (ha : τ a = (100 + t, n)) (hi : i = nI j) (hj : j < n) (hn : n < 2 ^ 31) (hd : decode nm.cc pc = .ok (.aaload, 1)) (hp : pc + 1 = pc') (hv : M a j = .ref b)
    (kk : T l D cA n0 XW nm d bk bn sz τ M pc' ls (.ref b :: st) Q QX) : T l D cA n0 XW nm d bk bn sz τ M pc ls (.int i :: .ref a :: st) Q QX := by
  subst hp
  intro p e R s m args below meth cd H locs cells slots mc ms la Z X hR hS h1 h2 hL r1 r2 r3
  obtain ⟨hx, hb, -, -, hown, hSW, -⟩ := id X
  obtain ⟨g1, g2⟩ := nI_in' hi hj hn
  have hE : aE t n (M a) = (n, .inr (.inr (.inr (.inr fun i => vR (M a i))))) := by simp [aE, arR, show ¬ t < 2 by omega, show ¬ t = 2 by omega]
  have hO : ∃ C, jT t = .object C := by
    match t, ht with
    | 3, _ => exact ⟨_, rfl⟩
    | 4, _ => exact ⟨_, rfl⟩
    | 5, _ => exact ⟨_, rfl⟩
    | 6, _ => exact ⟨_, rfl⟩
    | 7, _ => exact ⟨_, rfl⟩
  obtain ⟨C, hO⟩ := hO
  refine va_aldq (C := C) (ws := [(a, .inl (cA t, n, .inr (.inr (.inr (.inr fun i => vR (M a i))))))]) (D := D) (cl := vwCl) (tys := tysL cA) hx hb hSW.1 (fun j x hj => by
    cases j with
    | zero => simp at hj; subst hj; rw [← hE]; exact hR.arr ha (by omega)
    | succ j => simp at hj) 0 t rfl (by rw [tysL_at (by omega), hO]) g1 hd ?_
  rw [g2, hv]
  exact kk p e R s m args below meth cd H locs cells slots mc ms la Z X hR hS h1 h2 hL r1 r2 r3
theorem T_alen {a j n : Nat} (ha : τ a = (100 + j, n)) (hj : j < 9) (hd : decode nm.cc pc = .ok (.arraylength, 1)) (hp : pc + 1 = pc')
    (kk : T l D cA n0 XW nm d bk bn sz τ M pc' ls (.int (nI n) :: st) Q QX) : T l D cA n0 XW nm d bk bn sz τ M pc ls (.ref a :: st) Q QX := by
  subst hp
  intro p e R s m args below meth cd H locs cells slots mc ms la Z X hR hS h1 h2 hL r1 r2 r3
  obtain ⟨hx, hb, -, -, hown, hSW, -⟩ := id X
  refine va_alen (ws := [(a, .inl (cA j, aE j n (M a)))]) (D := D) (cl := vwCl) (tys := tysL cA) hx hb hSW.1 (fun j x hj => by
    cases j with
    | zero => simp at hj; subst hj; exact hR.arr ha (by omega)
    | succ j => simp at hj) 0 j rfl (tysL_at hj) (v := nI n) (by
    unfold aE
    split
    · rfl
    · split <;> rfl) hd ?_
  exact kk p e R s m args below meth cd H locs cells slots mc ms la Z X hR hS h1 h2 hL r1 r2 r3
end MEM
