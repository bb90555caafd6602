section ENDS
variable {l : Launch} {D : va_G} {cA : Nat → ClassId} {n0 : Nat} {XW : State → Heap → Prop} {nm nm' : MI} {d d' bk bn mc' ms' sz : Nat} {τ : TY} {M : ME} {Q Q' : QT} {QX QX' : QXT} {ls st rest As : List Value} {pc pc' idx n : Nat}
theorem T_min {x y : Int32} (h : WM nm.y.cls idx Lib.Math.min.name Lib.Math.min.code) (hdd : 1 ≤ d) (hcat : (st.map fun v => v.category).sum ≤ 8) (hd : decode nm.cc pc = .ok (.invokestatic idx, 3)) (hp : pc + 3 = pc')
    (k : T l D cA n0 XW nm d bk bn sz τ M pc' ls (.int (if y < x then y else x) :: st) Q QX) : T l D cA n0 XW nm d bk bn sz τ M pc ls (.int y :: .int x :: st) Q QX := by
  subst hp
  intro p e R s m args below meth c H locs cells slots mc ms la Z X hR hS g1 g2 hL r1 r2 r3
  obtain ⟨hx, hbc, hml, -, hown, hSW, hsz, -, -, hdR, hlR, hmc, hms, -⟩ := id X
  have hts := hSW.words (args := args)
  obtain ⟨w1, w2, w3, w4⟩ := h
  exact va_mmin hx hbc (hml.trans hL.1.symm) hown (hts _ w1) (hts _ w2) (hts _ w3) (hts _ w4) (by omega) (by omega) (by omega) (by omega) hd (k p e R s m args below meth c H locs cells slots mc ms la Z X hR hS g1 g2 hL r1 r2 r3)
/-- statics and constant cells -/
theorem T_gets {C n d' : String} {v : Value} (hZ : ∀ (U : State) (H : Heap), XW U H → va_Z C n d' v (AA n0) U H) (hw : Cond.fieldLink nm.y.cls idx C n d' ∈ GW) (hd : decode nm.cc pc = .ok (.getstatic idx, 3)) (hp : pc + 3 = pc')
    (k : T l D cA n0 XW nm d bk bn sz τ M pc' ls (v :: st) Q QX) : T l D cA n0 XW nm d bk bn sz τ M pc ls st Q QX := by
  subst hp
  intro p e R s m args below meth c H locs cells slots mc ms la Z X hR hS g1 g2 hL r1 r2 r3
  obtain ⟨hx, hbc, hml, -, hown, hSW, -⟩ := id X
  exact va_gets hx hbc (hZ _ _ hSW.2.2) hS hown (hSW.words (args := args) _ hw) (fun x h => h) hd (k p e R s m args below meth c H locs cells slots mc ms la Z X hR hS g1 g2 hL r1 r2 r3)
theorem T_getsN {C n d' host : String} {v : Value} (hZ : ∀ (U : State) (H : Heap), XW U H → va_Z C n d' v (AA n0) U H) (hw : Cond.fieldLink nm.y.cls idx host n d' ∈ GW) (hs : ∀ (U : State) (H : Heap), XW U H → ∀ x, U.fieldFound? C n d' = some x → U.fieldFound? host n d' = some x) (hd : decode nm.cc pc = .ok (.getstatic idx, 3)) (hp : pc + 3 = pc')
    (k : T l D cA n0 XW nm d bk bn sz τ M pc' ls (v :: st) Q QX) : T l D cA n0 XW nm d bk bn sz τ M pc ls st Q QX := by
  subst hp
  intro p e R s m args below meth c H locs cells slots mc ms la Z X hR hS g1 g2 hL r1 r2 r3
  obtain ⟨hx, hbc, hml, -, hown, hSW, -⟩ := id X
  exact va_gets hx hbc (hZ _ _ hSW.2.2) hS hown (hSW.words (args := args) _ hw) (hs _ _ hSW.2.2) hd (k p e R s m args below meth c H locs cells slots mc ms la Z X hR hS g1 g2 hL r1 r2 r3)
/-- a field of a constant object -/
theorem T_getc {o n d' ref : String} {a : Nat} {v : Value} (hF : ∀ (U : State) (H : Heap), XW U H → va_OF o n d' v a (AA n0) U H) (hw : Cond.fieldLink nm.y.cls idx ref n d' ∈ GW) (hs : ref = o ∨ ∀ (U : State) (H : Heap), XW U H → ∀ x, U.fieldFound? o n d' = some x → U.fieldFound? ref n d' = some x) (hd : decode nm.cc pc = .ok (.getfield idx, 3)) (hp : pc + 3 = pc')
    (k : T l D cA n0 XW nm d bk bn sz τ M pc' ls (v :: st) Q QX) : T l D cA n0 XW nm d bk bn sz τ M pc ls (.ref a :: st) Q QX := by
  subst hp
  intro p e R s m args below meth c H locs cells slots mc ms la Z X hR hS g1 g2 hL r1 r2 r3
  obtain ⟨hx, hbc, hml, -, hown, hSW, -⟩ := id X
  refine vk_getf hx hbc (hF _ _ hSW.2.2) hS hown (hSW.words (args := args) _ hw) ?_ hd (k p e R s m args below meth c H locs cells slots mc ms la Z X hR hS g1 g2 hL r1 r2 r3)
  rcases hs with rfl | hs
  · exact fun x h => h
  · exact hs _ _ hSW.2.2
theorem T_ti {a N : Nat} {f : Nat → Value} {i : Int32} {v : Value} (j : Nat) (hT : ∀ (U : State) (H : Heap), XW U H → va_T .int a N f (AA n0) U H) (hi : i = nI j) (hj : j < N) (hn : N < 2 ^ 31) (hv : f j = v) (hd : decode nm.cc pc = .ok (.iaload, 1)) (hp : pc + 1 = pc')
    (k : T l D cA n0 XW nm d bk bn sz τ M pc' ls (v :: st) Q QX) : T l D cA n0 XW nm d bk bn sz τ M pc ls (.int i :: .ref a :: st) Q QX := by
  subst hp
  intro p e R s m args below meth c H locs cells slots mc ms la Z X hR hS g1 g2 hL r1 r2 r3
  obtain ⟨hx, hbc, hml, -, hown, hSW, -⟩ := id X
  obtain ⟨y1, y2⟩ := nI_in' hi hj hn
  exact va_ti hx hbc (hT _ _ hSW.2.2) hS y1 (by rw [y2]; exact hv) hd (k p e R s m args below meth c H locs cells slots mc ms la Z X hR hS g1 g2 hL r1 r2 r3)
theorem T_tb {a N : Nat} {f : Nat → Value} {i : Int32} {v : Value} (j : Nat) (hT : ∀ (U : State) (H : Heap), XW U H → va_T .byte a N f (AA n0) U H) (hi : i = nI j) (hj : j < N) (hn : N < 2 ^ 31) (hv : f j = v) (hd : decode nm.cc pc = .ok (.baload, 1)) (hp : pc + 1 = pc')
    (k : T l D cA n0 XW nm d bk bn sz τ M pc' ls (v :: st) Q QX) : T l D cA n0 XW nm d bk bn sz τ M pc ls (.int i :: .ref a :: st) Q QX := by
  subst hp
  intro p e R s m args below meth c H locs cells slots mc ms la Z X hR hS g1 g2 hL r1 r2 r3
  obtain ⟨hx, hbc, hml, -, hown, hSW, -⟩ := id X
  obtain ⟨y1, y2⟩ := nI_in' hi hj hn
  exact va_tb hx hbc (hT _ _ hSW.2.2) hS y1 (by rw [y2]; exact hv) hd (k p e R s m args below meth c H locs cells slots mc ms la Z X hR hS g1 g2 hL r1 r2 r3)
theorem T_tlen {ty : FieldType} {a N : Nat} {f : Nat → Value} (hT : ∀ (U : State) (H : Heap), XW U H → va_T ty a N f (AA n0) U H) (hd : decode nm.cc pc = .ok (.arraylength, 1)) (hp : pc + 1 = pc')
    (k : T l D cA n0 XW nm d bk bn sz τ M pc' ls (.int (nI N) :: st) Q QX) : T l D cA n0 XW nm d bk bn sz τ M pc ls (.ref a :: st) Q QX := by
  subst hp
  intro p e R s m args below meth c H locs cells slots mc ms la Z X hR hS g1 g2 hL r1 r2 r3
  obtain ⟨hx, hbc, hml, -, hown, hSW, -⟩ := id X
  exact va_tlen hx hbc (hT _ _ hSW.2.2) hS rfl hd (k p e R s m args below meth c H locs cells slots mc ms la Z X hR hS g1 g2 hL r1 r2 r3)
theorem T_ldcS {tx : String} {a : Nat} (hZ : ∀ (U : State) (H : Heap), XW U H → vk_R nm.y.cls idx tx a U) (hd : decode nm.cc pc = .ok (.ldc idx, 2)) (hp : pc + 2 = pc')
    (k : T l D cA n0 XW nm d bk bn sz τ M pc' ls (.ref a :: st) Q QX) : T l D cA n0 XW nm d bk bn sz τ M pc ls st Q QX := by
  subst hp
  intro p e R s m args below meth c H locs cells slots mc ms la Z X hR hS g1 g2 hL r1 r2 r3
  obtain ⟨hx, hbc, hml, -, hown, hSW, -⟩ := id X
  exact va_ldcS hx hbc hown (hZ _ _ hSW.2.2) hd (k p e R s m args below meth c H locs cells slots mc ms la Z X hR hS g1 g2 hL r1 r2 r3)
theorem T_ldc2 {v : Int64} (hw : Cond.constantLong nm.y.cls idx v ∈ GW) (hd : decode nm.cc pc = .ok (.ldc2_w idx, 3)) (hp : pc + 3 = pc')
    (k : T l D cA n0 XW nm d bk bn sz τ M pc' ls (.long v :: st) Q QX) : T l D cA n0 XW nm d bk bn sz τ M pc ls st Q QX := by
  subst hp
  intro p e R s m args below meth c H locs cells slots mc ms la Z X hR hS g1 g2 hL r1 r2 r3
  obtain ⟨hx, hbc, hml, -, hown, hSW, -⟩ := id X
  exact lv_ldc2 hx hbc hown (hSW.words (args := args) _ hw) hd (k p e R s m args below meth c H locs cells slots mc ms la Z X hR hS g1 g2 hL r1 r2 r3)
/-- the ends -/
theorem T_ret (v : Option Value) (hr : RetI nm pc v) (hq : Q v sz τ M) : T l D cA n0 XW nm d bk bn sz τ M pc ls v.toList Q QX := by
  intro p e R s m args below meth c H locs cells slots mc ms la Z X hR hS g1 g2 hL r1 r2 r3
  exact r1 v sz τ M H locs cells slots pc la hq hR hS (by omega) (by omega) hr
theorem T_iret {x : Int32} {ty : FieldType} (h1 : nm.ret = some ty) (hn : narrow ty (.int x) = .int x) (hd : decode nm.cc pc = .ok (.ireturn, 1)) (hq : Q (some (.int x)) sz τ M) : T l D cA n0 XW nm d bk bn sz τ M pc ls [.int x] Q QX := T_ret (some (.int x)) (Or.inr (Or.inl ⟨x, ty, h1, hn, hd, rfl⟩)) hq
theorem T_vret (h1 : nm.ret = none) (hd : decode nm.cc pc = .ok (.return_, 1)) (hq : Q none sz τ M) : T l D cA n0 XW nm d bk bn sz τ M pc ls [] Q QX := T_ret none (Or.inl ⟨h1, hd, rfl⟩) hq
theorem T_lret {x : Int64} (h1 : nm.ret = some .long) (hd : decode nm.cc pc = .ok (.lreturn, 1)) (hq : Q (some (.long x)) sz τ M) : T l D cA n0 XW nm d bk bn sz τ M pc ls [.long x] Q QX := T_ret (some (.long x)) (Or.inr (Or.inr (Or.inl ⟨x, h1, hd, rfl⟩))) hq
theorem T_dret {x : UInt64} (h1 : nm.ret = some .double) (hd : decode nm.cc pc = .ok (.dreturn, 1)) (hq : Q (some (.double x)) sz τ M) : T l D cA n0 XW nm d bk bn sz τ M pc ls [.double x] Q QX := T_ret (some (.double x)) (Or.inr (Or.inr (Or.inr (Or.inl ⟨x, h1, hd, rfl⟩)))) hq
theorem T_aret {a : Nat} {C : String} (h1 : nm.ret = some (.object C)) (hd : decode nm.cc pc = .ok (.areturn, 1)) (hq : Q (some (.ref a)) sz τ M) : T l D cA n0 XW nm d bk bn sz τ M pc ls [.ref a] Q QX := T_ret (some (.ref a)) (Or.inr (Or.inr (Or.inr (Or.inr ⟨a, .object C, Or.inl ⟨C, rfl⟩, h1, hd, rfl⟩)))) hq
theorem T_aretA {a : Nat} {ty : FieldType} (h1 : nm.ret = some (.array ty)) (hd : decode nm.cc pc = .ok (.areturn, 1)) (hq : Q (some (.ref a)) sz τ M) : T l D cA n0 XW nm d bk bn sz τ M pc ls [.ref a] Q QX := T_ret (some (.ref a)) (Or.inr (Or.inr (Or.inr (Or.inr ⟨a, .array ty, Or.inr ⟨ty, rfl⟩, h1, hd, rfl⟩)))) hq
theorem T_site {E : String} (hs : (pc, E) ∈ nm.sites) (hcat : (st.map fun v => v.category).sum ≤ 8) (hq : QX E sz τ M) : T l D cA n0 XW nm d (bk + 1) (bn + 6) sz τ M pc ls st Q QX := by
  intro p e R s m args below meth c H locs cells slots mc ms la Z X hR hS g1 g2 hL r1 r2 r3
  exact r2 E sz τ M H locs cells slots pc la st hq hR hS (by omega) (by omega) hs hL.1 hcat
/-- less room is enough -/
theorem T_room {bk2 bn2 : Nat} (h1 : bk2 ≤ bk) (h2 : bn2 ≤ bn) (k : T l D cA n0 XW nm d bk2 bn2 sz τ M pc ls st Q QX) : T l D cA n0 XW nm d bk bn sz τ M pc ls st Q QX := by
  intro p e R s m args below meth c H locs cells slots mc ms la Z X hR hS g1 g2 hL r1 r2 r3
  exact k p e R s m args below meth c H locs cells slots mc ms la Z X hR hS (by omega) (by omega) hL r1 r2 r3
/-- a memory that is the same at every place -/
theorem T_eqM {M2 : ME} (h : M = M2) (k : T l D cA n0 XW nm d bk bn sz τ M2 pc ls st Q QX) : T l D cA n0 XW nm d bk bn sz τ M pc ls st Q QX := h ▸ k
/-- the locals at a method's start -/
def lent : List Value → List Value := fun av => av.flatMap fun v => if v.category = 2 then [v, UU] else [v]
def lpad (av : List Value) (n : Nat) : List Value := lent av ++ List.replicate (n - (lent av).length) UU
theorem lent_at : ∀ (vs : List Value) (pre k : Nat) (w : Value), (lent vs)[k]? = some w → isMk w = false → (pre + k, w) ∈ lv_args pre vs
  | [], pre, k, w, h, _ => by simp [lent] at h
  | v :: vs, pre, k, w, h, hm => by
    have hl : lent (v :: vs) = (if v.category = 2 then [v, UU] else [v]) ++ lent vs := rfl
    rw [hl] at h
    unfold lv_args
    by_cases hc : v.category = 2
    · rw [if_pos hc] at h
      rw [if_pos hc]
      match k, h with
      | 0, h => simp at h; subst h; exact List.mem_cons_self
      | 1, h => simp at h; subst h; cases hm
      | k + 2, h =>
        have h' : (lent vs)[k]? = some w := by simpa using h
        have ih := lent_at vs (pre + 2) k w h' hm
        refine List.mem_cons_of_mem _ ?_
        rw [show pre + (k + 2) = pre + 2 + k by omega]
        exact ih
    · rw [if_neg hc] at h
      rw [if_neg hc]
      match k, h with
      | 0, h => simp at h; subst h; exact List.mem_cons_self
      | k + 1, h =>
        have h' : (lent vs)[k]? = some w := by simpa using h
        have ih := lent_at vs (pre + 1) k w h' hm
        refine List.mem_cons_of_mem _ ?_
        rw [show pre + (k + 1) = pre + 1 + k by omega]
        exact ih
theorem LV.entry (av : List Value) {n : Nat} (h : (lg_sl av).length ≤ n) : LV ((lg_sl av ++ List.replicate (n - (lg_sl av).length) Slot.unset).toArray) n (lpad av n) := by
  refine LV.sub (lv_entry av h) fun j w hw hm => ?_
  unfold lpad at hw
  by_cases hj : j < (lent av).length
  · rw [List.getElem?_append_left hj] at hw
    have h1 := lent_at av 0 j w hw hm
    rwa [Nat.zero_add] at h1
  · rw [List.getElem?_append_right (by omega)] at hw
    have h1 := List.mem_of_getElem? hw
    have h2 := List.eq_of_mem_replicate h1
    subst h2
    cases hm
end ENDS
