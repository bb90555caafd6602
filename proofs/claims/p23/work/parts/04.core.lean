/-! The memory's picture: every cell that the law's run made lies at n0 or behind it; its kind by TY, its contents by ME. -/
abbrev KD : Type := Nat × Nat
abbrev TY : Type := Nat → KD
abbrev ME : Type := Nat → Nat → Value
abbrev QT : Type := Option Value → Nat → TY → ME → Prop
abbrev QXT : Type := String → Nat → TY → ME → Prop
/-- a method: its name, code, number of locals, type of answer, handlers, the places where it throws itself -/
abbrev MI : Type := MethodName × ByteArray × Nat × Option FieldType × List (Nat × Nat × Nat × Nat) × List (Nat × String)
abbrev MI.y (n : MI) : MethodName := n.1
abbrev MI.cc (n : MI) : ByteArray := n.2.1
abbrev MI.nL (n : MI) : Nat := n.2.2.1
abbrev MI.ret (n : MI) : Option FieldType := n.2.2.2.1
abbrev MI.hh (n : MI) : List (Nat × Nat × Nat × Nat) := n.2.2.2.2.1
abbrev MI.sites (n : MI) : List (Nat × String) := n.2.2.2.2.2
def vI : Value → Int32 := fun v => match v with | .int x => x | _ => 0
def vL : Value → Int64 := fun v => match v with | .long x => x | _ => 0
def vR : Value → Option Nat := fun v => match v with | .ref a => some a | _ => none
def kN : Nat → Nat := fun k => match k with | 0 => 11 | 1 => 5 | 2 => 5 | 3 => 8 | 4 => 8 | 5 => 9 | 6 => 4 | 7 => 6 | 8 => 8 | 9 => 8 | 10 => 4 | _ => 4
def arI (n : Nat) (f : Nat → Value) : vp_A := (n, .inl fun i => vI (f i))
def arL (n : Nat) (f : Nat → Value) : vp_A := (n, .inr (.inl fun i => vL (f i)))
def arR (n : Nat) (f : Nat → Value) : vp_A := (n, .inr (.inr (.inr (.inr fun i => vR (f i)))))
def aE (j n : Nat) (f : Nat → Value) : vp_A := if j < 2 then arI n f else if j = 2 then arL n f else arR n f
/-- array types by number -/
def jT : Nat → FieldType := fun j => match j with | 0 => .int | 1 => .byte | 2 => .long | 3 => .object RX1 | 4 => .object RX2 | 5 => .object RX3 | 6 => .object RX8 | 7 => .object RX7 | _ => .array .int
def tysL (cA : Nat → ClassId) : List (ClassId × FieldType) := (List.range 9).map fun j => (cA j, jT j)
def entM (cA : Nat → ClassId) (kd : KD) (f : Nat → Value) : va_E := if kd.1 < 100 then .inr (kd.1, (List.range (kN kd.1)).map f) else .inl (cA (kd.1 - 100), aE (kd.1 - 100) kd.2 f)
def Rep (D : va_G) (cA : Nat → ClassId) (n0 sz : Nat) (τ : TY) (M : ME) (H : Heap) : Prop := H.size = sz ∧ ∀ a, (τ a).1 ≠ 999 → n0 ≤ a ∧ va_at D vwCl (a, entM cA (τ a) (M a)) H
/-- one field, one element set anew -/
def up (M : ME) (a k : Nat) (v : Value) : ME := fun b j => if b = a then (if j = k then v else M a j) else M b j
theorem up_s (M : ME) (a k : Nat) (v : Value) : up M a k v a k = v := by simp [up]
theorem up_a {M : ME} {a k b : Nat} {v : Value} (h : b ≠ a) : up M a k v b = M b := by funext j; simp [up, h]
theorem up_k {M : ME} {a k j : Nat} {v : Value} (h : j ≠ k) (b : Nat) : up M a k v b j = M b j := by simp only [up]; split <;> simp_all
theorem up_row (M : ME) (a k : Nat) (v : Value) : up M a k v a = va_up (M a) k v := by funext j; simp [up, va_up]
theorem va_at_lt {D : va_G} {cl : List vw_C} {q : Nat × va_E} {H : Heap} (h : va_at D cl q H) : q.1 < H.size := by
  have hP : va_P D cl [q] H := fun k x hx => by
    cases k with
    | zero => simp at hx; subst hx; exact h
    | succ k => simp at hx
  exact (hP 0 q rfl).lt
theorem Rep.lt {D : va_G} {cA : Nat → ClassId} {n0 sz : Nat} {τ : TY} {M : ME} {H : Heap} (h : Rep D cA n0 sz τ M H) {a : Nat} (ha : (τ a).1 ≠ 999) : n0 ≤ a ∧ a < sz := ⟨(h.2 a ha).1, h.1 ▸ va_at_lt (h.2 a ha).2⟩
theorem Rep.obj {D : va_G} {cA : Nat → ClassId} {n0 sz : Nat} {τ : TY} {M : ME} {H : Heap} (h : Rep D cA n0 sz τ M H) {a c n : Nat} (ha : τ a = (c, n)) (hc : c < 100) : va_at D vwCl (a, .inr (c, (List.range (kN c)).map (M a))) H := by
  have h1 := (h.2 a (by rw [ha]; intro e; simp at e; omega)).2
  rw [ha] at h1
  simpa [entM, hc] using h1
theorem Rep.arr {D : va_G} {cA : Nat → ClassId} {n0 sz : Nat} {τ : TY} {M : ME} {H : Heap} (h : Rep D cA n0 sz τ M H) {a j n : Nat} (ha : τ a = (100 + j, n)) (hj : j < 9) : va_at D vwCl (a, .inl (cA j, aE j n (M a))) H := by
  have h1 := (h.2 a (by rw [ha]; intro e; simp at e; omega)).2
  rw [ha] at h1
  have e : 100 + j - 100 = j := by omega
  have e2 : ¬ 100 + j < 100 := by omega
  simpa [entM, e, e2] using h1
theorem Rep.set {D : va_G} {cA : Nat → ClassId} {n0 sz : Nat} {τ : TY} {M M' : ME} {H H' : Heap} (h : Rep D cA n0 sz τ M H) {a : Nat} (hs : H'.size = H.size) (ho : ∀ q, q ≠ a → H'[q]? = H[q]?) (hM : ∀ b, b ≠ a → M' b = M b) (hn : (τ a).1 ≠ 999) (he : va_at D vwCl (a, entM cA (τ a) (M' a)) H') : Rep D cA n0 sz τ M' H' := by
  refine ⟨hs.trans h.1, fun b hb => ?_⟩
  by_cases e : b = a
  · subst e
    exact ⟨(h.2 b hb).1, he⟩
  · obtain ⟨h1, h2⟩ := h.2 b hb
    refine ⟨h1, ?_⟩
    rw [hM b e]
    have hP : va_P D vwCl [(b, entM cA (τ b) (M b))] H := fun k x hx => by
      cases k with
      | zero => simp at hx; subst hx; exact h2
      | succ k => simp at hx
    exact ((hP 0 _ rfl).kept (ho b e))
/-- a new cell at the end -/
theorem Rep.new {D : va_G} {cA : Nat → ClassId} {n0 sz : Nat} {τ τ' : TY} {M M' : ME} {H H' : Heap} (h : Rep D cA n0 sz τ M H) (h0 : n0 ≤ sz) (hs : H'.size = sz + 1) (ho : ∀ q, q < sz → H'[q]? = H[q]?) (hT : ∀ b, b ≠ sz → τ' b = τ b) (hM : ∀ b, b ≠ sz → M' b = M b) (he : (τ' sz).1 ≠ 999 → va_at D vwCl (sz, entM cA (τ' sz) (M' sz)) H') : Rep D cA n0 (sz + 1) τ' M' H' := by
  refine ⟨hs, fun b hb => ?_⟩
  by_cases e : b = sz
  · subst e
    exact ⟨h0, he hb⟩
  · rw [hT b e] at hb ⊢
    obtain ⟨h1, h2⟩ := h.2 b hb
    have hl := (h.lt hb).2
    refine ⟨h1, ?_⟩
    rw [hM b e]
    have hP : va_P D vwCl [(b, entM cA (τ b) (M b))] H := fun k x hx => by
      cases k with
      | zero => simp at hx; subst hx; exact h2
      | succ k => simp at hx
    exact ((hP 0 _ rfl).kept (ho b hl))
/-- the words that hold throughout -/
def isGW : Cond → Bool := fun w => goodWord w || (match w with | .fieldLinkNest .. => true | .methodLinkNest .. => true | .declares _ => true | .castable _ _ => true | _ => false)
/-- the private methods of a StringBuilder's superclass, selected by an object of StringBuilder -/
def xsel : List Cond := [.selects RJ4 yJ5_ensureCapacityInternal_d00df yJ5_ensureCapacityInternal_d00df, .selects RJ4 yJ5_newCapacity_0f7a4 yJ5_newCapacity_0f7a4, .selects RJ4 yJ5_putStringAt_47b60 yJ5_putStringAt_47b60, .selects RJ4 yJ5_inflateIfNeededFor_a7421 yJ5_inflateIfNeededFor_a7421]
def GW : List Cond := (xsel ++ lw_tbl).filter isGW
theorem inGW {w : Cond} (h : w ∈ lw_tbl) (hg : isGW w = true) : w ∈ GW := List.mem_filter.mpr ⟨List.mem_append_right _ h, hg⟩
theorem inGX {w : Cond} (h : w ∈ xsel) (hg : isGW w = true) : w ∈ GW := List.mem_filter.mpr ⟨List.mem_append_left _ h, hg⟩
/-- a private method is what every object of a class selects -/
theorem sel_priv {C : String} {y y0 : MethodName} {s : State} {args : Array Value} {n : Nat} (hy : y.cls ≠ "java/lang/invoke/MethodHandle" ∧ y.cls ≠ "java/lang/invoke/VarHandle") (h0 : (Cond.selects C y0 y0).before args s = true) (hc0 : y0.cls = y.cls)
    (hins : (Cond.instantiable C n).before args s = true) (hpriv : (Cond.privateMethod y).before args s = true) (hinst : (Cond.instanceMethod y).before args s = true) :
    (Cond.selects C y y).before args s = true := by
  obtain ⟨c, k, hc, hk, -, -⟩ := Cond.instantiable_spec hins
  obtain ⟨-, -, m0, -, -, hm0, -, k0, hk0, hi0⟩ := Cond.selects_spec h0
  obtain ⟨mk, methM, hnamed, hmethM, -, -⟩ := Cond.instanceMethod_spec hinst
  have hfound : s.methodFound? y.cls y.name y.desc = some mk := State.methodFound?_of_named hnamed hy
  have hsel : selectMethod {} s.vm c mk = .method mk := selectMethod_private hmethM (Cond.privateMethod_at hpriv mk methM hnamed hmethM)
  have e0 := findClass_of_methodNamed hm0
  have e1 := findClass_of_methodNamed hnamed
  rw [hc0, e1] at e0
  have e2 : mk.cls = m0.cls := Option.some.inj e0
  simp only [Cond.before, Cond.holds, Cond.value, hc, hfound, hnamed, hsel]
  rw [e2, hk0]
  simp [hi0]
theorem gw_tab {w : Cond} (h : w ∈ GW) : isGW w = true := (List.mem_filter.mp h).2
/-- a fact that stays: it speaks of the tables and of cells that are never written -/
def SF (n0 : Nat) (F : State → Heap → Prop) : Prop := ∀ (s U : State) (H H1 : Heap), F s H → s.WarmedH U.vm → (∀ q : Nat, q < n0 → H1[q]? = H[q]?) → F U H1
theorem gw_warm {w : Cond} (hg : isGW w = true) {s U : State} (hW : s.WarmedH U.vm) (h : va_Nw w s) : va_Nw w U := by
  by_cases hq : goodWord w = true
  · exact word_at hW (good_of_word hq) h
  · cases w <;> first | exact va_Nw.warmF hW h | exact va_Nw.warmM hW h | exact va_Nw.warmD hW h | exact va_Nw.warmC hW h | (simp [isGW, hq] at hg)
def SW (D : va_G) (cA : Nat → ClassId) (XW : State → Heap → Prop) (U : State) (H : Heap) : Prop := va_K D vwCl (tysL cA) U ∧ (∀ w ∈ GW, va_Nw w U) ∧ XW U H
theorem SW.sf {D : va_G} {cA : Nat → ClassId} {n0 : Nat} {XW : State → Heap → Prop} (hX : SF n0 XW) : SF n0 (SW D cA XW) := by
  intro s U H H1 h hW hH
  exact ⟨va_K.moved hW.alike h.1, fun w hw => gw_warm (gw_tab hw) hW (h.2.1 w hw), hX s U H H1 h.2.2 hW hH⟩
/-- locals, as a list: .retAddr where nothing is said -/
def isMk : Value → Bool := fun v => match v with | .retAddr _ => true | _ => false
abbrev UU : Value := .retAddr 0
def lvf : Nat → List Value → List (Nat × Value)
  | _, [] => []
  | k, v :: l => if isMk v = true then lvf (k + 1) l else (k, v) :: lvf (k + 1) l
theorem mem_lvf {i : Nat} {v : Value} : ∀ (ls : List Value) (k : Nat), (i, v) ∈ lvf k ls ↔ k ≤ i ∧ ls[i - k]? = some v ∧ isMk v = false
  | [], k => by simp [lvf]
  | w :: l, k => by
    have ih := mem_lvf (i := i) (v := v) l (k + 1)
    have key : (k + 1 ≤ i ∧ l[i - (k + 1)]? = some v) ↔ (k < i ∧ (w :: l)[i - k]? = some v) := by
      constructor
      · rintro ⟨h1, h2⟩
        refine ⟨h1, ?_⟩
        rw [show i - k = (i - (k + 1)) + 1 by omega, List.getElem?_cons_succ]
        exact h2
      · rintro ⟨h1, h2⟩
        refine ⟨h1, ?_⟩
        rw [show i - k = (i - (k + 1)) + 1 by omega, List.getElem?_cons_succ] at h2
        exact h2
    have e0 : ∀ j : Nat, k < j ∨ j = k ∨ j < k := fun j => by omega
    unfold lvf
    by_cases hw : isMk w = true
    · rw [if_pos hw, ih]
      constructor
      · rintro ⟨h1, h2, h3⟩
        obtain ⟨a, b⟩ := key.mp ⟨h1, h2⟩
        exact ⟨by omega, b, h3⟩
      · rintro ⟨h1, h2, h3⟩
        rcases e0 i with q | q | q
        · obtain ⟨a, b⟩ := key.mpr ⟨q, h2⟩
          exact ⟨a, b, h3⟩
        · subst q
          simp at h2
          subst h2
          rw [hw] at h3
          cases h3
        · omega
    · rw [if_neg hw, List.mem_cons, ih]
      constructor
      · rintro (h | ⟨h1, h2, h3⟩)
        · cases h
          exact ⟨Nat.le_refl _, by simp, by simpa using hw⟩
        · obtain ⟨a, b⟩ := key.mp ⟨h1, h2⟩
          exact ⟨by omega, b, h3⟩
      · rintro ⟨h1, h2, h3⟩
        rcases e0 i with q | q | q
        · obtain ⟨a, b⟩ := key.mpr ⟨q, h2⟩
          exact Or.inr ⟨a, b, h3⟩
        · subst q
          simp at h2
          exact Or.inl (by rw [h2])
        · omega
def LV (la : Array Slot) (n : Nat) (ls : List Value) : Prop := lv_has la n (lvf 0 ls)
theorem LV.get {la : Array Slot} {n i : Nat} {ls : List Value} {v : Value} (h : LV la n ls) (hi : ls[i]? = some v) (hm : isMk v = false) : la[i]? = some (.val v) := h.2.2 (i, v) ((mem_lvf ls 0).mpr ⟨Nat.zero_le _, hi, hm⟩)
theorem LV.sub {la : Array Slot} {n : Nat} {l : List (Nat × Value)} {ls : List Value} (h : lv_has la n l) (hs : ∀ (j : Nat) (w : Value), ls[j]? = some w → isMk w = false → (j, w) ∈ l) : LV la n ls := ⟨h.1, h.2.1, fun q hq => h.2.2 q (by
  obtain ⟨-, h2, h3⟩ := (mem_lvf (i := q.1) (v := q.2) ls 0).mp hq
  exact hs q.1 q.2 h2 h3)⟩
/-- the locals behind a store of one slot, of two -/
def lset : List Value → Nat → Value → List Value
  | [], _, _ => []
  | _ :: l, 0, v => v :: l
  | a :: l, n + 1, v => (if n = 0 ∧ a.category = 2 then UU else a) :: lset l n v
def lset2 : List Value → Nat → Value → List Value
  | [], _, _ => []
  | [_], 0, v => [v]
  | _ :: _ :: l, 0, v => v :: UU :: l
  | a :: l, n + 1, v => (if n = 0 ∧ a.category = 2 then UU else a) :: lset2 l n v
theorem lset_at {v : Value} : ∀ (ls : List Value) (i j : Nat) (w : Value), (lset ls i v)[j]? = some w → isMk w = false → (j = i ∧ w = v) ∨ (j ≠ i ∧ ls[j]? = some w ∧ ¬ (j + 1 = i ∧ w.category = 2))
  | [], i, j, w, h, _ => by simp [lset] at h
  | a :: l, 0, 0, w, h, _ => by simp [lset] at h; exact Or.inl ⟨rfl, h.symm⟩
  | a :: l, 0, j + 1, w, h, _ => by
    simp only [lset, List.getElem?_cons_succ] at h
    exact Or.inr ⟨by omega, by simpa using h, by omega⟩
  | a :: l, n + 1, 0, w, h, hm => by
    simp only [lset, List.getElem?_cons_zero, Option.some.injEq] at h
    by_cases hc : n = 0 ∧ a.category = 2
    · rw [if_pos hc] at h
      subst h
      cases hm
    · rw [if_neg hc] at h
      subst h
      exact Or.inr ⟨by omega, by simp, fun q => hc ⟨by omega, q.2⟩⟩
  | a :: l, n + 1, j + 1, w, h, hm => by
    simp only [lset, List.getElem?_cons_succ] at h
    rcases lset_at l n j w h hm with ⟨q, e⟩ | ⟨q1, q2, q3⟩
    · exact Or.inl ⟨by omega, e⟩
    · exact Or.inr ⟨by omega, by simpa using q2, fun q => q3 ⟨by omega, q.2⟩⟩
theorem lset2_at {v : Value} : ∀ (ls : List Value) (i j : Nat) (w : Value), (lset2 ls i v)[j]? = some w → isMk w = false → (j = i ∧ w = v) ∨ (j ≠ i ∧ j ≠ i + 1 ∧ ls[j]? = some w ∧ ¬ (j + 1 = i ∧ w.category = 2))
  | [], i, j, w, h, _ => by simp [lset2] at h
  | [a], 0, 0, w, h, _ => by simp [lset2] at h; exact Or.inl ⟨rfl, h.symm⟩
  | [a], 0, j + 1, w, h, _ => by simp [lset2] at h
  | a :: b :: l, 0, 0, w, h, _ => by simp [lset2] at h; exact Or.inl ⟨rfl, h.symm⟩
  | a :: b :: l, 0, 1, w, h, hm => by simp [lset2] at h; subst h; cases hm
  | a :: b :: l, 0, j + 2, w, h, _ => by
    simp only [lset2, List.getElem?_cons_succ] at h
    exact Or.inr ⟨by omega, by omega, by simpa using h, by omega⟩
  | a :: l, n + 1, 0, w, h, hm => by
    simp only [lset2, List.getElem?_cons_zero, Option.some.injEq] at h
    by_cases hc : n = 0 ∧ a.category = 2
    · rw [if_pos hc] at h
      subst h
      cases hm
    · rw [if_neg hc] at h
      subst h
      exact Or.inr ⟨by omega, by omega, by simp, fun q => hc ⟨by omega, q.2⟩⟩
  | a :: l, n + 1, j + 1, w, h, hm => by
    simp only [lset2, List.getElem?_cons_succ] at h
    rcases lset2_at l n j w h hm with ⟨q, e⟩ | ⟨q1, q2, q3, q4⟩
    · exact Or.inl ⟨by omega, e⟩
    · exact Or.inr ⟨by omega, by omega, by simpa using q3, fun q => q4 ⟨by omega, q.2⟩⟩
theorem LV.st1 {la : Array Slot} {n i : Nat} {ls : List Value} {v : Value} (h : lv_has la n ((i, v) :: (lvf 0 ls).filter (fun q => !(q.1 == i) && !(q.1 + 1 == i && q.2.category == 2)))) : LV la n (lset ls i v) := by
  refine LV.sub h fun j w hw hm => ?_
  rcases lset_at ls i j w hw hm with ⟨rfl, rfl⟩ | ⟨h1, h2, h3⟩
  · exact List.mem_cons_self
  · refine List.mem_cons_of_mem _ (List.mem_filter.mpr ⟨(mem_lvf ls 0).mpr ⟨Nat.zero_le _, h2, hm⟩, ?_⟩)
    by_cases hc : w.category = 2 <;> by_cases hd : j + 1 = i <;> simp_all
theorem LV.st2 {la : Array Slot} {n i : Nat} {ls : List Value} {v : Value} (h : lv_has la n ((i, v) :: (lvf 0 ls).filter (fun q => !(q.1 == i) && (!(q.1 == i + 1) && !(q.1 + 1 == i && q.2.category == 2))))) : LV la n (lset2 ls i v) := by
  refine LV.sub h fun j w hw hm => ?_
  rcases lset2_at ls i j w hw hm with ⟨rfl, rfl⟩ | ⟨h1, h2, h3, h4⟩
  · exact List.mem_cons_self
  · refine List.mem_cons_of_mem _ (List.mem_filter.mpr ⟨(mem_lvf ls 0).mpr ⟨Nat.zero_le _, h3, hm⟩, ?_⟩)
    by_cases hc : w.category = 2 <;> by_cases hd : j + 1 = i <;> simp_all
/-- what stays the same in a method's run -/
def Cx (D : va_G) (cA : Nat → ClassId) (n0 : Nat) (XW : State → Heap → Prop) (nm : MI) (d : Nat) (p : Program) (R : Room) (s : State) (m : MethodId) (meth : Method) (c : Code) (mc ms : Nat) : Prop :=
  p.tables.exec = Jvm.exec ∧ c.code = nm.cc ∧ c.maxLocals = nm.nL ∧ meth.sig.returnType = nm.ret ∧ s.vm.findClass nm.y.cls = some m.cls ∧ SW D cA XW s s.heap ∧ n0 ≤ s.heap.size ∧ meth.locks = false ∧ meth.name = nm.y.name ∧ d ≤ R.frames ∧ 41 * d ≤ R.locals ∧ mc ≤ R.cells ∧ ms ≤ R.slots ∧ (nm.hh = [] → c.exceptionTable.toList = []) ∧ (∀ hh, nm.hh = (0, 0, 0, 0) :: hh → c.exceptionTable.toList = tableOf hh)
/-- an instruction that ends the method with v -/
def RetI (nm : MI) (pc : Nat) (v : Option Value) : Prop :=
  (nm.ret = none ∧ decode nm.cc pc = .ok (.return_, 1) ∧ v = none) ∨ (∃ (x : Int32) (ty : FieldType), nm.ret = some ty ∧ narrow ty (.int x) = .int x ∧ decode nm.cc pc = .ok (.ireturn, 1) ∧ v = some (.int x)) ∨ (∃ x : Int64, nm.ret = some .long ∧ decode nm.cc pc = .ok (.lreturn, 1) ∧ v = some (.long x)) ∨ (∃ x : UInt64, nm.ret = some .double ∧ decode nm.cc pc = .ok (.dreturn, 1) ∧ v = some (.double x)) ∨ (∃ (a : Nat) (rt : FieldType), ((∃ C, rt = .object C) ∨ ∃ ty, rt = .array ty) ∧ nm.ret = some rt ∧ decode nm.cc pc = .ok (.areturn, 1) ∧ v = some (.ref a))
def AA (n0 : Nat) : Nat → Prop := fun q => n0 ≤ q
/-- from pc on, with locals ls, stack st, memory sz τ M and room for bk cells of bn slots more, the method comes to an answer with Q, or to a throw with QX -/
def T (l : Launch) (D : va_G) (cA : Nat → ClassId) (n0 : Nat) (XW : State → Heap → Prop) (nm : MI) (d bk bn sz : Nat) (τ : TY) (M : ME) (pc : Nat) (ls st : List Value) (Q : QT) (QX : QXT) : Prop :=
  ∀ (p : Program) (e : Env) (R : Room) (s : State) (m : MethodId) (args : Array Value) (below : List Frame) (meth : Method) (c : Code) (H : Heap) (locs : List Loc) (cells slots mc ms : Nat) (la : Array Slot) (Z : State → Prop),
    Cx D cA n0 XW nm d p R s m meth c mc ms → Rep D cA n0 sz τ M H → va_S (AA n0) s.heap H locs → cells + bk ≤ mc → slots + bn ≤ ms → LV la nm.nL ls →
    (∀ (v : Option Value) (sz' : Nat) (τ' : TY) (M' : ME) (H' : Heap) (locs' : List Loc) (cells' slots' pc' : Nat) (la' : Array Slot), Q v sz' τ' M' → Rep D cA n0 sz' τ' M' H' → va_S (AA n0) s.heap H' locs' → cells' ≤ mc → slots' ≤ ms → RetI nm pc' v →
      W p l e R s m args below meth c H' locs' cells' slots' Z (F0 m pc' la' v.toList)) →
    (∀ (E : String) (sz' : Nat) (τ' : TY) (M' : ME) (H' : Heap) (locs' : List Loc) (cells' slots' pc' : Nat) (la' : Array Slot) (st' : List Value), QX E sz' τ' M' → Rep D cA n0 sz' τ' M' H' → va_S (AA n0) s.heap H' locs' → cells' + 1 ≤ mc → slots' + 6 ≤ ms → (pc', E) ∈ nm.sites → la'.size = nm.nL → (st'.map fun v => v.category).sum ≤ 8 →
      W p l e R s m args below meth c H' locs' cells' slots' Z (F0 m pc' la' st')) →
    (∀ (E : String) (q : Addr) (ce : Cell) (sz' : Nat) (τ' : TY) (M' : ME) (H' : Heap) (locs' : List Loc) (cells' slots' pc' : Nat) (la' : Array Slot) (st' : List Value), QX E sz' τ' M' → Rep D cA n0 sz' τ' M' H' → va_S (AA n0) s.heap H' locs' → cells' ≤ mc → slots' ≤ ms → H'[q]? = some ce → ce.vm = .none → s.vm.findClass E = some ce.cls → la'.size = nm.nL →
      vx_W p l e R s m args below meth c H' locs' cells' slots' Z (F0 m pc' la' st') q) →
    W p l e R s m args below meth c H locs cells slots Z (F0 m pc la st)
def rmD (d mc ms : Nat) : Room := { frames := d, cells := mc, slots := ms, locals := 41 * d }
def PreM (D : va_G) (cA : Nat → ClassId) (n0 : Nat) (XW : State → Heap → Prop) (sz : Nat) (τ : TY) (M : ME) : State → Prop := fun U => SW D cA XW U U.heap ∧ Rep D cA n0 sz τ M U.heap ∧ n0 ≤ U.heap.size
def KeepM (n0 : Nat) (st t : State) : Prop := st.heap.size ≤ t.heap.size ∧ ∀ q : Nat, q < n0 → t.heap[q]? = st.heap[q]?
def PostM (D : va_G) (cA : Nat → ClassId) (n0 : Nat) (Q : QT) : Array Value → State → Outcome → State → Prop := fun _ st o t => ∃ (v : Option Value) (sz' : Nat) (τ' : TY) (M' : ME), o = .returned v ∧ Q v sz' τ' M' ∧ Rep D cA n0 sz' τ' M' t.heap ∧ KeepM n0 st t
def PostX (D : va_G) (cA : Nat → ClassId) (n0 : Nat) (QX : QXT) : String → State → State → Prop := fun E st t => ∃ (sz' sz2 : Nat) (τ' : TY) (M' : ME), QX E sz' τ' M' ∧ sz' ≤ sz2 ∧ Rep D cA n0 sz2 τ' M' t.heap ∧ KeepM n0 st t
/-- contracts: of methods that only return; that return or throw; that throw and have handlers -/
def CT (l : Launch) (D : va_G) (cA : Nat → ClassId) (n0 : Nat) (XW : State → Heap → Prop) (nm : MI) (d mc ms sz : Nat) (τ : TY) (M : ME) (av : List Value) (Q : QT) : Prop :=
  Met l nm.y [.code nm.y nm.cc nm.nL nm.ret] (rmD d mc ms) (va_Pc av (PreM D cA n0 XW sz τ M)) (PostM D cA n0 Q) mc ms (AA n0)
def CX (l : Launch) (D : va_G) (cA : Nat → ClassId) (n0 : Nat) (XW : State → Heap → Prop) (nm : MI) (d mc ms sz : Nat) (τ : TY) (M : ME) (av : List Value) (Q : QT) (QX : QXT) : Prop :=
  vx_Met l nm.y [.code nm.y nm.cc nm.nL nm.ret] (rmD d mc ms) (va_Pc av (PreM D cA n0 XW sz τ M)) (PostM D cA n0 Q) (PostX D cA n0 QX) mc ms (AA n0)
