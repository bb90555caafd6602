section RULES
variable {l : Launch} {D : va_G} {cA : Nat → ClassId} {n0 : Nat} {XW : State → Heap → Prop} {nm : MI} {d bk bn sz : Nat} {τ : TY} {M : ME} {Q : QT} {QX : QXT} {ls st : List Value} {pc : Nat}
theorem T_go {pc' : Nat} {st' : List Value} (h : ∀ (p : Program) (e : Env) (R : Room) (s : State) (m : MethodId) (args : Array Value) (below : List Frame) (meth : Method) (c : Code) (H : Heap) (locs : List Loc) (cells slots : Nat) (la : Array Slot) (Z : State → Prop), p.tables.exec = Jvm.exec → c.code = nm.cc → LV la nm.nL ls →
    W p l e R s m args below meth c H locs cells slots Z (F0 m pc' la st') → W p l e R s m args below meth c H locs cells slots Z (F0 m pc la st)) (k : T l D cA n0 XW nm d bk bn sz τ M pc' ls st' Q QX) : T l D cA n0 XW nm d bk bn sz τ M pc ls st Q QX := by
  intro p e R s m args below meth c H locs cells slots mc ms la Z C hR hS h1 h2 hL r1 r2 r3
  exact h p e R s m args below meth c H locs cells slots la Z C.1 C.2.1 hL (k p e R s m args below meth c H locs cells slots mc ms la Z C hR hS h1 h2 hL r1 r2 r3)
theorem T_gs {pc' : Nat} {ls' st' : List Value} (h : ∀ (p : Program) (e : Env) (R : Room) (s : State) (m : MethodId) (args : Array Value) (below : List Frame) (meth : Method) (c : Code) (H : Heap) (locs : List Loc) (cells slots : Nat) (la : Array Slot) (Z : State → Prop), p.tables.exec = Jvm.exec → c.code = nm.cc → LV la nm.nL ls →
    (∀ la' : Array Slot, LV la' nm.nL ls' → W p l e R s m args below meth c H locs cells slots Z (F0 m pc' la' st')) → W p l e R s m args below meth c H locs cells slots Z (F0 m pc la st)) (k : T l D cA n0 XW nm d bk bn sz τ M pc' ls' st' Q QX) : T l D cA n0 XW nm d bk bn sz τ M pc ls st Q QX := by
  intro p e R s m args below meth c H locs cells slots mc ms la Z C hR hS h1 h2 hL r1 r2 r3
  exact h p e R s m args below meth c H locs cells slots la Z C.1 C.2.1 hL (fun la' hL' => k p e R s m args below meth c H locs cells slots mc ms la' Z C hR hS h1 h2 hL' r1 r2 r3)
theorem T_cs (P : Prop) (h1 : P → T l D cA n0 XW nm d bk bn sz τ M pc ls st Q QX) (h2 : ¬ P → T l D cA n0 XW nm d bk bn sz τ M pc ls st Q QX) : T l D cA n0 XW nm d bk bn sz τ M pc ls st Q QX := (Classical.em P).elim h1 h2
theorem T_if {P : Prop} {pc1 pc2 : Nat} {st' : List Value} (h : ∀ (p : Program) (e : Env) (R : Room) (s : State) (m : MethodId) (args : Array Value) (below : List Frame) (meth : Method) (c : Code) (H : Heap) (locs : List Loc) (cells slots : Nat) (la : Array Slot) (Z : State → Prop), p.tables.exec = Jvm.exec → c.code = nm.cc → LV la nm.nL ls →
    (P → W p l e R s m args below meth c H locs cells slots Z (F0 m pc1 la st')) → (¬ P → W p l e R s m args below meth c H locs cells slots Z (F0 m pc2 la st')) → W p l e R s m args below meth c H locs cells slots Z (F0 m pc la st)) (k1 : P → T l D cA n0 XW nm d bk bn sz τ M pc1 ls st' Q QX) (k2 : ¬ P → T l D cA n0 XW nm d bk bn sz τ M pc2 ls st' Q QX) : T l D cA n0 XW nm d bk bn sz τ M pc ls st Q QX := by
  intro p e R s m args below meth c H locs cells slots mc ms la Z C hR hS h1 h2 hL r1 r2 r3
  exact h p e R s m args below meth c H locs cells slots la Z C.1 C.2.1 hL (fun q => k1 q p e R s m args below meth c H locs cells slots mc ms la Z C hR hS h1 h2 hL r1 r2 r3) (fun q => k2 q p e R s m args below meth c H locs cells slots mc ms la Z C hR hS h1 h2 hL r1 r2 r3)

theorem T_iadd {pc' : Nat} {x y : Int32} (hd : decode nm.cc pc = .ok (.iadd, 1)) (hp : pc + 1 = pc') (k : T l D cA n0 XW nm d bk bn sz τ M pc' ls (.int (x + y) :: st) Q QX) : T l D cA n0 XW nm d bk bn sz τ M pc ls (.int y :: .int x :: st) Q QX := by
  subst hp
  exact T_go (fun p e R s m args below meth c H locs cells slots la Z hx hb hL kk => lv_iadd hx hb hd kk) k
theorem T_isub {pc' : Nat} {x y : Int32} (hd : decode nm.cc pc = .ok (.isub, 1)) (hp : pc + 1 = pc') (k : T l D cA n0 XW nm d bk bn sz τ M pc' ls (.int (x - y) :: st) Q QX) : T l D cA n0 XW nm d bk bn sz τ M pc ls (.int y :: .int x :: st) Q QX := by
  subst hp
  exact T_go (fun p e R s m args below meth c H locs cells slots la Z hx hb hL kk => lv_isub hx hb hd kk) k
theorem T_imul {pc' : Nat} {x y : Int32} (hd : decode nm.cc pc = .ok (.imul, 1)) (hp : pc + 1 = pc') (k : T l D cA n0 XW nm d bk bn sz τ M pc' ls (.int (x * y) :: st) Q QX) : T l D cA n0 XW nm d bk bn sz τ M pc ls (.int y :: .int x :: st) Q QX := by
  subst hp
  exact T_go (fun p e R s m args below meth c H locs cells slots la Z hx hb hL kk => lv_imul hx hb hd kk) k
theorem T_iand {pc' : Nat} {x y : Int32} (hd : decode nm.cc pc = .ok (.iand, 1)) (hp : pc + 1 = pc') (k : T l D cA n0 XW nm d bk bn sz τ M pc' ls (.int (x &&& y) :: st) Q QX) : T l D cA n0 XW nm d bk bn sz τ M pc ls (.int y :: .int x :: st) Q QX := by
  subst hp
  exact T_go (fun p e R s m args below meth c H locs cells slots la Z hx hb hL kk => lv_iand hx hb hd kk) k
theorem T_ior {pc' : Nat} {x y : Int32} (hd : decode nm.cc pc = .ok (.ior, 1)) (hp : pc + 1 = pc') (k : T l D cA n0 XW nm d bk bn sz τ M pc' ls (.int (x ||| y) :: st) Q QX) : T l D cA n0 XW nm d bk bn sz τ M pc ls (.int y :: .int x :: st) Q QX := by
  subst hp
  exact T_go (fun p e R s m args below meth c H locs cells slots la Z hx hb hL kk => lv_ior hx hb hd kk) k
theorem T_ishr {pc' : Nat} {x y : Int32} (hd : decode nm.cc pc = .ok (.ishr, 1)) (hp : pc + 1 = pc') (k : T l D cA n0 XW nm d bk bn sz τ M pc' ls (.int (x >>> (y &&& 31)) :: st) Q QX) : T l D cA n0 XW nm d bk bn sz τ M pc ls (.int y :: .int x :: st) Q QX := by
  subst hp
  exact T_go (fun p e R s m args below meth c H locs cells slots la Z hx hb hL kk => lv_ishr hx hb hd kk) k
theorem T_ineg {pc' : Nat} {x : Int32} (hd : decode nm.cc pc = .ok (.ineg, 1)) (hp : pc + 1 = pc') (k : T l D cA n0 XW nm d bk bn sz τ M pc' ls (.int (-x) :: st) Q QX) : T l D cA n0 XW nm d bk bn sz τ M pc ls (.int x :: st) Q QX := by
  subst hp
  exact T_go (fun p e R s m args below meth c H locs cells slots la Z hx hb hL kk => lv_ineg hx hb hd kk) k
theorem T_idiv {pc' : Nat} {x y : Int32} (hd : decode nm.cc pc = .ok (.idiv, 1)) (hp : pc + 1 = pc') (h : ¬ y = 0) (k : T l D cA n0 XW nm d bk bn sz τ M pc' ls (.int (x / y) :: st) Q QX) : T l D cA n0 XW nm d bk bn sz τ M pc ls (.int y :: .int x :: st) Q QX := by
  subst hp
  exact T_go (fun p e R s m args below meth c H locs cells slots la Z hx hb hL kk => lv_idiv hx hb hd h kk) k
theorem T_irem {pc' : Nat} {x y : Int32} (hd : decode nm.cc pc = .ok (.irem, 1)) (hp : pc + 1 = pc') (h : ¬ y = 0) (k : T l D cA n0 XW nm d bk bn sz τ M pc' ls (.int (x - x / y * y) :: st) Q QX) : T l D cA n0 XW nm d bk bn sz τ M pc ls (.int y :: .int x :: st) Q QX := by
  subst hp
  exact T_go (fun p e R s m args below meth c H locs cells slots la Z hx hb hL kk => lv_irem hx hb hd h kk) k
theorem T_ladd {pc' : Nat} {x y : Int64} (hd : decode nm.cc pc = .ok (.ladd, 1)) (hp : pc + 1 = pc') (k : T l D cA n0 XW nm d bk bn sz τ M pc' ls (.long (x + y) :: st) Q QX) : T l D cA n0 XW nm d bk bn sz τ M pc ls (.long y :: .long x :: st) Q QX := by
  subst hp
  exact T_go (fun p e R s m args below meth c H locs cells slots la Z hx hb hL kk => lv_ladd hx hb hd kk) k
theorem T_lsub {pc' : Nat} {x y : Int64} (hd : decode nm.cc pc = .ok (.lsub, 1)) (hp : pc + 1 = pc') (k : T l D cA n0 XW nm d bk bn sz τ M pc' ls (.long (x - y) :: st) Q QX) : T l D cA n0 XW nm d bk bn sz τ M pc ls (.long y :: .long x :: st) Q QX := by
  subst hp
  exact T_go (fun p e R s m args below meth c H locs cells slots la Z hx hb hL kk => lv_lsub hx hb hd kk) k
theorem T_lmul {pc' : Nat} {x y : Int64} (hd : decode nm.cc pc = .ok (.lmul, 1)) (hp : pc + 1 = pc') (k : T l D cA n0 XW nm d bk bn sz τ M pc' ls (.long (x * y) :: st) Q QX) : T l D cA n0 XW nm d bk bn sz τ M pc ls (.long y :: .long x :: st) Q QX := by
  subst hp
  exact T_go (fun p e R s m args below meth c H locs cells slots la Z hx hb hL kk => lv_lmul hx hb hd kk) k
theorem T_i2l {pc' : Nat} {x : Int32} (hd : decode nm.cc pc = .ok (.i2l, 1)) (hp : pc + 1 = pc') (k : T l D cA n0 XW nm d bk bn sz τ M pc' ls (.long x.toInt64 :: st) Q QX) : T l D cA n0 XW nm d bk bn sz τ M pc ls (.int x :: st) Q QX := by
  subst hp
  exact T_go (fun p e R s m args below meth c H locs cells slots la Z hx hb hL kk => lv_i2l hx hb hd rfl kk) k
theorem T_l2i {pc' : Nat} {x : Int64} (hd : decode nm.cc pc = .ok (.l2i, 1)) (hp : pc + 1 = pc') (k : T l D cA n0 XW nm d bk bn sz τ M pc' ls (.int x.toInt32 :: st) Q QX) : T l D cA n0 XW nm d bk bn sz τ M pc ls (.long x :: st) Q QX := by
  subst hp
  exact T_go (fun p e R s m args below meth c H locs cells slots la Z hx hb hL kk => lv_l2i hx hb hd rfl kk) k
theorem T_i2b {pc' : Nat} {x : Int32} (hd : decode nm.cc pc = .ok (.i2b, 1)) (hp : pc + 1 = pc') (k : T l D cA n0 XW nm d bk bn sz τ M pc' ls (.int x.toInt8.toInt32 :: st) Q QX) : T l D cA n0 XW nm d bk bn sz τ M pc ls (.int x :: st) Q QX := by
  subst hp
  exact T_go (fun p e R s m args below meth c H locs cells slots la Z hx hb hL kk => lv_i2b hx hb hd rfl kk) k
theorem T_i2c {pc' : Nat} {x : Int32} (hd : decode nm.cc pc = .ok (.i2c, 1)) (hp : pc + 1 = pc') (k : T l D cA n0 XW nm d bk bn sz τ M pc' ls (.int (x.toUInt32 % 65536).toInt32 :: st) Q QX) : T l D cA n0 XW nm d bk bn sz τ M pc ls (.int x :: st) Q QX := by
  subst hp
  exact T_go (fun p e R s m args below meth c H locs cells slots la Z hx hb hL kk => lv_i2c hx hb hd rfl kk) k
theorem T_i2d {pc' : Nat} {x : Int32} (hd : decode nm.cc pc = .ok (.i2d, 1)) (hp : pc + 1 = pc') (k : T l D cA n0 XW nm d bk bn sz τ M pc' ls (.double (FP.i2d x) :: st) Q QX) : T l D cA n0 XW nm d bk bn sz τ M pc ls (.int x :: st) Q QX := by
  subst hp
  exact T_go (fun p e R s m args below meth c H locs cells slots la Z hx hb hL kk => lv_i2d hx hb hd kk) k
theorem T_ddiv {pc' : Nat} {x y : UInt64} (hd : decode nm.cc pc = .ok (.ddiv, 1)) (hp : pc + 1 = pc') (h : vf_n64 (FP.ddiv x y)) (k : T l D cA n0 XW nm d bk bn sz τ M pc' ls (.double (FP.ddiv x y) :: st) Q QX) : T l D cA n0 XW nm d bk bn sz τ M pc ls (.double y :: .double x :: st) Q QX := by
  subst hp
  exact T_go (fun p e R s m args below meth c H locs cells slots la Z hx hb hL kk => lv_ddiv hx hb hd h kk) k
theorem T_dcmp {pc' : Nat} {x y : UInt64} {op : CmpOp} (hd : decode nm.cc pc = .ok (.dcmp op, 1)) (hp : pc + 1 = pc') (k : T l D cA n0 XW nm d bk bn sz τ M pc' ls (.int (Op.cmpValue (FP.dcmp x y) op) :: st) Q QX) : T l D cA n0 XW nm d bk bn sz τ M pc ls (.double y :: .double x :: st) Q QX := by
  subst hp
  exact T_go (fun p e R s m args below meth c H locs cells slots la Z hx hb hL kk => lv_dcmp hx hb hd kk) k
theorem T_dconst0 {pc' : Nat} (hd : decode nm.cc pc = .ok (.dconst 0, 1)) (hp : pc + 1 = pc') (k : T l D cA n0 XW nm d bk bn sz τ M pc' ls (.double 0 :: st) Q QX) : T l D cA n0 XW nm d bk bn sz τ M pc ls (st) Q QX := by
  subst hp
  exact T_go (fun p e R s m args below meth c H locs cells slots la Z hx hb hL kk => lv_dconst0 hx hb hd kk) k
theorem T_iconst {pc' : Nat} {n : Int} (v : Int32) (hd : decode nm.cc pc = .ok (.iconst n, 1)) (hp : pc + 1 = pc') (hv : Int32.ofInt n = v) (k : T l D cA n0 XW nm d bk bn sz τ M pc' ls (.int v :: st) Q QX) : T l D cA n0 XW nm d bk bn sz τ M pc ls (st) Q QX := by
  subst hp
  exact T_go (fun p e R s m args below meth c H locs cells slots la Z hx hb hL kk => lv_iconst hx hb hd hv kk) k
theorem T_bipush {pc' : Nat} {n : Int} (v : Int32) (hd : decode nm.cc pc = .ok (.bipush n, 2)) (hp : pc + 2 = pc') (hv : (Int8.ofInt n).toInt32 = v) (k : T l D cA n0 XW nm d bk bn sz τ M pc' ls (.int v :: st) Q QX) : T l D cA n0 XW nm d bk bn sz τ M pc ls (st) Q QX := by
  subst hp
  exact T_go (fun p e R s m args below meth c H locs cells slots la Z hx hb hL kk => lv_bipush hx hb hd hv kk) k
theorem T_sipush {pc' : Nat} {n : Int} (v : Int32) (hd : decode nm.cc pc = .ok (.sipush n, 3)) (hp : pc + 3 = pc') (hv : (Int16.ofInt n).toInt32 = v) (k : T l D cA n0 XW nm d bk bn sz τ M pc' ls (.int v :: st) Q QX) : T l D cA n0 XW nm d bk bn sz τ M pc ls (st) Q QX := by
  subst hp
  exact T_go (fun p e R s m args below meth c H locs cells slots la Z hx hb hL kk => lv_sipush hx hb hd hv kk) k
theorem T_lconst {pc' : Nat} {n : Fin 2} (v : Int64) (hd : decode nm.cc pc = .ok (.lconst n, 1)) (hp : pc + 1 = pc') (hv : Int64.ofNat (n : Nat) = v) (k : T l D cA n0 XW nm d bk bn sz τ M pc' ls (.long v :: st) Q QX) : T l D cA n0 XW nm d bk bn sz τ M pc ls (st) Q QX := by
  subst hp
  exact T_go (fun p e R s m args below meth c H locs cells slots la Z hx hb hL kk => lv_lconst hx hb hd hv kk) k
theorem T_dup {pc' : Nat} {v : Value} (hd : decode nm.cc pc = .ok (.dup, 1)) (hp : pc + 1 = pc') (hv : v.category = 1) (k : T l D cA n0 XW nm d bk bn sz τ M pc' ls (v :: v :: st) Q QX) : T l D cA n0 XW nm d bk bn sz τ M pc ls (v :: st) Q QX := by
  subst hp
  exact T_go (fun p e R s m args below meth c H locs cells slots la Z hx hb hL kk => lv_dup hx hb hd hv kk) k
theorem T_pop {pc' : Nat} {v : Value} (hd : decode nm.cc pc = .ok (.pop, 1)) (hp : pc + 1 = pc') (hv : v.category = 1) (k : T l D cA n0 XW nm d bk bn sz τ M pc' ls (st) Q QX) : T l D cA n0 XW nm d bk bn sz τ M pc ls (v :: st) Q QX := by
  subst hp
  exact T_go (fun p e R s m args below meth c H locs cells slots la Z hx hb hL kk => lv_pop hx hb hd hv kk) k
theorem T_dup_x1 {pc' : Nat} {v w : Value} (hd : decode nm.cc pc = .ok (.dup_x1, 1)) (hp : pc + 1 = pc') (hv : v.category = 1) (hw : w.category = 1) (k : T l D cA n0 XW nm d bk bn sz τ M pc' ls (v :: w :: v :: st) Q QX) : T l D cA n0 XW nm d bk bn sz τ M pc ls (v :: w :: st) Q QX := by
  subst hp
  exact T_go (fun p e R s m args below meth c H locs cells slots la Z hx hb hL kk => lv_dup_x1 hx hb hd hv hw kk) k
theorem T_dup2 {pc' : Nat} {v w : Value} (hd : decode nm.cc pc = .ok (.dup2, 1)) (hp : pc + 1 = pc') (hv : v.category = 1) (hw : w.category = 1) (k : T l D cA n0 XW nm d bk bn sz τ M pc' ls (v :: w :: v :: w :: st) Q QX) : T l D cA n0 XW nm d bk bn sz τ M pc ls (v :: w :: st) Q QX := by
  subst hp
  exact T_go (fun p e R s m args below meth c H locs cells slots la Z hx hb hL kk => lv_dup2_11 hx hb hd hv hw kk) k
theorem T_lcmp {pc' : Nat} {x y : Int64} (hd : decode nm.cc pc = .ok (.lcmp, 1)) (hp : pc + 1 = pc') (k : T l D cA n0 XW nm d bk bn sz τ M pc' ls (.int (lg_cmp x y) :: st) Q QX) : T l D cA n0 XW nm d bk bn sz τ M pc ls (.long y :: .long x :: st) Q QX := by
  subst hp
  exact T_go (fun p e R s m args below meth c H locs cells slots la Z hx hb hL kk => W.lcmp hx hb hd kk) k
theorem T_if_eq {off : Int} {x : Int32} (tgt nxt : Nat) (hd : decode nm.cc pc = .ok (.ifCond .eq off, 3)) (ht : (pc : Int) + off = (tgt : Int)) (hp : pc + 3 = nxt) (k1 : x = 0 → T l D cA n0 XW nm d bk bn sz τ M tgt ls st Q QX) (k2 : ¬ x = 0 → T l D cA n0 XW nm d bk bn sz τ M nxt ls st Q QX) : T l D cA n0 XW nm d bk bn sz τ M pc ls (.int x :: st) Q QX := by
  subst hp
  exact T_if (fun p e R s m args below meth c H locs cells slots la Z hx hb hL q1 q2 => lv_if_eq hx hb hd ht q1 q2) k1 k2
theorem T_if_eq_t {off : Int} {x : Int32} (tgt : Nat) (hd : decode nm.cc pc = .ok (.ifCond .eq off, 3)) (ht : (pc : Int) + off = (tgt : Int)) (h : x = 0) (k : T l D cA n0 XW nm d bk bn sz τ M tgt ls st Q QX) : T l D cA n0 XW nm d bk bn sz τ M pc ls (.int x :: st) Q QX := T_if_eq tgt (pc + 3) hd ht rfl (fun _ => k) (fun q => absurd h q)
theorem T_if_eq_f {off : Int} {x : Int32} (tgt nxt : Nat) (hd : decode nm.cc pc = .ok (.ifCond .eq off, 3)) (ht : (pc : Int) + off = (tgt : Int)) (hp : pc + 3 = nxt) (h : ¬ x = 0) (k : T l D cA n0 XW nm d bk bn sz τ M nxt ls st Q QX) : T l D cA n0 XW nm d bk bn sz τ M pc ls (.int x :: st) Q QX := T_if_eq tgt nxt hd ht hp (fun q => absurd q h) (fun _ => k)
theorem T_icmp_eq {off : Int} {x y : Int32} (tgt nxt : Nat) (hd : decode nm.cc pc = .ok (.if_icmp .eq off, 3)) (ht : (pc : Int) + off = (tgt : Int)) (hp : pc + 3 = nxt) (k1 : x = y → T l D cA n0 XW nm d bk bn sz τ M tgt ls st Q QX) (k2 : ¬ x = y → T l D cA n0 XW nm d bk bn sz τ M nxt ls st Q QX) : T l D cA n0 XW nm d bk bn sz τ M pc ls (.int y :: .int x :: st) Q QX := by
  subst hp
  exact T_if (fun p e R s m args below meth c H locs cells slots la Z hx hb hL q1 q2 => lv_icmp_eq hx hb hd ht q1 q2) k1 k2
theorem T_icmp_eq_t {off : Int} {x y : Int32} (tgt : Nat) (hd : decode nm.cc pc = .ok (.if_icmp .eq off, 3)) (ht : (pc : Int) + off = (tgt : Int)) (h : x = y) (k : T l D cA n0 XW nm d bk bn sz τ M tgt ls st Q QX) : T l D cA n0 XW nm d bk bn sz τ M pc ls (.int y :: .int x :: st) Q QX := T_icmp_eq tgt (pc + 3) hd ht rfl (fun _ => k) (fun q => absurd h q)
theorem T_icmp_eq_f {off : Int} {x y : Int32} (tgt nxt : Nat) (hd : decode nm.cc pc = .ok (.if_icmp .eq off, 3)) (ht : (pc : Int) + off = (tgt : Int)) (hp : pc + 3 = nxt) (h : ¬ x = y) (k : T l D cA n0 XW nm d bk bn sz τ M nxt ls st Q QX) : T l D cA n0 XW nm d bk bn sz τ M pc ls (.int y :: .int x :: st) Q QX := T_icmp_eq tgt nxt hd ht hp (fun q => absurd q h) (fun _ => k)
theorem T_if_ne {off : Int} {x : Int32} (tgt nxt : Nat) (hd : decode nm.cc pc = .ok (.ifCond .ne off, 3)) (ht : (pc : Int) + off = (tgt : Int)) (hp : pc + 3 = nxt) (k1 : ¬ x = 0 → T l D cA n0 XW nm d bk bn sz τ M tgt ls st Q QX) (k2 : x = 0 → T l D cA n0 XW nm d bk bn sz τ M nxt ls st Q QX) : T l D cA n0 XW nm d bk bn sz τ M pc ls (.int x :: st) Q QX := by
  subst hp
  exact T_if (P := x = 0) (fun p e R s m args below meth c H locs cells slots la Z hx hb hL q1 q2 => lv_if_ne hx hb hd ht q2 q1) k2 k1
theorem T_if_ne_t {off : Int} {x : Int32} (tgt : Nat) (hd : decode nm.cc pc = .ok (.ifCond .ne off, 3)) (ht : (pc : Int) + off = (tgt : Int)) (h : ¬ x = 0) (k : T l D cA n0 XW nm d bk bn sz τ M tgt ls st Q QX) : T l D cA n0 XW nm d bk bn sz τ M pc ls (.int x :: st) Q QX := T_if_ne tgt (pc + 3) hd ht rfl (fun _ => k) (fun q => absurd h (fun z => z q))
theorem T_if_ne_f {off : Int} {x : Int32} (tgt nxt : Nat) (hd : decode nm.cc pc = .ok (.ifCond .ne off, 3)) (ht : (pc : Int) + off = (tgt : Int)) (hp : pc + 3 = nxt) (h : x = 0) (k : T l D cA n0 XW nm d bk bn sz τ M nxt ls st Q QX) : T l D cA n0 XW nm d bk bn sz τ M pc ls (.int x :: st) Q QX := T_if_ne tgt nxt hd ht hp (fun q => absurd h q) (fun _ => k)
theorem T_icmp_ne {off : Int} {x y : Int32} (tgt nxt : Nat) (hd : decode nm.cc pc = .ok (.if_icmp .ne off, 3)) (ht : (pc : Int) + off = (tgt : Int)) (hp : pc + 3 = nxt) (k1 : ¬ x = y → T l D cA n0 XW nm d bk bn sz τ M tgt ls st Q QX) (k2 : x = y → T l D cA n0 XW nm d bk bn sz τ M nxt ls st Q QX) : T l D cA n0 XW nm d bk bn sz τ M pc ls (.int y :: .int x :: st) Q QX := by
  subst hp
  exact T_if (P := x = y) (fun p e R s m args below meth c H locs cells slots la Z hx hb hL q1 q2 => lv_icmp_ne hx hb hd ht q2 q1) k2 k1
theorem T_icmp_ne_t {off : Int} {x y : Int32} (tgt : Nat) (hd : decode nm.cc pc = .ok (.if_icmp .ne off, 3)) (ht : (pc : Int) + off = (tgt : Int)) (h : ¬ x = y) (k : T l D cA n0 XW nm d bk bn sz τ M tgt ls st Q QX) : T l D cA n0 XW nm d bk bn sz τ M pc ls (.int y :: .int x :: st) Q QX := T_icmp_ne tgt (pc + 3) hd ht rfl (fun _ => k) (fun q => absurd h (fun z => z q))
theorem T_icmp_ne_f {off : Int} {x y : Int32} (tgt nxt : Nat) (hd : decode nm.cc pc = .ok (.if_icmp .ne off, 3)) (ht : (pc : Int) + off = (tgt : Int)) (hp : pc + 3 = nxt) (h : x = y) (k : T l D cA n0 XW nm d bk bn sz τ M nxt ls st Q QX) : T l D cA n0 XW nm d bk bn sz τ M pc ls (.int y :: .int x :: st) Q QX := T_icmp_ne tgt nxt hd ht hp (fun q => absurd h q) (fun _ => k)
theorem T_if_lt {off : Int} {x : Int32} (tgt nxt : Nat) (hd : decode nm.cc pc = .ok (.ifCond .lt off, 3)) (ht : (pc : Int) + off = (tgt : Int)) (hp : pc + 3 = nxt) (k1 : x < 0 → T l D cA n0 XW nm d bk bn sz τ M tgt ls st Q QX) (k2 : ¬ x < 0 → T l D cA n0 XW nm d bk bn sz τ M nxt ls st Q QX) : T l D cA n0 XW nm d bk bn sz τ M pc ls (.int x :: st) Q QX := by
  subst hp
  exact T_if (fun p e R s m args below meth c H locs cells slots la Z hx hb hL q1 q2 => lv_if_lt hx hb hd ht q1 q2) k1 k2
theorem T_if_lt_t {off : Int} {x : Int32} (tgt : Nat) (hd : decode nm.cc pc = .ok (.ifCond .lt off, 3)) (ht : (pc : Int) + off = (tgt : Int)) (h : x < 0) (k : T l D cA n0 XW nm d bk bn sz τ M tgt ls st Q QX) : T l D cA n0 XW nm d bk bn sz τ M pc ls (.int x :: st) Q QX := T_if_lt tgt (pc + 3) hd ht rfl (fun _ => k) (fun q => absurd h q)
theorem T_if_lt_f {off : Int} {x : Int32} (tgt nxt : Nat) (hd : decode nm.cc pc = .ok (.ifCond .lt off, 3)) (ht : (pc : Int) + off = (tgt : Int)) (hp : pc + 3 = nxt) (h : ¬ x < 0) (k : T l D cA n0 XW nm d bk bn sz τ M nxt ls st Q QX) : T l D cA n0 XW nm d bk bn sz τ M pc ls (.int x :: st) Q QX := T_if_lt tgt nxt hd ht hp (fun q => absurd q h) (fun _ => k)
theorem T_icmp_lt {off : Int} {x y : Int32} (tgt nxt : Nat) (hd : decode nm.cc pc = .ok (.if_icmp .lt off, 3)) (ht : (pc : Int) + off = (tgt : Int)) (hp : pc + 3 = nxt) (k1 : x < y → T l D cA n0 XW nm d bk bn sz τ M tgt ls st Q QX) (k2 : ¬ x < y → T l D cA n0 XW nm d bk bn sz τ M nxt ls st Q QX) : T l D cA n0 XW nm d bk bn sz τ M pc ls (.int y :: .int x :: st) Q QX := by
  subst hp
  exact T_if (fun p e R s m args below meth c H locs cells slots la Z hx hb hL q1 q2 => lv_icmp_lt hx hb hd ht q1 q2) k1 k2
theorem T_icmp_lt_t {off : Int} {x y : Int32} (tgt : Nat) (hd : decode nm.cc pc = .ok (.if_icmp .lt off, 3)) (ht : (pc : Int) + off = (tgt : Int)) (h : x < y) (k : T l D cA n0 XW nm d bk bn sz τ M tgt ls st Q QX) : T l D cA n0 XW nm d bk bn sz τ M pc ls (.int y :: .int x :: st) Q QX := T_icmp_lt tgt (pc + 3) hd ht rfl (fun _ => k) (fun q => absurd h q)
theorem T_icmp_lt_f {off : Int} {x y : Int32} (tgt nxt : Nat) (hd : decode nm.cc pc = .ok (.if_icmp .lt off, 3)) (ht : (pc : Int) + off = (tgt : Int)) (hp : pc + 3 = nxt) (h : ¬ x < y) (k : T l D cA n0 XW nm d bk bn sz τ M nxt ls st Q QX) : T l D cA n0 XW nm d bk bn sz τ M pc ls (.int y :: .int x :: st) Q QX := T_icmp_lt tgt nxt hd ht hp (fun q => absurd q h) (fun _ => k)
theorem T_if_ge {off : Int} {x : Int32} (tgt nxt : Nat) (hd : decode nm.cc pc = .ok (.ifCond .ge off, 3)) (ht : (pc : Int) + off = (tgt : Int)) (hp : pc + 3 = nxt) (k1 : 0 ≤ x → T l D cA n0 XW nm d bk bn sz τ M tgt ls st Q QX) (k2 : ¬ 0 ≤ x → T l D cA n0 XW nm d bk bn sz τ M nxt ls st Q QX) : T l D cA n0 XW nm d bk bn sz τ M pc ls (.int x :: st) Q QX := by
  subst hp
  exact T_if (fun p e R s m args below meth c H locs cells slots la Z hx hb hL q1 q2 => lv_if_ge hx hb hd ht q1 q2) k1 k2
theorem T_if_ge_t {off : Int} {x : Int32} (tgt : Nat) (hd : decode nm.cc pc = .ok (.ifCond .ge off, 3)) (ht : (pc : Int) + off = (tgt : Int)) (h : 0 ≤ x) (k : T l D cA n0 XW nm d bk bn sz τ M tgt ls st Q QX) : T l D cA n0 XW nm d bk bn sz τ M pc ls (.int x :: st) Q QX := T_if_ge tgt (pc + 3) hd ht rfl (fun _ => k) (fun q => absurd h q)
theorem T_if_ge_f {off : Int} {x : Int32} (tgt nxt : Nat) (hd : decode nm.cc pc = .ok (.ifCond .ge off, 3)) (ht : (pc : Int) + off = (tgt : Int)) (hp : pc + 3 = nxt) (h : ¬ 0 ≤ x) (k : T l D cA n0 XW nm d bk bn sz τ M nxt ls st Q QX) : T l D cA n0 XW nm d bk bn sz τ M pc ls (.int x :: st) Q QX := T_if_ge tgt nxt hd ht hp (fun q => absurd q h) (fun _ => k)
theorem T_icmp_ge {off : Int} {x y : Int32} (tgt nxt : Nat) (hd : decode nm.cc pc = .ok (.if_icmp .ge off, 3)) (ht : (pc : Int) + off = (tgt : Int)) (hp : pc + 3 = nxt) (k1 : y ≤ x → T l D cA n0 XW nm d bk bn sz τ M tgt ls st Q QX) (k2 : ¬ y ≤ x → T l D cA n0 XW nm d bk bn sz τ M nxt ls st Q QX) : T l D cA n0 XW nm d bk bn sz τ M pc ls (.int y :: .int x :: st) Q QX := by
  subst hp
  exact T_if (fun p e R s m args below meth c H locs cells slots la Z hx hb hL q1 q2 => lv_icmp_ge hx hb hd ht q1 q2) k1 k2
theorem T_icmp_ge_t {off : Int} {x y : Int32} (tgt : Nat) (hd : decode nm.cc pc = .ok (.if_icmp .ge off, 3)) (ht : (pc : Int) + off = (tgt : Int)) (h : y ≤ x) (k : T l D cA n0 XW nm d bk bn sz τ M tgt ls st Q QX) : T l D cA n0 XW nm d bk bn sz τ M pc ls (.int y :: .int x :: st) Q QX := T_icmp_ge tgt (pc + 3) hd ht rfl (fun _ => k) (fun q => absurd h q)
theorem T_icmp_ge_f {off : Int} {x y : Int32} (tgt nxt : Nat) (hd : decode nm.cc pc = .ok (.if_icmp .ge off, 3)) (ht : (pc : Int) + off = (tgt : Int)) (hp : pc + 3 = nxt) (h : ¬ y ≤ x) (k : T l D cA n0 XW nm d bk bn sz τ M nxt ls st Q QX) : T l D cA n0 XW nm d bk bn sz τ M pc ls (.int y :: .int x :: st) Q QX := T_icmp_ge tgt nxt hd ht hp (fun q => absurd q h) (fun _ => k)
theorem T_if_gt {off : Int} {x : Int32} (tgt nxt : Nat) (hd : decode nm.cc pc = .ok (.ifCond .gt off, 3)) (ht : (pc : Int) + off = (tgt : Int)) (hp : pc + 3 = nxt) (k1 : 0 < x → T l D cA n0 XW nm d bk bn sz τ M tgt ls st Q QX) (k2 : ¬ 0 < x → T l D cA n0 XW nm d bk bn sz τ M nxt ls st Q QX) : T l D cA n0 XW nm d bk bn sz τ M pc ls (.int x :: st) Q QX := by
  subst hp
  exact T_if (fun p e R s m args below meth c H locs cells slots la Z hx hb hL q1 q2 => lv_if_gt hx hb hd ht q1 q2) k1 k2
theorem T_if_gt_t {off : Int} {x : Int32} (tgt : Nat) (hd : decode nm.cc pc = .ok (.ifCond .gt off, 3)) (ht : (pc : Int) + off = (tgt : Int)) (h : 0 < x) (k : T l D cA n0 XW nm d bk bn sz τ M tgt ls st Q QX) : T l D cA n0 XW nm d bk bn sz τ M pc ls (.int x :: st) Q QX := T_if_gt tgt (pc + 3) hd ht rfl (fun _ => k) (fun q => absurd h q)
theorem T_if_gt_f {off : Int} {x : Int32} (tgt nxt : Nat) (hd : decode nm.cc pc = .ok (.ifCond .gt off, 3)) (ht : (pc : Int) + off = (tgt : Int)) (hp : pc + 3 = nxt) (h : ¬ 0 < x) (k : T l D cA n0 XW nm d bk bn sz τ M nxt ls st Q QX) : T l D cA n0 XW nm d bk bn sz τ M pc ls (.int x :: st) Q QX := T_if_gt tgt nxt hd ht hp (fun q => absurd q h) (fun _ => k)
theorem T_icmp_gt {off : Int} {x y : Int32} (tgt nxt : Nat) (hd : decode nm.cc pc = .ok (.if_icmp .gt off, 3)) (ht : (pc : Int) + off = (tgt : Int)) (hp : pc + 3 = nxt) (k1 : y < x → T l D cA n0 XW nm d bk bn sz τ M tgt ls st Q QX) (k2 : ¬ y < x → T l D cA n0 XW nm d bk bn sz τ M nxt ls st Q QX) : T l D cA n0 XW nm d bk bn sz τ M pc ls (.int y :: .int x :: st) Q QX := by
  subst hp
  exact T_if (fun p e R s m args below meth c H locs cells slots la Z hx hb hL q1 q2 => lv_icmp_gt hx hb hd ht q1 q2) k1 k2
theorem T_icmp_gt_t {off : Int} {x y : Int32} (tgt : Nat) (hd : decode nm.cc pc = .ok (.if_icmp .gt off, 3)) (ht : (pc : Int) + off = (tgt : Int)) (h : y < x) (k : T l D cA n0 XW nm d bk bn sz τ M tgt ls st Q QX) : T l D cA n0 XW nm d bk bn sz τ M pc ls (.int y :: .int x :: st) Q QX := T_icmp_gt tgt (pc + 3) hd ht rfl (fun _ => k) (fun q => absurd h q)
theorem T_icmp_gt_f {off : Int} {x y : Int32} (tgt nxt : Nat) (hd : decode nm.cc pc = .ok (.if_icmp .gt off, 3)) (ht : (pc : Int) + off = (tgt : Int)) (hp : pc + 3 = nxt) (h : ¬ y < x) (k : T l D cA n0 XW nm d bk bn sz τ M nxt ls st Q QX) : T l D cA n0 XW nm d bk bn sz τ M pc ls (.int y :: .int x :: st) Q QX := T_icmp_gt tgt nxt hd ht hp (fun q => absurd q h) (fun _ => k)
theorem T_if_le {off : Int} {x : Int32} (tgt nxt : Nat) (hd : decode nm.cc pc = .ok (.ifCond .le off, 3)) (ht : (pc : Int) + off = (tgt : Int)) (hp : pc + 3 = nxt) (k1 : x ≤ 0 → T l D cA n0 XW nm d bk bn sz τ M tgt ls st Q QX) (k2 : ¬ x ≤ 0 → T l D cA n0 XW nm d bk bn sz τ M nxt ls st Q QX) : T l D cA n0 XW nm d bk bn sz τ M pc ls (.int x :: st) Q QX := by
  subst hp
  exact T_if (fun p e R s m args below meth c H locs cells slots la Z hx hb hL q1 q2 => lv_if_le hx hb hd ht q1 q2) k1 k2
theorem T_if_le_t {off : Int} {x : Int32} (tgt : Nat) (hd : decode nm.cc pc = .ok (.ifCond .le off, 3)) (ht : (pc : Int) + off = (tgt : Int)) (h : x ≤ 0) (k : T l D cA n0 XW nm d bk bn sz τ M tgt ls st Q QX) : T l D cA n0 XW nm d bk bn sz τ M pc ls (.int x :: st) Q QX := T_if_le tgt (pc + 3) hd ht rfl (fun _ => k) (fun q => absurd h q)
theorem T_if_le_f {off : Int} {x : Int32} (tgt nxt : Nat) (hd : decode nm.cc pc = .ok (.ifCond .le off, 3)) (ht : (pc : Int) + off = (tgt : Int)) (hp : pc + 3 = nxt) (h : ¬ x ≤ 0) (k : T l D cA n0 XW nm d bk bn sz τ M nxt ls st Q QX) : T l D cA n0 XW nm d bk bn sz τ M pc ls (.int x :: st) Q QX := T_if_le tgt nxt hd ht hp (fun q => absurd q h) (fun _ => k)
theorem T_icmp_le {off : Int} {x y : Int32} (tgt nxt : Nat) (hd : decode nm.cc pc = .ok (.if_icmp .le off, 3)) (ht : (pc : Int) + off = (tgt : Int)) (hp : pc + 3 = nxt) (k1 : x ≤ y → T l D cA n0 XW nm d bk bn sz τ M tgt ls st Q QX) (k2 : ¬ x ≤ y → T l D cA n0 XW nm d bk bn sz τ M nxt ls st Q QX) : T l D cA n0 XW nm d bk bn sz τ M pc ls (.int y :: .int x :: st) Q QX := by
  subst hp
  exact T_if (fun p e R s m args below meth c H locs cells slots la Z hx hb hL q1 q2 => lv_icmp_le hx hb hd ht q1 q2) k1 k2
theorem T_icmp_le_t {off : Int} {x y : Int32} (tgt : Nat) (hd : decode nm.cc pc = .ok (.if_icmp .le off, 3)) (ht : (pc : Int) + off = (tgt : Int)) (h : x ≤ y) (k : T l D cA n0 XW nm d bk bn sz τ M tgt ls st Q QX) : T l D cA n0 XW nm d bk bn sz τ M pc ls (.int y :: .int x :: st) Q QX := T_icmp_le tgt (pc + 3) hd ht rfl (fun _ => k) (fun q => absurd h q)
theorem T_icmp_le_f {off : Int} {x y : Int32} (tgt nxt : Nat) (hd : decode nm.cc pc = .ok (.if_icmp .le off, 3)) (ht : (pc : Int) + off = (tgt : Int)) (hp : pc + 3 = nxt) (h : ¬ x ≤ y) (k : T l D cA n0 XW nm d bk bn sz τ M nxt ls st Q QX) : T l D cA n0 XW nm d bk bn sz τ M pc ls (.int y :: .int x :: st) Q QX := T_icmp_le tgt nxt hd ht hp (fun q => absurd q h) (fun _ => k)
theorem T_acmp_eq {off : Int} {x y : Nat} (tgt nxt : Nat) (hd : decode nm.cc pc = .ok (.if_acmp .eq off, 3)) (ht : (pc : Int) + off = (tgt : Int)) (hp : pc + 3 = nxt) (k1 : x = y → T l D cA n0 XW nm d bk bn sz τ M tgt ls st Q QX) (k2 : ¬ (x = y) → T l D cA n0 XW nm d bk bn sz τ M nxt ls st Q QX) : T l D cA n0 XW nm d bk bn sz τ M pc ls (.ref y :: .ref x :: st) Q QX := by
  subst hp
  exact T_if (fun p e R s m args below meth c H locs cells slots la Z hx hb hL q1 q2 => lv_acmp_eq (rx := some x) (ry := some y) hx hb hd ht (fun h => q1 (by simpa using h)) (fun h => q2 (by simpa using h))) k1 k2
theorem T_acmp_ne {off : Int} {x y : Nat} (tgt nxt : Nat) (hd : decode nm.cc pc = .ok (.if_acmp .ne off, 3)) (ht : (pc : Int) + off = (tgt : Int)) (hp : pc + 3 = nxt) (k1 : ¬ x = y → T l D cA n0 XW nm d bk bn sz τ M tgt ls st Q QX) (k2 : ¬ (¬ x = y) → T l D cA n0 XW nm d bk bn sz τ M nxt ls st Q QX) : T l D cA n0 XW nm d bk bn sz τ M pc ls (.ref y :: .ref x :: st) Q QX := by
  subst hp
  exact T_if (fun p e R s m args below meth c H locs cells slots la Z hx hb hL q1 q2 => lv_acmp_ne (rx := some x) (ry := some y) hx hb hd ht (fun h => q1 (by simpa using h)) (fun h => q2 (by simpa using h))) k1 k2
theorem T_goto {off : Int} (tgt : Nat) (hd : decode nm.cc pc = .ok (.goto off, 3)) (ht : (pc : Int) + off = (tgt : Int)) (k : T l D cA n0 XW nm d bk bn sz τ M tgt ls st Q QX) : T l D cA n0 XW nm d bk bn sz τ M pc ls st Q QX := T_go (fun p e R s m args below meth c H locs cells slots la Z hx hb hL kk => lv_goto hx hb hd ht kk) k
theorem T_tin {dflt lo hi : Int} {offs : Array Int} {len : Nat} {x : Int32} {off : Int} (tgt : Nat) (hd : decode nm.cc pc = .ok (.tableswitch dflt lo hi offs, len)) (h1 : ¬ x.toInt < lo) (h2 : ¬ hi < x.toInt) (ho : offs[(x.toInt - lo).toNat]? = some off) (ht : (pc : Int) + off = (tgt : Int)) (k : T l D cA n0 XW nm d bk bn sz τ M tgt ls st Q QX) : T l D cA n0 XW nm d bk bn sz τ M pc ls (.int x :: st) Q QX := T_go (fun p e R s m args below meth c H locs cells slots la Z hx hb hL kk => lv_tableIn hx hb hd h1 h2 ho ht kk) k
theorem T_tout {dflt lo hi : Int} {offs : Array Int} {len : Nat} {x : Int32} (tgt : Nat) (hd : decode nm.cc pc = .ok (.tableswitch dflt lo hi offs, len)) (h : x.toInt < lo ∨ hi < x.toInt) (ht : (pc : Int) + dflt = (tgt : Int)) (k : T l D cA n0 XW nm d bk bn sz τ M tgt ls st Q QX) : T l D cA n0 XW nm d bk bn sz τ M pc ls (.int x :: st) Q QX := T_go (fun p e R s m args below meth c H locs cells slots la Z hx hb hL kk => lv_tableOut hx hb hd h ht kk) k
theorem T_lkp {dflt : Int} {ps : Array (Int × Int)} {len : Nat} {x : Int32} {off : Int} (tgt : Nat) (hd : decode nm.cc pc = .ok (.lookupswitch dflt ps, len)) (hq : (ps.toList.zip (ps.toList.drop 1)).all (fun (a, next) => a.1 < next.1) = true) (ho : Op.lookupswitch.offset ps.toList dflt x.toInt = off) (ht : (pc : Int) + off = (tgt : Int)) (k : T l D cA n0 XW nm d bk bn sz τ M tgt ls st Q QX) : T l D cA n0 XW nm d bk bn sz τ M pc ls (.int x :: st) Q QX := T_go (fun p e R s m args below meth c H locs cells slots la Z hx hb hL kk => lv_lookup hx hb hd hq ho ht kk) k
theorem T_iload0 {pc' : Nat} {x : Int32} (hd : decode nm.cc pc = .ok (.iload_n 0, 1)) (hp : pc + 1 = pc') (k : T l D cA n0 XW nm d bk bn sz τ M pc' (.int x :: ls) (.int x :: st) Q QX) : T l D cA n0 XW nm d bk bn sz τ M pc (.int x :: ls) st Q QX := by
  subst hp
  exact T_go (fun p e R s m args below meth c H locs cells slots la Z hx hb hL kk => lv_iload_n (k := 0) hx hb hd rfl (hL.get (i := 0) rfl rfl) kk) k
theorem T_istore0 {pc' : Nat} {w : Value} {x : Int32} (hn : 0 < nm.nL) (hd : decode nm.cc pc = .ok (.istore_n 0, 1)) (hp : pc + 1 = pc') (k : T l D cA n0 XW nm d bk bn sz τ M pc' (.int x :: ls) st Q QX) : T l D cA n0 XW nm d bk bn sz τ M pc (w :: ls) (.int x :: st) Q QX := by
  subst hp
  have ee : lset (w :: ls) 0 (.int x) = (.int x :: ls) := by simp [lset]
  exact T_gs (fun p e R s m args below meth c H locs cells slots la Z hx hb hL kk => lv_istore_n (k := 0) hx hb hd rfl hL hn rfl (fun la' h => kk la' (ee ▸ LV.st1 h))) k
theorem T_iload1 {pc' : Nat} {a0 : Value} {x : Int32} (hd : decode nm.cc pc = .ok (.iload_n 1, 1)) (hp : pc + 1 = pc') (k : T l D cA n0 XW nm d bk bn sz τ M pc' (a0 :: .int x :: ls) (.int x :: st) Q QX) : T l D cA n0 XW nm d bk bn sz τ M pc (a0 :: .int x :: ls) st Q QX := by
  subst hp
  exact T_go (fun p e R s m args below meth c H locs cells slots la Z hx hb hL kk => lv_iload_n (k := 1) hx hb hd rfl (hL.get (i := 1) rfl rfl) kk) k
theorem T_istore1 {pc' : Nat} {a0 : Value} {w : Value} {x : Int32} (hc : a0.category = 1) (hn : 1 < nm.nL) (hd : decode nm.cc pc = .ok (.istore_n 1, 1)) (hp : pc + 1 = pc') (k : T l D cA n0 XW nm d bk bn sz τ M pc' (a0 :: .int x :: ls) st Q QX) : T l D cA n0 XW nm d bk bn sz τ M pc (a0 :: w :: ls) (.int x :: st) Q QX := by
  subst hp
  have ee : lset (a0 :: w :: ls) 1 (.int x) = (a0 :: .int x :: ls) := by simp [lset, hc]
  exact T_gs (fun p e R s m args below meth c H locs cells slots la Z hx hb hL kk => lv_istore_n (k := 1) hx hb hd rfl hL hn rfl (fun la' h => kk la' (ee ▸ LV.st1 h))) k
theorem T_iload2 {pc' : Nat} {a0 a1 : Value} {x : Int32} (hd : decode nm.cc pc = .ok (.iload_n 2, 1)) (hp : pc + 1 = pc') (k : T l D cA n0 XW nm d bk bn sz τ M pc' (a0 :: a1 :: .int x :: ls) (.int x :: st) Q QX) : T l D cA n0 XW nm d bk bn sz τ M pc (a0 :: a1 :: .int x :: ls) st Q QX := by
  subst hp
  exact T_go (fun p e R s m args below meth c H locs cells slots la Z hx hb hL kk => lv_iload_n (k := 2) hx hb hd rfl (hL.get (i := 2) rfl rfl) kk) k
theorem T_istore2 {pc' : Nat} {a0 a1 : Value} {w : Value} {x : Int32} (hc : a1.category = 1) (hn : 2 < nm.nL) (hd : decode nm.cc pc = .ok (.istore_n 2, 1)) (hp : pc + 1 = pc') (k : T l D cA n0 XW nm d bk bn sz τ M pc' (a0 :: a1 :: .int x :: ls) st Q QX) : T l D cA n0 XW nm d bk bn sz τ M pc (a0 :: a1 :: w :: ls) (.int x :: st) Q QX := by
  subst hp
  have ee : lset (a0 :: a1 :: w :: ls) 2 (.int x) = (a0 :: a1 :: .int x :: ls) := by simp [lset, hc]
  exact T_gs (fun p e R s m args below meth c H locs cells slots la Z hx hb hL kk => lv_istore_n (k := 2) hx hb hd rfl hL hn rfl (fun la' h => kk la' (ee ▸ LV.st1 h))) k
theorem T_iload3 {pc' : Nat} {a0 a1 a2 : Value} {x : Int32} (hd : decode nm.cc pc = .ok (.iload_n 3, 1)) (hp : pc + 1 = pc') (k : T l D cA n0 XW nm d bk bn sz τ M pc' (a0 :: a1 :: a2 :: .int x :: ls) (.int x :: st) Q QX) : T l D cA n0 XW nm d bk bn sz τ M pc (a0 :: a1 :: a2 :: .int x :: ls) st Q QX := by
  subst hp
  exact T_go (fun p e R s m args below meth c H locs cells slots la Z hx hb hL kk => lv_iload_n (k := 3) hx hb hd rfl (hL.get (i := 3) rfl rfl) kk) k
theorem T_istore3 {pc' : Nat} {a0 a1 a2 : Value} {w : Value} {x : Int32} (hc : a2.category = 1) (hn : 3 < nm.nL) (hd : decode nm.cc pc = .ok (.istore_n 3, 1)) (hp : pc + 1 = pc') (k : T l D cA n0 XW nm d bk bn sz τ M pc' (a0 :: a1 :: a2 :: .int x :: ls) st Q QX) : T l D cA n0 XW nm d bk bn sz τ M pc (a0 :: a1 :: a2 :: w :: ls) (.int x :: st) Q QX := by
  subst hp
  have ee : lset (a0 :: a1 :: a2 :: w :: ls) 3 (.int x) = (a0 :: a1 :: a2 :: .int x :: ls) := by simp [lset, hc]
  exact T_gs (fun p e R s m args below meth c H locs cells slots la Z hx hb hL kk => lv_istore_n (k := 3) hx hb hd rfl hL hn rfl (fun la' h => kk la' (ee ▸ LV.st1 h))) k
theorem T_iload4 {pc' : Nat} {a0 a1 a2 a3 : Value} {x : Int32} (hd : decode nm.cc pc = .ok (.iload 4, 2)) (hp : pc + 2 = pc') (k : T l D cA n0 XW nm d bk bn sz τ M pc' (a0 :: a1 :: a2 :: a3 :: .int x :: ls) (.int x :: st) Q QX) : T l D cA n0 XW nm d bk bn sz τ M pc (a0 :: a1 :: a2 :: a3 :: .int x :: ls) st Q QX := by
  subst hp
  exact T_go (fun p e R s m args below meth c H locs cells slots la Z hx hb hL kk => lv_iload hx hb hd (hL.get (i := 4) rfl rfl) kk) k
theorem T_istore4 {pc' : Nat} {a0 a1 a2 a3 : Value} {w : Value} {x : Int32} (hc : a3.category = 1) (hn : 4 < nm.nL) (hd : decode nm.cc pc = .ok (.istore 4, 2)) (hp : pc + 2 = pc') (k : T l D cA n0 XW nm d bk bn sz τ M pc' (a0 :: a1 :: a2 :: a3 :: .int x :: ls) st Q QX) : T l D cA n0 XW nm d bk bn sz τ M pc (a0 :: a1 :: a2 :: a3 :: w :: ls) (.int x :: st) Q QX := by
  subst hp
  have ee : lset (a0 :: a1 :: a2 :: a3 :: w :: ls) 4 (.int x) = (a0 :: a1 :: a2 :: a3 :: .int x :: ls) := by simp [lset, hc]
  exact T_gs (fun p e R s m args below meth c H locs cells slots la Z hx hb hL kk => lv_istore hx hb hd hL hn rfl (fun la' h => kk la' (ee ▸ LV.st1 h))) k
theorem T_iload5 {pc' : Nat} {a0 a1 a2 a3 a4 : Value} {x : Int32} (hd : decode nm.cc pc = .ok (.iload 5, 2)) (hp : pc + 2 = pc') (k : T l D cA n0 XW nm d bk bn sz τ M pc' (a0 :: a1 :: a2 :: a3 :: a4 :: .int x :: ls) (.int x :: st) Q QX) : T l D cA n0 XW nm d bk bn sz τ M pc (a0 :: a1 :: a2 :: a3 :: a4 :: .int x :: ls) st Q QX := by
  subst hp
  exact T_go (fun p e R s m args below meth c H locs cells slots la Z hx hb hL kk => lv_iload hx hb hd (hL.get (i := 5) rfl rfl) kk) k
theorem T_istore5 {pc' : Nat} {a0 a1 a2 a3 a4 : Value} {w : Value} {x : Int32} (hc : a4.category = 1) (hn : 5 < nm.nL) (hd : decode nm.cc pc = .ok (.istore 5, 2)) (hp : pc + 2 = pc') (k : T l D cA n0 XW nm d bk bn sz τ M pc' (a0 :: a1 :: a2 :: a3 :: a4 :: .int x :: ls) st Q QX) : T l D cA n0 XW nm d bk bn sz τ M pc (a0 :: a1 :: a2 :: a3 :: a4 :: w :: ls) (.int x :: st) Q QX := by
  subst hp
  have ee : lset (a0 :: a1 :: a2 :: a3 :: a4 :: w :: ls) 5 (.int x) = (a0 :: a1 :: a2 :: a3 :: a4 :: .int x :: ls) := by simp [lset, hc]
  exact T_gs (fun p e R s m args below meth c H locs cells slots la Z hx hb hL kk => lv_istore hx hb hd hL hn rfl (fun la' h => kk la' (ee ▸ LV.st1 h))) k
theorem T_iload6 {pc' : Nat} {a0 a1 a2 a3 a4 a5 : Value} {x : Int32} (hd : decode nm.cc pc = .ok (.iload 6, 2)) (hp : pc + 2 = pc') (k : T l D cA n0 XW nm d bk bn sz τ M pc' (a0 :: a1 :: a2 :: a3 :: a4 :: a5 :: .int x :: ls) (.int x :: st) Q QX) : T l D cA n0 XW nm d bk bn sz τ M pc (a0 :: a1 :: a2 :: a3 :: a4 :: a5 :: .int x :: ls) st Q QX := by
  subst hp
  exact T_go (fun p e R s m args below meth c H locs cells slots la Z hx hb hL kk => lv_iload hx hb hd (hL.get (i := 6) rfl rfl) kk) k
theorem T_istore6 {pc' : Nat} {a0 a1 a2 a3 a4 a5 : Value} {w : Value} {x : Int32} (hc : a5.category = 1) (hn : 6 < nm.nL) (hd : decode nm.cc pc = .ok (.istore 6, 2)) (hp : pc + 2 = pc') (k : T l D cA n0 XW nm d bk bn sz τ M pc' (a0 :: a1 :: a2 :: a3 :: a4 :: a5 :: .int x :: ls) st Q QX) : T l D cA n0 XW nm d bk bn sz τ M pc (a0 :: a1 :: a2 :: a3 :: a4 :: a5 :: w :: ls) (.int x :: st) Q QX := by
  subst hp
  have ee : lset (a0 :: a1 :: a2 :: a3 :: a4 :: a5 :: w :: ls) 6 (.int x) = (a0 :: a1 :: a2 :: a3 :: a4 :: a5 :: .int x :: ls) := by simp [lset, hc]
  exact T_gs (fun p e R s m args below meth c H locs cells slots la Z hx hb hL kk => lv_istore hx hb hd hL hn rfl (fun la' h => kk la' (ee ▸ LV.st1 h))) k
theorem T_iload7 {pc' : Nat} {a0 a1 a2 a3 a4 a5 a6 : Value} {x : Int32} (hd : decode nm.cc pc = .ok (.iload 7, 2)) (hp : pc + 2 = pc') (k : T l D cA n0 XW nm d bk bn sz τ M pc' (a0 :: a1 :: a2 :: a3 :: a4 :: a5 :: a6 :: .int x :: ls) (.int x :: st) Q QX) : T l D cA n0 XW nm d bk bn sz τ M pc (a0 :: a1 :: a2 :: a3 :: a4 :: a5 :: a6 :: .int x :: ls) st Q QX := by
  subst hp
  exact T_go (fun p e R s m args below meth c H locs cells slots la Z hx hb hL kk => lv_iload hx hb hd (hL.get (i := 7) rfl rfl) kk) k
theorem T_istore7 {pc' : Nat} {a0 a1 a2 a3 a4 a5 a6 : Value} {w : Value} {x : Int32} (hc : a6.category = 1) (hn : 7 < nm.nL) (hd : decode nm.cc pc = .ok (.istore 7, 2)) (hp : pc + 2 = pc') (k : T l D cA n0 XW nm d bk bn sz τ M pc' (a0 :: a1 :: a2 :: a3 :: a4 :: a5 :: a6 :: .int x :: ls) st Q QX) : T l D cA n0 XW nm d bk bn sz τ M pc (a0 :: a1 :: a2 :: a3 :: a4 :: a5 :: a6 :: w :: ls) (.int x :: st) Q QX := by
  subst hp
  have ee : lset (a0 :: a1 :: a2 :: a3 :: a4 :: a5 :: a6 :: w :: ls) 7 (.int x) = (a0 :: a1 :: a2 :: a3 :: a4 :: a5 :: a6 :: .int x :: ls) := by simp [lset, hc]
  exact T_gs (fun p e R s m args below meth c H locs cells slots la Z hx hb hL kk => lv_istore hx hb hd hL hn rfl (fun la' h => kk la' (ee ▸ LV.st1 h))) k
theorem T_iload8 {pc' : Nat} {a0 a1 a2 a3 a4 a5 a6 a7 : Value} {x : Int32} (hd : decode nm.cc pc = .ok (.iload 8, 2)) (hp : pc + 2 = pc') (k : T l D cA n0 XW nm d bk bn sz τ M pc' (a0 :: a1 :: a2 :: a3 :: a4 :: a5 :: a6 :: a7 :: .int x :: ls) (.int x :: st) Q QX) : T l D cA n0 XW nm d bk bn sz τ M pc (a0 :: a1 :: a2 :: a3 :: a4 :: a5 :: a6 :: a7 :: .int x :: ls) st Q QX := by
  subst hp
  exact T_go (fun p e R s m args below meth c H locs cells slots la Z hx hb hL kk => lv_iload hx hb hd (hL.get (i := 8) rfl rfl) kk) k
theorem T_istore8 {pc' : Nat} {a0 a1 a2 a3 a4 a5 a6 a7 : Value} {w : Value} {x : Int32} (hc : a7.category = 1) (hn : 8 < nm.nL) (hd : decode nm.cc pc = .ok (.istore 8, 2)) (hp : pc + 2 = pc') (k : T l D cA n0 XW nm d bk bn sz τ M pc' (a0 :: a1 :: a2 :: a3 :: a4 :: a5 :: a6 :: a7 :: .int x :: ls) st Q QX) : T l D cA n0 XW nm d bk bn sz τ M pc (a0 :: a1 :: a2 :: a3 :: a4 :: a5 :: a6 :: a7 :: w :: ls) (.int x :: st) Q QX := by
  subst hp
  have ee : lset (a0 :: a1 :: a2 :: a3 :: a4 :: a5 :: a6 :: a7 :: w :: ls) 8 (.int x) = (a0 :: a1 :: a2 :: a3 :: a4 :: a5 :: a6 :: a7 :: .int x :: ls) := by simp [lset, hc]
  exact T_gs (fun p e R s m args below meth c H locs cells slots la Z hx hb hL kk => lv_istore hx hb hd hL hn rfl (fun la' h => kk la' (ee ▸ LV.st1 h))) k
theorem T_iload9 {pc' : Nat} {a0 a1 a2 a3 a4 a5 a6 a7 a8 : Value} {x : Int32} (hd : decode nm.cc pc = .ok (.iload 9, 2)) (hp : pc + 2 = pc') (k : T l D cA n0 XW nm d bk bn sz τ M pc' (a0 :: a1 :: a2 :: a3 :: a4 :: a5 :: a6 :: a7 :: a8 :: .int x :: ls) (.int x :: st) Q QX) : T l D cA n0 XW nm d bk bn sz τ M pc (a0 :: a1 :: a2 :: a3 :: a4 :: a5 :: a6 :: a7 :: a8 :: .int x :: ls) st Q QX := by
  subst hp
  exact T_go (fun p e R s m args below meth c H locs cells slots la Z hx hb hL kk => lv_iload hx hb hd (hL.get (i := 9) rfl rfl) kk) k
theorem T_istore9 {pc' : Nat} {a0 a1 a2 a3 a4 a5 a6 a7 a8 : Value} {w : Value} {x : Int32} (hc : a8.category = 1) (hn : 9 < nm.nL) (hd : decode nm.cc pc = .ok (.istore 9, 2)) (hp : pc + 2 = pc') (k : T l D cA n0 XW nm d bk bn sz τ M pc' (a0 :: a1 :: a2 :: a3 :: a4 :: a5 :: a6 :: a7 :: a8 :: .int x :: ls) st Q QX) : T l D cA n0 XW nm d bk bn sz τ M pc (a0 :: a1 :: a2 :: a3 :: a4 :: a5 :: a6 :: a7 :: a8 :: w :: ls) (.int x :: st) Q QX := by
  subst hp
  have ee : lset (a0 :: a1 :: a2 :: a3 :: a4 :: a5 :: a6 :: a7 :: a8 :: w :: ls) 9 (.int x) = (a0 :: a1 :: a2 :: a3 :: a4 :: a5 :: a6 :: a7 :: a8 :: .int x :: ls) := by simp [lset, hc]
  exact T_gs (fun p e R s m args below meth c H locs cells slots la Z hx hb hL kk => lv_istore hx hb hd hL hn rfl (fun la' h => kk la' (ee ▸ LV.st1 h))) k
theorem T_iinc0 {pc' : Nat} {n : Int} {x v : Int32} (hn : 0 < nm.nL) (hd : decode nm.cc pc = .ok (.iinc 0 n, 3)) (hp : pc + 3 = pc') (hv : x + Int32.ofInt n = v) (k : T l D cA n0 XW nm d bk bn sz τ M pc' (.int v :: ls) st Q QX) : T l D cA n0 XW nm d bk bn sz τ M pc (.int x :: ls) st Q QX := by
  subst hp
  have ee : lset (.int x :: ls) 0 (.int v) = (.int v :: ls) := by simp [lset]
  exact T_gs (fun p e R s m args below meth c H locs cells slots la Z hx hb hL kk => by
    obtain ⟨j, hj⟩ := List.getElem?_of_mem ((mem_lvf (i := 0) (v := .int x) (.int x :: ls) 0).mpr ⟨Nat.zero_le _, rfl, rfl⟩)
    exact lv_iinc hx hb hd hL hj hv hn rfl (fun la' h => kk la' (ee ▸ LV.st1 h))) k
theorem T_iinc1 {pc' : Nat} {a0 : Value} {n : Int} {x v : Int32} (hc : a0.category = 1) (hn : 1 < nm.nL) (hd : decode nm.cc pc = .ok (.iinc 1 n, 3)) (hp : pc + 3 = pc') (hv : x + Int32.ofInt n = v) (k : T l D cA n0 XW nm d bk bn sz τ M pc' (a0 :: .int v :: ls) st Q QX) : T l D cA n0 XW nm d bk bn sz τ M pc (a0 :: .int x :: ls) st Q QX := by
  subst hp
  have ee : lset (a0 :: .int x :: ls) 1 (.int v) = (a0 :: .int v :: ls) := by simp [lset, hc]
  exact T_gs (fun p e R s m args below meth c H locs cells slots la Z hx hb hL kk => by
    obtain ⟨j, hj⟩ := List.getElem?_of_mem ((mem_lvf (i := 1) (v := .int x) (a0 :: .int x :: ls) 0).mpr ⟨Nat.zero_le _, rfl, rfl⟩)
    exact lv_iinc hx hb hd hL hj hv hn rfl (fun la' h => kk la' (ee ▸ LV.st1 h))) k
theorem T_iinc2 {pc' : Nat} {a0 a1 : Value} {n : Int} {x v : Int32} (hc : a1.category = 1) (hn : 2 < nm.nL) (hd : decode nm.cc pc = .ok (.iinc 2 n, 3)) (hp : pc + 3 = pc') (hv : x + Int32.ofInt n = v) (k : T l D cA n0 XW nm d bk bn sz τ M pc' (a0 :: a1 :: .int v :: ls) st Q QX) : T l D cA n0 XW nm d bk bn sz τ M pc (a0 :: a1 :: .int x :: ls) st Q QX := by
  subst hp
  have ee : lset (a0 :: a1 :: .int x :: ls) 2 (.int v) = (a0 :: a1 :: .int v :: ls) := by simp [lset, hc]
  exact T_gs (fun p e R s m args below meth c H locs cells slots la Z hx hb hL kk => by
    obtain ⟨j, hj⟩ := List.getElem?_of_mem ((mem_lvf (i := 2) (v := .int x) (a0 :: a1 :: .int x :: ls) 0).mpr ⟨Nat.zero_le _, rfl, rfl⟩)
    exact lv_iinc hx hb hd hL hj hv hn rfl (fun la' h => kk la' (ee ▸ LV.st1 h))) k
theorem T_iinc3 {pc' : Nat} {a0 a1 a2 : Value} {n : Int} {x v : Int32} (hc : a2.category = 1) (hn : 3 < nm.nL) (hd : decode nm.cc pc = .ok (.iinc 3 n, 3)) (hp : pc + 3 = pc') (hv : x + Int32.ofInt n = v) (k : T l D cA n0 XW nm d bk bn sz τ M pc' (a0 :: a1 :: a2 :: .int v :: ls) st Q QX) : T l D cA n0 XW nm d bk bn sz τ M pc (a0 :: a1 :: a2 :: .int x :: ls) st Q QX := by
  subst hp
  have ee : lset (a0 :: a1 :: a2 :: .int x :: ls) 3 (.int v) = (a0 :: a1 :: a2 :: .int v :: ls) := by simp [lset, hc]
  exact T_gs (fun p e R s m args below meth c H locs cells slots la Z hx hb hL kk => by
    obtain ⟨j, hj⟩ := List.getElem?_of_mem ((mem_lvf (i := 3) (v := .int x) (a0 :: a1 :: a2 :: .int x :: ls) 0).mpr ⟨Nat.zero_le _, rfl, rfl⟩)
    exact lv_iinc hx hb hd hL hj hv hn rfl (fun la' h => kk la' (ee ▸ LV.st1 h))) k
theorem T_iinc4 {pc' : Nat} {a0 a1 a2 a3 : Value} {n : Int} {x v : Int32} (hc : a3.category = 1) (hn : 4 < nm.nL) (hd : decode nm.cc pc = .ok (.iinc 4 n, 3)) (hp : pc + 3 = pc') (hv : x + Int32.ofInt n = v) (k : T l D cA n0 XW nm d bk bn sz τ M pc' (a0 :: a1 :: a2 :: a3 :: .int v :: ls) st Q QX) : T l D cA n0 XW nm d bk bn sz τ M pc (a0 :: a1 :: a2 :: a3 :: .int x :: ls) st Q QX := by
  subst hp
  have ee : lset (a0 :: a1 :: a2 :: a3 :: .int x :: ls) 4 (.int v) = (a0 :: a1 :: a2 :: a3 :: .int v :: ls) := by simp [lset, hc]
  exact T_gs (fun p e R s m args below meth c H locs cells slots la Z hx hb hL kk => by
    obtain ⟨j, hj⟩ := List.getElem?_of_mem ((mem_lvf (i := 4) (v := .int x) (a0 :: a1 :: a2 :: a3 :: .int x :: ls) 0).mpr ⟨Nat.zero_le _, rfl, rfl⟩)
    exact lv_iinc hx hb hd hL hj hv hn rfl (fun la' h => kk la' (ee ▸ LV.st1 h))) k
theorem T_iinc5 {pc' : Nat} {a0 a1 a2 a3 a4 : Value} {n : Int} {x v : Int32} (hc : a4.category = 1) (hn : 5 < nm.nL) (hd : decode nm.cc pc = .ok (.iinc 5 n, 3)) (hp : pc + 3 = pc') (hv : x + Int32.ofInt n = v) (k : T l D cA n0 XW nm d bk bn sz τ M pc' (a0 :: a1 :: a2 :: a3 :: a4 :: .int v :: ls) st Q QX) : T l D cA n0 XW nm d bk bn sz τ M pc (a0 :: a1 :: a2 :: a3 :: a4 :: .int x :: ls) st Q QX := by
  subst hp
  have ee : lset (a0 :: a1 :: a2 :: a3 :: a4 :: .int x :: ls) 5 (.int v) = (a0 :: a1 :: a2 :: a3 :: a4 :: .int v :: ls) := by simp [lset, hc]
  exact T_gs (fun p e R s m args below meth c H locs cells slots la Z hx hb hL kk => by
    obtain ⟨j, hj⟩ := List.getElem?_of_mem ((mem_lvf (i := 5) (v := .int x) (a0 :: a1 :: a2 :: a3 :: a4 :: .int x :: ls) 0).mpr ⟨Nat.zero_le _, rfl, rfl⟩)
    exact lv_iinc hx hb hd hL hj hv hn rfl (fun la' h => kk la' (ee ▸ LV.st1 h))) k
theorem T_iinc6 {pc' : Nat} {a0 a1 a2 a3 a4 a5 : Value} {n : Int} {x v : Int32} (hc : a5.category = 1) (hn : 6 < nm.nL) (hd : decode nm.cc pc = .ok (.iinc 6 n, 3)) (hp : pc + 3 = pc') (hv : x + Int32.ofInt n = v) (k : T l D cA n0 XW nm d bk bn sz τ M pc' (a0 :: a1 :: a2 :: a3 :: a4 :: a5 :: .int v :: ls) st Q QX) : T l D cA n0 XW nm d bk bn sz τ M pc (a0 :: a1 :: a2 :: a3 :: a4 :: a5 :: .int x :: ls) st Q QX := by
  subst hp
  have ee : lset (a0 :: a1 :: a2 :: a3 :: a4 :: a5 :: .int x :: ls) 6 (.int v) = (a0 :: a1 :: a2 :: a3 :: a4 :: a5 :: .int v :: ls) := by simp [lset, hc]
  exact T_gs (fun p e R s m args below meth c H locs cells slots la Z hx hb hL kk => by
    obtain ⟨j, hj⟩ := List.getElem?_of_mem ((mem_lvf (i := 6) (v := .int x) (a0 :: a1 :: a2 :: a3 :: a4 :: a5 :: .int x :: ls) 0).mpr ⟨Nat.zero_le _, rfl, rfl⟩)
    exact lv_iinc hx hb hd hL hj hv hn rfl (fun la' h => kk la' (ee ▸ LV.st1 h))) k
theorem T_iinc7 {pc' : Nat} {a0 a1 a2 a3 a4 a5 a6 : Value} {n : Int} {x v : Int32} (hc : a6.category = 1) (hn : 7 < nm.nL) (hd : decode nm.cc pc = .ok (.iinc 7 n, 3)) (hp : pc + 3 = pc') (hv : x + Int32.ofInt n = v) (k : T l D cA n0 XW nm d bk bn sz τ M pc' (a0 :: a1 :: a2 :: a3 :: a4 :: a5 :: a6 :: .int v :: ls) st Q QX) : T l D cA n0 XW nm d bk bn sz τ M pc (a0 :: a1 :: a2 :: a3 :: a4 :: a5 :: a6 :: .int x :: ls) st Q QX := by
  subst hp
  have ee : lset (a0 :: a1 :: a2 :: a3 :: a4 :: a5 :: a6 :: .int x :: ls) 7 (.int v) = (a0 :: a1 :: a2 :: a3 :: a4 :: a5 :: a6 :: .int v :: ls) := by simp [lset, hc]
  exact T_gs (fun p e R s m args below meth c H locs cells slots la Z hx hb hL kk => by
    obtain ⟨j, hj⟩ := List.getElem?_of_mem ((mem_lvf (i := 7) (v := .int x) (a0 :: a1 :: a2 :: a3 :: a4 :: a5 :: a6 :: .int x :: ls) 0).mpr ⟨Nat.zero_le _, rfl, rfl⟩)
    exact lv_iinc hx hb hd hL hj hv hn rfl (fun la' h => kk la' (ee ▸ LV.st1 h))) k
theorem T_iinc8 {pc' : Nat} {a0 a1 a2 a3 a4 a5 a6 a7 : Value} {n : Int} {x v : Int32} (hc : a7.category = 1) (hn : 8 < nm.nL) (hd : decode nm.cc pc = .ok (.iinc 8 n, 3)) (hp : pc + 3 = pc') (hv : x + Int32.ofInt n = v) (k : T l D cA n0 XW nm d bk bn sz τ M pc' (a0 :: a1 :: a2 :: a3 :: a4 :: a5 :: a6 :: a7 :: .int v :: ls) st Q QX) : T l D cA n0 XW nm d bk bn sz τ M pc (a0 :: a1 :: a2 :: a3 :: a4 :: a5 :: a6 :: a7 :: .int x :: ls) st Q QX := by
  subst hp
  have ee : lset (a0 :: a1 :: a2 :: a3 :: a4 :: a5 :: a6 :: a7 :: .int x :: ls) 8 (.int v) = (a0 :: a1 :: a2 :: a3 :: a4 :: a5 :: a6 :: a7 :: .int v :: ls) := by simp [lset, hc]
  exact T_gs (fun p e R s m args below meth c H locs cells slots la Z hx hb hL kk => by
    obtain ⟨j, hj⟩ := List.getElem?_of_mem ((mem_lvf (i := 8) (v := .int x) (a0 :: a1 :: a2 :: a3 :: a4 :: a5 :: a6 :: a7 :: .int x :: ls) 0).mpr ⟨Nat.zero_le _, rfl, rfl⟩)
    exact lv_iinc hx hb hd hL hj hv hn rfl (fun la' h => kk la' (ee ▸ LV.st1 h))) k
theorem T_iinc9 {pc' : Nat} {a0 a1 a2 a3 a4 a5 a6 a7 a8 : Value} {n : Int} {x v : Int32} (hc : a8.category = 1) (hn : 9 < nm.nL) (hd : decode nm.cc pc = .ok (.iinc 9 n, 3)) (hp : pc + 3 = pc') (hv : x + Int32.ofInt n = v) (k : T l D cA n0 XW nm d bk bn sz τ M pc' (a0 :: a1 :: a2 :: a3 :: a4 :: a5 :: a6 :: a7 :: a8 :: .int v :: ls) st Q QX) : T l D cA n0 XW nm d bk bn sz τ M pc (a0 :: a1 :: a2 :: a3 :: a4 :: a5 :: a6 :: a7 :: a8 :: .int x :: ls) st Q QX := by
  subst hp
  have ee : lset (a0 :: a1 :: a2 :: a3 :: a4 :: a5 :: a6 :: a7 :: a8 :: .int x :: ls) 9 (.int v) = (a0 :: a1 :: a2 :: a3 :: a4 :: a5 :: a6 :: a7 :: a8 :: .int v :: ls) := by simp [lset, hc]
  exact T_gs (fun p e R s m args below meth c H locs cells slots la Z hx hb hL kk => by
    obtain ⟨j, hj⟩ := List.getElem?_of_mem ((mem_lvf (i := 9) (v := .int x) (a0 :: a1 :: a2 :: a3 :: a4 :: a5 :: a6 :: a7 :: a8 :: .int x :: ls) 0).mpr ⟨Nat.zero_le _, rfl, rfl⟩)
    exact lv_iinc hx hb hd hL hj hv hn rfl (fun la' h => kk la' (ee ▸ LV.st1 h))) k
theorem T_lload0 {pc' : Nat} {x : Int64} (hd : decode nm.cc pc = .ok (.lload_n 0, 1)) (hp : pc + 1 = pc') (k : T l D cA n0 XW nm d bk bn sz τ M pc' (.long x :: ls) (.long x :: st) Q QX) : T l D cA n0 XW nm d bk bn sz τ M pc (.long x :: ls) st Q QX := by
  subst hp
  exact T_go (fun p e R s m args below meth c H locs cells slots la Z hx hb hL kk => lv_lload_n (k := 0) hx hb hd rfl (hL.get (i := 0) rfl rfl) kk) k
theorem T_lstore0 {pc' : Nat} {w w2 : Value} {x : Int64} (hn : 1 < nm.nL) (hd : decode nm.cc pc = .ok (.lstore_n 0, 1)) (hp : pc + 1 = pc') (k : T l D cA n0 XW nm d bk bn sz τ M pc' (.long x :: UU :: ls) st Q QX) : T l D cA n0 XW nm d bk bn sz τ M pc (w :: w2 :: ls) (.long x :: st) Q QX := by
  subst hp
  have ee : lset2 (w :: w2 :: ls) 0 (.long x) = (.long x :: UU :: ls) := by simp [lset2]
  exact T_gs (fun p e R s m args below meth c H locs cells slots la Z hx hb hL kk => lv_lstore_n (k := 0) hx hb hd rfl hL hn rfl (fun la' h => kk la' (ee ▸ LV.st2 h))) k
theorem T_lload1 {pc' : Nat} {a0 : Value} {x : Int64} (hd : decode nm.cc pc = .ok (.lload_n 1, 1)) (hp : pc + 1 = pc') (k : T l D cA n0 XW nm d bk bn sz τ M pc' (a0 :: .long x :: ls) (.long x :: st) Q QX) : T l D cA n0 XW nm d bk bn sz τ M pc (a0 :: .long x :: ls) st Q QX := by
  subst hp
  exact T_go (fun p e R s m args below meth c H locs cells slots la Z hx hb hL kk => lv_lload_n (k := 1) hx hb hd rfl (hL.get (i := 1) rfl rfl) kk) k
theorem T_lstore1 {pc' : Nat} {a0 : Value} {w w2 : Value} {x : Int64} (hc : a0.category = 1) (hn : 2 < nm.nL) (hd : decode nm.cc pc = .ok (.lstore_n 1, 1)) (hp : pc + 1 = pc') (k : T l D cA n0 XW nm d bk bn sz τ M pc' (a0 :: .long x :: UU :: ls) st Q QX) : T l D cA n0 XW nm d bk bn sz τ M pc (a0 :: w :: w2 :: ls) (.long x :: st) Q QX := by
  subst hp
  have ee : lset2 (a0 :: w :: w2 :: ls) 1 (.long x) = (a0 :: .long x :: UU :: ls) := by simp [lset2, hc]
  exact T_gs (fun p e R s m args below meth c H locs cells slots la Z hx hb hL kk => lv_lstore_n (k := 1) hx hb hd rfl hL hn rfl (fun la' h => kk la' (ee ▸ LV.st2 h))) k
theorem T_lload2 {pc' : Nat} {a0 a1 : Value} {x : Int64} (hd : decode nm.cc pc = .ok (.lload_n 2, 1)) (hp : pc + 1 = pc') (k : T l D cA n0 XW nm d bk bn sz τ M pc' (a0 :: a1 :: .long x :: ls) (.long x :: st) Q QX) : T l D cA n0 XW nm d bk bn sz τ M pc (a0 :: a1 :: .long x :: ls) st Q QX := by
  subst hp
  exact T_go (fun p e R s m args below meth c H locs cells slots la Z hx hb hL kk => lv_lload_n (k := 2) hx hb hd rfl (hL.get (i := 2) rfl rfl) kk) k
theorem T_lstore2 {pc' : Nat} {a0 a1 : Value} {w w2 : Value} {x : Int64} (hc : a1.category = 1) (hn : 3 < nm.nL) (hd : decode nm.cc pc = .ok (.lstore_n 2, 1)) (hp : pc + 1 = pc') (k : T l D cA n0 XW nm d bk bn sz τ M pc' (a0 :: a1 :: .long x :: UU :: ls) st Q QX) : T l D cA n0 XW nm d bk bn sz τ M pc (a0 :: a1 :: w :: w2 :: ls) (.long x :: st) Q QX := by
  subst hp
  have ee : lset2 (a0 :: a1 :: w :: w2 :: ls) 2 (.long x) = (a0 :: a1 :: .long x :: UU :: ls) := by simp [lset2, hc]
  exact T_gs (fun p e R s m args below meth c H locs cells slots la Z hx hb hL kk => lv_lstore_n (k := 2) hx hb hd rfl hL hn rfl (fun la' h => kk la' (ee ▸ LV.st2 h))) k
theorem T_lload3 {pc' : Nat} {a0 a1 a2 : Value} {x : Int64} (hd : decode nm.cc pc = .ok (.lload_n 3, 1)) (hp : pc + 1 = pc') (k : T l D cA n0 XW nm d bk bn sz τ M pc' (a0 :: a1 :: a2 :: .long x :: ls) (.long x :: st) Q QX) : T l D cA n0 XW nm d bk bn sz τ M pc (a0 :: a1 :: a2 :: .long x :: ls) st Q QX := by
  subst hp
  exact T_go (fun p e R s m args below meth c H locs cells slots la Z hx hb hL kk => lv_lload_n (k := 3) hx hb hd rfl (hL.get (i := 3) rfl rfl) kk) k
theorem T_lstore3 {pc' : Nat} {a0 a1 a2 : Value} {w w2 : Value} {x : Int64} (hc : a2.category = 1) (hn : 4 < nm.nL) (hd : decode nm.cc pc = .ok (.lstore_n 3, 1)) (hp : pc + 1 = pc') (k : T l D cA n0 XW nm d bk bn sz τ M pc' (a0 :: a1 :: a2 :: .long x :: UU :: ls) st Q QX) : T l D cA n0 XW nm d bk bn sz τ M pc (a0 :: a1 :: a2 :: w :: w2 :: ls) (.long x :: st) Q QX := by
  subst hp
  have ee : lset2 (a0 :: a1 :: a2 :: w :: w2 :: ls) 3 (.long x) = (a0 :: a1 :: a2 :: .long x :: UU :: ls) := by simp [lset2, hc]
  exact T_gs (fun p e R s m args below meth c H locs cells slots la Z hx hb hL kk => lv_lstore_n (k := 3) hx hb hd rfl hL hn rfl (fun la' h => kk la' (ee ▸ LV.st2 h))) k
theorem T_lload4 {pc' : Nat} {a0 a1 a2 a3 : Value} {x : Int64} (hd : decode nm.cc pc = .ok (.lload 4, 2)) (hp : pc + 2 = pc') (k : T l D cA n0 XW nm d bk bn sz τ M pc' (a0 :: a1 :: a2 :: a3 :: .long x :: ls) (.long x :: st) Q QX) : T l D cA n0 XW nm d bk bn sz τ M pc (a0 :: a1 :: a2 :: a3 :: .long x :: ls) st Q QX := by
  subst hp
  exact T_go (fun p e R s m args below meth c H locs cells slots la Z hx hb hL kk => lv_lload hx hb hd (hL.get (i := 4) rfl rfl) kk) k
theorem T_lstore4 {pc' : Nat} {a0 a1 a2 a3 : Value} {w w2 : Value} {x : Int64} (hc : a3.category = 1) (hn : 5 < nm.nL) (hd : decode nm.cc pc = .ok (.lstore 4, 2)) (hp : pc + 2 = pc') (k : T l D cA n0 XW nm d bk bn sz τ M pc' (a0 :: a1 :: a2 :: a3 :: .long x :: UU :: ls) st Q QX) : T l D cA n0 XW nm d bk bn sz τ M pc (a0 :: a1 :: a2 :: a3 :: w :: w2 :: ls) (.long x :: st) Q QX := by
  subst hp
  have ee : lset2 (a0 :: a1 :: a2 :: a3 :: w :: w2 :: ls) 4 (.long x) = (a0 :: a1 :: a2 :: a3 :: .long x :: UU :: ls) := by simp [lset2, hc]
  exact T_gs (fun p e R s m args below meth c H locs cells slots la Z hx hb hL kk => lv_lstore hx hb hd hL hn rfl (fun la' h => kk la' (ee ▸ LV.st2 h))) k
theorem T_lload5 {pc' : Nat} {a0 a1 a2 a3 a4 : Value} {x : Int64} (hd : decode nm.cc pc = .ok (.lload 5, 2)) (hp : pc + 2 = pc') (k : T l D cA n0 XW nm d bk bn sz τ M pc' (a0 :: a1 :: a2 :: a3 :: a4 :: .long x :: ls) (.long x :: st) Q QX) : T l D cA n0 XW nm d bk bn sz τ M pc (a0 :: a1 :: a2 :: a3 :: a4 :: .long x :: ls) st Q QX := by
  subst hp
  exact T_go (fun p e R s m args below meth c H locs cells slots la Z hx hb hL kk => lv_lload hx hb hd (hL.get (i := 5) rfl rfl) kk) k
theorem T_lstore5 {pc' : Nat} {a0 a1 a2 a3 a4 : Value} {w w2 : Value} {x : Int64} (hc : a4.category = 1) (hn : 6 < nm.nL) (hd : decode nm.cc pc = .ok (.lstore 5, 2)) (hp : pc + 2 = pc') (k : T l D cA n0 XW nm d bk bn sz τ M pc' (a0 :: a1 :: a2 :: a3 :: a4 :: .long x :: UU :: ls) st Q QX) : T l D cA n0 XW nm d bk bn sz τ M pc (a0 :: a1 :: a2 :: a3 :: a4 :: w :: w2 :: ls) (.long x :: st) Q QX := by
  subst hp
  have ee : lset2 (a0 :: a1 :: a2 :: a3 :: a4 :: w :: w2 :: ls) 5 (.long x) = (a0 :: a1 :: a2 :: a3 :: a4 :: .long x :: UU :: ls) := by simp [lset2, hc]
  exact T_gs (fun p e R s m args below meth c H locs cells slots la Z hx hb hL kk => lv_lstore hx hb hd hL hn rfl (fun la' h => kk la' (ee ▸ LV.st2 h))) k
theorem T_lload6 {pc' : Nat} {a0 a1 a2 a3 a4 a5 : Value} {x : Int64} (hd : decode nm.cc pc = .ok (.lload 6, 2)) (hp : pc + 2 = pc') (k : T l D cA n0 XW nm d bk bn sz τ M pc' (a0 :: a1 :: a2 :: a3 :: a4 :: a5 :: .long x :: ls) (.long x :: st) Q QX) : T l D cA n0 XW nm d bk bn sz τ M pc (a0 :: a1 :: a2 :: a3 :: a4 :: a5 :: .long x :: ls) st Q QX := by
  subst hp
  exact T_go (fun p e R s m args below meth c H locs cells slots la Z hx hb hL kk => lv_lload hx hb hd (hL.get (i := 6) rfl rfl) kk) k
theorem T_lstore6 {pc' : Nat} {a0 a1 a2 a3 a4 a5 : Value} {w w2 : Value} {x : Int64} (hc : a5.category = 1) (hn : 7 < nm.nL) (hd : decode nm.cc pc = .ok (.lstore 6, 2)) (hp : pc + 2 = pc') (k : T l D cA n0 XW nm d bk bn sz τ M pc' (a0 :: a1 :: a2 :: a3 :: a4 :: a5 :: .long x :: UU :: ls) st Q QX) : T l D cA n0 XW nm d bk bn sz τ M pc (a0 :: a1 :: a2 :: a3 :: a4 :: a5 :: w :: w2 :: ls) (.long x :: st) Q QX := by
  subst hp
  have ee : lset2 (a0 :: a1 :: a2 :: a3 :: a4 :: a5 :: w :: w2 :: ls) 6 (.long x) = (a0 :: a1 :: a2 :: a3 :: a4 :: a5 :: .long x :: UU :: ls) := by simp [lset2, hc]
  exact T_gs (fun p e R s m args below meth c H locs cells slots la Z hx hb hL kk => lv_lstore hx hb hd hL hn rfl (fun la' h => kk la' (ee ▸ LV.st2 h))) k
theorem T_lload7 {pc' : Nat} {a0 a1 a2 a3 a4 a5 a6 : Value} {x : Int64} (hd : decode nm.cc pc = .ok (.lload 7, 2)) (hp : pc + 2 = pc') (k : T l D cA n0 XW nm d bk bn sz τ M pc' (a0 :: a1 :: a2 :: a3 :: a4 :: a5 :: a6 :: .long x :: ls) (.long x :: st) Q QX) : T l D cA n0 XW nm d bk bn sz τ M pc (a0 :: a1 :: a2 :: a3 :: a4 :: a5 :: a6 :: .long x :: ls) st Q QX := by
  subst hp
  exact T_go (fun p e R s m args below meth c H locs cells slots la Z hx hb hL kk => lv_lload hx hb hd (hL.get (i := 7) rfl rfl) kk) k
theorem T_lstore7 {pc' : Nat} {a0 a1 a2 a3 a4 a5 a6 : Value} {w w2 : Value} {x : Int64} (hc : a6.category = 1) (hn : 8 < nm.nL) (hd : decode nm.cc pc = .ok (.lstore 7, 2)) (hp : pc + 2 = pc') (k : T l D cA n0 XW nm d bk bn sz τ M pc' (a0 :: a1 :: a2 :: a3 :: a4 :: a5 :: a6 :: .long x :: UU :: ls) st Q QX) : T l D cA n0 XW nm d bk bn sz τ M pc (a0 :: a1 :: a2 :: a3 :: a4 :: a5 :: a6 :: w :: w2 :: ls) (.long x :: st) Q QX := by
  subst hp
  have ee : lset2 (a0 :: a1 :: a2 :: a3 :: a4 :: a5 :: a6 :: w :: w2 :: ls) 7 (.long x) = (a0 :: a1 :: a2 :: a3 :: a4 :: a5 :: a6 :: .long x :: UU :: ls) := by simp [lset2, hc]
  exact T_gs (fun p e R s m args below meth c H locs cells slots la Z hx hb hL kk => lv_lstore hx hb hd hL hn rfl (fun la' h => kk la' (ee ▸ LV.st2 h))) k
theorem T_lload8 {pc' : Nat} {a0 a1 a2 a3 a4 a5 a6 a7 : Value} {x : Int64} (hd : decode nm.cc pc = .ok (.lload 8, 2)) (hp : pc + 2 = pc') (k : T l D cA n0 XW nm d bk bn sz τ M pc' (a0 :: a1 :: a2 :: a3 :: a4 :: a5 :: a6 :: a7 :: .long x :: ls) (.long x :: st) Q QX) : T l D cA n0 XW nm d bk bn sz τ M pc (a0 :: a1 :: a2 :: a3 :: a4 :: a5 :: a6 :: a7 :: .long x :: ls) st Q QX := by
  subst hp
  exact T_go (fun p e R s m args below meth c H locs cells slots la Z hx hb hL kk => lv_lload hx hb hd (hL.get (i := 8) rfl rfl) kk) k
theorem T_lstore8 {pc' : Nat} {a0 a1 a2 a3 a4 a5 a6 a7 : Value} {w w2 : Value} {x : Int64} (hc : a7.category = 1) (hn : 9 < nm.nL) (hd : decode nm.cc pc = .ok (.lstore 8, 2)) (hp : pc + 2 = pc') (k : T l D cA n0 XW nm d bk bn sz τ M pc' (a0 :: a1 :: a2 :: a3 :: a4 :: a5 :: a6 :: a7 :: .long x :: UU :: ls) st Q QX) : T l D cA n0 XW nm d bk bn sz τ M pc (a0 :: a1 :: a2 :: a3 :: a4 :: a5 :: a6 :: a7 :: w :: w2 :: ls) (.long x :: st) Q QX := by
  subst hp
  have ee : lset2 (a0 :: a1 :: a2 :: a3 :: a4 :: a5 :: a6 :: a7 :: w :: w2 :: ls) 8 (.long x) = (a0 :: a1 :: a2 :: a3 :: a4 :: a5 :: a6 :: a7 :: .long x :: UU :: ls) := by simp [lset2, hc]
  exact T_gs (fun p e R s m args below meth c H locs cells slots la Z hx hb hL kk => lv_lstore hx hb hd hL hn rfl (fun la' h => kk la' (ee ▸ LV.st2 h))) k
theorem T_lload9 {pc' : Nat} {a0 a1 a2 a3 a4 a5 a6 a7 a8 : Value} {x : Int64} (hd : decode nm.cc pc = .ok (.lload 9, 2)) (hp : pc + 2 = pc') (k : T l D cA n0 XW nm d bk bn sz τ M pc' (a0 :: a1 :: a2 :: a3 :: a4 :: a5 :: a6 :: a7 :: a8 :: .long x :: ls) (.long x :: st) Q QX) : T l D cA n0 XW nm d bk bn sz τ M pc (a0 :: a1 :: a2 :: a3 :: a4 :: a5 :: a6 :: a7 :: a8 :: .long x :: ls) st Q QX := by
  subst hp
  exact T_go (fun p e R s m args below meth c H locs cells slots la Z hx hb hL kk => lv_lload hx hb hd (hL.get (i := 9) rfl rfl) kk) k
theorem T_lstore9 {pc' : Nat} {a0 a1 a2 a3 a4 a5 a6 a7 a8 : Value} {w w2 : Value} {x : Int64} (hc : a8.category = 1) (hn : 10 < nm.nL) (hd : decode nm.cc pc = .ok (.lstore 9, 2)) (hp : pc + 2 = pc') (k : T l D cA n0 XW nm d bk bn sz τ M pc' (a0 :: a1 :: a2 :: a3 :: a4 :: a5 :: a6 :: a7 :: a8 :: .long x :: UU :: ls) st Q QX) : T l D cA n0 XW nm d bk bn sz τ M pc (a0 :: a1 :: a2 :: a3 :: a4 :: a5 :: a6 :: a7 :: a8 :: w :: w2 :: ls) (.long x :: st) Q QX := by
  subst hp
  have ee : lset2 (a0 :: a1 :: a2 :: a3 :: a4 :: a5 :: a6 :: a7 :: a8 :: w :: w2 :: ls) 9 (.long x) = (a0 :: a1 :: a2 :: a3 :: a4 :: a5 :: a6 :: a7 :: a8 :: .long x :: UU :: ls) := by simp [lset2, hc]
  exact T_gs (fun p e R s m args below meth c H locs cells slots la Z hx hb hL kk => lv_lstore hx hb hd hL hn rfl (fun la' h => kk la' (ee ▸ LV.st2 h))) k
theorem T_aload0 {pc' : Nat} {x : Nat} (hd : decode nm.cc pc = .ok (.aload_n 0, 1)) (hp : pc + 1 = pc') (k : T l D cA n0 XW nm d bk bn sz τ M pc' (.ref x :: ls) (.ref x :: st) Q QX) : T l D cA n0 XW nm d bk bn sz τ M pc (.ref x :: ls) st Q QX := by
  subst hp
  exact T_go (fun p e R s m args below meth c H locs cells slots la Z hx hb hL kk => lv_aload_n (k := 0) hx hb hd rfl (hL.get (i := 0) rfl rfl) kk) k
theorem T_astore0 {pc' : Nat} {w : Value} {x : Nat} (hn : 0 < nm.nL) (hd : decode nm.cc pc = .ok (.astore_n 0, 1)) (hp : pc + 1 = pc') (k : T l D cA n0 XW nm d bk bn sz τ M pc' (.ref x :: ls) st Q QX) : T l D cA n0 XW nm d bk bn sz τ M pc (w :: ls) (.ref x :: st) Q QX := by
  subst hp
  have ee : lset (w :: ls) 0 (.ref x) = (.ref x :: ls) := by simp [lset]
  exact T_gs (fun p e R s m args below meth c H locs cells slots la Z hx hb hL kk => lv_astore_n (k := 0) hx hb hd rfl hL hn rfl (fun la' h => kk la' (ee ▸ LV.st1 h))) k
theorem T_aload1 {pc' : Nat} {a0 : Value} {x : Nat} (hd : decode nm.cc pc = .ok (.aload_n 1, 1)) (hp : pc + 1 = pc') (k : T l D cA n0 XW nm d bk bn sz τ M pc' (a0 :: .ref x :: ls) (.ref x :: st) Q QX) : T l D cA n0 XW nm d bk bn sz τ M pc (a0 :: .ref x :: ls) st Q QX := by
  subst hp
  exact T_go (fun p e R s m args below meth c H locs cells slots la Z hx hb hL kk => lv_aload_n (k := 1) hx hb hd rfl (hL.get (i := 1) rfl rfl) kk) k
theorem T_astore1 {pc' : Nat} {a0 : Value} {w : Value} {x : Nat} (hc : a0.category = 1) (hn : 1 < nm.nL) (hd : decode nm.cc pc = .ok (.astore_n 1, 1)) (hp : pc + 1 = pc') (k : T l D cA n0 XW nm d bk bn sz τ M pc' (a0 :: .ref x :: ls) st Q QX) : T l D cA n0 XW nm d bk bn sz τ M pc (a0 :: w :: ls) (.ref x :: st) Q QX := by
  subst hp
  have ee : lset (a0 :: w :: ls) 1 (.ref x) = (a0 :: .ref x :: ls) := by simp [lset, hc]
  exact T_gs (fun p e R s m args below meth c H locs cells slots la Z hx hb hL kk => lv_astore_n (k := 1) hx hb hd rfl hL hn rfl (fun la' h => kk la' (ee ▸ LV.st1 h))) k
theorem T_aload2 {pc' : Nat} {a0 a1 : Value} {x : Nat} (hd : decode nm.cc pc = .ok (.aload_n 2, 1)) (hp : pc + 1 = pc') (k : T l D cA n0 XW nm d bk bn sz τ M pc' (a0 :: a1 :: .ref x :: ls) (.ref x :: st) Q QX) : T l D cA n0 XW nm d bk bn sz τ M pc (a0 :: a1 :: .ref x :: ls) st Q QX := by
  subst hp
  exact T_go (fun p e R s m args below meth c H locs cells slots la Z hx hb hL kk => lv_aload_n (k := 2) hx hb hd rfl (hL.get (i := 2) rfl rfl) kk) k
theorem T_astore2 {pc' : Nat} {a0 a1 : Value} {w : Value} {x : Nat} (hc : a1.category = 1) (hn : 2 < nm.nL) (hd : decode nm.cc pc = .ok (.astore_n 2, 1)) (hp : pc + 1 = pc') (k : T l D cA n0 XW nm d bk bn sz τ M pc' (a0 :: a1 :: .ref x :: ls) st Q QX) : T l D cA n0 XW nm d bk bn sz τ M pc (a0 :: a1 :: w :: ls) (.ref x :: st) Q QX := by
  subst hp
  have ee : lset (a0 :: a1 :: w :: ls) 2 (.ref x) = (a0 :: a1 :: .ref x :: ls) := by simp [lset, hc]
  exact T_gs (fun p e R s m args below meth c H locs cells slots la Z hx hb hL kk => lv_astore_n (k := 2) hx hb hd rfl hL hn rfl (fun la' h => kk la' (ee ▸ LV.st1 h))) k
theorem T_aload3 {pc' : Nat} {a0 a1 a2 : Value} {x : Nat} (hd : decode nm.cc pc = .ok (.aload_n 3, 1)) (hp : pc + 1 = pc') (k : T l D cA n0 XW nm d bk bn sz τ M pc' (a0 :: a1 :: a2 :: .ref x :: ls) (.ref x :: st) Q QX) : T l D cA n0 XW nm d bk bn sz τ M pc (a0 :: a1 :: a2 :: .ref x :: ls) st Q QX := by
  subst hp
  exact T_go (fun p e R s m args below meth c H locs cells slots la Z hx hb hL kk => lv_aload_n (k := 3) hx hb hd rfl (hL.get (i := 3) rfl rfl) kk) k
theorem T_astore3 {pc' : Nat} {a0 a1 a2 : Value} {w : Value} {x : Nat} (hc : a2.category = 1) (hn : 3 < nm.nL) (hd : decode nm.cc pc = .ok (.astore_n 3, 1)) (hp : pc + 1 = pc') (k : T l D cA n0 XW nm d bk bn sz τ M pc' (a0 :: a1 :: a2 :: .ref x :: ls) st Q QX) : T l D cA n0 XW nm d bk bn sz τ M pc (a0 :: a1 :: a2 :: w :: ls) (.ref x :: st) Q QX := by
  subst hp
  have ee : lset (a0 :: a1 :: a2 :: w :: ls) 3 (.ref x) = (a0 :: a1 :: a2 :: .ref x :: ls) := by simp [lset, hc]
  exact T_gs (fun p e R s m args below meth c H locs cells slots la Z hx hb hL kk => lv_astore_n (k := 3) hx hb hd rfl hL hn rfl (fun la' h => kk la' (ee ▸ LV.st1 h))) k
theorem T_aload4 {pc' : Nat} {a0 a1 a2 a3 : Value} {x : Nat} (hd : decode nm.cc pc = .ok (.aload 4, 2)) (hp : pc + 2 = pc') (k : T l D cA n0 XW nm d bk bn sz τ M pc' (a0 :: a1 :: a2 :: a3 :: .ref x :: ls) (.ref x :: st) Q QX) : T l D cA n0 XW nm d bk bn sz τ M pc (a0 :: a1 :: a2 :: a3 :: .ref x :: ls) st Q QX := by
  subst hp
  exact T_go (fun p e R s m args below meth c H locs cells slots la Z hx hb hL kk => lv_aload hx hb hd (hL.get (i := 4) rfl rfl) kk) k
theorem T_astore4 {pc' : Nat} {a0 a1 a2 a3 : Value} {w : Value} {x : Nat} (hc : a3.category = 1) (hn : 4 < nm.nL) (hd : decode nm.cc pc = .ok (.astore 4, 2)) (hp : pc + 2 = pc') (k : T l D cA n0 XW nm d bk bn sz τ M pc' (a0 :: a1 :: a2 :: a3 :: .ref x :: ls) st Q QX) : T l D cA n0 XW nm d bk bn sz τ M pc (a0 :: a1 :: a2 :: a3 :: w :: ls) (.ref x :: st) Q QX := by
  subst hp
  have ee : lset (a0 :: a1 :: a2 :: a3 :: w :: ls) 4 (.ref x) = (a0 :: a1 :: a2 :: a3 :: .ref x :: ls) := by simp [lset, hc]
  exact T_gs (fun p e R s m args below meth c H locs cells slots la Z hx hb hL kk => lv_astore hx hb hd hL hn rfl (fun la' h => kk la' (ee ▸ LV.st1 h))) k
theorem T_aload5 {pc' : Nat} {a0 a1 a2 a3 a4 : Value} {x : Nat} (hd : decode nm.cc pc = .ok (.aload 5, 2)) (hp : pc + 2 = pc') (k : T l D cA n0 XW nm d bk bn sz τ M pc' (a0 :: a1 :: a2 :: a3 :: a4 :: .ref x :: ls) (.ref x :: st) Q QX) : T l D cA n0 XW nm d bk bn sz τ M pc (a0 :: a1 :: a2 :: a3 :: a4 :: .ref x :: ls) st Q QX := by
  subst hp
  exact T_go (fun p e R s m args below meth c H locs cells slots la Z hx hb hL kk => lv_aload hx hb hd (hL.get (i := 5) rfl rfl) kk) k
theorem T_astore5 {pc' : Nat} {a0 a1 a2 a3 a4 : Value} {w : Value} {x : Nat} (hc : a4.category = 1) (hn : 5 < nm.nL) (hd : decode nm.cc pc = .ok (.astore 5, 2)) (hp : pc + 2 = pc') (k : T l D cA n0 XW nm d bk bn sz τ M pc' (a0 :: a1 :: a2 :: a3 :: a4 :: .ref x :: ls) st Q QX) : T l D cA n0 XW nm d bk bn sz τ M pc (a0 :: a1 :: a2 :: a3 :: a4 :: w :: ls) (.ref x :: st) Q QX := by
  subst hp
  have ee : lset (a0 :: a1 :: a2 :: a3 :: a4 :: w :: ls) 5 (.ref x) = (a0 :: a1 :: a2 :: a3 :: a4 :: .ref x :: ls) := by simp [lset, hc]
  exact T_gs (fun p e R s m args below meth c H locs cells slots la Z hx hb hL kk => lv_astore hx hb hd hL hn rfl (fun la' h => kk la' (ee ▸ LV.st1 h))) k
theorem T_aload6 {pc' : Nat} {a0 a1 a2 a3 a4 a5 : Value} {x : Nat} (hd : decode nm.cc pc = .ok (.aload 6, 2)) (hp : pc + 2 = pc') (k : T l D cA n0 XW nm d bk bn sz τ M pc' (a0 :: a1 :: a2 :: a3 :: a4 :: a5 :: .ref x :: ls) (.ref x :: st) Q QX) : T l D cA n0 XW nm d bk bn sz τ M pc (a0 :: a1 :: a2 :: a3 :: a4 :: a5 :: .ref x :: ls) st Q QX := by
  subst hp
  exact T_go (fun p e R s m args below meth c H locs cells slots la Z hx hb hL kk => lv_aload hx hb hd (hL.get (i := 6) rfl rfl) kk) k
theorem T_astore6 {pc' : Nat} {a0 a1 a2 a3 a4 a5 : Value} {w : Value} {x : Nat} (hc : a5.category = 1) (hn : 6 < nm.nL) (hd : decode nm.cc pc = .ok (.astore 6, 2)) (hp : pc + 2 = pc') (k : T l D cA n0 XW nm d bk bn sz τ M pc' (a0 :: a1 :: a2 :: a3 :: a4 :: a5 :: .ref x :: ls) st Q QX) : T l D cA n0 XW nm d bk bn sz τ M pc (a0 :: a1 :: a2 :: a3 :: a4 :: a5 :: w :: ls) (.ref x :: st) Q QX := by
  subst hp
  have ee : lset (a0 :: a1 :: a2 :: a3 :: a4 :: a5 :: w :: ls) 6 (.ref x) = (a0 :: a1 :: a2 :: a3 :: a4 :: a5 :: .ref x :: ls) := by simp [lset, hc]
  exact T_gs (fun p e R s m args below meth c H locs cells slots la Z hx hb hL kk => lv_astore hx hb hd hL hn rfl (fun la' h => kk la' (ee ▸ LV.st1 h))) k
theorem T_aload7 {pc' : Nat} {a0 a1 a2 a3 a4 a5 a6 : Value} {x : Nat} (hd : decode nm.cc pc = .ok (.aload 7, 2)) (hp : pc + 2 = pc') (k : T l D cA n0 XW nm d bk bn sz τ M pc' (a0 :: a1 :: a2 :: a3 :: a4 :: a5 :: a6 :: .ref x :: ls) (.ref x :: st) Q QX) : T l D cA n0 XW nm d bk bn sz τ M pc (a0 :: a1 :: a2 :: a3 :: a4 :: a5 :: a6 :: .ref x :: ls) st Q QX := by
  subst hp
  exact T_go (fun p e R s m args below meth c H locs cells slots la Z hx hb hL kk => lv_aload hx hb hd (hL.get (i := 7) rfl rfl) kk) k
theorem T_astore7 {pc' : Nat} {a0 a1 a2 a3 a4 a5 a6 : Value} {w : Value} {x : Nat} (hc : a6.category = 1) (hn : 7 < nm.nL) (hd : decode nm.cc pc = .ok (.astore 7, 2)) (hp : pc + 2 = pc') (k : T l D cA n0 XW nm d bk bn sz τ M pc' (a0 :: a1 :: a2 :: a3 :: a4 :: a5 :: a6 :: .ref x :: ls) st Q QX) : T l D cA n0 XW nm d bk bn sz τ M pc (a0 :: a1 :: a2 :: a3 :: a4 :: a5 :: a6 :: w :: ls) (.ref x :: st) Q QX := by
  subst hp
  have ee : lset (a0 :: a1 :: a2 :: a3 :: a4 :: a5 :: a6 :: w :: ls) 7 (.ref x) = (a0 :: a1 :: a2 :: a3 :: a4 :: a5 :: a6 :: .ref x :: ls) := by simp [lset, hc]
  exact T_gs (fun p e R s m args below meth c H locs cells slots la Z hx hb hL kk => lv_astore hx hb hd hL hn rfl (fun la' h => kk la' (ee ▸ LV.st1 h))) k
theorem T_aload8 {pc' : Nat} {a0 a1 a2 a3 a4 a5 a6 a7 : Value} {x : Nat} (hd : decode nm.cc pc = .ok (.aload 8, 2)) (hp : pc + 2 = pc') (k : T l D cA n0 XW nm d bk bn sz τ M pc' (a0 :: a1 :: a2 :: a3 :: a4 :: a5 :: a6 :: a7 :: .ref x :: ls) (.ref x :: st) Q QX) : T l D cA n0 XW nm d bk bn sz τ M pc (a0 :: a1 :: a2 :: a3 :: a4 :: a5 :: a6 :: a7 :: .ref x :: ls) st Q QX := by
  subst hp
  exact T_go (fun p e R s m args below meth c H locs cells slots la Z hx hb hL kk => lv_aload hx hb hd (hL.get (i := 8) rfl rfl) kk) k
theorem T_astore8 {pc' : Nat} {a0 a1 a2 a3 a4 a5 a6 a7 : Value} {w : Value} {x : Nat} (hc : a7.category = 1) (hn : 8 < nm.nL) (hd : decode nm.cc pc = .ok (.astore 8, 2)) (hp : pc + 2 = pc') (k : T l D cA n0 XW nm d bk bn sz τ M pc' (a0 :: a1 :: a2 :: a3 :: a4 :: a5 :: a6 :: a7 :: .ref x :: ls) st Q QX) : T l D cA n0 XW nm d bk bn sz τ M pc (a0 :: a1 :: a2 :: a3 :: a4 :: a5 :: a6 :: a7 :: w :: ls) (.ref x :: st) Q QX := by
  subst hp
  have ee : lset (a0 :: a1 :: a2 :: a3 :: a4 :: a5 :: a6 :: a7 :: w :: ls) 8 (.ref x) = (a0 :: a1 :: a2 :: a3 :: a4 :: a5 :: a6 :: a7 :: .ref x :: ls) := by simp [lset, hc]
  exact T_gs (fun p e R s m args below meth c H locs cells slots la Z hx hb hL kk => lv_astore hx hb hd hL hn rfl (fun la' h => kk la' (ee ▸ LV.st1 h))) k
theorem T_aload9 {pc' : Nat} {a0 a1 a2 a3 a4 a5 a6 a7 a8 : Value} {x : Nat} (hd : decode nm.cc pc = .ok (.aload 9, 2)) (hp : pc + 2 = pc') (k : T l D cA n0 XW nm d bk bn sz τ M pc' (a0 :: a1 :: a2 :: a3 :: a4 :: a5 :: a6 :: a7 :: a8 :: .ref x :: ls) (.ref x :: st) Q QX) : T l D cA n0 XW nm d bk bn sz τ M pc (a0 :: a1 :: a2 :: a3 :: a4 :: a5 :: a6 :: a7 :: a8 :: .ref x :: ls) st Q QX := by
  subst hp
  exact T_go (fun p e R s m args below meth c H locs cells slots la Z hx hb hL kk => lv_aload hx hb hd (hL.get (i := 9) rfl rfl) kk) k
theorem T_astore9 {pc' : Nat} {a0 a1 a2 a3 a4 a5 a6 a7 a8 : Value} {w : Value} {x : Nat} (hc : a8.category = 1) (hn : 9 < nm.nL) (hd : decode nm.cc pc = .ok (.astore 9, 2)) (hp : pc + 2 = pc') (k : T l D cA n0 XW nm d bk bn sz τ M pc' (a0 :: a1 :: a2 :: a3 :: a4 :: a5 :: a6 :: a7 :: a8 :: .ref x :: ls) st Q QX) : T l D cA n0 XW nm d bk bn sz τ M pc (a0 :: a1 :: a2 :: a3 :: a4 :: a5 :: a6 :: a7 :: a8 :: w :: ls) (.ref x :: st) Q QX := by
  subst hp
  have ee : lset (a0 :: a1 :: a2 :: a3 :: a4 :: a5 :: a6 :: a7 :: a8 :: w :: ls) 9 (.ref x) = (a0 :: a1 :: a2 :: a3 :: a4 :: a5 :: a6 :: a7 :: a8 :: .ref x :: ls) := by simp [lset, hc]
  exact T_gs (fun p e R s m args below meth c H locs cells slots la Z hx hb hL kk => lv_astore hx hb hd hL hn rfl (fun la' h => kk la' (ee ▸ LV.st1 h))) k
theorem T_dload0 {pc' : Nat} {x : UInt64} (hd : decode nm.cc pc = .ok (.dload_n 0, 1)) (hp : pc + 1 = pc') (k : T l D cA n0 XW nm d bk bn sz τ M pc' (.double x :: ls) (.double x :: st) Q QX) : T l D cA n0 XW nm d bk bn sz τ M pc (.double x :: ls) st Q QX := by
  subst hp
  exact T_go (fun p e R s m args below meth c H locs cells slots la Z hx hb hL kk => lv_dload_n (k := 0) hx hb hd rfl (hL.get (i := 0) rfl rfl) kk) k
theorem T_dstore0 {pc' : Nat} {w w2 : Value} {x : UInt64} (hn : 1 < nm.nL) (hd : decode nm.cc pc = .ok (.dstore_n 0, 1)) (hp : pc + 1 = pc') (k : T l D cA n0 XW nm d bk bn sz τ M pc' (.double x :: UU :: ls) st Q QX) : T l D cA n0 XW nm d bk bn sz τ M pc (w :: w2 :: ls) (.double x :: st) Q QX := by
  subst hp
  have ee : lset2 (w :: w2 :: ls) 0 (.double x) = (.double x :: UU :: ls) := by simp [lset2]
  exact T_gs (fun p e R s m args below meth c H locs cells slots la Z hx hb hL kk => lv_dstore_n (k := 0) hx hb hd rfl hL hn rfl (fun la' h => kk la' (ee ▸ LV.st2 h))) k
theorem T_dload1 {pc' : Nat} {a0 : Value} {x : UInt64} (hd : decode nm.cc pc = .ok (.dload_n 1, 1)) (hp : pc + 1 = pc') (k : T l D cA n0 XW nm d bk bn sz τ M pc' (a0 :: .double x :: ls) (.double x :: st) Q QX) : T l D cA n0 XW nm d bk bn sz τ M pc (a0 :: .double x :: ls) st Q QX := by
  subst hp
  exact T_go (fun p e R s m args below meth c H locs cells slots la Z hx hb hL kk => lv_dload_n (k := 1) hx hb hd rfl (hL.get (i := 1) rfl rfl) kk) k
theorem T_dstore1 {pc' : Nat} {a0 : Value} {w w2 : Value} {x : UInt64} (hc : a0.category = 1) (hn : 2 < nm.nL) (hd : decode nm.cc pc = .ok (.dstore_n 1, 1)) (hp : pc + 1 = pc') (k : T l D cA n0 XW nm d bk bn sz τ M pc' (a0 :: .double x :: UU :: ls) st Q QX) : T l D cA n0 XW nm d bk bn sz τ M pc (a0 :: w :: w2 :: ls) (.double x :: st) Q QX := by
  subst hp
  have ee : lset2 (a0 :: w :: w2 :: ls) 1 (.double x) = (a0 :: .double x :: UU :: ls) := by simp [lset2, hc]
  exact T_gs (fun p e R s m args below meth c H locs cells slots la Z hx hb hL kk => lv_dstore_n (k := 1) hx hb hd rfl hL hn rfl (fun la' h => kk la' (ee ▸ LV.st2 h))) k
theorem T_dload2 {pc' : Nat} {a0 a1 : Value} {x : UInt64} (hd : decode nm.cc pc = .ok (.dload_n 2, 1)) (hp : pc + 1 = pc') (k : T l D cA n0 XW nm d bk bn sz τ M pc' (a0 :: a1 :: .double x :: ls) (.double x :: st) Q QX) : T l D cA n0 XW nm d bk bn sz τ M pc (a0 :: a1 :: .double x :: ls) st Q QX := by
  subst hp
  exact T_go (fun p e R s m args below meth c H locs cells slots la Z hx hb hL kk => lv_dload_n (k := 2) hx hb hd rfl (hL.get (i := 2) rfl rfl) kk) k
theorem T_dstore2 {pc' : Nat} {a0 a1 : Value} {w w2 : Value} {x : UInt64} (hc : a1.category = 1) (hn : 3 < nm.nL) (hd : decode nm.cc pc = .ok (.dstore_n 2, 1)) (hp : pc + 1 = pc') (k : T l D cA n0 XW nm d bk bn sz τ M pc' (a0 :: a1 :: .double x :: UU :: ls) st Q QX) : T l D cA n0 XW nm d bk bn sz τ M pc (a0 :: a1 :: w :: w2 :: ls) (.double x :: st) Q QX := by
  subst hp
  have ee : lset2 (a0 :: a1 :: w :: w2 :: ls) 2 (.double x) = (a0 :: a1 :: .double x :: UU :: ls) := by simp [lset2, hc]
  exact T_gs (fun p e R s m args below meth c H locs cells slots la Z hx hb hL kk => lv_dstore_n (k := 2) hx hb hd rfl hL hn rfl (fun la' h => kk la' (ee ▸ LV.st2 h))) k
theorem T_dload3 {pc' : Nat} {a0 a1 a2 : Value} {x : UInt64} (hd : decode nm.cc pc = .ok (.dload_n 3, 1)) (hp : pc + 1 = pc') (k : T l D cA n0 XW nm d bk bn sz τ M pc' (a0 :: a1 :: a2 :: .double x :: ls) (.double x :: st) Q QX) : T l D cA n0 XW nm d bk bn sz τ M pc (a0 :: a1 :: a2 :: .double x :: ls) st Q QX := by
  subst hp
  exact T_go (fun p e R s m args below meth c H locs cells slots la Z hx hb hL kk => lv_dload_n (k := 3) hx hb hd rfl (hL.get (i := 3) rfl rfl) kk) k
theorem T_dstore3 {pc' : Nat} {a0 a1 a2 : Value} {w w2 : Value} {x : UInt64} (hc : a2.category = 1) (hn : 4 < nm.nL) (hd : decode nm.cc pc = .ok (.dstore_n 3, 1)) (hp : pc + 1 = pc') (k : T l D cA n0 XW nm d bk bn sz τ M pc' (a0 :: a1 :: a2 :: .double x :: UU :: ls) st Q QX) : T l D cA n0 XW nm d bk bn sz τ M pc (a0 :: a1 :: a2 :: w :: w2 :: ls) (.double x :: st) Q QX := by
  subst hp
  have ee : lset2 (a0 :: a1 :: a2 :: w :: w2 :: ls) 3 (.double x) = (a0 :: a1 :: a2 :: .double x :: UU :: ls) := by simp [lset2, hc]
  exact T_gs (fun p e R s m args below meth c H locs cells slots la Z hx hb hL kk => lv_dstore_n (k := 3) hx hb hd rfl hL hn rfl (fun la' h => kk la' (ee ▸ LV.st2 h))) k
theorem T_dload4 {pc' : Nat} {a0 a1 a2 a3 : Value} {x : UInt64} (hd : decode nm.cc pc = .ok (.dload 4, 2)) (hp : pc + 2 = pc') (k : T l D cA n0 XW nm d bk bn sz τ M pc' (a0 :: a1 :: a2 :: a3 :: .double x :: ls) (.double x :: st) Q QX) : T l D cA n0 XW nm d bk bn sz τ M pc (a0 :: a1 :: a2 :: a3 :: .double x :: ls) st Q QX := by
  subst hp
  exact T_go (fun p e R s m args below meth c H locs cells slots la Z hx hb hL kk => lv_dload hx hb hd (hL.get (i := 4) rfl rfl) kk) k
theorem T_dstore4 {pc' : Nat} {a0 a1 a2 a3 : Value} {w w2 : Value} {x : UInt64} (hc : a3.category = 1) (hn : 5 < nm.nL) (hd : decode nm.cc pc = .ok (.dstore 4, 2)) (hp : pc + 2 = pc') (k : T l D cA n0 XW nm d bk bn sz τ M pc' (a0 :: a1 :: a2 :: a3 :: .double x :: UU :: ls) st Q QX) : T l D cA n0 XW nm d bk bn sz τ M pc (a0 :: a1 :: a2 :: a3 :: w :: w2 :: ls) (.double x :: st) Q QX := by
  subst hp
  have ee : lset2 (a0 :: a1 :: a2 :: a3 :: w :: w2 :: ls) 4 (.double x) = (a0 :: a1 :: a2 :: a3 :: .double x :: UU :: ls) := by simp [lset2, hc]
  exact T_gs (fun p e R s m args below meth c H locs cells slots la Z hx hb hL kk => lv_dstore hx hb hd hL hn rfl (fun la' h => kk la' (ee ▸ LV.st2 h))) k
theorem T_dload5 {pc' : Nat} {a0 a1 a2 a3 a4 : Value} {x : UInt64} (hd : decode nm.cc pc = .ok (.dload 5, 2)) (hp : pc + 2 = pc') (k : T l D cA n0 XW nm d bk bn sz τ M pc' (a0 :: a1 :: a2 :: a3 :: a4 :: .double x :: ls) (.double x :: st) Q QX) : T l D cA n0 XW nm d bk bn sz τ M pc (a0 :: a1 :: a2 :: a3 :: a4 :: .double x :: ls) st Q QX := by
  subst hp
  exact T_go (fun p e R s m args below meth c H locs cells slots la Z hx hb hL kk => lv_dload hx hb hd (hL.get (i := 5) rfl rfl) kk) k
theorem T_dstore5 {pc' : Nat} {a0 a1 a2 a3 a4 : Value} {w w2 : Value} {x : UInt64} (hc : a4.category = 1) (hn : 6 < nm.nL) (hd : decode nm.cc pc = .ok (.dstore 5, 2)) (hp : pc + 2 = pc') (k : T l D cA n0 XW nm d bk bn sz τ M pc' (a0 :: a1 :: a2 :: a3 :: a4 :: .double x :: UU :: ls) st Q QX) : T l D cA n0 XW nm d bk bn sz τ M pc (a0 :: a1 :: a2 :: a3 :: a4 :: w :: w2 :: ls) (.double x :: st) Q QX := by
  subst hp
  have ee : lset2 (a0 :: a1 :: a2 :: a3 :: a4 :: w :: w2 :: ls) 5 (.double x) = (a0 :: a1 :: a2 :: a3 :: a4 :: .double x :: UU :: ls) := by simp [lset2, hc]
  exact T_gs (fun p e R s m args below meth c H locs cells slots la Z hx hb hL kk => lv_dstore hx hb hd hL hn rfl (fun la' h => kk la' (ee ▸ LV.st2 h))) k
theorem T_dload6 {pc' : Nat} {a0 a1 a2 a3 a4 a5 : Value} {x : UInt64} (hd : decode nm.cc pc = .ok (.dload 6, 2)) (hp : pc + 2 = pc') (k : T l D cA n0 XW nm d bk bn sz τ M pc' (a0 :: a1 :: a2 :: a3 :: a4 :: a5 :: .double x :: ls) (.double x :: st) Q QX) : T l D cA n0 XW nm d bk bn sz τ M pc (a0 :: a1 :: a2 :: a3 :: a4 :: a5 :: .double x :: ls) st Q QX := by
  subst hp
  exact T_go (fun p e R s m args below meth c H locs cells slots la Z hx hb hL kk => lv_dload hx hb hd (hL.get (i := 6) rfl rfl) kk) k
theorem T_dstore6 {pc' : Nat} {a0 a1 a2 a3 a4 a5 : Value} {w w2 : Value} {x : UInt64} (hc : a5.category = 1) (hn : 7 < nm.nL) (hd : decode nm.cc pc = .ok (.dstore 6, 2)) (hp : pc + 2 = pc') (k : T l D cA n0 XW nm d bk bn sz τ M pc' (a0 :: a1 :: a2 :: a3 :: a4 :: a5 :: .double x :: UU :: ls) st Q QX) : T l D cA n0 XW nm d bk bn sz τ M pc (a0 :: a1 :: a2 :: a3 :: a4 :: a5 :: w :: w2 :: ls) (.double x :: st) Q QX := by
  subst hp
  have ee : lset2 (a0 :: a1 :: a2 :: a3 :: a4 :: a5 :: w :: w2 :: ls) 6 (.double x) = (a0 :: a1 :: a2 :: a3 :: a4 :: a5 :: .double x :: UU :: ls) := by simp [lset2, hc]
  exact T_gs (fun p e R s m args below meth c H locs cells slots la Z hx hb hL kk => lv_dstore hx hb hd hL hn rfl (fun la' h => kk la' (ee ▸ LV.st2 h))) k
theorem T_dload7 {pc' : Nat} {a0 a1 a2 a3 a4 a5 a6 : Value} {x : UInt64} (hd : decode nm.cc pc = .ok (.dload 7, 2)) (hp : pc + 2 = pc') (k : T l D cA n0 XW nm d bk bn sz τ M pc' (a0 :: a1 :: a2 :: a3 :: a4 :: a5 :: a6 :: .double x :: ls) (.double x :: st) Q QX) : T l D cA n0 XW nm d bk bn sz τ M pc (a0 :: a1 :: a2 :: a3 :: a4 :: a5 :: a6 :: .double x :: ls) st Q QX := by
  subst hp
  exact T_go (fun p e R s m args below meth c H locs cells slots la Z hx hb hL kk => lv_dload hx hb hd (hL.get (i := 7) rfl rfl) kk) k
theorem T_dstore7 {pc' : Nat} {a0 a1 a2 a3 a4 a5 a6 : Value} {w w2 : Value} {x : UInt64} (hc : a6.category = 1) (hn : 8 < nm.nL) (hd : decode nm.cc pc = .ok (.dstore 7, 2)) (hp : pc + 2 = pc') (k : T l D cA n0 XW nm d bk bn sz τ M pc' (a0 :: a1 :: a2 :: a3 :: a4 :: a5 :: a6 :: .double x :: UU :: ls) st Q QX) : T l D cA n0 XW nm d bk bn sz τ M pc (a0 :: a1 :: a2 :: a3 :: a4 :: a5 :: a6 :: w :: w2 :: ls) (.double x :: st) Q QX := by
  subst hp
  have ee : lset2 (a0 :: a1 :: a2 :: a3 :: a4 :: a5 :: a6 :: w :: w2 :: ls) 7 (.double x) = (a0 :: a1 :: a2 :: a3 :: a4 :: a5 :: a6 :: .double x :: UU :: ls) := by simp [lset2, hc]
  exact T_gs (fun p e R s m args below meth c H locs cells slots la Z hx hb hL kk => lv_dstore hx hb hd hL hn rfl (fun la' h => kk la' (ee ▸ LV.st2 h))) k
theorem T_dload8 {pc' : Nat} {a0 a1 a2 a3 a4 a5 a6 a7 : Value} {x : UInt64} (hd : decode nm.cc pc = .ok (.dload 8, 2)) (hp : pc + 2 = pc') (k : T l D cA n0 XW nm d bk bn sz τ M pc' (a0 :: a1 :: a2 :: a3 :: a4 :: a5 :: a6 :: a7 :: .double x :: ls) (.double x :: st) Q QX) : T l D cA n0 XW nm d bk bn sz τ M pc (a0 :: a1 :: a2 :: a3 :: a4 :: a5 :: a6 :: a7 :: .double x :: ls) st Q QX := by
  subst hp
  exact T_go (fun p e R s m args below meth c H locs cells slots la Z hx hb hL kk => lv_dload hx hb hd (hL.get (i := 8) rfl rfl) kk) k
theorem T_dstore8 {pc' : Nat} {a0 a1 a2 a3 a4 a5 a6 a7 : Value} {w w2 : Value} {x : UInt64} (hc : a7.category = 1) (hn : 9 < nm.nL) (hd : decode nm.cc pc = .ok (.dstore 8, 2)) (hp : pc + 2 = pc') (k : T l D cA n0 XW nm d bk bn sz τ M pc' (a0 :: a1 :: a2 :: a3 :: a4 :: a5 :: a6 :: a7 :: .double x :: UU :: ls) st Q QX) : T l D cA n0 XW nm d bk bn sz τ M pc (a0 :: a1 :: a2 :: a3 :: a4 :: a5 :: a6 :: a7 :: w :: w2 :: ls) (.double x :: st) Q QX := by
  subst hp
  have ee : lset2 (a0 :: a1 :: a2 :: a3 :: a4 :: a5 :: a6 :: a7 :: w :: w2 :: ls) 8 (.double x) = (a0 :: a1 :: a2 :: a3 :: a4 :: a5 :: a6 :: a7 :: .double x :: UU :: ls) := by simp [lset2, hc]
  exact T_gs (fun p e R s m args below meth c H locs cells slots la Z hx hb hL kk => lv_dstore hx hb hd hL hn rfl (fun la' h => kk la' (ee ▸ LV.st2 h))) k
theorem T_dload9 {pc' : Nat} {a0 a1 a2 a3 a4 a5 a6 a7 a8 : Value} {x : UInt64} (hd : decode nm.cc pc = .ok (.dload 9, 2)) (hp : pc + 2 = pc') (k : T l D cA n0 XW nm d bk bn sz τ M pc' (a0 :: a1 :: a2 :: a3 :: a4 :: a5 :: a6 :: a7 :: a8 :: .double x :: ls) (.double x :: st) Q QX) : T l D cA n0 XW nm d bk bn sz τ M pc (a0 :: a1 :: a2 :: a3 :: a4 :: a5 :: a6 :: a7 :: a8 :: .double x :: ls) st Q QX := by
  subst hp
  exact T_go (fun p e R s m args below meth c H locs cells slots la Z hx hb hL kk => lv_dload hx hb hd (hL.get (i := 9) rfl rfl) kk) k
theorem T_dstore9 {pc' : Nat} {a0 a1 a2 a3 a4 a5 a6 a7 a8 : Value} {w w2 : Value} {x : UInt64} (hc : a8.category = 1) (hn : 10 < nm.nL) (hd : decode nm.cc pc = .ok (.dstore 9, 2)) (hp : pc + 2 = pc') (k : T l D cA n0 XW nm d bk bn sz τ M pc' (a0 :: a1 :: a2 :: a3 :: a4 :: a5 :: a6 :: a7 :: a8 :: .double x :: UU :: ls) st Q QX) : T l D cA n0 XW nm d bk bn sz τ M pc (a0 :: a1 :: a2 :: a3 :: a4 :: a5 :: a6 :: a7 :: a8 :: w :: w2 :: ls) (.double x :: st) Q QX := by
  subst hp
  have ee : lset2 (a0 :: a1 :: a2 :: a3 :: a4 :: a5 :: a6 :: a7 :: a8 :: w :: w2 :: ls) 9 (.double x) = (a0 :: a1 :: a2 :: a3 :: a4 :: a5 :: a6 :: a7 :: a8 :: .double x :: UU :: ls) := by simp [lset2, hc]
  exact T_gs (fun p e R s m args below meth c H locs cells slots la Z hx hb hL kk => lv_dstore hx hb hd hL hn rfl (fun la' h => kk la' (ee ▸ LV.st2 h))) k
end RULES
