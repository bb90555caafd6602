theorem sgn_cls : ∀ U : State, (∀ w ∈ GW, w.before #[] U = true) → ∃ (c : ClassId) (kC : Class), U.vm.findClass RX7 = some c ∧ U.vm.classes[c]? = some kC := fun U hw => by
  have h9 : (Cond.sameMethod RX7 "java/lang/Enum" "ordinal" "()I").before #[] U = true := hw _ (inGW (List.mem_of_getElem? (i := 591) (by decide +kernel)) (by decide +kernel))
  obtain ⟨cn, ck, r1, hcn, hck, -⟩ := Cond.sameMethod_found h9
  exact ⟨cn, ck, hcn, hck⟩
section SGR
variable {l : Launch} {D : va_G} {cA : Nat → ClassId} {n0 : Nat} {sg adK adV : Nat → Nat} {sgA smA wdA bS LS : Nat} {xs : Nat → Int32} {nm : MI} {d bk bn sz : Nat} {τ : TY} {M : ME} {Q : QT} {QX : QXT} {ls st : List Value} {pc pc' idx : Nat}
/-- a constant of the enum is laid into an array -/
theorem T_asgn {a n o : Nat} {i : Int32} (j : Nat) (ho : o < 48) (ha : τ a = (107, n)) (hi : i = nI j) (hj : j < n) (hn : n < 2 ^ 31) (hd : decode nm.cc pc = .ok (.aastore, 1)) (hp : pc + 1 = pc')
    (kk : T l D cA n0 (XW0 sg adK adV sgA smA wdA n0 bS LS xs) nm d bk bn sz τ (up M a j (.ref (sg o))) pc' ls st Q QX) : T l D cA n0 (XW0 sg adK adV sgA smA wdA n0 bS LS xs) nm d bk bn sz τ M pc ls (.ref (sg o) :: .int i :: .ref a :: st) Q QX :=
  T_aastO 7 j (C := RX7) (by decide) ha hi hj hn (SG_o ho) sgn_cls rfl hd hp kk
/-- different constants are different objects -/
theorem T_sginj (k : (∀ i j, i < 48 → j < 48 → sg i = sg j → i = j) → T l D cA n0 (XW0 sg adK adV sgA smA wdA n0 bS LS xs) nm d bk bn sz τ M pc ls st Q QX) : T l D cA n0 (XW0 sg adK adV sgA smA wdA n0 bS LS xs) nm d bk bn sz τ M pc ls st Q QX := by
  intro p e R s m args below meth c H locs cells slots mc ms la X Y hR hS g1 g2 hL r1 r2 r3
  have hSW := Y.2.2.2.2.2.1
  exact k (fun i j hi hj e => SG_inj hSW.2.2 hi hj e) p e R s m args below meth c H locs cells slots mc ms la X Y hR hS g1 g2 hL r1 r2 r3
end SGR
/-! what the tape says -/
def sx (n : Nat) : Int32 := if n < 128 then nI n else nI n - 256
def ltB (n : Nat) : Bool := decide (97 ≤ n ∧ n ≤ 122)
def dgB (n : Nat) : Bool := decide (48 ≤ n ∧ n ≤ 57)
def ldB (n : Nat) : Bool := ltB n || dgB n
def blB (n : Nat) : Bool := decide (n = 32) || decide (n = 10)
theorem ii_lt : ∀ n, n < 256 → iiF (sx n) 97 122 = if ltB n = true then 1 else 0 := by decide +kernel
theorem ii_dg : ∀ n, n < 256 → iiF (sx n) 48 57 = if dgB n = true then 1 else 0 := by decide +kernel
theorem sx_bl : ∀ n, n < 256 → (blB n = true ↔ (sx n = 32 ∨ sx n = 10)) := by decide +kernel
/-- the end of the run from p -/
def rnF (P : Nat → Bool) (B : Nat → Nat) (ln : Nat) : Nat → Nat → Nat
  | 0, p => p
  | n + 1, p => if p < ln ∧ P (B p) = true then rnF P B ln n (p + 1) else p
def rn (P : Nat → Bool) (B : Nat → Nat) (ln p : Nat) : Nat := rnF P B ln (ln - p) p
theorem rn_y {P : Nat → Bool} {B : Nat → Nat} {ln p : Nat} (h : p < ln) (h2 : P (B p) = true) : rn P B ln p = rn P B ln (p + 1) := by
  unfold rn
  rw [show ln - p = ln - (p + 1) + 1 by omega, rnF, if_pos ⟨h, h2⟩]
theorem rn_n {P : Nat → Bool} {B : Nat → Nat} {ln p : Nat} (h : ¬ (p < ln ∧ P (B p) = true)) : rn P B ln p = p := by
  unfold rn
  cases e : ln - p with
  | zero => rfl
  | succ n => rw [rnF, if_neg h]
theorem rnF_ge {P : Nat → Bool} {B : Nat → Nat} {ln : Nat} : ∀ n p, p ≤ rnF P B ln n p
  | 0, p => Nat.le_refl _
  | n + 1, p => by
    rw [rnF]; split
    · exact Nat.le_trans (Nat.le_succ _) (rnF_ge n (p + 1))
    · exact Nat.le_refl _
theorem rn_ge {P : Nat → Bool} {B : Nat → Nat} {ln p : Nat} : p ≤ rn P B ln p := rnF_ge _ _
theorem rnF_le {P : Nat → Bool} {B : Nat → Nat} {ln : Nat} : ∀ n p, p ≤ ln → rnF P B ln n p ≤ ln
  | 0, p, h => h
  | n + 1, p, h => by
    rw [rnF]; split
    · exact rnF_le n (p + 1) (by omega)
    · exact h
theorem rn_le {P : Nat → Bool} {B : Nat → Nat} {ln p : Nat} (h : p ≤ ln) : rn P B ln p ≤ ln := rnF_le _ _ h
theorem rnF_stop {P : Nat → Bool} {B : Nat → Nat} {ln : Nat} : ∀ n p, ln - p ≤ n → ¬ (rnF P B ln n p < ln ∧ P (B (rnF P B ln n p)) = true)
  | 0, p, h => fun q => absurd q.1 (by show ¬ p < ln; omega)
  | n + 1, p, h => by
    rw [rnF]; split
    · exact rnF_stop n (p + 1) (by omega)
    · assumption
theorem rn_stop {P : Nat → Bool} {B : Nat → Nat} {ln p : Nat} : ¬ (rn P B ln p < ln ∧ P (B (rn P B ln p)) = true) := rnF_stop _ _ (Nat.le_refl _)
theorem rn_idem {P : Nat → Bool} {B : Nat → Nat} {ln p : Nat} : rn P B ln (rn P B ln p) = rn P B ln p := rn_n rn_stop
/-- the code of a name, the number of a number -/
def dN (n : Nat) : Nat := if ltB n = true then n - 96 else n - 21
def cN (B : Nat → Nat) (p : Nat) : Nat → Nat
  | 0 => 0
  | k + 1 => cN B p k * 37 + dN (B (p + k))
def nN (B : Nat → Nat) (p : Nat) : Nat → Nat
  | 0 => 0
  | k + 1 => nN B p k * 10 + (B (p + k) - 48)
theorem dN_L : ∀ n, n < 256 → ltB n = true → (sx n - 97 + 1).toInt64 = Int64.ofNat (dN n) := by decide +kernel
theorem dN_D : ∀ n, n < 256 → ltB n = false → dgB n = true → (sx n - 48 + 27).toInt64 = Int64.ofNat (dN n) := by decide +kernel
theorem dN_N : ∀ n, n < 256 → dgB n = true → (sx n).toInt64 - 48 = Int64.ofNat (n - 48) := by decide +kernel
theorem cN_s {B : Nat → Nat} {p k : Nat} : Int64.ofNat (cN B p k) * 37 + Int64.ofNat (dN (B (p + k))) = Int64.ofNat (cN B p (k + 1)) := by
  show Int64.ofNat (cN B p k) * Int64.ofNat 37 + _ = _
  rw [← Int64.ofNat_mul, ← Int64.ofNat_add]; rfl
theorem nN_s {B : Nat → Nat} {p k : Nat} : Int64.ofNat (nN B p k) * 10 + Int64.ofNat (B (p + k) - 48) = Int64.ofNat (nN B p (k + 1)) := by
  show Int64.ofNat (nN B p k) * Int64.ofNat 10 + _ = _
  rw [← Int64.ofNat_mul, ← Int64.ofNat_add]; rfl
/-- a constant's text at a place -/
def txQ (B : Nat → Nat) (k p n : Nat) : Bool := decide (stL.getD k 0 = n) && (List.range n).all (fun j => decide (chF k j = sx (B (p + j))))
theorem txQ_iff {B : Nat → Nat} {k p n : Nat} : txQ B k p n = true ↔ (stL.getD k 0 = n ∧ ∀ j, j < n → chF k j = sx (B (p + j))) := by
  unfold txQ
  simp [List.all_eq_true]
/-- the sign with this text, from i on -/
def kwG (B : Nat → Nat) (p n : Nat) : Nat → Nat → Nat
  | _, 0 => 43
  | i, k + 1 => if txQ B (sgT.getD i 0) p n = true then i else kwG B p n (i + 1) k
def kwF (B : Nat → Nat) (p n : Nat) : Nat := kwG B p n 0 48
theorem kwG_y {B : Nat → Nat} {p n k : Nat} (hk : k < 48) (h : txQ B (sgT.getD k 0) p n = true) : kwG B p n k (48 - k) = k := by
  rw [show 48 - k = 48 - (k + 1) + 1 by omega, kwG, if_pos h]
theorem kwG_n {B : Nat → Nat} {p n k : Nat} (hk : k < 48) (h : ¬ txQ B (sgT.getD k 0) p n = true) : kwG B p n k (48 - k) = kwG B p n (k + 1) (48 - (k + 1)) := by
  rw [show 48 - k = 48 - (k + 1) + 1 by omega, kwG, if_neg h]
theorem sgT_76 : ∀ i, i < 48 → sgT.getD i 0 < 95 := by decide
def uL (κ : Nat → Int64) (i : Nat) (x : Int64) : Nat → Int64 := fun j => if j = i then x else κ j
theorem uL_s (κ : Nat → Int64) (i : Nat) (x : Int64) : uL κ i x i = x := by simp [uL]
theorem uL_i {κ : Nat → Int64} {i j : Nat} {x : Int64} (h : j ≠ i) : uL κ i x j = κ j := by simp [uL, h]
/-! the tape; the tokens in 4 cells from t on -/
def BM (τ : TY) (M0 M : ME) (tp : Nat) (B : Nat → Nat) : Prop := τ (tp) = (101, 2000) ∧ (∀ i, i < 2000 → M (tp) (i) = .int (sx (B i))) ∧ Fr tp (tp + 1) M0 M
theorem BM.frame {τ : TY} {M0 M : ME} {tp : Nat} {B : Nat → Nat} (h : BM τ M0 M tp B) : Fr tp (tp + 1) M0 M := h.2.2
theorem BM.t_tp {τ : TY} {M0 M : ME} {tp : Nat} {B : Nat → Nat} (h : BM τ M0 M tp B) : τ (tp) = (101, 2000) := h.1
theorem BM.g_by {τ : TY} {M0 M : ME} {tp : Nat} {B : Nat → Nat} (h : BM τ M0 M tp B) {i : Nat} (hq : i < 2000) : M (tp) (i) = .int (sx (B i)) := h.2.1 i hq
theorem BM.rf {τ : TY} {M0 M : ME} {tp : Nat} {B : Nat → Nat} (h : BM τ M0 M tp B) : BM τ M M tp B := by
  obtain ⟨x0, x1, hF⟩ := h
  refine ⟨?_, fun i hq => ?_, Fr.rf _ _ _⟩
  · exact x0
  · exact x1 i hq
theorem BM.bs {τ : TY} {M0 M : ME} {tp : Nat} {B : Nat → Nat} {M1 : ME} (h : BM τ M1 M tp B) (h2 : Fr tp (tp + 1) M0 M1) : BM τ M0 M tp B := by
  obtain ⟨x0, x1, hF⟩ := h
  refine ⟨?_, fun i hq => ?_, h2.tr hF⟩
  · exact x0
  · exact x1 i hq
theorem BM.fr {τ : TY} {M0 M : ME} {tp : Nat} {B : Nat → Nat} {M1 : ME} (h : BM τ M0 M tp B) (hf : ∀ q, tp ≤ q → q < tp + 1 → M1 q = M q) : BM τ M1 M1 tp B := by
  obtain ⟨x0, x1, hF⟩ := h
  refine ⟨?_, fun i hq => ?_, Fr.rf _ _ _⟩
  · exact x0
  · rw [hf _ (by omega) (by omega)]; exact x1 i hq
theorem BM.tau {τ : TY} {M0 M : ME} {tp : Nat} {B : Nat → Nat} {τ' : TY} (h : BM τ M0 M tp B) (hf : ∀ q, tp ≤ q → q < tp + 1 → τ' q = τ q) : BM τ' M0 M tp B := by
  obtain ⟨x0, x1, hF⟩ := h
  refine ⟨?_, fun i hq => ?_, hF⟩
  · rw [hf _ (by omega) (by omega)]; exact x0
  · exact x1 i hq
theorem BM.mv {τ : TY} {M0 M : ME} {tp : Nat} {B : Nat → Nat} {M1 : ME} (h : BM τ M0 M tp B) (e : M1 = M) : BM τ M0 M1 tp B := by subst e; exact h
theorem BM.frU {τ : TY} {M0 M : ME} {tp : Nat} {B : Nat → Nat} {M1 : ME} {q k : Nat} {v : Value} (h : BM τ M0 M tp B) (e : M1 = up M q k v) (hd : q < tp ∨ tp + 1 ≤ q) : BM τ M1 M1 tp B := h.fr (fun b h1 h2 => by rw [e]; exact up_a (by omega))
theorem BM.nx {τ : TY} {M0 M : ME} {tp : Nat} {B : Nat → Nat} {M1 : ME} {lo hi : Nat} (h : BM τ M0 M tp B) (e : Fr lo hi M M1) (hd : hi ≤ tp ∨ tp + 1 ≤ lo) : BM τ M1 M1 tp B := h.fr (fun b h1 h2 => e b (by omega))
theorem BM.p_by {τ : TY} {M0 M : ME} {tp : Nat} {B : Nat → Nat} (h : BM τ M0 M tp B) {n : Nat} {i0 : Nat} (hi0 : i0 < 2000) : BM τ M0 (up M (tp) (i0) (.int (sx n))) tp (u1 B i0 n) := by
  obtain ⟨x0, x1, hF⟩ := h
  refine ⟨?_, fun i hq => ?_, hF.up (by omega)⟩
  · exact x0
  · by_cases e : i = i0
    · subst e; rw [up_s, u1_s]
    · rw [up_ne (by omega)]; rw [u1_i e]; exact x1 i hq
def TM (τ : TY) (M0 M : ME) (t : Nat) (sg : Nat → Nat) (tp : Nat) (ln : Nat) (lt : Nat) (σ : Nat → Nat) (st : Nat → Int32) (vl : Nat → Int64) : Prop := τ (t) = (7, 0) ∧ τ (t + 1) = (107, 401) ∧ τ (t + 2) = (100, 401) ∧ τ (t + 3) = (102, 401) ∧ M (t) (0) = .ref (t + 1) ∧ M (t) (1) = .ref (t + 2) ∧ M (t) (2) = .ref (t + 3) ∧ M (t) (3) = .int (nI lt) ∧ M (t) (4) = .ref tp ∧ M (t) (5) = .int (nI ln) ∧ (∀ i, i < 401 → M (t + 1) (i) = .ref (sg (σ i))) ∧ (∀ i, i < 401 → M (t + 2) (i) = .int (st i)) ∧ (∀ i, i < 401 → M (t + 3) (i) = .long (vl i)) ∧ Fr t (t + 4) M0 M
theorem TM.frame {τ : TY} {M0 M : ME} {t : Nat} {sg : Nat → Nat} {tp : Nat} {ln : Nat} {lt : Nat} {σ : Nat → Nat} {st : Nat → Int32} {vl : Nat → Int64} (h : TM τ M0 M t sg tp ln lt σ st vl) : Fr t (t + 4) M0 M := h.2.2.2.2.2.2.2.2.2.2.2.2.2
theorem TM.t_t {τ : TY} {M0 M : ME} {t : Nat} {sg : Nat → Nat} {tp : Nat} {ln : Nat} {lt : Nat} {σ : Nat → Nat} {st : Nat → Int32} {vl : Nat → Int64} (h : TM τ M0 M t sg tp ln lt σ st vl) : τ (t) = (7, 0) := h.1
theorem TM.t_sa {τ : TY} {M0 M : ME} {t : Nat} {sg : Nat → Nat} {tp : Nat} {ln : Nat} {lt : Nat} {σ : Nat → Nat} {st : Nat → Int32} {vl : Nat → Int64} (h : TM τ M0 M t sg tp ln lt σ st vl) : τ (t + 1) = (107, 401) := h.2.1
theorem TM.t_ta {τ : TY} {M0 M : ME} {t : Nat} {sg : Nat → Nat} {tp : Nat} {ln : Nat} {lt : Nat} {σ : Nat → Nat} {st : Nat → Int32} {vl : Nat → Int64} (h : TM τ M0 M t sg tp ln lt σ st vl) : τ (t + 2) = (100, 401) := h.2.2.1
theorem TM.t_va {τ : TY} {M0 M : ME} {t : Nat} {sg : Nat → Nat} {tp : Nat} {ln : Nat} {lt : Nat} {σ : Nat → Nat} {st : Nat → Int32} {vl : Nat → Int64} (h : TM τ M0 M t sg tp ln lt σ st vl) : τ (t + 3) = (102, 401) := h.2.2.2.1
theorem TM.g_sa {τ : TY} {M0 M : ME} {t : Nat} {sg : Nat → Nat} {tp : Nat} {ln : Nat} {lt : Nat} {σ : Nat → Nat} {st : Nat → Int32} {vl : Nat → Int64} (h : TM τ M0 M t sg tp ln lt σ st vl) : M (t) (0) = .ref (t + 1) := h.2.2.2.2.1
theorem TM.g_ta {τ : TY} {M0 M : ME} {t : Nat} {sg : Nat → Nat} {tp : Nat} {ln : Nat} {lt : Nat} {σ : Nat → Nat} {st : Nat → Int32} {vl : Nat → Int64} (h : TM τ M0 M t sg tp ln lt σ st vl) : M (t) (1) = .ref (t + 2) := h.2.2.2.2.2.1
theorem TM.g_va {τ : TY} {M0 M : ME} {t : Nat} {sg : Nat → Nat} {tp : Nat} {ln : Nat} {lt : Nat} {σ : Nat → Nat} {st : Nat → Int32} {vl : Nat → Int64} (h : TM τ M0 M t sg tp ln lt σ st vl) : M (t) (2) = .ref (t + 3) := h.2.2.2.2.2.2.1
theorem TM.g_lt {τ : TY} {M0 M : ME} {t : Nat} {sg : Nat → Nat} {tp : Nat} {ln : Nat} {lt : Nat} {σ : Nat → Nat} {st : Nat → Int32} {vl : Nat → Int64} (h : TM τ M0 M t sg tp ln lt σ st vl) : M (t) (3) = .int (nI lt) := h.2.2.2.2.2.2.2.1
theorem TM.g_tp {τ : TY} {M0 M : ME} {t : Nat} {sg : Nat → Nat} {tp : Nat} {ln : Nat} {lt : Nat} {σ : Nat → Nat} {st : Nat → Int32} {vl : Nat → Int64} (h : TM τ M0 M t sg tp ln lt σ st vl) : M (t) (4) = .ref tp := h.2.2.2.2.2.2.2.2.1
theorem TM.g_ln {τ : TY} {M0 M : ME} {t : Nat} {sg : Nat → Nat} {tp : Nat} {ln : Nat} {lt : Nat} {σ : Nat → Nat} {st : Nat → Int32} {vl : Nat → Int64} (h : TM τ M0 M t sg tp ln lt σ st vl) : M (t) (5) = .int (nI ln) := h.2.2.2.2.2.2.2.2.2.1
theorem TM.g_sg {τ : TY} {M0 M : ME} {t : Nat} {sg : Nat → Nat} {tp : Nat} {ln : Nat} {lt : Nat} {σ : Nat → Nat} {st : Nat → Int32} {vl : Nat → Int64} (h : TM τ M0 M t sg tp ln lt σ st vl) {i : Nat} (hq : i < 401) : M (t + 1) (i) = .ref (sg (σ i)) := h.2.2.2.2.2.2.2.2.2.2.1 i hq
theorem TM.g_st {τ : TY} {M0 M : ME} {t : Nat} {sg : Nat → Nat} {tp : Nat} {ln : Nat} {lt : Nat} {σ : Nat → Nat} {st : Nat → Int32} {vl : Nat → Int64} (h : TM τ M0 M t sg tp ln lt σ st vl) {i : Nat} (hq : i < 401) : M (t + 2) (i) = .int (st i) := h.2.2.2.2.2.2.2.2.2.2.2.1 i hq
theorem TM.g_vl {τ : TY} {M0 M : ME} {t : Nat} {sg : Nat → Nat} {tp : Nat} {ln : Nat} {lt : Nat} {σ : Nat → Nat} {st : Nat → Int32} {vl : Nat → Int64} (h : TM τ M0 M t sg tp ln lt σ st vl) {i : Nat} (hq : i < 401) : M (t + 3) (i) = .long (vl i) := h.2.2.2.2.2.2.2.2.2.2.2.2.1 i hq
theorem TM.rf {τ : TY} {M0 M : ME} {t : Nat} {sg : Nat → Nat} {tp : Nat} {ln : Nat} {lt : Nat} {σ : Nat → Nat} {st : Nat → Int32} {vl : Nat → Int64} (h : TM τ M0 M t sg tp ln lt σ st vl) : TM τ M M t sg tp ln lt σ st vl := by
  obtain ⟨x0, x1, x2, x3, x4, x5, x6, x7, x8, x9, x10, x11, x12, hF⟩ := h
  refine ⟨?_, ?_, ?_, ?_, ?_, ?_, ?_, ?_, ?_, ?_, fun i hq => ?_, fun i hq => ?_, fun i hq => ?_, Fr.rf _ _ _⟩
  · exact x0
  · exact x1
  · exact x2
  · exact x3
  · exact x4
  · exact x5
  · exact x6
  · exact x7
  · exact x8
  · exact x9
  · exact x10 i hq
  · exact x11 i hq
  · exact x12 i hq
theorem TM.bs {τ : TY} {M0 M : ME} {t : Nat} {sg : Nat → Nat} {tp : Nat} {ln : Nat} {lt : Nat} {σ : Nat → Nat} {st : Nat → Int32} {vl : Nat → Int64} {M1 : ME} (h : TM τ M1 M t sg tp ln lt σ st vl) (h2 : Fr t (t + 4) M0 M1) : TM τ M0 M t sg tp ln lt σ st vl := by
  obtain ⟨x0, x1, x2, x3, x4, x5, x6, x7, x8, x9, x10, x11, x12, hF⟩ := h
  refine ⟨?_, ?_, ?_, ?_, ?_, ?_, ?_, ?_, ?_, ?_, fun i hq => ?_, fun i hq => ?_, fun i hq => ?_, h2.tr hF⟩
  · exact x0
  · exact x1
  · exact x2
  · exact x3
  · exact x4
  · exact x5
  · exact x6
  · exact x7
  · exact x8
  · exact x9
  · exact x10 i hq
  · exact x11 i hq
  · exact x12 i hq
theorem TM.fr {τ : TY} {M0 M : ME} {t : Nat} {sg : Nat → Nat} {tp : Nat} {ln : Nat} {lt : Nat} {σ : Nat → Nat} {st : Nat → Int32} {vl : Nat → Int64} {M1 : ME} (h : TM τ M0 M t sg tp ln lt σ st vl) (hf : ∀ q, t ≤ q → q < t + 4 → M1 q = M q) : TM τ M1 M1 t sg tp ln lt σ st vl := by
  obtain ⟨x0, x1, x2, x3, x4, x5, x6, x7, x8, x9, x10, x11, x12, hF⟩ := h
  refine ⟨?_, ?_, ?_, ?_, ?_, ?_, ?_, ?_, ?_, ?_, fun i hq => ?_, fun i hq => ?_, fun i hq => ?_, Fr.rf _ _ _⟩
  · exact x0
  · exact x1
  · exact x2
  · exact x3
  · rw [hf _ (by omega) (by omega)]; exact x4
  · rw [hf _ (by omega) (by omega)]; exact x5
  · rw [hf _ (by omega) (by omega)]; exact x6
  · rw [hf _ (by omega) (by omega)]; exact x7
  · rw [hf _ (by omega) (by omega)]; exact x8
  · rw [hf _ (by omega) (by omega)]; exact x9
  · rw [hf _ (by omega) (by omega)]; exact x10 i hq
  · rw [hf _ (by omega) (by omega)]; exact x11 i hq
  · rw [hf _ (by omega) (by omega)]; exact x12 i hq
theorem TM.tau {τ : TY} {M0 M : ME} {t : Nat} {sg : Nat → Nat} {tp : Nat} {ln : Nat} {lt : Nat} {σ : Nat → Nat} {st : Nat → Int32} {vl : Nat → Int64} {τ' : TY} (h : TM τ M0 M t sg tp ln lt σ st vl) (hf : ∀ q, t ≤ q → q < t + 4 → τ' q = τ q) : TM τ' M0 M t sg tp ln lt σ st vl := by
  obtain ⟨x0, x1, x2, x3, x4, x5, x6, x7, x8, x9, x10, x11, x12, hF⟩ := h
  refine ⟨?_, ?_, ?_, ?_, ?_, ?_, ?_, ?_, ?_, ?_, fun i hq => ?_, fun i hq => ?_, fun i hq => ?_, hF⟩
  · rw [hf _ (by omega) (by omega)]; exact x0
  · rw [hf _ (by omega) (by omega)]; exact x1
  · rw [hf _ (by omega) (by omega)]; exact x2
  · rw [hf _ (by omega) (by omega)]; exact x3
  · exact x4
  · exact x5
  · exact x6
  · exact x7
  · exact x8
  · exact x9
  · exact x10 i hq
  · exact x11 i hq
  · exact x12 i hq
theorem TM.mv {τ : TY} {M0 M : ME} {t : Nat} {sg : Nat → Nat} {tp : Nat} {ln : Nat} {lt : Nat} {σ : Nat → Nat} {st : Nat → Int32} {vl : Nat → Int64} {M1 : ME} (h : TM τ M0 M t sg tp ln lt σ st vl) (e : M1 = M) : TM τ M0 M1 t sg tp ln lt σ st vl := by subst e; exact h
theorem TM.frU {τ : TY} {M0 M : ME} {t : Nat} {sg : Nat → Nat} {tp : Nat} {ln : Nat} {lt : Nat} {σ : Nat → Nat} {st : Nat → Int32} {vl : Nat → Int64} {M1 : ME} {q k : Nat} {v : Value} (h : TM τ M0 M t sg tp ln lt σ st vl) (e : M1 = up M q k v) (hd : q < t ∨ t + 4 ≤ q) : TM τ M1 M1 t sg tp ln lt σ st vl := h.fr (fun b h1 h2 => by rw [e]; exact up_a (by omega))
theorem TM.nx {τ : TY} {M0 M : ME} {t : Nat} {sg : Nat → Nat} {tp : Nat} {ln : Nat} {lt : Nat} {σ : Nat → Nat} {st : Nat → Int32} {vl : Nat → Int64} {M1 : ME} {lo hi : Nat} (h : TM τ M0 M t sg tp ln lt σ st vl) (e : Fr lo hi M M1) (hd : hi ≤ t ∨ t + 4 ≤ lo) : TM τ M1 M1 t sg tp ln lt σ st vl := h.fr (fun b h1 h2 => e b (by omega))
theorem TM.p_lt {τ : TY} {M0 M : ME} {t : Nat} {sg : Nat → Nat} {tp : Nat} {ln : Nat} {lt : Nat} {σ : Nat → Nat} {st : Nat → Int32} {vl : Nat → Int64} (h : TM τ M0 M t sg tp ln lt σ st vl) {n : Nat} {x : Int32} (hx : x = nI n) : TM τ M0 (up M (t) (3) (.int x)) t sg tp ln n σ st vl := by
  obtain ⟨x0, x1, x2, x3, x4, x5, x6, x7, x8, x9, x10, x11, x12, hF⟩ := h
  refine ⟨?_, ?_, ?_, ?_, ?_, ?_, ?_, ?_, ?_, ?_, fun i hq => ?_, fun i hq => ?_, fun i hq => ?_, hF.up (by omega)⟩
  · exact x0
  · exact x1
  · exact x2
  · exact x3
  · rw [up_ne (by omega)]; exact x4
  · rw [up_ne (by omega)]; exact x5
  · rw [up_ne (by omega)]; exact x6
  · rw [up_s, hx]
  · rw [up_ne (by omega)]; exact x8
  · rw [up_ne (by omega)]; exact x9
  · rw [up_ne (by omega)]; exact x10 i hq
  · rw [up_ne (by omega)]; exact x11 i hq
  · rw [up_ne (by omega)]; exact x12 i hq
theorem TM.p_tp {τ : TY} {M0 M : ME} {t : Nat} {sg : Nat → Nat} {tp : Nat} {ln : Nat} {lt : Nat} {σ : Nat → Nat} {st : Nat → Int32} {vl : Nat → Int64} (h : TM τ M0 M t sg tp ln lt σ st vl) {n : Nat} : TM τ M0 (up M (t) (4) (.ref n)) t sg n ln lt σ st vl := by
  obtain ⟨x0, x1, x2, x3, x4, x5, x6, x7, x8, x9, x10, x11, x12, hF⟩ := h
  refine ⟨?_, ?_, ?_, ?_, ?_, ?_, ?_, ?_, ?_, ?_, fun i hq => ?_, fun i hq => ?_, fun i hq => ?_, hF.up (by omega)⟩
  · exact x0
  · exact x1
  · exact x2
  · exact x3
  · rw [up_ne (by omega)]; exact x4
  · rw [up_ne (by omega)]; exact x5
  · rw [up_ne (by omega)]; exact x6
  · rw [up_ne (by omega)]; exact x7
  · rw [up_s]
  · rw [up_ne (by omega)]; exact x9
  · rw [up_ne (by omega)]; exact x10 i hq
  · rw [up_ne (by omega)]; exact x11 i hq
  · rw [up_ne (by omega)]; exact x12 i hq
theorem TM.p_ln {τ : TY} {M0 M : ME} {t : Nat} {sg : Nat → Nat} {tp : Nat} {ln : Nat} {lt : Nat} {σ : Nat → Nat} {st : Nat → Int32} {vl : Nat → Int64} (h : TM τ M0 M t sg tp ln lt σ st vl) {n : Nat} {x : Int32} (hx : x = nI n) : TM τ M0 (up M (t) (5) (.int x)) t sg tp n lt σ st vl := by
  obtain ⟨x0, x1, x2, x3, x4, x5, x6, x7, x8, x9, x10, x11, x12, hF⟩ := h
  refine ⟨?_, ?_, ?_, ?_, ?_, ?_, ?_, ?_, ?_, ?_, fun i hq => ?_, fun i hq => ?_, fun i hq => ?_, hF.up (by omega)⟩
  · exact x0
  · exact x1
  · exact x2
  · exact x3
  · rw [up_ne (by omega)]; exact x4
  · rw [up_ne (by omega)]; exact x5
  · rw [up_ne (by omega)]; exact x6
  · rw [up_ne (by omega)]; exact x7
  · rw [up_ne (by omega)]; exact x8
  · rw [up_s, hx]
  · rw [up_ne (by omega)]; exact x10 i hq
  · rw [up_ne (by omega)]; exact x11 i hq
  · rw [up_ne (by omega)]; exact x12 i hq
theorem TM.p_sg {τ : TY} {M0 M : ME} {t : Nat} {sg : Nat → Nat} {tp : Nat} {ln : Nat} {lt : Nat} {σ : Nat → Nat} {st : Nat → Int32} {vl : Nat → Int64} (h : TM τ M0 M t sg tp ln lt σ st vl) {n : Nat} {i0 : Nat} (hi0 : i0 < 401) : TM τ M0 (up M (t + 1) (i0) (.ref (sg n))) t sg tp ln lt (u1 σ i0 n) st vl := by
  obtain ⟨x0, x1, x2, x3, x4, x5, x6, x7, x8, x9, x10, x11, x12, hF⟩ := h
  refine ⟨?_, ?_, ?_, ?_, ?_, ?_, ?_, ?_, ?_, ?_, fun i hq => ?_, fun i hq => ?_, fun i hq => ?_, hF.up (by omega)⟩
  · exact x0
  · exact x1
  · exact x2
  · exact x3
  · rw [up_ne (by omega)]; exact x4
  · rw [up_ne (by omega)]; exact x5
  · rw [up_ne (by omega)]; exact x6
  · rw [up_ne (by omega)]; exact x7
  · rw [up_ne (by omega)]; exact x8
  · rw [up_ne (by omega)]; exact x9
  · by_cases e : i = i0
    · subst e; rw [up_s, u1_s]
    · rw [up_ne (by omega)]; rw [u1_i e]; exact x10 i hq
  · rw [up_ne (by omega)]; exact x11 i hq
  · rw [up_ne (by omega)]; exact x12 i hq
theorem TM.p_st {τ : TY} {M0 M : ME} {t : Nat} {sg : Nat → Nat} {tp : Nat} {ln : Nat} {lt : Nat} {σ : Nat → Nat} {st : Nat → Int32} {vl : Nat → Int64} (h : TM τ M0 M t sg tp ln lt σ st vl) {x : Int32} {i0 : Nat} (hi0 : i0 < 401) : TM τ M0 (up M (t + 2) (i0) (.int x)) t sg tp ln lt σ (uI st i0 x) vl := by
  obtain ⟨x0, x1, x2, x3, x4, x5, x6, x7, x8, x9, x10, x11, x12, hF⟩ := h
  refine ⟨?_, ?_, ?_, ?_, ?_, ?_, ?_, ?_, ?_, ?_, fun i hq => ?_, fun i hq => ?_, fun i hq => ?_, hF.up (by omega)⟩
  · exact x0
  · exact x1
  · exact x2
  · exact x3
  · rw [up_ne (by omega)]; exact x4
  · rw [up_ne (by omega)]; exact x5
  · rw [up_ne (by omega)]; exact x6
  · rw [up_ne (by omega)]; exact x7
  · rw [up_ne (by omega)]; exact x8
  · rw [up_ne (by omega)]; exact x9
  · rw [up_ne (by omega)]; exact x10 i hq
  · by_cases e : i = i0
    · subst e; rw [up_s, uI_s]
    · rw [up_ne (by omega)]; rw [uI_i e]; exact x11 i hq
  · rw [up_ne (by omega)]; exact x12 i hq
theorem TM.p_vl {τ : TY} {M0 M : ME} {t : Nat} {sg : Nat → Nat} {tp : Nat} {ln : Nat} {lt : Nat} {σ : Nat → Nat} {st : Nat → Int32} {vl : Nat → Int64} (h : TM τ M0 M t sg tp ln lt σ st vl) {x : Int64} {i0 : Nat} (hi0 : i0 < 401) : TM τ M0 (up M (t + 3) (i0) (.long x)) t sg tp ln lt σ st (uL vl i0 x) := by
  obtain ⟨x0, x1, x2, x3, x4, x5, x6, x7, x8, x9, x10, x11, x12, hF⟩ := h
  refine ⟨?_, ?_, ?_, ?_, ?_, ?_, ?_, ?_, ?_, ?_, fun i hq => ?_, fun i hq => ?_, fun i hq => ?_, hF.up (by omega)⟩
  · exact x0
  · exact x1
  · exact x2
  · exact x3
  · rw [up_ne (by omega)]; exact x4
  · rw [up_ne (by omega)]; exact x5
  · rw [up_ne (by omega)]; exact x6
  · rw [up_ne (by omega)]; exact x7
  · rw [up_ne (by omega)]; exact x8
  · rw [up_ne (by omega)]; exact x9
  · rw [up_ne (by omega)]; exact x10 i hq
  · rw [up_ne (by omega)]; exact x11 i hq
  · by_cases e : i = i0
    · subst e; rw [up_s, uL_s]
    · rw [up_ne (by omega)]; rw [uL_i e]; exact x12 i hq

