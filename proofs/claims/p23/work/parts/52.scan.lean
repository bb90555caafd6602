section TQ
variable {l : Launch} {D : va_G} {cA : Nat → ClassId} {n0 : Nat} {XW : State → Heap → Prop} {nm : MI} {d bk bn sz : Nat} {τ : TY} {M : ME} {Q : QT} {QX : QXT} {ls st : List Value} {pc pc' idx : Nat}
/-- an element of a constant array of objects -/
theorem T_tq {C : String} {a N : Nat} {f : Nat → Value} {i : Int32} {v : Value} (j : Nat) (hT : ∀ (U : State) (H : Heap), XW U H → va_T (.object C) a N f (AA n0) U H) (hi : i = nI j) (hj : j < N) (hn : N < 2 ^ 31) (hv : f j = v) (hd : decode nm.cc pc = .ok (.aaload, 1)) (hp : pc + 1 = pc')
    (k : T l D cA n0 XW nm d bk bn sz τ M pc' ls (v :: st) Q QX) : T l D cA n0 XW nm d bk bn sz τ M pc ls (.int i :: .ref a :: st) Q QX := by
  subst hp
  intro p e R s m args below meth c H locs cells slots mc ms la X Y hR hS g1 g2 hL r1 r2 r3
  obtain ⟨hx, hbc, hml, -, hown, hSW, -⟩ := id Y
  obtain ⟨y1, y2⟩ := nI_in' hi hj hn
  exact vb_tq hx hbc (hT _ _ hSW.2.2) hS y1 (by rw [y2]; exact hv) hd (k p e R s m args below meth c H locs cells slots mc ms la X Y hR hS g1 g2 hL r1 r2 r3)
end TQ
/-- the word, the number, the sign at p -/
def wdE (B : Nat → Nat) (ln p : Nat) : Nat := if 10 < rn ldB B ln p - p then p else rn ldB B ln p
def nbE (B : Nat → Nat) (ln p : Nat) : Nat := if 6 < rn dgB B ln p - p then p else rn dgB B ln p
def seE (B : Nat → Nat) (p : Nat) : Nat → Nat
  | 0 => p
  | k + 1 => if kwF B p (k + 1) = 43 then seE B p k else p + (k + 1)
def seK (B : Nat → Nat) (p : Nat) : Nat → Nat
  | 0 => 43
  | k + 1 => if kwF B p (k + 1) = 43 then seK B p k else kwF B p (k + 1)
def syn (ln p : Nat) : Nat := if p + 2 ≤ ln then 2 else 1
def syE (B : Nat → Nat) (ln p : Nat) : Nat := seE B p (syn ln p)
def syK (B : Nat → Nat) (ln p : Nat) : Nat := seK B p (syn ln p)
def tkE (B : Nat → Nat) (ln p : Nat) : Nat := if ltB (B p) = true then wdE B ln p else if dgB (B p) = true then nbE B ln p else syE B ln p
def tkK (B : Nat → Nat) (ln p : Nat) : Nat := if ltB (B p) = true then kwF B p (rn ldB B ln p - p) else if dgB (B p) = true then 44 else syK B ln p
def tkV (B : Nat → Nat) (ln p : Nat) : Int64 := if ltB (B p) = true then Int64.ofNat (cN B p (rn ldB B ln p - p)) else Int64.ofNat (nN B p (rn dgB B ln p - p))
def tkS (B : Nat → Nat) (ln p k : Nat) (σ : Nat → Nat) : Nat → Nat := if tkE B ln p = p then σ else u1 σ k (tkK B ln p)
def tkL (B : Nat → Nat) (ln p k : Nat) (vl : Nat → Int64) : Nat → Int64 := if tkE B ln p = p ∨ ¬ (ltB (B p) = true ∨ dgB (B p) = true) then vl else uL vl k (tkV B ln p)
theorem kwG_48 {B : Nat → Nat} {p n : Nat} : ∀ k i, i + k = 48 → kwG B p n i k < 48
  | 0, i, h => by show 43 < 48; omega
  | k + 1, i, h => by
    rw [kwG]; split
    · omega
    · exact kwG_48 k (i + 1) (by omega)
theorem kwF_48 {B : Nat → Nat} {p n : Nat} : kwF B p n < 48 := kwG_48 48 0 rfl
theorem kwG_0 {B : Nat → Nat} {p n k : Nat} (hk : 48 ≤ k) : kwG B p n k (48 - k) = 43 := by rw [show 48 - k = 0 by omega]; rfl
theorem rn_cases {P : Nat → Bool} {B : Nat → Nat} {ln p : Nat} (h : p < ln) (h2 : P (B p) = true) : p < rn P B ln p := by rw [rn_y h h2]; exact rn_ge
set_option maxHeartbeats 1000000 in
theorem c_X9_isLetter {l : Launch} {D : va_G} {cA : Nat → ClassId} {n0 : Nat} {sg adK adV : Nat → Nat} {sgA smA wdA bS LS : Nat} {xs : Nat → Int32} (hX : SF n0 (XW0 sg adK adV sgA smA wdA n0 bS LS xs)) {sz : Nat} {τ : TY} {M : ME} (v : Int32) : CT l D cA n0 (XW0 sg adK adV sgA smA wdA n0 bS LS xs) mX9_isLetter 1 0 0 sz τ M [.int v] (ROq (.int (iiF v 97 122)) sz τ M) := by
  refine CT.of (ls := [.int v]) (by decide) (Nat.le_of_ble_eq_true rfl) rfl ?_
  refine T_iload0 dX9_isLetter_0 rfl ?_
  refine T_bipush (97) dX9_isLetter_1 rfl rfl ?_
  refine T_icmp_lt 16 6 dX9_isLetter_3 (by decide) rfl (fun c2 => ?_) (fun c2 => ?_)
  ·
    refine T_iconst (0) dX9_isLetter_16 rfl rfl ?_
    refine T_iret rfl rfl dX9_isLetter_17 ?_
    refine ⟨congrArg (fun z => some (Value.int z)) ?_, rfl, rfl, rfl⟩
    first | (refine (if_neg ?_).symm; exact fun q => Int32.not_le.mpr c2 q.1) | (refine (if_neg ?_).symm; exact fun q => Int32.not_le.mpr c7 q.2) | (refine (if_pos ?_).symm; exact And.intro (Int32.not_lt.mp c2) (Int32.not_lt.mp c7))
  ·
    refine T_iload0 dX9_isLetter_6 rfl ?_
    refine T_bipush (122) dX9_isLetter_7 rfl rfl ?_
    refine T_icmp_gt 16 12 dX9_isLetter_9 (by decide) rfl (fun c7 => ?_) (fun c7 => ?_)
    ·
      refine T_iconst (0) dX9_isLetter_16 rfl rfl ?_
      refine T_iret rfl rfl dX9_isLetter_17 ?_
      refine ⟨congrArg (fun z => some (Value.int z)) ?_, rfl, rfl, rfl⟩
      first | (refine (if_neg ?_).symm; exact fun q => Int32.not_le.mpr c2 q.1) | (refine (if_neg ?_).symm; exact fun q => Int32.not_le.mpr c7 q.2) | (refine (if_pos ?_).symm; exact And.intro (Int32.not_lt.mp c2) (Int32.not_lt.mp c7))
    ·
      refine T_iconst (1) dX9_isLetter_12 rfl rfl ?_
      refine T_goto 17 dX9_isLetter_13 (by decide) ?_
      refine T_iret rfl rfl dX9_isLetter_17 ?_
      refine ⟨congrArg (fun z => some (Value.int z)) ?_, rfl, rfl, rfl⟩
      first | (refine (if_neg ?_).symm; exact fun q => Int32.not_le.mpr c2 q.1) | (refine (if_neg ?_).symm; exact fun q => Int32.not_le.mpr c7 q.2) | (refine (if_pos ?_).symm; exact And.intro (Int32.not_lt.mp c2) (Int32.not_lt.mp c7))
set_option maxHeartbeats 1000000 in
theorem c_X9_isDigit {l : Launch} {D : va_G} {cA : Nat → ClassId} {n0 : Nat} {sg adK adV : Nat → Nat} {sgA smA wdA bS LS : Nat} {xs : Nat → Int32} (hX : SF n0 (XW0 sg adK adV sgA smA wdA n0 bS LS xs)) {sz : Nat} {τ : TY} {M : ME} (v : Int32) : CT l D cA n0 (XW0 sg adK adV sgA smA wdA n0 bS LS xs) mX9_isDigit 1 0 0 sz τ M [.int v] (ROq (.int (iiF v 48 57)) sz τ M) := by
  refine CT.of (ls := [.int v]) (by decide) (Nat.le_of_ble_eq_true rfl) rfl ?_
  refine T_iload0 dX9_isDigit_0 rfl ?_
  refine T_bipush (48) dX9_isDigit_1 rfl rfl ?_
  refine T_icmp_lt 16 6 dX9_isDigit_3 (by decide) rfl (fun c2 => ?_) (fun c2 => ?_)
  ·
    refine T_iconst (0) dX9_isDigit_16 rfl rfl ?_
    refine T_iret rfl rfl dX9_isDigit_17 ?_
    refine ⟨congrArg (fun z => some (Value.int z)) ?_, rfl, rfl, rfl⟩
    first | (refine (if_neg ?_).symm; exact fun q => Int32.not_le.mpr c2 q.1) | (refine (if_neg ?_).symm; exact fun q => Int32.not_le.mpr c7 q.2) | (refine (if_pos ?_).symm; exact And.intro (Int32.not_lt.mp c2) (Int32.not_lt.mp c7))
  ·
    refine T_iload0 dX9_isDigit_6 rfl ?_
    refine T_bipush (57) dX9_isDigit_7 rfl rfl ?_
    refine T_icmp_gt 16 12 dX9_isDigit_9 (by decide) rfl (fun c7 => ?_) (fun c7 => ?_)
    ·
      refine T_iconst (0) dX9_isDigit_16 rfl rfl ?_
      refine T_iret rfl rfl dX9_isDigit_17 ?_
      refine ⟨congrArg (fun z => some (Value.int z)) ?_, rfl, rfl, rfl⟩
      first | (refine (if_neg ?_).symm; exact fun q => Int32.not_le.mpr c2 q.1) | (refine (if_neg ?_).symm; exact fun q => Int32.not_le.mpr c7 q.2) | (refine (if_pos ?_).symm; exact And.intro (Int32.not_lt.mp c2) (Int32.not_lt.mp c7))
    ·
      refine T_iconst (1) dX9_isDigit_12 rfl rfl ?_
      refine T_goto 17 dX9_isDigit_13 (by decide) ?_
      refine T_iret rfl rfl dX9_isDigit_17 ?_
      refine ⟨congrArg (fun z => some (Value.int z)) ?_, rfl, rfl, rfl⟩
      first | (refine (if_neg ?_).symm; exact fun q => Int32.not_le.mpr c2 q.1) | (refine (if_neg ?_).symm; exact fun q => Int32.not_le.mpr c7 q.2) | (refine (if_pos ?_).symm; exact And.intro (Int32.not_lt.mp c2) (Int32.not_lt.mp c7))
set_option maxHeartbeats 1000000 in
theorem L_X9_isText {l : Launch} {D : va_G} {cA : Nat → ClassId} {n0 : Nat} {sg adK adV : Nat → Nat} {sgA smA wdA bS LS : Nat} {xs : Nat → Int32} (hX : SF n0 (XW0 sg adK adV sgA smA wdA n0 bS LS xs)) {sz : Nat} {τ : TY} {M0 N0 M : ME} {t tp ln lt : Nat} {B : Nat → Nat} {σ : Nat → Nat} {st : Nat → Int32} {vl : Nat → Int64} (hT : TM τ M0 M t sg tp ln lt σ st vl) (hB : BM τ N0 M tp B) (hB8 : ∀ i, B i < 256) (hl2 : ln ≤ 2000) {i p n2 : Nat} (hi : i < 95) (hp : p + n2 ≤ ln) (hn9 : stL.getD i 0 = n2) : ∀ (n : Nat) (k : Nat) (hk : k ≤ n2) (hq : ∀ j, j < k → chF i j = sx (B (p + j))), n2 - k < n → T l D cA n0 (XW0 sg adK adV sgA smA wdA n0 bS LS xs) mX9_isText 5 0 0 sz τ M 15 [.ref t, .ref (adK i), .int (nI p), .int (nI (p + n2)), .int (nI k)] [] (ROq (.int (if txQ B i p n2 = true then 1 else 0)) sz τ M) (fun _ _ _ _ => False) := by
  intro n
  induction n with
  | zero => intros; omega
  | succ n ih =>
    intro k hk hq hn
    refine T_iload4 dX9_isText_15 rfl ?_
    refine T_aload1 dX9_isText_17 rfl ?_
    refine T_cV0 (c_J0_length_8abf5 hX hi) hX k9_95 (Or.inr (fun _ _ h => (h.2.1 i hi).1)) (by decide) (Nat.le_of_ble_eq_true rfl) dX9_isText_18 rfl ?_
    rintro _ _ _ _ ⟨rfl, rfl, rfl, rfl⟩
    rw [hn9]
    refine T_icmp_ge 50 24 dX9_isText_21 (by decide) rfl (fun c7 => ?_) (fun c7 => ?_)
    ·
      have c7 := (nI_leI (by omega) (by omega)).mp c7
      refine T_iconst (1) dX9_isText_50 rfl rfl ?_
      refine T_iret rfl rfl dX9_isText_51 ?_
      exact ⟨congrArg (fun z => some (Value.int z)) (by rw [if_pos (txQ_iff.mpr ⟨hn9, fun j hj => hq j (by omega)⟩)]), rfl, rfl, rfl⟩
    ·
      have c7 := Nat.lt_of_not_le (fun q => c7 ((nI_leI (by omega) (by omega)).mpr q))
      refine T_aload1 dX9_isText_24 rfl ?_
      refine T_iload4 dX9_isText_25 rfl ?_
      refine T_cV1 (c_J0_charAt_5068e hX hi (j := k) (by omega)) hX k9_100 (Or.inr (fun _ _ h => (h.2.1 i hi).1)) (by decide) (Nat.le_of_ble_eq_true rfl) dX9_isText_27 rfl ?_
      rintro _ _ _ _ ⟨rfl, rfl, rfl, rfl⟩
      refine T_aload0 dX9_isText_30 rfl ?_
      refine g9_33 _ rfl (hT.t_t) (hT.g_tp) dX9_isText_31 rfl ?_
      refine T_iload2 dX9_isText_34 rfl ?_
      refine T_iload4 dX9_isText_35 rfl ?_
      refine T_iadd dX9_isText_37 rfl ?_
      refine T_bald _ (hB.t_tp) (nI_add _ _) (by omega) (by decide) dX9_isText_38 rfl (hB.g_by (by omega)) ?_
      refine T_icmp_eq 44 42 dX9_isText_39 (by decide) rfl (fun c39 => ?_) (fun c39 => ?_)
      ·
        first | refine T_iinc4 rfl (by decide) dX9_isText_44 rfl (inc1 _) ?_ | refine T_iinc4 rfl (by decide) dX9_isText_44 rfl rfl ?_
        refine T_goto 15 dX9_isText_47 (by decide) ?_
        exact ih (k + 1) (by omega) (fun j hj => (Nat.lt_succ_iff_lt_or_eq.mp hj).elim (hq j) (fun e => by subst e; exact c39)) (by omega)
      ·
        refine T_iconst (0) dX9_isText_42 rfl rfl ?_
        refine T_iret rfl rfl dX9_isText_43 ?_
        exact ⟨congrArg (fun z => some (Value.int z)) (by rw [if_neg (fun q => c39 ((txQ_iff.mp q).2 k c7))]), rfl, rfl, rfl⟩
set_option maxHeartbeats 1000000 in
theorem c_X9_isText {l : Launch} {D : va_G} {cA : Nat → ClassId} {n0 : Nat} {sg adK adV : Nat → Nat} {sgA smA wdA bS LS : Nat} {xs : Nat → Int32} (hX : SF n0 (XW0 sg adK adV sgA smA wdA n0 bS LS xs)) {sz : Nat} {τ : TY} {M0 N0 M : ME} {t tp ln lt : Nat} {B : Nat → Nat} {σ : Nat → Nat} {st : Nat → Int32} {vl : Nat → Int64} (hT : TM τ M0 M t sg tp ln lt σ st vl) (hB : BM τ N0 M tp B) (hB8 : ∀ i, B i < 256) (hl2 : ln ≤ 2000) {i p n2 : Nat} (hi : i < 95) (hp : p + n2 ≤ ln) : CT l D cA n0 (XW0 sg adK adV sgA smA wdA n0 bS LS xs) mX9_isText 5 0 0 sz τ M [.ref t, .ref (adK i), .int (nI p), .int (nI (p + n2))] (ROq (.int (if txQ B i p n2 = true then 1 else 0)) sz τ M) := by
  refine CT.of (ls := [.ref t, .ref (adK i), .int (nI p), .int (nI (p + n2)), UU]) (by decide) (Nat.le_of_ble_eq_true rfl) rfl ?_
  have h64 := stL_64 i hi
  refine T_aload1 dX9_isText_0 rfl ?_
  refine T_cV0 (c_J0_length_8abf5 hX hi) hX k9_95 (Or.inr (fun _ _ h => (h.2.1 i hi).1)) (by decide) (Nat.le_of_ble_eq_true rfl) dX9_isText_1 rfl ?_
  rintro _ _ _ _ ⟨rfl, rfl, rfl, rfl⟩
  refine T_iload3 dX9_isText_4 rfl ?_
  refine T_iload2 dX9_isText_5 rfl ?_
  refine T_isub dX9_isText_6 rfl ?_
  rw [nI_sub (by omega) (by omega), show p + n2 - p = n2 by omega]
  refine T_icmp_eq 12 10 dX9_isText_7 (by decide) rfl (fun c7 => ?_) (fun c7 => ?_)
  ·
    have c7 := (nI_eq (by omega) (by omega)).mp c7
    refine T_iconst (0) dX9_isText_12 rfl rfl ?_
    refine T_istore4 rfl (by decide) dX9_isText_13 rfl ?_
    exact L_X9_isText hX hT hB hB8 hl2 hi hp c7 (n2 + 1) 0 (Nat.zero_le _) (fun _ h => absurd h (Nat.not_lt_zero _)) (by omega)
  ·
    have c7 : ¬ stL.getD i 0 = n2 := fun q => c7 (congrArg nI q)
    refine T_iconst (0) dX9_isText_10 rfl rfl ?_
    refine T_iret rfl rfl dX9_isText_11 ?_
    exact ⟨congrArg (fun z => some (Value.int z)) (by rw [if_neg (fun q => c7 (txQ_iff.mp q).1)]), rfl, rfl, rfl⟩
set_option maxHeartbeats 1000000 in
theorem L_X9_keywordOrName {l : Launch} {D : va_G} {cA : Nat → ClassId} {n0 : Nat} {sg adK adV : Nat → Nat} {sgA smA wdA bS LS : Nat} {xs : Nat → Int32} (hX : SF n0 (XW0 sg adK adV sgA smA wdA n0 bS LS xs)) {sz : Nat} {τ : TY} {M0 N0 M : ME} {t tp ln lt : Nat} {B : Nat → Nat} {σ : Nat → Nat} {st : Nat → Int32} {vl : Nat → Int64} (hT : TM τ M0 M t sg tp ln lt σ st vl) (hB : BM τ N0 M tp B) (hB8 : ∀ i, B i < 256) (hl2 : ln ≤ 2000) {p n2 : Nat} (hp : p + n2 ≤ ln) : ∀ (n : Nat) (k : Nat) (hk : k ≤ 48), 48 - k < n → T l D cA n0 (XW0 sg adK adV sgA smA wdA n0 bS LS xs) mX9_keywordOrName 6 0 0 sz τ M 2 [.ref t, .int (nI p), .int (nI (p + n2)), .int (nI k)] [] (ROq (.ref (sg (kwG B p n2 k (48 - k)))) sz τ M) (fun _ _ _ _ => False) := by
  intro n
  induction n with
  | zero => intros; omega
  | succ n ih =>
    intro k hk hn
    refine T_iload3 dX9_keywordOrName_2 rfl ?_
    refine T_gets (v := .ref sgA) (fun _ _ h => h.2.2.1.1) ks9_81 dX9_keywordOrName_3 rfl ?_
    refine T_tlen (fun _ _ h => h.2.2.1.2.1) dX9_keywordOrName_6 rfl ?_
    refine T_icmp_ge 39 10 dX9_keywordOrName_7 (by decide) rfl (fun c7 => ?_) (fun c7 => ?_)
    ·
      have c7 := (nI_leI (by omega) (by omega)).mp c7
      refine T_sgn (i := 43) (by decide) ks9_92 dX9_keywordOrName_39 rfl ?_
      refine T_aret rfl dX9_keywordOrName_42 ?_
      refine ⟨congrArg (fun z => some (Value.ref z)) ?_, rfl, rfl, rfl⟩
      rw [kwG_0 c7]
    ·
      have c7 := Nat.lt_of_not_le (fun q => c7 ((nI_leI (by omega) (by omega)).mpr q))
      refine T_aload0 dX9_keywordOrName_10 rfl ?_
      refine T_gets (v := .ref sgA) (fun _ _ h => h.2.2.1.1) ks9_81 dX9_keywordOrName_11 rfl ?_
      refine T_iload3 dX9_keywordOrName_14 rfl ?_
      refine T_tq k (fun _ _ h => h.2.2.1.2.1) rfl c7 (by decide) rfl dX9_keywordOrName_15 rfl ?_
      refine T_txt (by omega) kf9_84 dX9_keywordOrName_16 rfl ?_
      refine T_iload1 dX9_keywordOrName_19 rfl ?_
      refine T_iload2 dX9_keywordOrName_20 rfl ?_
      refine T_cV3 (c_X9_isText hX hT hB hB8 hl2 (sgT_76 k c7) hp) hX k9_88 (Or.inl ⟨_, _, _, _, (hT.t_t), by decide, rfl⟩) (by decide) (Nat.le_of_ble_eq_true rfl) dX9_keywordOrName_21 rfl ?_
      rintro _ _ _ _ ⟨rfl, rfl, rfl, rfl⟩
      refine T_if_eq 33 27 dX9_keywordOrName_24 (by decide) rfl (fun c24 => ?_) (fun c24 => ?_)
      ·
        first | refine T_iinc3 rfl (by decide) dX9_keywordOrName_33 rfl (inc1 _) ?_ | refine T_iinc3 rfl (by decide) dX9_keywordOrName_33 rfl rfl ?_
        refine T_goto 2 dX9_keywordOrName_36 (by decide) ?_
        rw [kwG_n c7 (fun q => by rw [if_pos q] at c24; exact absurd c24 (by decide))]
        exact ih (k + 1) (by omega) (by omega)
      ·
        refine T_gets (v := .ref sgA) (fun _ _ h => h.2.2.1.1) ks9_81 dX9_keywordOrName_27 rfl ?_
        refine T_iload3 dX9_keywordOrName_30 rfl ?_
        refine T_tq k (fun _ _ h => h.2.2.1.2.1) rfl c7 (by decide) rfl dX9_keywordOrName_31 rfl ?_
        refine T_aret rfl dX9_keywordOrName_32 ?_
        refine ⟨congrArg (fun z => some (Value.ref z)) ?_, rfl, rfl, rfl⟩
        rw [kwG_y c7 (Decidable.byContradiction fun q => c24 (if_neg q))]
set_option maxHeartbeats 1000000 in
theorem c_X9_keywordOrName {l : Launch} {D : va_G} {cA : Nat → ClassId} {n0 : Nat} {sg adK adV : Nat → Nat} {sgA smA wdA bS LS : Nat} {xs : Nat → Int32} (hX : SF n0 (XW0 sg adK adV sgA smA wdA n0 bS LS xs)) {sz : Nat} {τ : TY} {M0 N0 M : ME} {t tp ln lt : Nat} {B : Nat → Nat} {σ : Nat → Nat} {st : Nat → Int32} {vl : Nat → Int64} (hT : TM τ M0 M t sg tp ln lt σ st vl) (hB : BM τ N0 M tp B) (hB8 : ∀ i, B i < 256) (hl2 : ln ≤ 2000) {p n2 : Nat} (hp : p + n2 ≤ ln) : CT l D cA n0 (XW0 sg adK adV sgA smA wdA n0 bS LS xs) mX9_keywordOrName 6 0 0 sz τ M [.ref t, .int (nI p), .int (nI (p + n2))] (ROq (.ref (sg (kwF B p n2))) sz τ M) := by
  refine CT.of (ls := [.ref t, .int (nI p), .int (nI (p + n2)), UU]) (by decide) (Nat.le_of_ble_eq_true rfl) rfl ?_
  refine T_iconst (0) dX9_keywordOrName_0 rfl rfl ?_
  refine T_istore3 rfl (by decide) dX9_keywordOrName_1 rfl ?_
  exact L_X9_keywordOrName hX hT hB hB8 hl2 hp 49 0 (Nat.zero_le _) (by omega)

