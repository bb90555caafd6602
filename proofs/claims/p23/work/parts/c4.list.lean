theorem kF_s (Δ : Nat → Nat → Nat) (f i : Nat) : kF Δ f i f = i := by unfold kF; rw [if_neg (Nat.lt_irrefl f), if_pos rfl]
theorem kF_r (Δ : Nat → Nat → Nat) (f i g : Nat) : kF Δ f (i + 1) g = if g = f then i + 1 else kF Δ f i g := by
  unfold kF
  by_cases h : g = f
  · subst h; rw [if_neg (Nat.lt_irrefl g), if_pos rfl, if_pos rfl]
  · rw [if_neg h, if_neg h, if_neg h]
theorem kF_nx (Δ : Nat → Nat → Nat) {f i : Nat} (h : i = Δ 0 f) (g : Nat) : kF Δ (f + 1) 0 g = kF Δ f i g := by
  unfold kF
  by_cases h1 : g < f
  · rw [if_pos (by omega), if_pos h1]
  · by_cases h2 : g = f
    · subst h2; rw [if_pos (by omega), if_neg h1, if_pos rfl, h]
    · rw [if_neg (by omega), if_neg h1, if_neg h2]; split <;> rfl
theorem kF_0 (Δ : Nat → Nat → Nat) {f i : Nat} : kF Δ f i (f + 1) = 0 := by unfold kF; rw [if_neg (by omega), if_neg (by omega)]
theorem kF_00 (Δ : Nat → Nat → Nat) {g : Nat} (h : 3 ≤ g) : kF Δ 3 0 g = 0 := by
  unfold kF; rw [if_neg (by omega)]; split <;> rfl
theorem kF_e (Δ : Nat → Nat → Nat) {i g : Nat} (h : i = Δ 0 7) (h8 : g < 8) : Δ 0 g = kF Δ 7 i g := by
  unfold kF
  by_cases e : g < 7
  · rw [if_pos e]
  · have e2 : g = 7 := by omega
    subst e2
    rw [if_neg e, if_pos rfl, h]
theorem VV_f {Δ : Nat → Nat → Nat} {i : Nat} (cs : ¬ Δ 12 i < 3) (q r s : Nat) : (if (q = 6 ∧ r = i) ∧ s = 4 then nI (Δ 12 i) - 3 else VL Δ q r s) = VL Δ q r s := by
  by_cases z : (q = 6 ∧ r = i) ∧ s = 4
  · obtain ⟨⟨rfl, rfl⟩, rfl⟩ := z
    exact (if_pos ⟨⟨rfl, rfl⟩, rfl⟩).trans (if_neg cs).symm
  · exact if_neg z
theorem VV_t {Δ : Nat → Nat → Nat} {i : Nat} (cs : Δ 12 i < 3) (q r s : Nat) : (if (q = 6 ∧ r = i) ∧ s = 4 then -1 else if (q = 6 ∧ r = i) ∧ s = 4 then nI (Δ 12 i) - 3 else VL Δ q r s) = VL Δ q r s := by
  by_cases z : (q = 6 ∧ r = i) ∧ s = 4
  · obtain ⟨⟨rfl, rfl⟩, rfl⟩ := z
    exact (if_pos ⟨⟨rfl, rfl⟩, rfl⟩).trans (if_pos cs).symm
  · exact (if_neg z).trans (if_neg z)
theorem hn_nx {Δ : Nat → Nat → Nat} {nn : Nat → Nat} {f : Nat} (h : ∀ g, 3 ≤ g → g ≤ f → nn g = Δ 0 g) : ∀ g, 3 ≤ g → g ≤ f + 1 → (fun q => if q = f + 1 then Δ 0 (f + 1) else nn q) g = Δ 0 g := fun g h1 h2 => by
  show (if g = f + 1 then Δ 0 (f + 1) else nn g) = _
  by_cases e : g = f + 1
  · rw [if_pos e, e]
  · rw [if_neg e]; exact h g h1 (by omega)
theorem mn5 {a : Nat} (h : a < 2 ^ 30) : (if nI a < 5 then nI a else 5) = nI (min 5 a) := by
  have e : (5 : Int32) = nI 5 := rfl
  by_cases c : nI a < 5
  · rw [if_pos c]
    have := (nI_ltI (a := a) (b := 5) (by omega) (by omega)).mp c
    rw [Nat.min_eq_right (by omega)]
  · rw [if_neg c]
    have : ¬ a < 5 := fun q => c ((nI_ltI (a := a) (b := 5) (by omega) (by omega)).mpr q)
    rw [Nat.min_eq_left (by omega)]; rfl
section ROWFR
variable {τ : TY} {M M2 : ME} {j sz : Nat} {A n k : Nat → Nat} {Rw : Nat → Nat → Nat} {V : Nat → Nat → Nat → Int32} {b v cap v0 f i : Nat} {tx : List Nat} {kd : KD} {x : Value} {s0 : Nat} {τ0 : TY} {M0 : ME}
theorem PF.rowB (hP : PF τ M j sz A n k Rw V) (h3 : 3 ≤ f) (h8 : f < 8) (hB : SBt τ M b v cap tx) (hb : b < sz) (hv : v < sz) (hM : ∀ q, q < sz → M2 q = M q) : SBt (tyN τ sz kd) (up M2 (A f) i x) b v cap tx :=
  hB.fr ⟨tyN_n (by omega), tyN_n (by omega)⟩ ⟨by rw [up_a (kne hB.tb (hP.ta h3 h8) (by simp)), hM b hb], by rw [up_a (kne hB.tv (hP.ta h3 h8) (by simp)), hM v hv]⟩
theorem PF.rowA (hP : PF τ M j sz A n k Rw V) (h3 : 3 ≤ f) (h8 : f < 8) (hA : AP j τ0 M0 b v0 sz τ M v) (hM : ∀ q, q < sz → M2 q = M q) : AP j τ0 M0 b v0 (sz + 1) (tyN τ sz kd) (up M2 (A f) i x) v := by
  have := hP.ina h3 h8
  have hj := hP.je
  exact hA.wr (by omega) (fun q hq => tyN_n (by omega)) (fun q hq => by rw [up_a (by omega), hM q (by omega)])
theorem PF.arrB {g : Nat → Value} (hP : PF τ M j sz A n k Rw V) (hB : SBt τ M b v cap tx) (hb : b < sz) (hv : v < sz) : SBt (tyN τ sz kd) (up (meN M sz g) j f x) b v cap tx :=
  hB.fr ⟨tyN_n (by omega), tyN_n (by omega)⟩ ⟨by rw [up_a (kne hB.tb hP.t0 (by simp)), meN_n (by omega)], by rw [up_a (kne hB.tv hP.t0 (by simp)), meN_n (by omega)]⟩
theorem PF.arrA {g : Nat → Value} (hP : PF τ M j sz A n k Rw V) (hA : AP j τ0 M0 b v0 sz τ M v) : AP j τ0 M0 b v0 (sz + 1) (tyN τ sz kd) (up (meN M sz g) j f x) v := by
  have hj := hP.je
  exact hA.wr (by omega) (fun q hq => tyN_n (by omega)) (fun q hq => by rw [up_a (by omega), meN_n (by omega)])
theorem PF.cgn {n' : Nat → Nat} (h : PF τ M j sz A n k Rw V) (hn : ∀ f, 3 ≤ f → f < 8 → n f = n' f) : PF τ M j sz A n' k Rw V :=
  ⟨h.1, fun f a b => by rw [← hn f a b]; exact h.2.1 f a b, h.2.2⟩
theorem SBt.old {τ' : TY} {M' : ME} (hB : SBt τ M b v cap tx) (ho : OLD s0 τ M τ' M') (hb : b < s0) (hv : v < s0) : SBt τ' M' b v cap tx := hB.fr ⟨ho.1 b hb, ho.1 v hv⟩ ⟨ho.2 b hb, ho.2 v hv⟩
theorem AP.old {s1 sz' : Nat} {τ' : TY} {M' : ME} (hA : AP s1 τ0 M0 b v0 sz τ M v) (ho : OLD s0 τ M τ' M') (hs : s1 ≤ s0) (h1 : sz ≤ sz') : AP s1 τ0 M0 b v0 sz' τ' M' v :=
  hA.wr h1 (fun q hq => ho.1 q (by omega)) (fun q hq => ho.2 q (by omega))
end ROWFR
/-- what the list leaves -/
def LsQ (Δ : Nat → Nat → Nat) (s0 b v0 : Nat) (τ0 : TY) (M0 : ME) : QT := fun v' sz' τ' M' => ∃ (A : Nat → Nat) (Rw : Nat → Nat → Nat) (v1 cap1 : Nat), v' = some (.ref s0) ∧ PF τ' M' s0 sz' A (Δ 0) (Δ 0) Rw (VL Δ) ∧ SBt τ' M' b v1 cap1 (ltX Δ) ∧ (v1 < sz' ∧ 1 ≤ cap1) ∧ AP s0 τ0 M0 b v0 sz' τ' M' v1
theorem j01 {X : Nat} {p q : Nat} (h : X < 2 ^ 31) (c : nI X = 0) : nI p = nI (if X = 0 then p else q) := by
  rw [if_pos ((nI_eq (a := X) (b := 0) h (by decide)).mp c)]
theorem j02 {X : Nat} {p q : Nat} (c : ¬ nI X = 0) : nI q = nI (if X = 0 then p else q) := by
  rw [if_neg (fun e => c (congrArg nI e))]
theorem k3_ : ∀ k, k < 10 → (nI k - 3 < 0 ↔ k < 3) := by decide
section SETFR
variable {τ : TY} {M : ME} {j sz : Nat} {A n k : Nat → Nat} {Rw : Nat → Nat → Nat} {V : Nat → Nat → Nat → Int32} {b v cap v0 f i c : Nat} {tx : List Nat} {x : Value} {τ0 : TY} {M0 : ME}
theorem PF.setB (hP : PF τ M j sz A n k Rw V) (h3 : 3 ≤ f) (h8 : f < 8) (hi : i < k f) (hB : SBt τ M b v cap tx) : SBt τ (up M (Rw f i) c x) b v cap tx :=
  hB.fr ⟨rfl, rfl⟩ ⟨up_a (kne hB.tb (hP.tr h3 h8 hi) (by simp)), up_a (kne hB.tv (hP.tr h3 h8 hi) (by simp))⟩
theorem PF.setA (hP : PF τ M j sz A n k Rw V) (h3 : 3 ≤ f) (h8 : f < 8) (hi : i < k f) (hA : AP j τ0 M0 b v0 sz τ M v) : AP j τ0 M0 b v0 sz τ (up M (Rw f i) c x) v := by
  have := hP.inr h3 h8 hi
  exact hA.wr (Nat.le_refl _) (fun q hq => rfl) (fun q hq => up_a (by omega))
end SETFR
theorem sk_49 {adK adV : Nat → Nat} {τ : TY} {M : ME} : ST adK adV τ M (adK 49) (adV 49) [119, 97, 105, 116, 32, 104] := stc (by decide) (by decide) (by decide) (by decide)
theorem sc_49 {adK adV : Nat → Nat} : CSt adK adV (adK 49) (adV 49) [119, 97, 105, 116, 32, 104] := stcC (by decide) (by decide) (by decide)
theorem sk_50 {adK adV : Nat → Nat} {τ : TY} {M : ME} : ST adK adV τ M (adK 50) (adV 50) [32, 97, 116, 32, 115] := stc (by decide) (by decide) (by decide) (by decide)
theorem sc_50 {adK adV : Nat → Nat} : CSt adK adV (adK 50) (adV 50) [32, 97, 116, 32, 115] := stcC (by decide) (by decide) (by decide)
theorem sk_30 {adK adV : Nat → Nat} {τ : TY} {M : ME} : ST adK adV τ M (adK 30) (adV 30) [32, 119, 104, 101, 110, 32] := stc (by decide) (by decide) (by decide) (by decide)
theorem sc_30 {adK adV : Nat → Nat} : CSt adK adV (adK 30) (adV 30) [32, 119, 104, 101, 110, 32] := stcC (by decide) (by decide) (by decide)
theorem sk_8 {adK adV : Nat → Nat} {τ : TY} {M : ME} : ST adK adV τ M (adK 8) (adV 8) [59] := stc (by decide) (by decide) (by decide) (by decide)
theorem sc_8 {adK adV : Nat → Nat} : CSt adK adV (adK 8) (adV 8) [59] := stcC (by decide) (by decide) (by decide)
set_option maxHeartbeats 1000000 in
theorem L7_L_list {l : Launch} {D : va_G} {cA : Nat → ClassId} {n0 : Nat} {sg adK adV : Nat → Nat} {sgA smA wdA bS LS : Nat} {xs : Nat → Int32} (hX : SF n0 (XW0 sg adK adV sgA smA wdA n0 bS LS xs)) {s0 b v0 : Nat} {τ0 : TY} {M0 : ME} (hL : LS ≤ 260) (hbs : b < s0) : ∀ (n : Nat) (i : Nat) (sz : Nat) (v : Nat) (cap : Nat) (τ : TY) (M : ME) (A : Nat → Nat) (nn : Nat → Nat) (Rw : Nat → Nat → Nat) (tx : List Nat) (y4 : Value) (y5 : Value) (hnn : ∀ g, 3 ≤ g → g ≤ 7 → nn g = ldX LS xs 0 g) (hi : i ≤ ldX LS xs 0 7) (hP : PF τ M s0 sz A nn (kF (ldX LS xs) 7 i) Rw (VL (ldX LS xs))) (hB : SBt τ M b v cap tx) (hv : v < sz) (hc1 : 1 ≤ cap) (hA0 : AP s0 τ0 M0 b v0 sz τ M v) (htx : tx = (((catF (lnT (ldX LS xs)) (ldX LS xs 0 3) ++ catF (lnH (ldX LS xs)) (ldX LS xs 0 4)) ++ catF (lnG (ldX LS xs)) (ldX LS xs 0 5)) ++ catF (lnK (ldX LS xs)) (ldX LS xs 0 6)) ++ catF (lnW (ldX LS xs)) i), ldX LS xs 0 7 - i < n → T l D cA n0 (XW0 sg adK adV sgA smA wdA n0 bS LS xs) mL_list 13 (70 * (3 - i) + 0) (192100 * (3 - i) + 0)  sz τ M 883 [.ref bS, .ref b, .ref s0, .int (nI i), y4, y5] [] ((LsQ (ldX LS xs) s0 b v0 τ0 M0)) (fun _ _ _ _ => False) := by
  intro n
  induction n with
  | zero => intros; omega
  | succ n ih =>
    intro i sz v cap τ M A nn Rw tx y4 y5 hnn hi hP hB hv hc1 hA0 htx hn
    obtain ⟨⟨o3, o4, o5, o6, o7⟩, ⟨o8, o9, o10⟩, ⟨o11, o12, o13, o14⟩, o15, ⟨o16, o17, o18, o19, o20, o21⟩, ⟨o22, o23, o24, o25, o26⟩⟩ := ldX_ok LS xs
    have q3 : nn 3 = ldX LS xs 0 3 := hnn 3 (by decide) (by decide)
    have q4 : nn 4 = ldX LS xs 0 4 := hnn 4 (by decide) (by decide)
    have q5 : nn 5 = ldX LS xs 0 5 := hnn 5 (by decide) (by decide)
    have q6 : nn 6 = ldX LS xs 0 6 := hnn 6 (by decide) (by decide)
    have q7 : nn 7 = ldX LS xs 0 7 := hnn 7 (by decide) (by decide)
    have k3 := cat_len (lnT_len (ldX LS xs)) (ldX LS xs 0 3)
    have k4 := cat_len (lnH_len (ldX LS xs)) (ldX LS xs 0 4)
    have k5 := cat_len (lnG_len (ldX LS xs)) (ldX LS xs 0 5)
    have k6 := cat_len (lnK_len (ldX LS xs)) (ldX LS xs 0 6)
    have k7 := cat_len (lnW_len (ldX LS xs)) i
    have hlen : tx.length ≤ 42 * 6 + 42 * 5 + 20 * 14 + 90 * 5 + 66 * i := by rw [htx]; (try simp only [List.length_append]); omega
    have dl0 := dg_le2 (ldX LS xs 15 i)
    have dl1 := dg_le2 (ldX LS xs 16 i)
    have bd0 := o22 i
    have bd1 := o23 i
    have bd2 := o24 i
    have bd3 := o25 i
    have bd4 := o26 i
    have st1 := tsT_len (ldX LS xs 17 i) (ldX LS xs 18 i) (ldX LS xs 19 i) (ldX LS xs 0 3) (ldX LS xs 0 4)
    refine T_iload3 dL_list_883 rfl ?_
    refine T_aload2 dL_list_884 rfl ?_
    refine gL_182 _ rfl hP.t0 (hP.pa (f := 7) (by decide) (by decide)) dL_list_885 rfl ?_
    refine T_alen (j := 8) (hP.ta (f := 7) (by decide) (by decide)) (by decide) dL_list_888 rfl ?_
    rw [q7]
    refine T_icmp_ge 1064 892 dL_list_889 (by decide) rfl (fun c889 => ?_) (fun c889 => ?_)
    ·
      have hie : i = ldX LS xs 0 7 := Nat.le_antisymm hi ((nI_leI (by omega) (by omega)).mp c889)
      refine T_aload2 dL_list_1064 rfl ?_
      refine T_aret rfl dL_list_1065 ?_
      rw [htx, hie] at hB
      exact ⟨A, Rw, v, cap, rfl, (hP.cg (k' := ldX LS xs 0) (fun g a b => kF_e _ hie b) (fun _ _ _ _ _ _ _ => rfl)).cgn (fun g a b => hnn g a (by omega)), hB, ⟨hv, hc1⟩, hA0⟩
    ·
      have hlt : i < ldX LS xs 0 7 := Nat.lt_of_not_le (fun q => c889 ((nI_leI (by omega) (by omega)).mpr q))
      refine T_less (bk1 := 70 * (3 - (i + 1)) + 70) (bn1 := 192100 * (3 - (i + 1)) + 192100) (by omega) (by omega) ?_
      refine T_aload0 dL_list_892 rfl ?_
      refine T_bipush (14) dL_list_893 rfl rfl ?_
      refine T_iload3 dL_list_895 rfl ?_
      refine T_iconst (2) dL_list_896 rfl rfl ?_
      refine T_irem dL_list_897 rfl (by decide) ?_
      rw [show nI i - nI i / 2 * 2 = nI (i % 2) from nI_mod (b := 2) (by omega) (by decide)]
      refine T_iadd dL_list_898 rfl ?_
      rw [show (14 : Int32) + nI (i % 2) = nI (14 + i % 2) from nI_add 14 _]
      refine T_cS2 (mc' := 0) (ms' := 0) (c_L_cell hX hL (k := 14 + i % 2) (by omega)) hX kL_114 (by decide) (Nat.le_of_ble_eq_true rfl) dL_list_899 rfl ?_
      rintro _ szq τq Mq ⟨rfl, ea, eb, ec⟩
      obtain rfl := ea.symm
      obtain rfl := eb.symm
      obtain rfl := ec.symm
      refine T_iload3 dL_list_902 rfl ?_
      refine T_bipush (6) dL_list_903 rfl rfl ?_
      refine T_imul dL_list_905 rfl ?_
      rw [show nI i * 6 = nI (i * 6) from nI_mul i 6]
      refine T_ishr dL_list_906 rfl ?_
      rw [show clF LS xs (14 + i % 2) >>> (nI (i * 6) &&& 31) = xWX LS xs i from rfl]
      refine T_istore4 rfl (by decide) dL_list_907 rfl ?_
      refine T_aload2 dL_list_909 rfl ?_
      refine gL_182 _ rfl hP.t0 (hP.pa (f := 7) (by decide) (by decide)) dL_list_910 rfl ?_
      refine T_iload3 dL_list_913 rfl ?_
      refine T_iconst (5) dL_list_914 rfl rfl ?_
      refine T_newa (atype := .int) (N := 5) 0 (fun _ => .int 0) ka_int (by decide) rfl rfl (by decide) rfl dL_list_915 rfl ?_
      refine T_dup dL_list_917 rfl rfl ?_
      refine T_iconst (0) dL_list_918 rfl rfl ?_
      refine T_iload4 dL_list_919 rfl ?_
      refine T_aload2 dL_list_921 rfl ?_
      refine gL_41 (.ref (A 4)) rfl ((tyN_n (Nat.ne_of_lt hP.je)).trans hP.t0) (by (repeat rw [up_a (Nat.ne_of_lt hP.je)]); rw [meN_n (Nat.ne_of_lt hP.je)]; exact hP.pa (f := 4) (by decide) (by decide)) dL_list_922 rfl ?_
      refine T_alen (j := 8) ((tyN_n (Nat.ne_of_lt (hP.ina (f := 4) (by decide) (by decide)).2)).trans (hP.ta (f := 4) (by decide) (by decide))) (by decide) dL_list_925 rfl ?_
      rw [q4]
      refine T_cS2 (mc' := 0) (ms' := 0) (c_L_below hX _ (n := ldX LS xs 0 4) (by omega)) hX kL_120 (by decide) (Nat.le_of_ble_eq_true rfl) dL_list_926 rfl ?_
      rintro _ szq τq Mq ⟨rfl, ea, eb, ec⟩
      obtain rfl := ea.symm
      obtain rfl := eb.symm
      obtain rfl := ec.symm
      refine T_iast 0 (tyN_s _ _ _) rfl (by decide) (by decide) dL_list_929 rfl ?_
      refine T_dup dL_list_930 rfl rfl ?_
      refine T_iconst (1) dL_list_931 rfl rfl ?_
      refine T_iload4 dL_list_932 rfl ?_
      refine T_iconst (4) dL_list_934 rfl rfl ?_
      refine T_ishr dL_list_935 rfl ?_
      refine T_aload2 dL_list_936 rfl ?_
      refine gL_56 (.ref (A 3)) rfl ((tyN_n (Nat.ne_of_lt hP.je)).trans hP.t0) (by (repeat rw [up_a (Nat.ne_of_lt hP.je)]); rw [meN_n (Nat.ne_of_lt hP.je)]; exact hP.pa (f := 3) (by decide) (by decide)) dL_list_937 rfl ?_
      refine T_alen (j := 8) ((tyN_n (Nat.ne_of_lt (hP.ina (f := 3) (by decide) (by decide)).2)).trans (hP.ta (f := 3) (by decide) (by decide))) (by decide) dL_list_940 rfl ?_
      rw [q3]
      refine T_cS2 (mc' := 0) (ms' := 0) (c_L_below hX _ (n := ldX LS xs 0 3) (by omega)) hX kL_120 (by decide) (Nat.le_of_ble_eq_true rfl) dL_list_941 rfl ?_
      rintro _ szq τq Mq ⟨rfl, ea, eb, ec⟩
      obtain rfl := ea.symm
      obtain rfl := eb.symm
      obtain rfl := ec.symm
      refine T_iast 1 (tyN_s _ _ _) rfl (by decide) (by decide) dL_list_944 rfl ?_
      refine T_dup dL_list_945 rfl rfl ?_
      refine T_iconst (2) dL_list_946 rfl rfl ?_
      refine T_iload4 dL_list_947 rfl ?_
      refine T_iconst (3) dL_list_949 rfl rfl ?_
      refine T_ishr dL_list_950 rfl ?_
      refine T_bipush (7) dL_list_951 rfl rfl ?_
      refine T_cS2 (mc' := 0) (ms' := 0) (c_L_below hX _ (n := 7) (by decide)) hX kL_120 (by decide) (Nat.le_of_ble_eq_true rfl) dL_list_953 rfl ?_
      rintro _ szq τq Mq ⟨rfl, ea, eb, ec⟩
      obtain rfl := ea.symm
      obtain rfl := eb.symm
      obtain rfl := ec.symm
      refine T_iast 2 (tyN_s _ _ _) rfl (by decide) (by decide) dL_list_956 rfl ?_
      refine T_dup dL_list_957 rfl rfl ?_
      refine T_iconst (3) dL_list_958 rfl rfl ?_
      refine T_iload4 dL_list_959 rfl ?_
      refine T_bipush (6) dL_list_961 rfl rfl ?_
      refine T_ishr dL_list_963 rfl ?_
      refine T_bipush (60) dL_list_964 rfl rfl ?_
      refine T_cS2 (mc' := 0) (ms' := 0) (c_L_below hX _ (n := 60) (by decide)) hX kL_120 (by decide) (Nat.le_of_ble_eq_true rfl) dL_list_966 rfl ?_
      rintro _ szq τq Mq ⟨rfl, ea, eb, ec⟩
      obtain rfl := ea.symm
      obtain rfl := eb.symm
      obtain rfl := ec.symm
      refine T_iast 3 (tyN_s _ _ _) rfl (by decide) (by decide) dL_list_969 rfl ?_
      refine T_dup dL_list_970 rfl rfl ?_
      refine T_iconst (4) dL_list_971 rfl rfl ?_
      refine T_iload4 dL_list_972 rfl ?_
      refine T_iconst (5) dL_list_974 rfl rfl ?_
      refine T_ishr dL_list_975 rfl ?_
      refine T_bipush (10) dL_list_976 rfl rfl ?_
      refine T_cS2 (mc' := 0) (ms' := 0) (c_L_below hX _ (n := 10) (by decide)) hX kL_120 (by decide) (Nat.le_of_ble_eq_true rfl) dL_list_978 rfl ?_
      rintro _ szq τq Mq ⟨rfl, ea, eb, ec⟩
      obtain rfl := ea.symm
      obtain rfl := eb.symm
      obtain rfl := ec.symm
      refine T_iast 4 (tyN_s _ _ _) rfl (by decide) (by decide) dL_list_981 rfl ?_
      refine T_nm (fun M2 e2 => ?_)
      have hM2 : ∀ q, q < sz → M2 q = M q := fun q hq => by rw [e2]; (repeat rw [up_a (Nat.ne_of_lt hq)]); rw [meN_n (Nat.ne_of_lt hq)]
      have hV2 : ∀ c, c < wdF 7 → M2 sz c = .int (VL (ldX LS xs) 7 i c) := fun c hc => by
        rw [e2]
        have hc2 : c < 5 := hc
        rcases (by omega : c = 0 ∨ c = 1 ∨ c = 2 ∨ c = 3 ∨ c = 4) with rfl | rfl | rfl | rfl | rfl
        all_goals ((repeat (first | rw [up_s] | rw [up_k (by decide)])); first | rfl | exact congrArg Value.int (nI_add 1 _))
      clear e2
      refine T_aastA i (fun _ _ h => h.2.2.2.2.2.2) ((tyN_n (Nat.ne_of_lt (hP.ina (f := 7) (by decide) (by decide)).2)).trans (hP.ta (f := 7) (by decide) (by decide))) (tyN_s _ _ _) rfl (by omega) (by omega) dL_list_982 rfl ?_
      have hB1 := hP.rowB (f := 7) (i := i) (x := .ref sz) (kd := (100, 5)) (by decide) (by decide) hB (Nat.lt_trans hbs hP.je) hv hM2
      have hA1 := hP.rowA (f := 7) (i := i) (x := .ref sz) (kd := (100, 5)) (by decide) (by decide) hA0 hM2
      obtain ⟨R1, hP1⟩ : ∃ R1, PF (tyN τ sz (100, 5)) (up M2 (A 7) i (.ref sz)) s0 (sz + 1) A nn (kF (ldX LS xs) 7 (i + 1)) R1 (VL (ldX LS xs)) := ⟨_, (hP.row (f := 7) (i := i) (Nat.le_refl _) (by decide) (by decide) (kF_s _ _ _) (by omega) hM2 hV2).cg (k' := kF (ldX LS xs) 7 (i + 1)) (fun g _ _ => kF_r _ _ _ _) (fun _ _ _ _ _ _ _ => rfl)⟩
      replace hA0 := hA1
      replace hB := hB1
      replace hP := hP1
      replace hv := Nat.lt_succ_of_lt hv
      clear hA1 hB1 hP1 hM2 hV2
      refine T_nt (fun τ1 eτ => ?_)
      refine T_nm (fun M1 e1 => ?_)
      rw [← eτ, ← e1] at hP hB hA0
      clear eτ e1
      refine T_aload1 dL_list_983 rfl ?_
      refine T_ldcS (fun _ _ h => (h.2.1 49 (by decide)).2.2.2.2) dL_list_984 rfl ?_
      refine T_cV1 (mc' := 1) (ms' := 6004) (c_J4_append_15ec4 hX hB sk_49 (And.intro (Nat.lt_trans hbs hP.je) hv) hc1 (by simp only [List.length_append, List.length_cons, List.length_nil]; omega) (Or.inl sc_49)) hX kL_37 hB.rcv (by decide) (Nat.le_of_ble_eq_true rfl) dL_list_986 rfl ?_
      rintro _ szc τc Mc ⟨rfl, v1, cap1, hB2, hA, hc2⟩
      replace hP := (hP.ap hA (Nat.le_refl _) hbs hB.tv).le hA.1
      replace hA0 := hA0.tr hA
      replace hv := hA.vlt hv
      replace hB := hB2
      replace hc1 := hc2
      clear hB2 hc2 hA
      refine T_aload2 dL_list_989 rfl ?_
      refine gL_182 _ rfl hP.t0 (hP.pa (f := 7) (by decide) (by decide)) dL_list_990 rfl ?_
      refine T_iload3 dL_list_993 rfl ?_
      refine T_aaldA i (hP.ta (f := 7) (by decide) (by decide)) rfl (by omega) (by omega) dL_list_994 rfl (hP.pr (f := 7) (i := i) (by decide) (by decide) (by rw [kF_s]; omega)) ?_
      refine T_iconst (0) dL_list_995 rfl rfl ?_
      refine T_iald 0 (hP.tr (f := 7) (i := i) (by decide) (by decide) (by rw [kF_s]; omega)) rfl (by decide) (by decide) dL_list_996 rfl (show _ = Value.int (nI (ldX LS xs 15 i)) from hP.v (f := 7) (i := i) (c := 0) (by decide) (by decide) (by rw [kF_s]; omega) (by decide)) ?_
      refine T_cV1 (mc' := 1) (ms' := 6004) (c_J4_append_bf812 hX hB (n := ldX LS xs 15 i) (by omega) (And.intro (Nat.lt_trans hbs hP.je) hv) hc1 (by simp only [List.length_append, List.length_cons, List.length_nil]; omega)) hX kL_47 hB.rcv (by decide) (Nat.le_of_ble_eq_true rfl) dL_list_997 rfl ?_
      rintro _ szc τc Mc ⟨rfl, v1, cap1, hB2, hA, hc2⟩
      replace hP := (hP.ap hA (Nat.le_refl _) hbs hB.tv).le hA.1
      replace hA0 := hA0.tr hA
      replace hv := hA.vlt hv
      replace hB := hB2
      replace hc1 := hc2
      clear hB2 hc2 hA
      refine T_ldcS (fun _ _ h => (h.2.1 50 (by decide)).2.2.2.2) dL_list_1000 rfl ?_
      refine T_cV1 (mc' := 1) (ms' := 6004) (c_J4_append_15ec4 hX hB sk_50 (And.intro (Nat.lt_trans hbs hP.je) hv) hc1 (by simp only [List.length_append, List.length_cons, List.length_nil]; omega) (Or.inl sc_50)) hX kL_37 hB.rcv (by decide) (Nat.le_of_ble_eq_true rfl) dL_list_1002 rfl ?_
      rintro _ szc τc Mc ⟨rfl, v1, cap1, hB2, hA, hc2⟩
      replace hP := (hP.ap hA (Nat.le_refl _) hbs hB.tv).le hA.1
      replace hA0 := hA0.tr hA
      replace hv := hA.vlt hv
      replace hB := hB2
      replace hc1 := hc2
      clear hB2 hc2 hA
      refine T_aload2 dL_list_1005 rfl ?_
      refine gL_182 _ rfl hP.t0 (hP.pa (f := 7) (by decide) (by decide)) dL_list_1006 rfl ?_
      refine T_iload3 dL_list_1009 rfl ?_
      refine T_aaldA i (hP.ta (f := 7) (by decide) (by decide)) rfl (by omega) (by omega) dL_list_1010 rfl (hP.pr (f := 7) (i := i) (by decide) (by decide) (by rw [kF_s]; omega)) ?_
      refine T_iconst (1) dL_list_1011 rfl rfl ?_
      refine T_iald 1 (hP.tr (f := 7) (i := i) (by decide) (by decide) (by rw [kF_s]; omega)) rfl (by decide) (by decide) dL_list_1012 rfl (show _ = Value.int (nI (ldX LS xs 16 i)) from hP.v (f := 7) (i := i) (c := 1) (by decide) (by decide) (by rw [kF_s]; omega) (by decide)) ?_
      refine T_cV1 (mc' := 1) (ms' := 6004) (c_J4_append_bf812 hX hB (n := ldX LS xs 16 i) (by omega) (And.intro (Nat.lt_trans hbs hP.je) hv) hc1 (by simp only [List.length_append, List.length_cons, List.length_nil]; omega)) hX kL_47 hB.rcv (by decide) (Nat.le_of_ble_eq_true rfl) dL_list_1013 rfl ?_
      rintro _ szc τc Mc ⟨rfl, v1, cap1, hB2, hA, hc2⟩
      replace hP := (hP.ap hA (Nat.le_refl _) hbs hB.tv).le hA.1
      replace hA0 := hA0.tr hA
      replace hv := hA.vlt hv
      replace hB := hB2
      replace hc1 := hc2
      clear hB2 hc2 hA
      refine T_ldcS (fun _ _ h => (h.2.1 30 (by decide)).2.2.2.2) dL_list_1016 rfl ?_
      refine T_cV1 (mc' := 1) (ms' := 6004) (c_J4_append_15ec4 hX hB sk_30 (And.intro (Nat.lt_trans hbs hP.je) hv) hc1 (by simp only [List.length_append, List.length_cons, List.length_nil]; omega) (Or.inl sc_30)) hX kL_37 hB.rcv (by decide) (Nat.le_of_ble_eq_true rfl) dL_list_1018 rfl ?_
      rintro _ szc τc Mc ⟨rfl, v1, cap1, hB2, hA, hc2⟩
      replace hP := (hP.ap hA (Nat.le_refl _) hbs hB.tv).le hA.1
      replace hA0 := hA0.tr hA
      replace hv := hA.vlt hv
      replace hB := hB2
      replace hc1 := hc2
      clear hB2 hc2 hA
      refine T_aload2 dL_list_1021 rfl ?_
      refine gL_182 _ rfl hP.t0 (hP.pa (f := 7) (by decide) (by decide)) dL_list_1022 rfl ?_
      refine T_iload3 dL_list_1025 rfl ?_
      refine T_aaldA i (hP.ta (f := 7) (by decide) (by decide)) rfl (by omega) (by omega) dL_list_1026 rfl (hP.pr (f := 7) (i := i) (by decide) (by decide) (by rw [kF_s]; omega)) ?_
      refine T_iconst (2) dL_list_1027 rfl rfl ?_
      refine T_iald 2 (hP.tr (f := 7) (i := i) (by decide) (by decide) (by rw [kF_s]; omega)) rfl (by decide) (by decide) dL_list_1028 rfl (show _ = Value.int (nI (ldX LS xs 17 i)) from hP.v (f := 7) (i := i) (c := 2) (by decide) (by decide) (by rw [kF_s]; omega) (by decide)) ?_
      refine T_aload2 dL_list_1029 rfl ?_
      refine gL_182 _ rfl hP.t0 (hP.pa (f := 7) (by decide) (by decide)) dL_list_1030 rfl ?_
      refine T_iload3 dL_list_1033 rfl ?_
      refine T_aaldA i (hP.ta (f := 7) (by decide) (by decide)) rfl (by omega) (by omega) dL_list_1034 rfl (hP.pr (f := 7) (i := i) (by decide) (by decide) (by rw [kF_s]; omega)) ?_
      refine T_iconst (3) dL_list_1035 rfl rfl ?_
      refine T_iald 3 (hP.tr (f := 7) (i := i) (by decide) (by decide) (by rw [kF_s]; omega)) rfl (by decide) (by decide) dL_list_1036 rfl (show _ = Value.int (nI (ldX LS xs 18 i)) from hP.v (f := 7) (i := i) (c := 3) (by decide) (by decide) (by rw [kF_s]; omega) (by decide)) ?_
      refine T_aload2 dL_list_1037 rfl ?_
      refine gL_182 _ rfl hP.t0 (hP.pa (f := 7) (by decide) (by decide)) dL_list_1038 rfl ?_
      refine T_iload3 dL_list_1041 rfl ?_
      refine T_aaldA i (hP.ta (f := 7) (by decide) (by decide)) rfl (by omega) (by omega) dL_list_1042 rfl (hP.pr (f := 7) (i := i) (by decide) (by decide) (by rw [kF_s]; omega)) ?_
      refine T_iconst (4) dL_list_1043 rfl rfl ?_
      refine T_iald 4 (hP.tr (f := 7) (i := i) (by decide) (by decide) (by rw [kF_s]; omega)) rfl (by decide) (by decide) dL_list_1044 rfl (show _ = Value.int (nI (ldX LS xs 19 i)) from hP.v (f := 7) (i := i) (c := 4) (by decide) (by decide) (by rw [kF_s]; omega) (by decide)) ?_
      refine T_aload2 dL_list_1045 rfl ?_
      have hsm := hP.sm (by omega) (by omega)
      rw [q3, q4] at hsm
      refine T_less (bk1 := 70 * (3 - (i + 1)) + 2 + 60) (bn1 := 192100 * (3 - (i + 1)) + 12008 + 150000) (by omega) (by omega) ?_
      refine T_cS4 (mc' := 60) (ms' := 150000) (c_L_test hX hsm (And.intro hP.je (And.intro (hP.ina (f := 3) (by decide) (by decide)).2 (hP.ina (f := 4) (by decide) (by decide)).2)) (kd := ldX LS xs 17 i) (n := ldX LS xs 18 i) (v := ldX LS xs 19 i) bd2 bd3 bd4) hX kL_176 (by decide) (Nat.le_of_ble_eq_true rfl) dL_list_1046 rfl ?_
      rintro _ szc τc Mc ⟨as, ws, rfl, ⟨p1, p2, p3, p4, p5, p6⟩, hS, hO⟩
      replace hA0 := hA0.old hO (Nat.le_of_lt hP.je) p5
      replace hB := hB.old hO (Nat.lt_trans hbs hP.je) hv
      replace hP := (hP.old hO (Nat.le_refl _)).le p5
      have hwv := Nat.ne_of_gt (Nat.lt_of_lt_of_le hv p3)
      replace hv := Nat.lt_of_lt_of_le hv p5
      clear hO
      refine T_cV1 (mc' := 1) (ms' := 6004) (c_J4_append_15ec4 hX hB hS (And.intro (Nat.lt_trans hbs hP.je) hv) hc1 (by simp only [List.length_append, List.length_cons, List.length_nil]; omega) (Or.inr (And.intro p2 (And.intro p4 hwv)))) hX kL_37 hB.rcv (by decide) (Nat.le_of_ble_eq_true rfl) dL_list_1049 rfl ?_
      rintro _ szc τc Mc ⟨rfl, v1, cap1, hB2, hA, hc2⟩
      replace hP := (hP.ap hA (Nat.le_refl _) hbs hB.tv).le hA.1
      replace hA0 := hA0.tr hA
      replace hv := hA.vlt hv
      replace hB := hB2
      replace hc1 := hc2
      clear hB2 hc2 hA
      clear hS
      refine T_ldcS (fun _ _ h => (h.2.1 8 (by decide)).2.2.2.2) dL_list_1052 rfl ?_
      refine T_cV1 (mc' := 1) (ms' := 6004) (c_J4_append_15ec4 hX hB sk_8 (And.intro (Nat.lt_trans hbs hP.je) hv) hc1 (by simp only [List.length_append, List.length_cons, List.length_nil]; omega) (Or.inl sc_8)) hX kL_37 hB.rcv (by decide) (Nat.le_of_ble_eq_true rfl) dL_list_1054 rfl ?_
      rintro _ szc τc Mc ⟨rfl, v1, cap1, hB2, hA, hc2⟩
      replace hP := (hP.ap hA (Nat.le_refl _) hbs hB.tv).le hA.1
      replace hA0 := hA0.tr hA
      replace hv := hA.vlt hv
      replace hB := hB2
      replace hc1 := hc2
      clear hB2 hc2 hA
      refine T_pop dL_list_1057 rfl rfl ?_
      first | refine T_iinc3 rfl (by decide) dL_list_1058 rfl (inc1 _) ?_ | refine T_iinc3 rfl (by decide) dL_list_1058 rfl rfl ?_
      refine T_goto 883 dL_list_1061 (by decide) ?_
      refine T_less ?_ ?_ (ih (i + 1) _ _ _ _ _ A nn _ _ _ _ hnn (by omega) hP hB hv hc1 hA0 ?_ (by omega))
      · omega
      · omega
      · rw [htx]
        first | (simp only [catF, lnW, List.append_assoc, List.nil_append, List.append_nil, if_neg cs]; done) | (simp only [catF, lnW, List.append_assoc, List.nil_append, List.append_nil, if_pos cs]; done) | (simp only [catF, lnW, List.append_assoc, List.nil_append, List.append_nil]; done)
theorem sk_16 {adK adV : Nat → Nat} {τ : TY} {M : ME} : ST adK adV τ M (adK 16) (adV 16) [104, 97, 117, 108, 32, 104] := stc (by decide) (by decide) (by decide) (by decide)
theorem sc_16 {adK adV : Nat → Nat} : CSt adK adV (adK 16) (adV 16) [104, 97, 117, 108, 32, 104] := stcC (by decide) (by decide) (by decide)
theorem sk_17 {adK adV : Nat → Nat} {τ : TY} {M : ME} : ST adK adV τ M (adK 17) (adV 17) [32, 119, 105, 116, 104, 32] := stc (by decide) (by decide) (by decide) (by decide)
theorem sc_17 {adK adV : Nat → Nat} : CSt adK adV (adK 17) (adV 17) [32, 119, 105, 116, 104, 32] := stcC (by decide) (by decide) (by decide)
theorem sk_48 {adK adV : Nat → Nat} {τ : TY} {M : ME} : ST adK adV τ M (adK 48) (adV 48) [59, 10] := stc (by decide) (by decide) (by decide) (by decide)
theorem sc_48 {adK adV : Nat → Nat} : CSt adK adV (adK 48) (adV 48) [59, 10] := stcC (by decide) (by decide) (by decide)
set_option maxHeartbeats 1000000 in
theorem L6_L_list {l : Launch} {D : va_G} {cA : Nat → ClassId} {n0 : Nat} {sg adK adV : Nat → Nat} {sgA smA wdA bS LS : Nat} {xs : Nat → Int32} (hX : SF n0 (XW0 sg adK adV sgA smA wdA n0 bS LS xs)) {s0 b v0 : Nat} {τ0 : TY} {M0 : ME} (hL : LS ≤ 260) (hbs : b < s0) : ∀ (n : Nat) (i : Nat) (sz : Nat) (v : Nat) (cap : Nat) (τ : TY) (M : ME) (A : Nat → Nat) (nn : Nat → Nat) (Rw : Nat → Nat → Nat) (tx : List Nat) (y4 : Value) (y5 : Value) (hnn : ∀ g, 3 ≤ g → g ≤ 6 → nn g = ldX LS xs 0 g) (hi : i ≤ ldX LS xs 0 6) (hP : PF τ M s0 sz A nn (kF (ldX LS xs) 6 i) Rw (VL (ldX LS xs))) (hB : SBt τ M b v cap tx) (hv : v < sz) (hc1 : 1 ≤ cap) (hA0 : AP s0 τ0 M0 b v0 sz τ M v) (htx : tx = ((catF (lnT (ldX LS xs)) (ldX LS xs 0 3) ++ catF (lnH (ldX LS xs)) (ldX LS xs 0 4)) ++ catF (lnG (ldX LS xs)) (ldX LS xs 0 5)) ++ catF (lnK (ldX LS xs)) i), ldX LS xs 0 6 - i < n → T l D cA n0 (XW0 sg adK adV sgA smA wdA n0 bS LS xs) mL_list 13 (130 * (5 - i) + 211) (342100 * (5 - i) + 576320)  sz τ M 613 [.ref bS, .ref b, .ref s0, .int (nI i), y4, y5] [] ((LsQ (ldX LS xs) s0 b v0 τ0 M0)) (fun _ _ _ _ => False) := by
  intro n
  induction n with
  | zero => intros; omega
  | succ n ih =>
    intro i sz v cap τ M A nn Rw tx y4 y5 hnn hi hP hB hv hc1 hA0 htx hn
    obtain ⟨⟨o3, o4, o5, o6, o7⟩, ⟨o8, o9, o10⟩, ⟨o11, o12, o13, o14⟩, o15, ⟨o16, o17, o18, o19, o20, o21⟩, ⟨o22, o23, o24, o25, o26⟩⟩ := ldX_ok LS xs
    have q3 : nn 3 = ldX LS xs 0 3 := hnn 3 (by decide) (by decide)
    have q4 : nn 4 = ldX LS xs 0 4 := hnn 4 (by decide) (by decide)
    have q5 : nn 5 = ldX LS xs 0 5 := hnn 5 (by decide) (by decide)
    have q6 : nn 6 = ldX LS xs 0 6 := hnn 6 (by decide) (by decide)
    have k3 := cat_len (lnT_len (ldX LS xs)) (ldX LS xs 0 3)
    have k4 := cat_len (lnH_len (ldX LS xs)) (ldX LS xs 0 4)
    have k5 := cat_len (lnG_len (ldX LS xs)) (ldX LS xs 0 5)
    have k6 := cat_len (lnK_len (ldX LS xs)) i
    have hlen : tx.length ≤ 42 * 6 + 42 * 5 + 20 * 14 + 90 * i := by rw [htx]; (try simp only [List.length_append]); omega
    have dl0 := dg_le2 (i % ldX LS xs 0 4)
    have bd0 := o16 i
    have bd1 := o17 i
    have bd2 := o18 i
    have bd3 := o19 i
    have bd4 := o20 i
    have bd5 := o21 i
    have st0 := smT_len (ldX LS xs 9 i) (ldX LS xs 10 i) (ldX LS xs 11 i) (ldX LS xs 0 3) (ldX LS xs 0 4)
    have st1 := tsT_len (ldX LS xs 12 i - 3) (ldX LS xs 13 i) (ldX LS xs 14 i) (ldX LS xs 0 3) (ldX LS xs 0 4)
    have md4 : i % ldX LS xs 0 4 < ldX LS xs 0 4 := Nat.mod_lt _ (by omega)
    refine T_iload3 dL_list_613 rfl ?_
    refine T_aload2 dL_list_614 rfl ?_
    refine gL_163 _ rfl hP.t0 (hP.pa (f := 6) (by decide) (by decide)) dL_list_615 rfl ?_
    refine T_alen (j := 8) (hP.ta (f := 6) (by decide) (by decide)) (by decide) dL_list_618 rfl ?_
    rw [q6]
    refine T_icmp_ge 862 622 dL_list_619 (by decide) rfl (fun c619 => ?_) (fun c619 => ?_)
    ·
      have hie : i = ldX LS xs 0 6 := Nat.le_antisymm hi ((nI_leI (by omega) (by omega)).mp c619)
      refine T_aload2 dL_list_862 rfl ?_
      refine T_aload0 dL_list_863 rfl ?_
      refine T_bipush (14) dL_list_864 rfl rfl ?_
      refine T_cS2 (mc' := 0) (ms' := 0) (c_L_cell hX hL (k := 14) (by omega)) hX kL_114 (by decide) (Nat.le_of_ble_eq_true rfl) dL_list_866 rfl ?_
      rintro _ szq τq Mq ⟨rfl, ea, eb, ec⟩
      obtain rfl := ea.symm
      obtain rfl := eb.symm
      obtain rfl := ec.symm
      refine T_iconst (5) dL_list_869 rfl rfl ?_
      refine T_ishr dL_list_870 rfl ?_
      refine T_iconst (4) dL_list_871 rfl rfl ?_
      refine T_cS2 (mc' := 0) (ms' := 0) (c_L_below hX _ (n := 4) (by decide)) hX kL_120 (by decide) (Nat.le_of_ble_eq_true rfl) dL_list_872 rfl ?_
      rintro _ szq τq Mq ⟨rfl, ea, eb, ec⟩
      obtain rfl := ea.symm
      obtain rfl := eb.symm
      obtain rfl := ec.symm
      rw [show nI (blF (clF LS xs 14 >>> (5 &&& 31)) 4) = nI (ldX LS xs 0 7) from rfl]
      refine T_less (bk1 := 210 + 1) (bn1 := 576300 + ldX LS xs 0 7) (by omega) (by omega) ?_
      refine T_anewA (N := ldX LS xs 0 7) kcL_124 (fun _ _ h => h.2.2.2.2.2.2) rfl (by omega) dL_list_875 rfl ?_
      refine pL_182 rfl ((tyN_n (Nat.ne_of_lt hP.je)).trans hP.t0) dL_list_878 rfl ?_
      have hB1 := hP.arrB (f := 7) (x := .ref (sz)) (kd := (108, ldX LS xs 0 7)) (g := fun _ => .null) hB (Nat.lt_trans hbs hP.je) hv
      have hA1 := hP.arrA (f := 7) (x := .ref (sz)) (kd := (108, ldX LS xs 0 7)) (g := fun _ => .null) hA0
      have hP1 := (hP.arr (f := 7) (N := ldX LS xs 0 7) (g := fun _ => .null) (Nat.le_refl _) (by decide) (by decide) (kF_0 (ldX LS xs))).cg (k' := kF (ldX LS xs) 7 0) (fun g hg3 _ => kF_nx _ hie g) (fun _ _ _ _ _ _ _ => rfl)
      refine T_iconst (0) dL_list_881 rfl rfl ?_
      refine T_istore3 rfl (by decide) dL_list_882 rfl ?_
      refine T_less (by omega) (by omega) (L7_L_list hX hL hbs _ 0 _ v cap _ _ _ _ _ _ _ _ (hn_nx hnn) (Nat.zero_le _) hP1 hB1 (Nat.lt_succ_of_lt hv) hc1 hA1 (by rw [htx, hie]; exact (List.append_nil _).symm) (Nat.lt_succ_self _))
    ·
      have hlt : i < ldX LS xs 0 6 := Nat.lt_of_not_le (fun q => c619 ((nI_leI (by omega) (by omega)).mpr q))
      refine T_less (bk1 := 130 * (5 - (i + 1)) + 341) (bn1 := 342100 * (5 - (i + 1)) + 918420) (by omega) (by omega) ?_
      refine T_aload0 dL_list_622 rfl ?_
      refine T_bipush (13) dL_list_623 rfl rfl ?_
      refine T_iload3 dL_list_625 rfl ?_
      refine T_iconst (3) dL_list_626 rfl rfl ?_
      refine T_irem dL_list_627 rfl (by decide) ?_
      rw [show nI i - nI i / 3 * 3 = nI (i % 3) from nI_mod (b := 3) (by omega) (by decide)]
      refine T_iadd dL_list_628 rfl ?_
      rw [show (13 : Int32) + nI (i % 3) = nI (13 + i % 3) from nI_add 13 _]
      refine T_cS2 (mc' := 0) (ms' := 0) (c_L_cell hX hL (k := 13 + i % 3) (by omega)) hX kL_114 (by decide) (Nat.le_of_ble_eq_true rfl) dL_list_629 rfl ?_
      rintro _ szq τq Mq ⟨rfl, ea, eb, ec⟩
      obtain rfl := ea.symm
      obtain rfl := eb.symm
      obtain rfl := ec.symm
      refine T_iload3 dL_list_632 rfl ?_
      refine T_iconst (3) dL_list_633 rfl rfl ?_
      refine T_idiv dL_list_634 rfl (by decide) ?_
      rw [show nI i / 3 = nI (i / 3) from nI_div (b := 3) (by omega) (by decide)]
      refine T_bipush (11) dL_list_635 rfl rfl ?_
      refine T_imul dL_list_637 rfl ?_
      rw [show nI (i / 3) * 11 = nI (i / 3 * 11) from nI_mul _ 11]
      refine T_ishr dL_list_638 rfl ?_
      rw [show clF LS xs (13 + i % 3) >>> (nI (i / 3 * 11) &&& 31) = xKX LS xs i from rfl]
      refine T_istore4 rfl (by decide) dL_list_639 rfl ?_
      refine T_iload3 dL_list_641 rfl ?_
      refine T_aload2 dL_list_642 rfl ?_
      refine gL_41 _ rfl hP.t0 (hP.pa (f := 4) (by decide) (by decide)) dL_list_643 rfl ?_
      refine T_alen (j := 8) (hP.ta (f := 4) (by decide) (by decide)) (by decide) dL_list_646 rfl ?_
      rw [q4]
      refine T_irem dL_list_647 rfl (fun q => by have := (nI_eq (a := ldX LS xs 0 4) (b := 0) (by omega) (by omega)).mp q; omega) ?_
      rw [nI_mod (a := i) (b := ldX LS xs 0 4) (by omega) (by omega)]
      refine T_istore5 rfl (by decide) dL_list_648 rfl ?_
      refine T_aload2 dL_list_650 rfl ?_
      refine gL_163 _ rfl hP.t0 (hP.pa (f := 6) (by decide) (by decide)) dL_list_651 rfl ?_
      refine T_iload3 dL_list_654 rfl ?_
      refine T_bipush (7) dL_list_655 rfl rfl ?_
      refine T_newa (atype := .int) (N := 7) 0 (fun _ => .int 0) ka_int (by decide) rfl rfl (by decide) rfl dL_list_657 rfl ?_
      refine T_dup dL_list_659 rfl rfl ?_
      refine T_iconst (0) dL_list_660 rfl rfl ?_
      refine T_iload5 dL_list_661 rfl ?_
      refine T_iast 0 (tyN_s _ _ _) rfl (by decide) (by decide) dL_list_663 rfl ?_
      refine T_dup dL_list_664 rfl rfl ?_
      refine T_iconst (1) dL_list_665 rfl rfl ?_
      refine T_iload4 dL_list_666 rfl ?_
      refine T_bipush (6) dL_list_668 rfl rfl ?_
      refine T_cS2 (mc' := 0) (ms' := 0) (c_L_below hX _ (n := 6) (by decide)) hX kL_120 (by decide) (Nat.le_of_ble_eq_true rfl) dL_list_670 rfl ?_
      rintro _ szq τq Mq ⟨rfl, ea, eb, ec⟩
      obtain rfl := ea.symm
      obtain rfl := eb.symm
      obtain rfl := ec.symm
      refine T_iast 1 (tyN_s _ _ _) rfl (by decide) (by decide) dL_list_673 rfl ?_
      refine T_dup dL_list_674 rfl rfl ?_
      refine T_iconst (2) dL_list_675 rfl rfl ?_
      refine T_iload4 dL_list_676 rfl ?_
      refine T_iconst (3) dL_list_678 rfl rfl ?_
      refine T_ishr dL_list_679 rfl ?_
      refine T_joinI 699 (fun y => y = nI (if blF (shR (xKX LS xs i) 9) 2 = 0 then 99 else 40)) (fun hJ => ?_) (fun x699 hx699 => ?_)
      ·
        refine T_iload4 dL_list_680 rfl ?_
        refine T_bipush (9) dL_list_682 rfl rfl ?_
        refine T_ishr dL_list_684 rfl ?_
        refine T_iconst (2) dL_list_685 rfl rfl ?_
        refine T_cS2 (mc' := 0) (ms' := 0) (c_L_below hX _ (n := 2) (by decide)) hX kL_120 (by decide) (Nat.le_of_ble_eq_true rfl) dL_list_686 rfl ?_
        rintro _ szq τq Mq ⟨rfl, ea, eb, ec⟩
        obtain rfl := ea.symm
        obtain rfl := eb.symm
        obtain rfl := ec.symm
        refine T_if_ne 697 692 dL_list_689 (by decide) rfl (fun c689 => ?_) (fun c689 => ?_)
        ·
          refine T_bipush (40) dL_list_697 rfl rfl ?_
          refine hJ _ ?_
          first | exact j01 (p := 99) (q := 40) (Nat.lt_trans (bl_lt (by decide)) (by decide)) c689 | exact j02 (p := 99) (q := 40) c689
        ·
          refine T_bipush (99) dL_list_692 rfl rfl ?_
          refine T_goto 699 dL_list_694 (by decide) ?_
          refine hJ _ ?_
          first | exact j01 (p := 99) (q := 40) (Nat.lt_trans (bl_lt (by decide)) (by decide)) c689 | exact j02 (p := 99) (q := 40) c689
      ·
        subst hx699
        refine T_cS2 (mc' := 0) (ms' := 0) (c_L_below hX _ (n := (if blF (shR (xKX LS xs i) 9) 2 = 0 then 99 else 40)) (by split <;> decide)) hX kL_120 (by decide) (Nat.le_of_ble_eq_true rfl) dL_list_699 rfl ?_
        rintro _ szq τq Mq ⟨rfl, ea, eb, ec⟩
        obtain rfl := ea.symm
        obtain rfl := eb.symm
        obtain rfl := ec.symm
        refine T_iast 2 (tyN_s _ _ _) rfl (by decide) (by decide) dL_list_702 rfl ?_
        refine T_dup dL_list_703 rfl rfl ?_
        refine T_iconst (3) dL_list_704 rfl rfl ?_
        refine T_iload4 dL_list_705 rfl ?_
        refine T_iconst (5) dL_list_707 rfl rfl ?_
        refine T_ishr dL_list_708 rfl ?_
        refine T_bipush (10) dL_list_709 rfl rfl ?_
        refine T_cS2 (mc' := 0) (ms' := 0) (c_L_below hX _ (n := 10) (by decide)) hX kL_120 (by decide) (Nat.le_of_ble_eq_true rfl) dL_list_711 rfl ?_
        rintro _ szq τq Mq ⟨rfl, ea, eb, ec⟩
        obtain rfl := ea.symm
        obtain rfl := eb.symm
        obtain rfl := ec.symm
        refine T_iast 3 (tyN_s _ _ _) rfl (by decide) (by decide) dL_list_714 rfl ?_
        refine T_dup dL_list_715 rfl rfl ?_
        refine T_iconst (4) dL_list_716 rfl rfl ?_
        refine T_iload4 dL_list_717 rfl ?_
        refine T_iconst (4) dL_list_719 rfl rfl ?_
        refine T_ishr dL_list_720 rfl ?_
        refine T_bipush (10) dL_list_721 rfl rfl ?_
        refine T_cS2 (mc' := 0) (ms' := 0) (c_L_below hX _ (n := 10) (by decide)) hX kL_120 (by decide) (Nat.le_of_ble_eq_true rfl) dL_list_723 rfl ?_
        rintro _ szq τq Mq ⟨rfl, ea, eb, ec⟩
        obtain rfl := ea.symm
        obtain rfl := eb.symm
        obtain rfl := ec.symm
        refine T_iconst (3) dL_list_726 rfl rfl ?_
        refine T_isub dL_list_727 rfl ?_
        refine T_iast 4 (tyN_s _ _ _) rfl (by decide) (by decide) dL_list_728 rfl ?_
        refine T_dup dL_list_729 rfl rfl ?_
        refine T_iconst (5) dL_list_730 rfl rfl ?_
        refine T_iload4 dL_list_731 rfl ?_
        refine T_bipush (6) dL_list_733 rfl rfl ?_
        refine T_ishr dL_list_735 rfl ?_
        refine T_bipush (60) dL_list_736 rfl rfl ?_
        refine T_cS2 (mc' := 0) (ms' := 0) (c_L_below hX _ (n := 60) (by decide)) hX kL_120 (by decide) (Nat.le_of_ble_eq_true rfl) dL_list_738 rfl ?_
        rintro _ szq τq Mq ⟨rfl, ea, eb, ec⟩
        obtain rfl := ea.symm
        obtain rfl := eb.symm
        obtain rfl := ec.symm
        refine T_iast 5 (tyN_s _ _ _) rfl (by decide) (by decide) dL_list_741 rfl ?_
        refine T_dup dL_list_742 rfl rfl ?_
        refine T_bipush (6) dL_list_743 rfl rfl ?_
        refine T_iload4 dL_list_745 rfl ?_
        refine T_bipush (7) dL_list_747 rfl rfl ?_
        refine T_ishr dL_list_749 rfl ?_
        refine T_bipush (10) dL_list_750 rfl rfl ?_
        refine T_cS2 (mc' := 0) (ms' := 0) (c_L_below hX _ (n := 10) (by decide)) hX kL_120 (by decide) (Nat.le_of_ble_eq_true rfl) dL_list_752 rfl ?_
        rintro _ szq τq Mq ⟨rfl, ea, eb, ec⟩
        obtain rfl := ea.symm
        obtain rfl := eb.symm
        obtain rfl := ec.symm
        refine T_iast 6 (tyN_s _ _ _) rfl (by decide) (by decide) dL_list_755 rfl ?_
        refine T_nm (fun M2 e2 => ?_)
        have hM2 : ∀ q, q < sz → M2 q = M q := fun q hq => by rw [e2]; (repeat rw [up_a (Nat.ne_of_lt hq)]); rw [meN_n (Nat.ne_of_lt hq)]
        have hV0 : ∀ c, c < wdF 6 → M2 sz c = .int ((if c = 4 then nI (ldX LS xs 12 i) - 3 else VL (ldX LS xs) 6 i c)) := fun c hc => by
          rw [e2]
          have hc2 : c < 7 := hc
          rcases (by omega : c = 0 ∨ c = 1 ∨ c = 2 ∨ c = 3 ∨ c = 4 ∨ c = 5 ∨ c = 6) with rfl | rfl | rfl | rfl | rfl | rfl | rfl
          all_goals ((repeat (first | rw [up_s] | rw [up_k (by decide)])); first | rfl | exact congrArg Value.int (nI_add 1 _))
        have hV2 : ∀ c, c < wdF 6 → M2 sz c = .int ((fun q r s => if (q = 6 ∧ r = i) ∧ s = 4 then nI (ldX LS xs 12 i) - 3 else VL (ldX LS xs) q r s) 6 i c) := fun c hc => (hV0 c hc).trans (congrArg Value.int (show (if c = 4 then nI (ldX LS xs 12 i) - 3 else VL (ldX LS xs) 6 i c) = (if ((6 : Nat) = 6 ∧ i = i) ∧ c = 4 then nI (ldX LS xs 12 i) - 3 else VL (ldX LS xs) 6 i c) by
          by_cases h : c = 4
          · rw [if_pos h, if_pos ⟨⟨rfl, rfl⟩, h⟩]
          · rw [if_neg h, if_neg (fun z => h z.2)]))
        clear hV0
        clear e2
        refine T_aastA i (fun _ _ h => h.2.2.2.2.2.2) ((tyN_n (Nat.ne_of_lt (hP.ina (f := 6) (by decide) (by decide)).2)).trans (hP.ta (f := 6) (by decide) (by decide))) (tyN_s _ _ _) rfl (by omega) (by omega) dL_list_756 rfl ?_
        have hB1 := hP.rowB (f := 6) (i := i) (x := .ref sz) (kd := (100, 7)) (by decide) (by decide) hB (Nat.lt_trans hbs hP.je) hv hM2
        have hA1 := hP.rowA (f := 6) (i := i) (x := .ref sz) (kd := (100, 7)) (by decide) (by decide) hA0 hM2
        obtain ⟨R1, hP1⟩ : ∃ R1, PF (tyN τ sz (100, 7)) (up M2 (A 6) i (.ref sz)) s0 (sz + 1) A nn (kF (ldX LS xs) 6 (i + 1)) R1 ((fun q r s => if (q = 6 ∧ r = i) ∧ s = 4 then nI (ldX LS xs 12 i) - 3 else VL (ldX LS xs) q r s)) := ⟨_, ((hP.cg (k' := kF (ldX LS xs) 6 i) (V' := (fun q r s => if (q = 6 ∧ r = i) ∧ s = 4 then nI (ldX LS xs 12 i) - 3 else VL (ldX LS xs) q r s)) (fun _ _ _ => rfl) (fun q r s _ _ hr _ => (if_neg (fun z => by rw [z.1.1, kF_s] at hr; omega)).symm)).row (f := 6) (i := i) (Nat.le_refl _) (by decide) (by decide) (kF_s _ _ _) (by omega) hM2 hV2).cg (k' := kF (ldX LS xs) 6 (i + 1)) (fun g _ _ => kF_r _ _ _ _) (fun _ _ _ _ _ _ _ => rfl)⟩
        replace hA0 := hA1
        replace hB := hB1
        replace hP := hP1
        replace hv := Nat.lt_succ_of_lt hv
        clear hA1 hB1 hP1 hM2 hV2
        refine T_nt (fun τ1 eτ => ?_)
        refine T_nm (fun M1 e1 => ?_)
        rw [← eτ, ← e1] at hP hB hA0
        clear eτ e1
        refine T_aload1 dL_list_757 rfl ?_
        refine T_ldcS (fun _ _ h => (h.2.1 16 (by decide)).2.2.2.2) dL_list_758 rfl ?_
        refine T_cV1 (mc' := 1) (ms' := 6004) (c_J4_append_15ec4 hX hB sk_16 (And.intro (Nat.lt_trans hbs hP.je) hv) hc1 (by simp only [List.length_append, List.length_cons, List.length_nil]; omega) (Or.inl sc_16)) hX kL_37 hB.rcv (by decide) (Nat.le_of_ble_eq_true rfl) dL_list_760 rfl ?_
        rintro _ szc τc Mc ⟨rfl, v1, cap1, hB2, hA, hc2⟩
        replace hP := (hP.ap hA (Nat.le_refl _) hbs hB.tv).le hA.1
        replace hA0 := hA0.tr hA
        replace hv := hA.vlt hv
        replace hB := hB2
        replace hc1 := hc2
        clear hB2 hc2 hA
        refine T_iload5 dL_list_763 rfl ?_
        refine T_cV1 (mc' := 1) (ms' := 6004) (c_J4_append_bf812 hX hB (n := i % ldX LS xs 0 4) (by omega) (And.intro (Nat.lt_trans hbs hP.je) hv) hc1 (by simp only [List.length_append, List.length_cons, List.length_nil]; omega)) hX kL_47 hB.rcv (by decide) (Nat.le_of_ble_eq_true rfl) dL_list_765 rfl ?_
        rintro _ szc τc Mc ⟨rfl, v1, cap1, hB2, hA, hc2⟩
        replace hP := (hP.ap hA (Nat.le_refl _) hbs hB.tv).le hA.1
        replace hA0 := hA0.tr hA
        replace hv := hA.vlt hv
        replace hB := hB2
        replace hc1 := hc2
        clear hB2 hc2 hA
        refine T_ldcS (fun _ _ h => (h.2.1 17 (by decide)).2.2.2.2) dL_list_768 rfl ?_
        refine T_cV1 (mc' := 1) (ms' := 6004) (c_J4_append_15ec4 hX hB sk_17 (And.intro (Nat.lt_trans hbs hP.je) hv) hc1 (by simp only [List.length_append, List.length_cons, List.length_nil]; omega) (Or.inl sc_17)) hX kL_37 hB.rcv (by decide) (Nat.le_of_ble_eq_true rfl) dL_list_770 rfl ?_
        rintro _ szc τc Mc ⟨rfl, v1, cap1, hB2, hA, hc2⟩
        replace hP := (hP.ap hA (Nat.le_refl _) hbs hB.tv).le hA.1
        replace hA0 := hA0.tr hA
        replace hv := hA.vlt hv
        replace hB := hB2
        replace hc1 := hc2
        clear hB2 hc2 hA
        refine T_aload2 dL_list_773 rfl ?_
        refine gL_163 _ rfl hP.t0 (hP.pa (f := 6) (by decide) (by decide)) dL_list_774 rfl ?_
        refine T_iload3 dL_list_777 rfl ?_
        refine T_aaldA i (hP.ta (f := 6) (by decide) (by decide)) rfl (by omega) (by omega) dL_list_778 rfl (hP.pr (f := 6) (i := i) (by decide) (by decide) (by rw [kF_s]; omega)) ?_
        refine T_aload2 dL_list_779 rfl ?_
        have hsm := hP.sm (by omega) (by omega)
        rw [q3, q4] at hsm
        refine T_less (bk1 := 130 * (5 - (i + 1)) + 275 + 60) (bn1 := 342100 * (5 - (i + 1)) + 750336 + 150000) (by omega) (by omega) ?_
        refine T_cS2 (mc' := 60) (ms' := 150000) (c_L_sum hX hsm (And.intro hP.je (And.intro (hP.ina (f := 3) (by decide) (by decide)).2 (hP.ina (f := 4) (by decide) (by decide)).2)) (kd := ldX LS xs 9 i) (n := ldX LS xs 10 i) (v := ldX LS xs 11 i) (hP.tr (f := 6) (i := i) (by decide) (by decide) (by rw [kF_s]; omega)) (hP.inr (f := 6) (i := i) (by decide) (by decide) (by rw [kF_s]; omega)).2 ((hP.v (f := 6) (i := i) (c := 1) (by decide) (by decide) (by rw [kF_s]; omega) (by decide)).trans (congrArg Value.int (if_neg (fun z => absurd z.2 (by decide))))) ((hP.v (f := 6) (i := i) (c := 2) (by decide) (by decide) (by rw [kF_s]; omega) (by decide)).trans (congrArg Value.int (if_neg (fun z => absurd z.2 (by decide))))) ((hP.v (f := 6) (i := i) (c := 3) (by decide) (by decide) (by rw [kF_s]; omega) (by decide)).trans (congrArg Value.int (if_neg (fun z => absurd z.2 (by decide))))) bd0 (by omega) bd2) hX kL_170 (by decide) (Nat.le_of_ble_eq_true rfl) dL_list_780 rfl ?_
        rintro _ szc τc Mc ⟨as, ws, rfl, ⟨p1, p2, p3, p4, p5, p6⟩, hS, hO⟩
        replace hA0 := hA0.old hO (Nat.le_of_lt hP.je) p5
        replace hB := hB.old hO (Nat.lt_trans hbs hP.je) hv
        replace hP := (hP.old hO (Nat.le_refl _)).le p5
        have hwv := Nat.ne_of_gt (Nat.lt_of_lt_of_le hv p3)
        replace hv := Nat.lt_of_lt_of_le hv p5
        clear hO
        refine T_cV1 (mc' := 1) (ms' := 6004) (c_J4_append_15ec4 hX hB hS (And.intro (Nat.lt_trans hbs hP.je) hv) hc1 (by simp only [List.length_append, List.length_cons, List.length_nil]; omega) (Or.inr (And.intro p2 (And.intro p4 hwv)))) hX kL_37 hB.rcv (by decide) (Nat.le_of_ble_eq_true rfl) dL_list_783 rfl ?_
        rintro _ szc τc Mc ⟨rfl, v1, cap1, hB2, hA, hc2⟩
        replace hP := (hP.ap hA (Nat.le_refl _) hbs hB.tv).le hA.1
        replace hA0 := hA0.tr hA
        replace hv := hA.vlt hv
        replace hB := hB2
        replace hc1 := hc2
        clear hB2 hc2 hA
        clear hS
        refine T_pop dL_list_786 rfl rfl ?_
        refine T_aload2 dL_list_787 rfl ?_
        refine gL_163 _ rfl hP.t0 (hP.pa (f := 6) (by decide) (by decide)) dL_list_788 rfl ?_
        refine T_iload3 dL_list_791 rfl ?_
        refine T_aaldA i (hP.ta (f := 6) (by decide) (by decide)) rfl (by omega) (by omega) dL_list_792 rfl (hP.pr (f := 6) (i := i) (by decide) (by decide) (by rw [kF_s]; omega)) ?_
        refine T_iconst (4) dL_list_793 rfl rfl ?_
        refine T_iald 4 (hP.tr (f := 6) (i := i) (by decide) (by decide) (by rw [kF_s]; omega)) rfl (by decide) (by decide) dL_list_794 rfl (show _ = Value.int (nI (ldX LS xs 12 i) - 3) from (hP.v (f := 6) (i := i) (c := 4) (by decide) (by decide) (by rw [kF_s]; omega) (by decide)).trans (congrArg Value.int (if_pos ⟨⟨rfl, rfl⟩, rfl⟩))) ?_
        refine T_if_lt 840 798 dL_list_795 (by decide) rfl (fun c795 => ?_) (fun c795 => ?_)
        ·
          have cs := (k3_ _ bd3).mp c795
          refine T_aload2 dL_list_840 rfl ?_
          refine gL_163 _ rfl hP.t0 (hP.pa (f := 6) (by decide) (by decide)) dL_list_841 rfl ?_
          refine T_iload3 dL_list_844 rfl ?_
          refine T_aaldA i (hP.ta (f := 6) (by decide) (by decide)) rfl (by omega) (by omega) dL_list_845 rfl (hP.pr (f := 6) (i := i) (by decide) (by decide) (by rw [kF_s]; omega)) ?_
          refine T_iconst (4) dL_list_846 rfl rfl ?_
          refine T_iconst (-1) dL_list_847 rfl rfl ?_
          refine T_iast 4 (hP.tr (f := 6) (i := i) (by decide) (by decide) (by rw [kF_s]; omega)) rfl (by decide) (by decide) dL_list_848 rfl ?_
          have hB1 := hP.setB (f := 6) (i := i) (c := 4) (x := .int (-1)) (by decide) (by decide) (by rw [kF_s]; omega) hB
          have hA1 := hP.setA (f := 6) (i := i) (c := 4) (x := .int (-1)) (by decide) (by decide) (by rw [kF_s]; omega) hA0
          have hP1 := (hP.set (f := 6) (i := i) (c := 4) (x := -1) (by decide) (by decide) (by rw [kF_s]; omega)).cg (k' := kF (ldX LS xs) 6 (i + 1)) (V' := VL (ldX LS xs)) (fun _ _ _ => rfl) (fun q r s _ _ _ _ => VV_t cs q r s)
          replace hA0 := hA1
          replace hB := hB1
          replace hP := hP1
          clear hA1 hB1 hP1
          refine T_nm (fun M1 e1 => ?_)
          rw [← e1] at hP hB hA0
          clear e1
          refine T_aload1 dL_list_849 rfl ?_
          refine T_ldcS (fun _ _ h => (h.2.1 48 (by decide)).2.2.2.2) dL_list_850 rfl ?_
          refine T_cV1 (mc' := 1) (ms' := 6004) (c_J4_append_15ec4 hX hB sk_48 (And.intro (Nat.lt_trans hbs hP.je) hv) hc1 (by simp only [List.length_append, List.length_cons, List.length_nil]; omega) (Or.inl sc_48)) hX kL_37 hB.rcv (by decide) (Nat.le_of_ble_eq_true rfl) dL_list_852 rfl ?_
          rintro _ szc τc Mc ⟨rfl, v1, cap1, hB2, hA, hc2⟩
          replace hP := (hP.ap hA (Nat.le_refl _) hbs hB.tv).le hA.1
          replace hA0 := hA0.tr hA
          replace hv := hA.vlt hv
          replace hB := hB2
          replace hc1 := hc2
          clear hB2 hc2 hA
          refine T_pop dL_list_855 rfl rfl ?_
          first | refine T_iinc3 rfl (by decide) dL_list_856 rfl (inc1 _) ?_ | refine T_iinc3 rfl (by decide) dL_list_856 rfl rfl ?_
          refine T_goto 613 dL_list_859 (by decide) ?_
          refine T_less ?_ ?_ (ih (i + 1) _ _ _ _ _ A nn _ _ _ _ hnn (by omega) hP hB hv hc1 hA0 ?_ (by omega))
          · omega
          · omega
          · rw [htx]
            first | (simp only [catF, lnK, List.append_assoc, List.nil_append, List.append_nil, if_neg cs]; done) | (simp only [catF, lnK, List.append_assoc, List.nil_append, List.append_nil, if_pos cs]; done) | (simp only [catF, lnK, List.append_assoc, List.nil_append, List.append_nil]; done)
        ·
          have cs : ¬ ldX LS xs 12 i < 3 := fun q => c795 ((k3_ _ bd3).mpr q)
          refine T_aload1 dL_list_798 rfl ?_
          refine T_ldcS (fun _ _ h => (h.2.1 30 (by decide)).2.2.2.2) dL_list_799 rfl ?_
          refine T_cV1 (mc' := 1) (ms' := 6004) (c_J4_append_15ec4 hX hB sk_30 (And.intro (Nat.lt_trans hbs hP.je) hv) hc1 (by simp only [List.length_append, List.length_cons, List.length_nil]; omega) (Or.inl sc_30)) hX kL_37 hB.rcv (by decide) (Nat.le_of_ble_eq_true rfl) dL_list_801 rfl ?_
          rintro _ szc τc Mc ⟨rfl, v1, cap1, hB2, hA, hc2⟩
          replace hP := (hP.ap hA (Nat.le_refl _) hbs hB.tv).le hA.1
          replace hA0 := hA0.tr hA
          replace hv := hA.vlt hv
          replace hB := hB2
          replace hc1 := hc2
          clear hB2 hc2 hA
          refine T_aload2 dL_list_804 rfl ?_
          refine gL_163 _ rfl hP.t0 (hP.pa (f := 6) (by decide) (by decide)) dL_list_805 rfl ?_
          refine T_iload3 dL_list_808 rfl ?_
          refine T_aaldA i (hP.ta (f := 6) (by decide) (by decide)) rfl (by omega) (by omega) dL_list_809 rfl (hP.pr (f := 6) (i := i) (by decide) (by decide) (by rw [kF_s]; omega)) ?_
          refine T_iconst (4) dL_list_810 rfl rfl ?_
          refine T_iald 4 (hP.tr (f := 6) (i := i) (by decide) (by decide) (by rw [kF_s]; omega)) rfl (by decide) (by decide) dL_list_811 rfl (show _ = Value.int (nI (ldX LS xs 12 i) - 3) from (hP.v (f := 6) (i := i) (c := 4) (by decide) (by decide) (by rw [kF_s]; omega) (by decide)).trans (congrArg Value.int (if_pos ⟨⟨rfl, rfl⟩, rfl⟩))) ?_
          rw [show nI (ldX LS xs 12 i) - 3 = nI (ldX LS xs 12 i - 3) from nI_sub (n := 3) (by omega) (by omega)]
          refine T_aload2 dL_list_812 rfl ?_
          refine gL_163 _ rfl hP.t0 (hP.pa (f := 6) (by decide) (by decide)) dL_list_813 rfl ?_
          refine T_iload3 dL_list_816 rfl ?_
          refine T_aaldA i (hP.ta (f := 6) (by decide) (by decide)) rfl (by omega) (by omega) dL_list_817 rfl (hP.pr (f := 6) (i := i) (by decide) (by decide) (by rw [kF_s]; omega)) ?_
          refine T_iconst (5) dL_list_818 rfl rfl ?_
          refine T_iald 5 (hP.tr (f := 6) (i := i) (by decide) (by decide) (by rw [kF_s]; omega)) rfl (by decide) (by decide) dL_list_819 rfl (show _ = Value.int (nI (ldX LS xs 13 i)) from (hP.v (f := 6) (i := i) (c := 5) (by decide) (by decide) (by rw [kF_s]; omega) (by decide)).trans (congrArg Value.int (if_neg (fun z => absurd z.2 (by decide))))) ?_
          refine T_aload2 dL_list_820 rfl ?_
          refine gL_163 _ rfl hP.t0 (hP.pa (f := 6) (by decide) (by decide)) dL_list_821 rfl ?_
          refine T_iload3 dL_list_824 rfl ?_
          refine T_aaldA i (hP.ta (f := 6) (by decide) (by decide)) rfl (by omega) (by omega) dL_list_825 rfl (hP.pr (f := 6) (i := i) (by decide) (by decide) (by rw [kF_s]; omega)) ?_
          refine T_bipush (6) dL_list_826 rfl rfl ?_
          refine T_iald 6 (hP.tr (f := 6) (i := i) (by decide) (by decide) (by rw [kF_s]; omega)) rfl (by decide) (by decide) dL_list_828 rfl (show _ = Value.int (nI (ldX LS xs 14 i)) from (hP.v (f := 6) (i := i) (c := 6) (by decide) (by decide) (by rw [kF_s]; omega) (by decide)).trans (congrArg Value.int (if_neg (fun z => absurd z.2 (by decide))))) ?_
          refine T_aload2 dL_list_829 rfl ?_
          have hsm := hP.sm (by omega) (by omega)
          rw [q3, q4] at hsm
          refine T_less (bk1 := 130 * (5 - (i + 1)) + 213 + 60) (bn1 := 342100 * (5 - (i + 1)) + 588328 + 150000) (by omega) (by omega) ?_
          refine T_cS4 (mc' := 60) (ms' := 150000) (c_L_test hX hsm (And.intro hP.je (And.intro (hP.ina (f := 3) (by decide) (by decide)).2 (hP.ina (f := 4) (by decide) (by decide)).2)) (kd := ldX LS xs 12 i - 3) (n := ldX LS xs 13 i) (v := ldX LS xs 14 i) (by omega) bd4 bd5) hX kL_176 (by decide) (Nat.le_of_ble_eq_true rfl) dL_list_830 rfl ?_
          rintro _ szc τc Mc ⟨as, ws, rfl, ⟨p1, p2, p3, p4, p5, p6⟩, hS, hO⟩
          replace hA0 := hA0.old hO (Nat.le_of_lt hP.je) p5
          replace hB := hB.old hO (Nat.lt_trans hbs hP.je) hv
          replace hP := (hP.old hO (Nat.le_refl _)).le p5
          have hwv := Nat.ne_of_gt (Nat.lt_of_lt_of_le hv p3)
          replace hv := Nat.lt_of_lt_of_le hv p5
          clear hO
          refine T_cV1 (mc' := 1) (ms' := 6004) (c_J4_append_15ec4 hX hB hS (And.intro (Nat.lt_trans hbs hP.je) hv) hc1 (by simp only [List.length_append, List.length_cons, List.length_nil]; omega) (Or.inr (And.intro p2 (And.intro p4 hwv)))) hX kL_37 hB.rcv (by decide) (Nat.le_of_ble_eq_true rfl) dL_list_833 rfl ?_
          rintro _ szc τc Mc ⟨rfl, v1, cap1, hB2, hA, hc2⟩
          replace hP := (hP.ap hA (Nat.le_refl _) hbs hB.tv).le hA.1
          replace hA0 := hA0.tr hA
          replace hv := hA.vlt hv
          replace hB := hB2
          replace hc1 := hc2
          clear hB2 hc2 hA
          clear hS
          refine T_pop dL_list_836 rfl rfl ?_
          replace hP := hP.cg (k' := kF (ldX LS xs) 6 (i + 1)) (V' := VL (ldX LS xs)) (fun _ _ _ => rfl) (fun q r s _ _ _ _ => VV_f cs q r s)
          refine T_goto 849 dL_list_837 (by decide) ?_
          refine T_aload1 dL_list_849 rfl ?_
          refine T_ldcS (fun _ _ h => (h.2.1 48 (by decide)).2.2.2.2) dL_list_850 rfl ?_
          refine T_cV1 (mc' := 1) (ms' := 6004) (c_J4_append_15ec4 hX hB sk_48 (And.intro (Nat.lt_trans hbs hP.je) hv) hc1 (by simp only [List.length_append, List.length_cons, List.length_nil]; omega) (Or.inl sc_48)) hX kL_37 hB.rcv (by decide) (Nat.le_of_ble_eq_true rfl) dL_list_852 rfl ?_
          rintro _ szc τc Mc ⟨rfl, v1, cap1, hB2, hA, hc2⟩
          replace hP := (hP.ap hA (Nat.le_refl _) hbs hB.tv).le hA.1
          replace hA0 := hA0.tr hA
          replace hv := hA.vlt hv
          replace hB := hB2
          replace hc1 := hc2
          clear hB2 hc2 hA
          refine T_pop dL_list_855 rfl rfl ?_
          first | refine T_iinc3 rfl (by decide) dL_list_856 rfl (inc1 _) ?_ | refine T_iinc3 rfl (by decide) dL_list_856 rfl rfl ?_
          refine T_goto 613 dL_list_859 (by decide) ?_
          refine T_less ?_ ?_ (ih (i + 1) _ _ _ _ _ A nn _ _ _ _ hnn (by omega) hP hB hv hc1 hA0 ?_ (by omega))
          · omega
          · omega
          · rw [htx]
            first | (simp only [catF, lnK, List.append_assoc, List.nil_append, List.append_nil, if_neg cs]; done) | (simp only [catF, lnK, List.append_assoc, List.nil_append, List.append_nil, if_pos cs]; done) | (simp only [catF, lnK, List.append_assoc, List.nil_append, List.append_nil]; done)
theorem sk_14 {adK adV : Nat → Nat} {τ : TY} {M : ME} : ST adK adV τ M (adK 14) (adV 14) [108, 111, 103, 32, 103] := stc (by decide) (by decide) (by decide) (by decide)
theorem sc_14 {adK adV : Nat → Nat} : CSt adK adV (adK 14) (adV 14) [108, 111, 103, 32, 103] := stcC (by decide) (by decide) (by decide)
theorem sk_15 {adK adV : Nat → Nat} {τ : TY} {M : ME} : ST adK adV τ M (adK 15) (adV 15) [32, 119, 101, 105, 103, 104, 116, 32] := stc (by decide) (by decide) (by decide) (by decide)
theorem sc_15 {adK adV : Nat → Nat} : CSt adK adV (adK 15) (adV 15) [32, 119, 101, 105, 103, 104, 116, 32] := stcC (by decide) (by decide) (by decide)
set_option maxHeartbeats 1000000 in
theorem L5_L_list {l : Launch} {D : va_G} {cA : Nat → ClassId} {n0 : Nat} {sg adK adV : Nat → Nat} {sgA smA wdA bS LS : Nat} {xs : Nat → Int32} (hX : SF n0 (XW0 sg adK adV sgA smA wdA n0 bS LS xs)) {s0 b v0 : Nat} {τ0 : TY} {M0 : ME} (hL : LS ≤ 260) (hbs : b < s0) : ∀ (n : Nat) (i : Nat) (sz : Nat) (v : Nat) (cap : Nat) (τ : TY) (M : ME) (A : Nat → Nat) (nn : Nat → Nat) (Rw : Nat → Nat → Nat) (tx : List Nat) (y4 : Value) (y5 : Value) (hnn : ∀ g, 3 ≤ g → g ≤ 5 → nn g = ldX LS xs 0 g) (hi : i ≤ ldX LS xs 0 5) (hP : PF τ M s0 sz A nn (kF (ldX LS xs) 5 i) Rw (VL (ldX LS xs))) (hB : SBt τ M b v cap tx) (hv : v < sz) (hc1 : 1 ≤ cap) (hA0 : AP s0 τ0 M0 b v0 sz τ M v) (htx : tx = (catF (lnT (ldX LS xs)) (ldX LS xs 0 3) ++ catF (lnH (ldX LS xs)) (ldX LS xs 0 4)) ++ catF (lnG (ldX LS xs)) i), ldX LS xs 0 5 - i < n → T l D cA n0 (XW0 sg adK adV sgA smA wdA n0 bS LS xs) mL_list 13 (8 * (14 - i) + 862) (30100 * (14 - i) + 2286840)  sz τ M 469 [.ref bS, .ref b, .ref s0, .int (nI i), y4, y5] [] ((LsQ (ldX LS xs) s0 b v0 τ0 M0)) (fun _ _ _ _ => False) := by
  intro n
  induction n with
  | zero => intros; omega
  | succ n ih =>
    intro i sz v cap τ M A nn Rw tx y4 y5 hnn hi hP hB hv hc1 hA0 htx hn
    obtain ⟨⟨o3, o4, o5, o6, o7⟩, ⟨o8, o9, o10⟩, ⟨o11, o12, o13, o14⟩, o15, ⟨o16, o17, o18, o19, o20, o21⟩, ⟨o22, o23, o24, o25, o26⟩⟩ := ldX_ok LS xs
    have q3 : nn 3 = ldX LS xs 0 3 := hnn 3 (by decide) (by decide)
    have q4 : nn 4 = ldX LS xs 0 4 := hnn 4 (by decide) (by decide)
    have q5 : nn 5 = ldX LS xs 0 5 := hnn 5 (by decide) (by decide)
    have k3 := cat_len (lnT_len (ldX LS xs)) (ldX LS xs 0 3)
    have k4 := cat_len (lnH_len (ldX LS xs)) (ldX LS xs 0 4)
    have k5 := cat_len (lnG_len (ldX LS xs)) i
    have hlen : tx.length ≤ 42 * 6 + 42 * 5 + 20 * i := by rw [htx]; (try simp only [List.length_append]); omega
    have dl0 := dg_le2 (i)
    have dl1 := dg_le2 (ldX LS xs 8 i)
    have bd0 := o15 i
    refine T_iload3 dL_list_469 rfl ?_
    refine T_aload2 dL_list_470 rfl ?_
    refine gL_153 _ rfl hP.t0 (hP.pa (f := 5) (by decide) (by decide)) dL_list_471 rfl ?_
    refine T_alen (j := 8) (hP.ta (f := 5) (by decide) (by decide)) (by decide) dL_list_474 rfl ?_
    rw [q5]
    refine T_icmp_ge 584 478 dL_list_475 (by decide) rfl (fun c475 => ?_) (fun c475 => ?_)
    ·
      have hie : i = ldX LS xs 0 5 := Nat.le_antisymm hi ((nI_leI (by omega) (by omega)).mp c475)
      refine T_aload2 dL_list_584 rfl ?_
      refine T_iconst (5) dL_list_585 rfl rfl ?_
      refine T_aload2 dL_list_586 rfl ?_
      refine gL_41 _ rfl hP.t0 (hP.pa (f := 4) (by decide) (by decide)) dL_list_587 rfl ?_
      refine T_alen (j := 8) (hP.ta (f := 4) (by decide) (by decide)) (by decide) dL_list_590 rfl ?_
      rw [q4]
      refine T_aload0 dL_list_591 rfl ?_
      refine T_bipush (13) dL_list_592 rfl rfl ?_
      refine T_cS2 (mc' := 0) (ms' := 0) (c_L_cell hX hL (k := 13) (by omega)) hX kL_114 (by decide) (Nat.le_of_ble_eq_true rfl) dL_list_594 rfl ?_
      rintro _ szq τq Mq ⟨rfl, ea, eb, ec⟩
      obtain rfl := ea.symm
      obtain rfl := eb.symm
      obtain rfl := ec.symm
      refine T_iconst (4) dL_list_597 rfl rfl ?_
      refine T_cS2 (mc' := 0) (ms' := 0) (c_L_below hX _ (n := 4) (by decide)) hX kL_120 (by decide) (Nat.le_of_ble_eq_true rfl) dL_list_598 rfl ?_
      rintro _ szq τq Mq ⟨rfl, ea, eb, ec⟩
      obtain rfl := ea.symm
      obtain rfl := eb.symm
      obtain rfl := ec.symm
      refine T_iadd dL_list_601 rfl ?_
      rw [nI_add (ldX LS xs 0 4) (blF (clF LS xs 13) 4)]
      refine T_min kmL_160 (by decide) (Nat.le_of_ble_eq_true rfl) dL_list_602 rfl ?_
      rw [show (if nI (ldX LS xs 0 4 + blF (clF LS xs 13) 4) < 5 then nI (ldX LS xs 0 4 + blF (clF LS xs 13) 4) else 5) = nI (ldX LS xs 0 6) from mn5 (by have : blF (clF LS xs 13) 4 < 4 := bl_lt (by decide); omega)]
      refine T_less (bk1 := 861 + 1) (bn1 := 2286820 + ldX LS xs 0 6) (by omega) (by omega) ?_
      refine T_anewA (N := ldX LS xs 0 6) kcL_124 (fun _ _ h => h.2.2.2.2.2.2) rfl (by omega) dL_list_605 rfl ?_
      refine pL_163 rfl ((tyN_n (Nat.ne_of_lt hP.je)).trans hP.t0) dL_list_608 rfl ?_
      have hB1 := hP.arrB (f := 6) (x := .ref (sz)) (kd := (108, ldX LS xs 0 6)) (g := fun _ => .null) hB (Nat.lt_trans hbs hP.je) hv
      have hA1 := hP.arrA (f := 6) (x := .ref (sz)) (kd := (108, ldX LS xs 0 6)) (g := fun _ => .null) hA0
      have hP1 := (hP.arr (f := 6) (N := ldX LS xs 0 6) (g := fun _ => .null) (Nat.le_refl _) (by decide) (by decide) (kF_0 (ldX LS xs))).cg (k' := kF (ldX LS xs) 6 0) (fun g hg3 _ => kF_nx _ hie g) (fun _ _ _ _ _ _ _ => rfl)
      refine T_iconst (0) dL_list_611 rfl rfl ?_
      refine T_istore3 rfl (by decide) dL_list_612 rfl ?_
      refine T_less (by omega) (by omega) (L6_L_list hX hL hbs _ 0 _ v cap _ _ _ _ _ _ _ _ (hn_nx hnn) (Nat.zero_le _) hP1 hB1 (Nat.lt_succ_of_lt hv) hc1 hA1 (by rw [htx, hie]; exact (List.append_nil _).symm) (Nat.lt_succ_self _))
    ·
      have hlt : i < ldX LS xs 0 5 := Nat.lt_of_not_le (fun q => c475 ((nI_leI (by omega) (by omega)).mpr q))
      refine T_less (bk1 := 8 * (14 - (i + 1)) + 870) (bn1 := 30100 * (14 - (i + 1)) + 2316940) (by omega) (by omega) ?_
      refine T_aload0 dL_list_478 rfl ?_
      refine T_bipush (9) dL_list_479 rfl rfl ?_
      refine T_iload3 dL_list_481 rfl ?_
      refine T_iconst (4) dL_list_482 rfl rfl ?_
      refine T_irem dL_list_483 rfl (by decide) ?_
      rw [show nI i - nI i / 4 * 4 = nI (i % 4) from nI_mod (b := 4) (by omega) (by decide)]
      refine T_iadd dL_list_484 rfl ?_
      rw [show (9 : Int32) + nI (i % 4) = nI (9 + i % 4) from nI_add 9 _]
      refine T_cS2 (mc' := 0) (ms' := 0) (c_L_cell hX hL (k := 9 + i % 4) (by omega)) hX kL_114 (by decide) (Nat.le_of_ble_eq_true rfl) dL_list_485 rfl ?_
      rintro _ szq τq Mq ⟨rfl, ea, eb, ec⟩
      obtain rfl := ea.symm
      obtain rfl := eb.symm
      obtain rfl := ec.symm
      refine T_iload3 dL_list_488 rfl ?_
      refine T_iconst (4) dL_list_489 rfl rfl ?_
      refine T_idiv dL_list_490 rfl (by decide) ?_
      rw [show nI i / 4 = nI (i / 4) from nI_div (b := 4) (by omega) (by decide)]
      refine T_bipush (6) dL_list_491 rfl rfl ?_
      refine T_imul dL_list_493 rfl ?_
      rw [show nI (i / 4) * 6 = nI (i / 4 * 6) from nI_mul _ 6]
      refine T_ishr dL_list_494 rfl ?_
      rw [show clF LS xs (9 + i % 4) >>> (nI (i / 4 * 6) &&& 31) = xGX LS xs i from rfl]
      refine T_istore4 rfl (by decide) dL_list_495 rfl ?_
      refine T_aload2 dL_list_497 rfl ?_
      refine gL_153 _ rfl hP.t0 (hP.pa (f := 5) (by decide) (by decide)) dL_list_498 rfl ?_
      refine T_iload3 dL_list_501 rfl ?_
      refine T_iconst (4) dL_list_502 rfl rfl ?_
      refine T_newa (atype := .int) (N := 4) 0 (fun _ => .int 0) ka_int (by decide) rfl rfl (by decide) rfl dL_list_503 rfl ?_
      refine T_dup dL_list_505 rfl rfl ?_
      refine T_iconst (0) dL_list_506 rfl rfl ?_
      refine T_iconst (1) dL_list_507 rfl rfl ?_
      refine T_iload4 dL_list_508 rfl ?_
      refine T_joinI 528 (fun y => y = nI (if blF (shR (xGX LS xs i) 5) 2 = 0 then 60 else 15)) (fun hJ => ?_) (fun x528 hx528 => ?_)
      ·
        refine T_iload4 dL_list_510 rfl ?_
        refine T_iconst (5) dL_list_512 rfl rfl ?_
        refine T_ishr dL_list_513 rfl ?_
        refine T_iconst (2) dL_list_514 rfl rfl ?_
        refine T_cS2 (mc' := 0) (ms' := 0) (c_L_below hX _ (n := 2) (by decide)) hX kL_120 (by decide) (Nat.le_of_ble_eq_true rfl) dL_list_515 rfl ?_
        rintro _ szq τq Mq ⟨rfl, ea, eb, ec⟩
        obtain rfl := ea.symm
        obtain rfl := eb.symm
        obtain rfl := ec.symm
        refine T_if_ne 526 521 dL_list_518 (by decide) rfl (fun c518 => ?_) (fun c518 => ?_)
        ·
          refine T_bipush (15) dL_list_526 rfl rfl ?_
          refine hJ _ ?_
          first | exact j01 (p := 60) (q := 15) (Nat.lt_trans (bl_lt (by decide)) (by decide)) c518 | exact j02 (p := 60) (q := 15) c518
        ·
          refine T_bipush (60) dL_list_521 rfl rfl ?_
          refine T_goto 528 dL_list_523 (by decide) ?_
          refine hJ _ ?_
          first | exact j01 (p := 60) (q := 15) (Nat.lt_trans (bl_lt (by decide)) (by decide)) c518 | exact j02 (p := 60) (q := 15) c518
      ·
        subst hx528
        refine T_cS2 (mc' := 0) (ms' := 0) (c_L_below hX _ (n := (if blF (shR (xGX LS xs i) 5) 2 = 0 then 60 else 15)) (by split <;> decide)) hX kL_120 (by decide) (Nat.le_of_ble_eq_true rfl) dL_list_528 rfl ?_
        rintro _ szq τq Mq ⟨rfl, ea, eb, ec⟩
        obtain rfl := ea.symm
        obtain rfl := eb.symm
        obtain rfl := ec.symm
        refine T_iadd dL_list_531 rfl ?_
        refine T_iast 0 (tyN_s _ _ _) rfl (by decide) (by decide) dL_list_532 rfl ?_
        refine T_dup dL_list_533 rfl rfl ?_
        refine T_iconst (1) dL_list_534 rfl rfl ?_
        refine T_iconst (0) dL_list_535 rfl rfl ?_
        refine T_iast 1 (tyN_s _ _ _) rfl (by decide) (by decide) dL_list_536 rfl ?_
        refine T_dup dL_list_537 rfl rfl ?_
        refine T_iconst (2) dL_list_538 rfl rfl ?_
        refine T_iconst (-1) dL_list_539 rfl rfl ?_
        refine T_iast 2 (tyN_s _ _ _) rfl (by decide) (by decide) dL_list_540 rfl ?_
        refine T_dup dL_list_541 rfl rfl ?_
        refine T_iconst (3) dL_list_542 rfl rfl ?_
        refine T_iconst (-1) dL_list_543 rfl rfl ?_
        refine T_iast 3 (tyN_s _ _ _) rfl (by decide) (by decide) dL_list_544 rfl ?_
        refine T_nm (fun M2 e2 => ?_)
        have hM2 : ∀ q, q < sz → M2 q = M q := fun q hq => by rw [e2]; (repeat rw [up_a (Nat.ne_of_lt hq)]); rw [meN_n (Nat.ne_of_lt hq)]
        have hV2 : ∀ c, c < wdF 5 → M2 sz c = .int (VL (ldX LS xs) 5 i c) := fun c hc => by
          rw [e2]
          have hc2 : c < 4 := hc
          rcases (by omega : c = 0 ∨ c = 1 ∨ c = 2 ∨ c = 3) with rfl | rfl | rfl | rfl
          all_goals ((repeat (first | rw [up_s] | rw [up_k (by decide)])); first | rfl | exact congrArg Value.int (nI_add 1 _))
        clear e2
        refine T_aastA i (fun _ _ h => h.2.2.2.2.2.2) ((tyN_n (Nat.ne_of_lt (hP.ina (f := 5) (by decide) (by decide)).2)).trans (hP.ta (f := 5) (by decide) (by decide))) (tyN_s _ _ _) rfl (by omega) (by omega) dL_list_545 rfl ?_
        have hB1 := hP.rowB (f := 5) (i := i) (x := .ref sz) (kd := (100, 4)) (by decide) (by decide) hB (Nat.lt_trans hbs hP.je) hv hM2
        have hA1 := hP.rowA (f := 5) (i := i) (x := .ref sz) (kd := (100, 4)) (by decide) (by decide) hA0 hM2
        obtain ⟨R1, hP1⟩ : ∃ R1, PF (tyN τ sz (100, 4)) (up M2 (A 5) i (.ref sz)) s0 (sz + 1) A nn (kF (ldX LS xs) 5 (i + 1)) R1 (VL (ldX LS xs)) := ⟨_, (hP.row (f := 5) (i := i) (Nat.le_refl _) (by decide) (by decide) (kF_s _ _ _) (by omega) hM2 hV2).cg (k' := kF (ldX LS xs) 5 (i + 1)) (fun g _ _ => kF_r _ _ _ _) (fun _ _ _ _ _ _ _ => rfl)⟩
        replace hA0 := hA1
        replace hB := hB1
        replace hP := hP1
        replace hv := Nat.lt_succ_of_lt hv
        clear hA1 hB1 hP1 hM2 hV2
        refine T_nt (fun τ1 eτ => ?_)
        refine T_nm (fun M1 e1 => ?_)
        rw [← eτ, ← e1] at hP hB hA0
        clear eτ e1
        refine T_aload1 dL_list_546 rfl ?_
        refine T_ldcS (fun _ _ h => (h.2.1 14 (by decide)).2.2.2.2) dL_list_547 rfl ?_
        refine T_cV1 (mc' := 1) (ms' := 6004) (c_J4_append_15ec4 hX hB sk_14 (And.intro (Nat.lt_trans hbs hP.je) hv) hc1 (by simp only [List.length_append, List.length_cons, List.length_nil]; omega) (Or.inl sc_14)) hX kL_37 hB.rcv (by decide) (Nat.le_of_ble_eq_true rfl) dL_list_549 rfl ?_
        rintro _ szc τc Mc ⟨rfl, v1, cap1, hB2, hA, hc2⟩
        replace hP := (hP.ap hA (Nat.le_refl _) hbs hB.tv).le hA.1
        replace hA0 := hA0.tr hA
        replace hv := hA.vlt hv
        replace hB := hB2
        replace hc1 := hc2
        clear hB2 hc2 hA
        refine T_iload3 dL_list_552 rfl ?_
        refine T_cV1 (mc' := 1) (ms' := 6004) (c_J4_append_bf812 hX hB (n := i) (by omega) (And.intro (Nat.lt_trans hbs hP.je) hv) hc1 (by simp only [List.length_append, List.length_cons, List.length_nil]; omega)) hX kL_47 hB.rcv (by decide) (Nat.le_of_ble_eq_true rfl) dL_list_553 rfl ?_
        rintro _ szc τc Mc ⟨rfl, v1, cap1, hB2, hA, hc2⟩
        replace hP := (hP.ap hA (Nat.le_refl _) hbs hB.tv).le hA.1
        replace hA0 := hA0.tr hA
        replace hv := hA.vlt hv
        replace hB := hB2
        replace hc1 := hc2
        clear hB2 hc2 hA
        refine T_ldcS (fun _ _ h => (h.2.1 15 (by decide)).2.2.2.2) dL_list_556 rfl ?_
        refine T_cV1 (mc' := 1) (ms' := 6004) (c_J4_append_15ec4 hX hB sk_15 (And.intro (Nat.lt_trans hbs hP.je) hv) hc1 (by simp only [List.length_append, List.length_cons, List.length_nil]; omega) (Or.inl sc_15)) hX kL_37 hB.rcv (by decide) (Nat.le_of_ble_eq_true rfl) dL_list_558 rfl ?_
        rintro _ szc τc Mc ⟨rfl, v1, cap1, hB2, hA, hc2⟩
        replace hP := (hP.ap hA (Nat.le_refl _) hbs hB.tv).le hA.1
        replace hA0 := hA0.tr hA
        replace hv := hA.vlt hv
        replace hB := hB2
        replace hc1 := hc2
        clear hB2 hc2 hA
        refine T_aload2 dL_list_561 rfl ?_
        refine gL_153 _ rfl hP.t0 (hP.pa (f := 5) (by decide) (by decide)) dL_list_562 rfl ?_
        refine T_iload3 dL_list_565 rfl ?_
        refine T_aaldA i (hP.ta (f := 5) (by decide) (by decide)) rfl (by omega) (by omega) dL_list_566 rfl (hP.pr (f := 5) (i := i) (by decide) (by decide) (by rw [kF_s]; omega)) ?_
        refine T_iconst (0) dL_list_567 rfl rfl ?_
        refine T_iald 0 (hP.tr (f := 5) (i := i) (by decide) (by decide) (by rw [kF_s]; omega)) rfl (by decide) (by decide) dL_list_568 rfl (show _ = Value.int (nI (ldX LS xs 8 i)) from hP.v (f := 5) (i := i) (c := 0) (by decide) (by decide) (by rw [kF_s]; omega) (by decide)) ?_
        refine T_cV1 (mc' := 1) (ms' := 6004) (c_J4_append_bf812 hX hB (n := ldX LS xs 8 i) (by omega) (And.intro (Nat.lt_trans hbs hP.je) hv) hc1 (by simp only [List.length_append, List.length_cons, List.length_nil]; omega)) hX kL_47 hB.rcv (by decide) (Nat.le_of_ble_eq_true rfl) dL_list_569 rfl ?_
        rintro _ szc τc Mc ⟨rfl, v1, cap1, hB2, hA, hc2⟩
        replace hP := (hP.ap hA (Nat.le_refl _) hbs hB.tv).le hA.1
        replace hA0 := hA0.tr hA
        replace hv := hA.vlt hv
        replace hB := hB2
        replace hc1 := hc2
        clear hB2 hc2 hA
        refine T_ldcS (fun _ _ h => (h.2.1 8 (by decide)).2.2.2.2) dL_list_572 rfl ?_
        refine T_cV1 (mc' := 1) (ms' := 6004) (c_J4_append_15ec4 hX hB sk_8 (And.intro (Nat.lt_trans hbs hP.je) hv) hc1 (by simp only [List.length_append, List.length_cons, List.length_nil]; omega) (Or.inl sc_8)) hX kL_37 hB.rcv (by decide) (Nat.le_of_ble_eq_true rfl) dL_list_574 rfl ?_
        rintro _ szc τc Mc ⟨rfl, v1, cap1, hB2, hA, hc2⟩
        replace hP := (hP.ap hA (Nat.le_refl _) hbs hB.tv).le hA.1
        replace hA0 := hA0.tr hA
        replace hv := hA.vlt hv
        replace hB := hB2
        replace hc1 := hc2
        clear hB2 hc2 hA
        refine T_pop dL_list_577 rfl rfl ?_
        first | refine T_iinc3 rfl (by decide) dL_list_578 rfl (inc1 _) ?_ | refine T_iinc3 rfl (by decide) dL_list_578 rfl rfl ?_
        refine T_goto 469 dL_list_581 (by decide) ?_
        refine T_less ?_ ?_ (ih (i + 1) _ _ _ _ _ A nn _ _ _ _ hnn (by omega) hP hB hv hc1 hA0 ?_ (by omega))
        · omega
        · omega
        · rw [htx]
          first | (simp only [catF, lnG, List.append_assoc, List.nil_append, List.append_nil, if_neg cs]; done) | (simp only [catF, lnG, List.append_assoc, List.nil_append, List.append_nil, if_pos cs]; done) | (simp only [catF, lnG, List.append_assoc, List.nil_append, List.append_nil]; done)
theorem sk_9 {adK adV : Nat → Nat} {τ : TY} {M : ME} : ST adK adV τ M (adK 9) (adV 9) [104, 111, 114, 115, 101, 32, 104] := stc (by decide) (by decide) (by decide) (by decide)
theorem sc_9 {adK adV : Nat → Nat} : CSt adK adV (adK 9) (adV 9) [104, 111, 114, 115, 101, 32, 104] := stcC (by decide) (by decide) (by decide)
theorem sk_10 {adK adV : Nat → Nat} {τ : TY} {M : ME} : ST adK adV τ M (adK 10) (adV 10) [32, 112, 117, 108, 108, 32] := stc (by decide) (by decide) (by decide) (by decide)
theorem sc_10 {adK adV : Nat → Nat} : CSt adK adV (adK 10) (adV 10) [32, 112, 117, 108, 108, 32] := stcC (by decide) (by decide) (by decide)
theorem sk_11 {adK adV : Nat → Nat} {τ : TY} {M : ME} : ST adK adV τ M (adK 11) (adV 11) [32, 108, 105, 110, 107, 115, 32] := stc (by decide) (by decide) (by decide) (by decide)
theorem sc_11 {adK adV : Nat → Nat} : CSt adK adV (adK 11) (adV 11) [32, 108, 105, 110, 107, 115, 32] := stcC (by decide) (by decide) (by decide)
theorem sk_12 {adK adV : Nat → Nat} {τ : TY} {M : ME} : ST adK adV τ M (adK 12) (adV 12) [32, 105, 114, 111, 110, 32] := stc (by decide) (by decide) (by decide) (by decide)
theorem sc_12 {adK adV : Nat → Nat} : CSt adK adV (adK 12) (adV 12) [32, 105, 114, 111, 110, 32] := stcC (by decide) (by decide) (by decide)
theorem sk_13 {adK adV : Nat → Nat} {τ : TY} {M : ME} : ST adK adV τ M (adK 13) (adV 13) [32, 98, 101, 108, 108, 59, 10] := stc (by decide) (by decide) (by decide) (by decide)
theorem sc_13 {adK adV : Nat → Nat} : CSt adK adV (adK 13) (adV 13) [32, 98, 101, 108, 108, 59, 10] := stcC (by decide) (by decide) (by decide)
set_option maxHeartbeats 1000000 in
theorem L4_L_list {l : Launch} {D : va_G} {cA : Nat → ClassId} {n0 : Nat} {sg adK adV : Nat → Nat} {sgA smA wdA bS LS : Nat} {xs : Nat → Int32} (hX : SF n0 (XW0 sg adK adV sgA smA wdA n0 bS LS xs)) {s0 b v0 : Nat} {τ0 : TY} {M0 : ME} (hL : LS ≤ 260) (hbs : b < s0) : ∀ (n : Nat) (i : Nat) (sz : Nat) (v : Nat) (cap : Nat) (τ : TY) (M : ME) (A : Nat → Nat) (nn : Nat → Nat) (Rw : Nat → Nat → Nat) (tx : List Nat) (y4 : Value) (y5 : Value) (hnn : ∀ g, 3 ≤ g → g ≤ 4 → nn g = ldX LS xs 0 g) (hi : i ≤ ldX LS xs 0 4) (hP : PF τ M s0 sz A nn (kF (ldX LS xs) 4 i) Rw (VL (ldX LS xs))) (hB : SBt τ M b v cap tx) (hv : v < sz) (hc1 : 1 ≤ cap) (hA0 : AP s0 τ0 M0 b v0 sz τ M v) (htx : tx = catF (lnT (ldX LS xs)) (ldX LS xs 0 3) ++ catF (lnH (ldX LS xs)) i), ldX LS xs 0 4 - i < n → T l D cA n0 (XW0 sg adK adV sgA smA wdA n0 bS LS xs) mL_list 13 (12 * (5 - i) + 975) (54100 * (5 - i) + 2708260)  sz τ M 211 [.ref bS, .ref b, .ref s0, .int (nI i), y4, y5] [] ((LsQ (ldX LS xs) s0 b v0 τ0 M0)) (fun _ _ _ _ => False) := by
  intro n
  induction n with
  | zero => intros; omega
  | succ n ih =>
    intro i sz v cap τ M A nn Rw tx y4 y5 hnn hi hP hB hv hc1 hA0 htx hn
    obtain ⟨⟨o3, o4, o5, o6, o7⟩, ⟨o8, o9, o10⟩, ⟨o11, o12, o13, o14⟩, o15, ⟨o16, o17, o18, o19, o20, o21⟩, ⟨o22, o23, o24, o25, o26⟩⟩ := ldX_ok LS xs
    have q3 : nn 3 = ldX LS xs 0 3 := hnn 3 (by decide) (by decide)
    have q4 : nn 4 = ldX LS xs 0 4 := hnn 4 (by decide) (by decide)
    have k3 := cat_len (lnT_len (ldX LS xs)) (ldX LS xs 0 3)
    have k4 := cat_len (lnH_len (ldX LS xs)) i
    have hlen : tx.length ≤ 42 * 6 + 42 * i := by rw [htx]; (try simp only [List.length_append]); omega
    have dl0 := dg_le2 (i)
    have dl1 := dg_le2 (ldX LS xs 4 i)
    have dl2 := dg_le2 (ldX LS xs 5 i)
    have dl3 := dg_le2 (ldX LS xs 6 i)
    have bd0 := o11 i
    have bd1 := o12 i
    have bd2 := o13 i
    have bd3 := o14 i
    refine T_iload3 dL_list_211 rfl ?_
    refine T_aload2 dL_list_212 rfl ?_
    refine gL_41 _ rfl hP.t0 (hP.pa (f := 4) (by decide) (by decide)) dL_list_213 rfl ?_
    refine T_alen (j := 8) (hP.ta (f := 4) (by decide) (by decide)) (by decide) dL_list_216 rfl ?_
    rw [q4]
    refine T_icmp_ge 449 220 dL_list_217 (by decide) rfl (fun c217 => ?_) (fun c217 => ?_)
    ·
      have hie : i = ldX LS xs 0 4 := Nat.le_antisymm hi ((nI_leI (by omega) (by omega)).mp c217)
      refine T_aload2 dL_list_449 rfl ?_
      refine T_aload0 dL_list_450 rfl ?_
      refine T_bipush (8) dL_list_451 rfl rfl ?_
      refine T_cS2 (mc' := 0) (ms' := 0) (c_L_cell hX hL (k := 8) (by omega)) hX kL_114 (by decide) (Nat.le_of_ble_eq_true rfl) dL_list_453 rfl ?_
      rintro _ szq τq Mq ⟨rfl, ea, eb, ec⟩
      obtain rfl := ea.symm
      obtain rfl := eb.symm
      obtain rfl := ec.symm
      refine T_bipush (15) dL_list_456 rfl rfl ?_
      refine T_cS2 (mc' := 0) (ms' := 0) (c_L_below hX _ (n := 15) (by decide)) hX kL_120 (by decide) (Nat.le_of_ble_eq_true rfl) dL_list_458 rfl ?_
      rintro _ szq τq Mq ⟨rfl, ea, eb, ec⟩
      obtain rfl := ea.symm
      obtain rfl := eb.symm
      obtain rfl := ec.symm
      rw [show nI (blF (clF LS xs 8) 15) = nI (ldX LS xs 0 5) from rfl]
      refine T_less (bk1 := 974 + 1) (bn1 := 2708240 + ldX LS xs 0 5) (by omega) (by omega) ?_
      refine T_anewA (N := ldX LS xs 0 5) kcL_124 (fun _ _ h => h.2.2.2.2.2.2) rfl (by omega) dL_list_461 rfl ?_
      refine pL_153 rfl ((tyN_n (Nat.ne_of_lt hP.je)).trans hP.t0) dL_list_464 rfl ?_
      have hB1 := hP.arrB (f := 5) (x := .ref (sz)) (kd := (108, ldX LS xs 0 5)) (g := fun _ => .null) hB (Nat.lt_trans hbs hP.je) hv
      have hA1 := hP.arrA (f := 5) (x := .ref (sz)) (kd := (108, ldX LS xs 0 5)) (g := fun _ => .null) hA0
      have hP1 := (hP.arr (f := 5) (N := ldX LS xs 0 5) (g := fun _ => .null) (Nat.le_refl _) (by decide) (by decide) (kF_0 (ldX LS xs))).cg (k' := kF (ldX LS xs) 5 0) (fun g hg3 _ => kF_nx _ hie g) (fun _ _ _ _ _ _ _ => rfl)
      refine T_iconst (0) dL_list_467 rfl rfl ?_
      refine T_istore3 rfl (by decide) dL_list_468 rfl ?_
      refine T_less (by omega) (by omega) (L5_L_list hX hL hbs _ 0 _ v cap _ _ _ _ _ _ _ _ (hn_nx hnn) (Nat.zero_le _) hP1 hB1 (Nat.lt_succ_of_lt hv) hc1 hA1 (by rw [htx, hie]; exact (List.append_nil _).symm) (Nat.lt_succ_self _))
    ·
      have hlt : i < ldX LS xs 0 4 := Nat.lt_of_not_le (fun q => c217 ((nI_leI (by omega) (by omega)).mpr q))
      refine T_less (bk1 := 12 * (5 - (i + 1)) + 987) (bn1 := 54100 * (5 - (i + 1)) + 2762360) (by omega) (by omega) ?_
      refine T_aload0 dL_list_220 rfl ?_
      refine T_iconst (5) dL_list_221 rfl rfl ?_
      refine T_iload3 dL_list_222 rfl ?_
      refine T_iconst (3) dL_list_223 rfl rfl ?_
      refine T_irem dL_list_224 rfl (by decide) ?_
      rw [show nI i - nI i / 3 * 3 = nI (i % 3) from nI_mod (b := 3) (by omega) (by decide)]
      refine T_iadd dL_list_225 rfl ?_
      rw [show (5 : Int32) + nI (i % 3) = nI (5 + i % 3) from nI_add 5 _]
      refine T_cS2 (mc' := 0) (ms' := 0) (c_L_cell hX hL (k := 5 + i % 3) (by omega)) hX kL_114 (by decide) (Nat.le_of_ble_eq_true rfl) dL_list_226 rfl ?_
      rintro _ szq τq Mq ⟨rfl, ea, eb, ec⟩
      obtain rfl := ea.symm
      obtain rfl := eb.symm
      obtain rfl := ec.symm
      refine T_iload3 dL_list_229 rfl ?_
      refine T_iconst (3) dL_list_230 rfl rfl ?_
      refine T_idiv dL_list_231 rfl (by decide) ?_
      rw [show nI i / 3 = nI (i / 3) from nI_div (b := 3) (by omega) (by decide)]
      refine T_bipush (9) dL_list_232 rfl rfl ?_
      refine T_imul dL_list_234 rfl ?_
      rw [show nI (i / 3) * 9 = nI (i / 3 * 9) from nI_mul _ 9]
      refine T_ishr dL_list_235 rfl ?_
      rw [show clF LS xs (5 + i % 3) >>> (nI (i / 3 * 9) &&& 31) = xHX LS xs i from rfl]
      refine T_istore4 rfl (by decide) dL_list_236 rfl ?_
      refine T_aload2 dL_list_238 rfl ?_
      refine gL_41 _ rfl hP.t0 (hP.pa (f := 4) (by decide) (by decide)) dL_list_239 rfl ?_
      refine T_iload3 dL_list_242 rfl ?_
      refine T_bipush (10) dL_list_243 rfl rfl ?_
      refine T_newa (atype := .int) (N := 10) 0 (fun _ => .int 0) ka_int (by decide) rfl rfl (by decide) rfl dL_list_245 rfl ?_
      refine T_dup dL_list_247 rfl rfl ?_
      refine T_iconst (0) dL_list_248 rfl rfl ?_
      refine T_iconst (1) dL_list_249 rfl rfl ?_
      refine T_iload4 dL_list_250 rfl ?_
      refine T_joinI 271 (fun y => y = nI (if blF (shR (xHX LS xs i) 8) 2 = 0 then 99 else 40)) (fun hJ => ?_) (fun x271 hx271 => ?_)
      ·
        refine T_iload4 dL_list_252 rfl ?_
        refine T_bipush (8) dL_list_254 rfl rfl ?_
        refine T_ishr dL_list_256 rfl ?_
        refine T_iconst (2) dL_list_257 rfl rfl ?_
        refine T_cS2 (mc' := 0) (ms' := 0) (c_L_below hX _ (n := 2) (by decide)) hX kL_120 (by decide) (Nat.le_of_ble_eq_true rfl) dL_list_258 rfl ?_
        rintro _ szq τq Mq ⟨rfl, ea, eb, ec⟩
        obtain rfl := ea.symm
        obtain rfl := eb.symm
        obtain rfl := ec.symm
        refine T_if_ne 269 264 dL_list_261 (by decide) rfl (fun c261 => ?_) (fun c261 => ?_)
        ·
          refine T_bipush (40) dL_list_269 rfl rfl ?_
          refine hJ _ ?_
          first | exact j01 (p := 99) (q := 40) (Nat.lt_trans (bl_lt (by decide)) (by decide)) c261 | exact j02 (p := 99) (q := 40) c261
        ·
          refine T_bipush (99) dL_list_264 rfl rfl ?_
          refine T_goto 271 dL_list_266 (by decide) ?_
          refine hJ _ ?_
          first | exact j01 (p := 99) (q := 40) (Nat.lt_trans (bl_lt (by decide)) (by decide)) c261 | exact j02 (p := 99) (q := 40) c261
      ·
        subst hx271
        refine T_cS2 (mc' := 0) (ms' := 0) (c_L_below hX _ (n := (if blF (shR (xHX LS xs i) 8) 2 = 0 then 99 else 40)) (by split <;> decide)) hX kL_120 (by decide) (Nat.le_of_ble_eq_true rfl) dL_list_271 rfl ?_
        rintro _ szq τq Mq ⟨rfl, ea, eb, ec⟩
        obtain rfl := ea.symm
        obtain rfl := eb.symm
        obtain rfl := ec.symm
        refine T_iadd dL_list_274 rfl ?_
        refine T_iast 0 (tyN_s _ _ _) rfl (by decide) (by decide) dL_list_275 rfl ?_
        refine T_dup dL_list_276 rfl rfl ?_
        refine T_iconst (1) dL_list_277 rfl rfl ?_
        refine T_iconst (1) dL_list_278 rfl rfl ?_
        refine T_iload4 dL_list_279 rfl ?_
        refine T_iconst (4) dL_list_281 rfl rfl ?_
        refine T_ishr dL_list_282 rfl ?_
        refine T_bipush (9) dL_list_283 rfl rfl ?_
        refine T_cS2 (mc' := 0) (ms' := 0) (c_L_below hX _ (n := 9) (by decide)) hX kL_120 (by decide) (Nat.le_of_ble_eq_true rfl) dL_list_285 rfl ?_
        rintro _ szq τq Mq ⟨rfl, ea, eb, ec⟩
        obtain rfl := ea.symm
        obtain rfl := eb.symm
        obtain rfl := ec.symm
        refine T_iadd dL_list_288 rfl ?_
        refine T_iast 1 (tyN_s _ _ _) rfl (by decide) (by decide) dL_list_289 rfl ?_
        refine T_dup dL_list_290 rfl rfl ?_
        refine T_iconst (2) dL_list_291 rfl rfl ?_
        refine T_iconst (1) dL_list_292 rfl rfl ?_
        refine T_iload4 dL_list_293 rfl ?_
        refine T_iconst (5) dL_list_295 rfl rfl ?_
        refine T_ishr dL_list_296 rfl ?_
        refine T_joinI 316 (fun y => y = nI (if blF (shR (xHX LS xs i) 7) 3 = 0 then 30 else 99)) (fun hJ => ?_) (fun x316 hx316 => ?_)
        ·
          refine T_iload4 dL_list_297 rfl ?_
          refine T_bipush (7) dL_list_299 rfl rfl ?_
          refine T_ishr dL_list_301 rfl ?_
          refine T_iconst (3) dL_list_302 rfl rfl ?_
          refine T_cS2 (mc' := 0) (ms' := 0) (c_L_below hX _ (n := 3) (by decide)) hX kL_120 (by decide) (Nat.le_of_ble_eq_true rfl) dL_list_303 rfl ?_
          rintro _ szq τq Mq ⟨rfl, ea, eb, ec⟩
          obtain rfl := ea.symm
          obtain rfl := eb.symm
          obtain rfl := ec.symm
          refine T_if_ne 314 309 dL_list_306 (by decide) rfl (fun c306 => ?_) (fun c306 => ?_)
          ·
            refine T_bipush (99) dL_list_314 rfl rfl ?_
            refine hJ _ ?_
            first | exact j01 (p := 30) (q := 99) (Nat.lt_trans (bl_lt (by decide)) (by decide)) c306 | exact j02 (p := 30) (q := 99) c306
          ·
            refine T_bipush (30) dL_list_309 rfl rfl ?_
            refine T_goto 316 dL_list_311 (by decide) ?_
            refine hJ _ ?_
            first | exact j01 (p := 30) (q := 99) (Nat.lt_trans (bl_lt (by decide)) (by decide)) c306 | exact j02 (p := 30) (q := 99) c306
        ·
          subst hx316
          refine T_cS2 (mc' := 0) (ms' := 0) (c_L_below hX _ (n := (if blF (shR (xHX LS xs i) 7) 3 = 0 then 30 else 99)) (by split <;> decide)) hX kL_120 (by decide) (Nat.le_of_ble_eq_true rfl) dL_list_316 rfl ?_
          rintro _ szq τq Mq ⟨rfl, ea, eb, ec⟩
          obtain rfl := ea.symm
          obtain rfl := eb.symm
          obtain rfl := ec.symm
          refine T_iadd dL_list_319 rfl ?_
          refine T_iast 2 (tyN_s _ _ _) rfl (by decide) (by decide) dL_list_320 rfl ?_
          refine T_dup dL_list_321 rfl rfl ?_
          refine T_iconst (3) dL_list_322 rfl rfl ?_
          refine T_iload4 dL_list_323 rfl ?_
          refine T_bipush (6) dL_list_325 rfl rfl ?_
          refine T_ishr dL_list_327 rfl ?_
          refine T_iconst (2) dL_list_328 rfl rfl ?_
          refine T_cS2 (mc' := 0) (ms' := 0) (c_L_below hX _ (n := 2) (by decide)) hX kL_120 (by decide) (Nat.le_of_ble_eq_true rfl) dL_list_329 rfl ?_
          rintro _ szq τq Mq ⟨rfl, ea, eb, ec⟩
          obtain rfl := ea.symm
          obtain rfl := eb.symm
          obtain rfl := ec.symm
          refine T_iast 3 (tyN_s _ _ _) rfl (by decide) (by decide) dL_list_332 rfl ?_
          refine T_dup dL_list_333 rfl rfl ?_
          refine T_iconst (4) dL_list_334 rfl rfl ?_
          refine T_iconst (-1) dL_list_335 rfl rfl ?_
          refine T_iast 4 (tyN_s _ _ _) rfl (by decide) (by decide) dL_list_336 rfl ?_
          refine T_dup dL_list_337 rfl rfl ?_
          refine T_iconst (5) dL_list_338 rfl rfl ?_
          refine T_iconst (0) dL_list_339 rfl rfl ?_
          refine T_iast 5 (tyN_s _ _ _) rfl (by decide) (by decide) dL_list_340 rfl ?_
          refine T_dup dL_list_341 rfl rfl ?_
          refine T_bipush (6) dL_list_342 rfl rfl ?_
          refine T_iconst (0) dL_list_344 rfl rfl ?_
          refine T_iast 6 (tyN_s _ _ _) rfl (by decide) (by decide) dL_list_345 rfl ?_
          refine T_dup dL_list_346 rfl rfl ?_
          refine T_bipush (7) dL_list_347 rfl rfl ?_
          refine T_iconst (0) dL_list_349 rfl rfl ?_
          refine T_iast 7 (tyN_s _ _ _) rfl (by decide) (by decide) dL_list_350 rfl ?_
          refine T_dup dL_list_351 rfl rfl ?_
          refine T_bipush (8) dL_list_352 rfl rfl ?_
          refine T_iconst (0) dL_list_354 rfl rfl ?_
          refine T_iast 8 (tyN_s _ _ _) rfl (by decide) (by decide) dL_list_355 rfl ?_
          refine T_dup dL_list_356 rfl rfl ?_
          refine T_bipush (9) dL_list_357 rfl rfl ?_
          refine T_iconst (0) dL_list_359 rfl rfl ?_
          refine T_iast 9 (tyN_s _ _ _) rfl (by decide) (by decide) dL_list_360 rfl ?_
          refine T_nm (fun M2 e2 => ?_)
          have hM2 : ∀ q, q < sz → M2 q = M q := fun q hq => by rw [e2]; (repeat rw [up_a (Nat.ne_of_lt hq)]); rw [meN_n (Nat.ne_of_lt hq)]
          have hV2 : ∀ c, c < wdF 4 → M2 sz c = .int (VL (ldX LS xs) 4 i c) := fun c hc => by
            rw [e2]
            have hc2 : c < 10 := hc
            rcases (by omega : c = 0 ∨ c = 1 ∨ c = 2 ∨ c = 3 ∨ c = 4 ∨ c = 5 ∨ c = 6 ∨ c = 7 ∨ c = 8 ∨ c = 9) with rfl | rfl | rfl | rfl | rfl | rfl | rfl | rfl | rfl | rfl
            all_goals ((repeat (first | rw [up_s] | rw [up_k (by decide)])); first | rfl | exact congrArg Value.int (nI_add 1 _))
          clear e2
          refine T_aastA i (fun _ _ h => h.2.2.2.2.2.2) ((tyN_n (Nat.ne_of_lt (hP.ina (f := 4) (by decide) (by decide)).2)).trans (hP.ta (f := 4) (by decide) (by decide))) (tyN_s _ _ _) rfl (by omega) (by omega) dL_list_361 rfl ?_
          have hB1 := hP.rowB (f := 4) (i := i) (x := .ref sz) (kd := (100, 10)) (by decide) (by decide) hB (Nat.lt_trans hbs hP.je) hv hM2
          have hA1 := hP.rowA (f := 4) (i := i) (x := .ref sz) (kd := (100, 10)) (by decide) (by decide) hA0 hM2
          obtain ⟨R1, hP1⟩ : ∃ R1, PF (tyN τ sz (100, 10)) (up M2 (A 4) i (.ref sz)) s0 (sz + 1) A nn (kF (ldX LS xs) 4 (i + 1)) R1 (VL (ldX LS xs)) := ⟨_, (hP.row (f := 4) (i := i) (Nat.le_refl _) (by decide) (by decide) (kF_s _ _ _) (by omega) hM2 hV2).cg (k' := kF (ldX LS xs) 4 (i + 1)) (fun g _ _ => kF_r _ _ _ _) (fun _ _ _ _ _ _ _ => rfl)⟩
          replace hA0 := hA1
          replace hB := hB1
          replace hP := hP1
          replace hv := Nat.lt_succ_of_lt hv
          clear hA1 hB1 hP1 hM2 hV2
          refine T_nt (fun τ1 eτ => ?_)
          refine T_nm (fun M1 e1 => ?_)
          rw [← eτ, ← e1] at hP hB hA0
          clear eτ e1
          refine T_aload1 dL_list_362 rfl ?_
          refine T_ldcS (fun _ _ h => (h.2.1 9 (by decide)).2.2.2.2) dL_list_363 rfl ?_
          refine T_cV1 (mc' := 1) (ms' := 6004) (c_J4_append_15ec4 hX hB sk_9 (And.intro (Nat.lt_trans hbs hP.je) hv) hc1 (by simp only [List.length_append, List.length_cons, List.length_nil]; omega) (Or.inl sc_9)) hX kL_37 hB.rcv (by decide) (Nat.le_of_ble_eq_true rfl) dL_list_365 rfl ?_
          rintro _ szc τc Mc ⟨rfl, v1, cap1, hB2, hA, hc2⟩
          replace hP := (hP.ap hA (Nat.le_refl _) hbs hB.tv).le hA.1
          replace hA0 := hA0.tr hA
          replace hv := hA.vlt hv
          replace hB := hB2
          replace hc1 := hc2
          clear hB2 hc2 hA
          refine T_iload3 dL_list_368 rfl ?_
          refine T_cV1 (mc' := 1) (ms' := 6004) (c_J4_append_bf812 hX hB (n := i) (by omega) (And.intro (Nat.lt_trans hbs hP.je) hv) hc1 (by simp only [List.length_append, List.length_cons, List.length_nil]; omega)) hX kL_47 hB.rcv (by decide) (Nat.le_of_ble_eq_true rfl) dL_list_369 rfl ?_
          rintro _ szc τc Mc ⟨rfl, v1, cap1, hB2, hA, hc2⟩
          replace hP := (hP.ap hA (Nat.le_refl _) hbs hB.tv).le hA.1
          replace hA0 := hA0.tr hA
          replace hv := hA.vlt hv
          replace hB := hB2
          replace hc1 := hc2
          clear hB2 hc2 hA
          refine T_ldcS (fun _ _ h => (h.2.1 10 (by decide)).2.2.2.2) dL_list_372 rfl ?_
          refine T_cV1 (mc' := 1) (ms' := 6004) (c_J4_append_15ec4 hX hB sk_10 (And.intro (Nat.lt_trans hbs hP.je) hv) hc1 (by simp only [List.length_append, List.length_cons, List.length_nil]; omega) (Or.inl sc_10)) hX kL_37 hB.rcv (by decide) (Nat.le_of_ble_eq_true rfl) dL_list_374 rfl ?_
          rintro _ szc τc Mc ⟨rfl, v1, cap1, hB2, hA, hc2⟩
          replace hP := (hP.ap hA (Nat.le_refl _) hbs hB.tv).le hA.1
          replace hA0 := hA0.tr hA
          replace hv := hA.vlt hv
          replace hB := hB2
          replace hc1 := hc2
          clear hB2 hc2 hA
          refine T_aload2 dL_list_377 rfl ?_
          refine gL_41 _ rfl hP.t0 (hP.pa (f := 4) (by decide) (by decide)) dL_list_378 rfl ?_
          refine T_iload3 dL_list_381 rfl ?_
          refine T_aaldA i (hP.ta (f := 4) (by decide) (by decide)) rfl (by omega) (by omega) dL_list_382 rfl (hP.pr (f := 4) (i := i) (by decide) (by decide) (by rw [kF_s]; omega)) ?_
          refine T_iconst (0) dL_list_383 rfl rfl ?_
          refine T_iald 0 (hP.tr (f := 4) (i := i) (by decide) (by decide) (by rw [kF_s]; omega)) rfl (by decide) (by decide) dL_list_384 rfl (show _ = Value.int (nI (ldX LS xs 4 i)) from hP.v (f := 4) (i := i) (c := 0) (by decide) (by decide) (by rw [kF_s]; omega) (by decide)) ?_
          refine T_cV1 (mc' := 1) (ms' := 6004) (c_J4_append_bf812 hX hB (n := ldX LS xs 4 i) (by omega) (And.intro (Nat.lt_trans hbs hP.je) hv) hc1 (by simp only [List.length_append, List.length_cons, List.length_nil]; omega)) hX kL_47 hB.rcv (by decide) (Nat.le_of_ble_eq_true rfl) dL_list_385 rfl ?_
          rintro _ szc τc Mc ⟨rfl, v1, cap1, hB2, hA, hc2⟩
          replace hP := (hP.ap hA (Nat.le_refl _) hbs hB.tv).le hA.1
          replace hA0 := hA0.tr hA
          replace hv := hA.vlt hv
          replace hB := hB2
          replace hc1 := hc2
          clear hB2 hc2 hA
          refine T_ldcS (fun _ _ h => (h.2.1 11 (by decide)).2.2.2.2) dL_list_388 rfl ?_
          refine T_cV1 (mc' := 1) (ms' := 6004) (c_J4_append_15ec4 hX hB sk_11 (And.intro (Nat.lt_trans hbs hP.je) hv) hc1 (by simp only [List.length_append, List.length_cons, List.length_nil]; omega) (Or.inl sc_11)) hX kL_37 hB.rcv (by decide) (Nat.le_of_ble_eq_true rfl) dL_list_390 rfl ?_
          rintro _ szc τc Mc ⟨rfl, v1, cap1, hB2, hA, hc2⟩
          replace hP := (hP.ap hA (Nat.le_refl _) hbs hB.tv).le hA.1
          replace hA0 := hA0.tr hA
          replace hv := hA.vlt hv
          replace hB := hB2
          replace hc1 := hc2
          clear hB2 hc2 hA
          refine T_aload2 dL_list_393 rfl ?_
          refine gL_41 _ rfl hP.t0 (hP.pa (f := 4) (by decide) (by decide)) dL_list_394 rfl ?_
          refine T_iload3 dL_list_397 rfl ?_
          refine T_aaldA i (hP.ta (f := 4) (by decide) (by decide)) rfl (by omega) (by omega) dL_list_398 rfl (hP.pr (f := 4) (i := i) (by decide) (by decide) (by rw [kF_s]; omega)) ?_
          refine T_iconst (1) dL_list_399 rfl rfl ?_
          refine T_iald 1 (hP.tr (f := 4) (i := i) (by decide) (by decide) (by rw [kF_s]; omega)) rfl (by decide) (by decide) dL_list_400 rfl (show _ = Value.int (nI (ldX LS xs 5 i)) from hP.v (f := 4) (i := i) (c := 1) (by decide) (by decide) (by rw [kF_s]; omega) (by decide)) ?_
          refine T_cV1 (mc' := 1) (ms' := 6004) (c_J4_append_bf812 hX hB (n := ldX LS xs 5 i) (by omega) (And.intro (Nat.lt_trans hbs hP.je) hv) hc1 (by simp only [List.length_append, List.length_cons, List.length_nil]; omega)) hX kL_47 hB.rcv (by decide) (Nat.le_of_ble_eq_true rfl) dL_list_401 rfl ?_
          rintro _ szc τc Mc ⟨rfl, v1, cap1, hB2, hA, hc2⟩
          replace hP := (hP.ap hA (Nat.le_refl _) hbs hB.tv).le hA.1
          replace hA0 := hA0.tr hA
          replace hv := hA.vlt hv
          replace hB := hB2
          replace hc1 := hc2
          clear hB2 hc2 hA
          refine T_ldcS (fun _ _ h => (h.2.1 12 (by decide)).2.2.2.2) dL_list_404 rfl ?_
          refine T_cV1 (mc' := 1) (ms' := 6004) (c_J4_append_15ec4 hX hB sk_12 (And.intro (Nat.lt_trans hbs hP.je) hv) hc1 (by simp only [List.length_append, List.length_cons, List.length_nil]; omega) (Or.inl sc_12)) hX kL_37 hB.rcv (by decide) (Nat.le_of_ble_eq_true rfl) dL_list_406 rfl ?_
          rintro _ szc τc Mc ⟨rfl, v1, cap1, hB2, hA, hc2⟩
          replace hP := (hP.ap hA (Nat.le_refl _) hbs hB.tv).le hA.1
          replace hA0 := hA0.tr hA
          replace hv := hA.vlt hv
          replace hB := hB2
          replace hc1 := hc2
          clear hB2 hc2 hA
          refine T_aload2 dL_list_409 rfl ?_
          refine gL_41 _ rfl hP.t0 (hP.pa (f := 4) (by decide) (by decide)) dL_list_410 rfl ?_
          refine T_iload3 dL_list_413 rfl ?_
          refine T_aaldA i (hP.ta (f := 4) (by decide) (by decide)) rfl (by omega) (by omega) dL_list_414 rfl (hP.pr (f := 4) (i := i) (by decide) (by decide) (by rw [kF_s]; omega)) ?_
          refine T_iconst (2) dL_list_415 rfl rfl ?_
          refine T_iald 2 (hP.tr (f := 4) (i := i) (by decide) (by decide) (by rw [kF_s]; omega)) rfl (by decide) (by decide) dL_list_416 rfl (show _ = Value.int (nI (ldX LS xs 6 i)) from hP.v (f := 4) (i := i) (c := 2) (by decide) (by decide) (by rw [kF_s]; omega) (by decide)) ?_
          refine T_cV1 (mc' := 1) (ms' := 6004) (c_J4_append_bf812 hX hB (n := ldX LS xs 6 i) (by omega) (And.intro (Nat.lt_trans hbs hP.je) hv) hc1 (by simp only [List.length_append, List.length_cons, List.length_nil]; omega)) hX kL_47 hB.rcv (by decide) (Nat.le_of_ble_eq_true rfl) dL_list_417 rfl ?_
          rintro _ szc τc Mc ⟨rfl, v1, cap1, hB2, hA, hc2⟩
          replace hP := (hP.ap hA (Nat.le_refl _) hbs hB.tv).le hA.1
          replace hA0 := hA0.tr hA
          replace hv := hA.vlt hv
          replace hB := hB2
          replace hc1 := hc2
          clear hB2 hc2 hA
          refine T_aload2 dL_list_420 rfl ?_
          refine gL_41 _ rfl hP.t0 (hP.pa (f := 4) (by decide) (by decide)) dL_list_421 rfl ?_
          refine T_iload3 dL_list_424 rfl ?_
          refine T_aaldA i (hP.ta (f := 4) (by decide) (by decide)) rfl (by omega) (by omega) dL_list_425 rfl (hP.pr (f := 4) (i := i) (by decide) (by decide) (by rw [kF_s]; omega)) ?_
          refine T_iconst (3) dL_list_426 rfl rfl ?_
          refine T_iald 3 (hP.tr (f := 4) (i := i) (by decide) (by decide) (by rw [kF_s]; omega)) rfl (by decide) (by decide) dL_list_427 rfl (show _ = Value.int (nI (ldX LS xs 7 i)) from hP.v (f := 4) (i := i) (c := 3) (by decide) (by decide) (by rw [kF_s]; omega) (by decide)) ?_
          refine T_iconst (1) dL_list_428 rfl rfl ?_
          refine T_icmp_ne 437 432 dL_list_429 (by decide) rfl (fun c429 => ?_) (fun c429 => ?_)
          ·
            have cs : ¬ ldX LS xs 7 i = 1 := fun q => c429 (congrArg nI q)
            have hks : ∀ (τ : TY) (M : ME), ST adK adV τ M (adK 8) (adV 8) [59] := fun _ _ => sk_8
            have hkc : CSt adK adV (adK 8) (adV 8) [59] := sc_8
            refine T_ldcS (fun _ _ h => (h.2.1 8 (by decide)).2.2.2.2) dL_list_437 rfl ?_
            refine T_cV1 (mc' := 1) (ms' := 6004) (c_J4_append_15ec4 hX hB (hks _ _) (And.intro (Nat.lt_trans hbs hP.je) hv) hc1 (by simp only [List.length_append, List.length_cons, List.length_nil]; omega) (Or.inl hkc)) hX kL_37 hB.rcv (by decide) (Nat.le_of_ble_eq_true rfl) dL_list_439 rfl ?_
            rintro _ szc τc Mc ⟨rfl, v1, cap1, hB2, hA, hc2⟩
            replace hP := (hP.ap hA (Nat.le_refl _) hbs hB.tv).le hA.1
            replace hA0 := hA0.tr hA
            replace hv := hA.vlt hv
            replace hB := hB2
            replace hc1 := hc2
            clear hB2 hc2 hA
            refine T_pop dL_list_442 rfl rfl ?_
            first | refine T_iinc3 rfl (by decide) dL_list_443 rfl (inc1 _) ?_ | refine T_iinc3 rfl (by decide) dL_list_443 rfl rfl ?_
            refine T_goto 211 dL_list_446 (by decide) ?_
            refine T_less ?_ ?_ (ih (i + 1) _ _ _ _ _ A nn _ _ _ _ hnn (by omega) hP hB hv hc1 hA0 ?_ (by omega))
            · omega
            · omega
            · rw [htx]
              first | (simp only [catF, lnH, List.append_assoc, List.nil_append, List.append_nil, if_neg cs]; done) | (simp only [catF, lnH, List.append_assoc, List.nil_append, List.append_nil, if_pos cs]; done) | (simp only [catF, lnH, List.append_assoc, List.nil_append, List.append_nil]; done)
          ·
            have cs : ldX LS xs 7 i = 1 := (nI_eq (b := 1) (by omega) (by omega)).mp c429
            have hks : ∀ (τ : TY) (M : ME), ST adK adV τ M (adK 13) (adV 13) [32, 98, 101, 108, 108, 59, 10] := fun _ _ => sk_13
            have hkc : CSt adK adV (adK 13) (adV 13) [32, 98, 101, 108, 108, 59, 10] := sc_13
            refine T_ldcS (fun _ _ h => (h.2.1 13 (by decide)).2.2.2.2) dL_list_432 rfl ?_
            refine T_goto 439 dL_list_434 (by decide) ?_
            refine T_cV1 (mc' := 1) (ms' := 6004) (c_J4_append_15ec4 hX hB (hks _ _) (And.intro (Nat.lt_trans hbs hP.je) hv) hc1 (by simp only [List.length_append, List.length_cons, List.length_nil]; omega) (Or.inl hkc)) hX kL_37 hB.rcv (by decide) (Nat.le_of_ble_eq_true rfl) dL_list_439 rfl ?_
            rintro _ szc τc Mc ⟨rfl, v1, cap1, hB2, hA, hc2⟩
            replace hP := (hP.ap hA (Nat.le_refl _) hbs hB.tv).le hA.1
            replace hA0 := hA0.tr hA
            replace hv := hA.vlt hv
            replace hB := hB2
            replace hc1 := hc2
            clear hB2 hc2 hA
            refine T_pop dL_list_442 rfl rfl ?_
            first | refine T_iinc3 rfl (by decide) dL_list_443 rfl (inc1 _) ?_ | refine T_iinc3 rfl (by decide) dL_list_443 rfl rfl ?_
            refine T_goto 211 dL_list_446 (by decide) ?_
            refine T_less ?_ ?_ (ih (i + 1) _ _ _ _ _ A nn _ _ _ _ hnn (by omega) hP hB hv hc1 hA0 ?_ (by omega))
            · omega
            · omega
            · rw [htx]
              first | (simp only [catF, lnH, List.append_assoc, List.nil_append, List.append_nil, if_neg cs]; done) | (simp only [catF, lnH, List.append_assoc, List.nil_append, List.append_nil, if_pos cs]; done) | (simp only [catF, lnH, List.append_assoc, List.nil_append, List.append_nil]; done)
theorem sk_3 {adK adV : Nat → Nat} {τ : TY} {M : ME} : ST adK adV τ M (adK 3) (adV 3) [115, 116, 114, 101, 116, 99, 104, 32, 115] := stc (by decide) (by decide) (by decide) (by decide)
theorem sc_3 {adK adV : Nat → Nat} : CSt adK adV (adK 3) (adV 3) [115, 116, 114, 101, 116, 99, 104, 32, 115] := stcC (by decide) (by decide) (by decide)
theorem sk_4 {adK adV : Nat → Nat} {τ : TY} {M : ME} : ST adK adV τ M (adK 4) (adV 4) [32, 108, 111, 110, 103, 32] := stc (by decide) (by decide) (by decide) (by decide)
theorem sc_4 {adK adV : Nat → Nat} : CSt adK adV (adK 4) (adV 4) [32, 108, 111, 110, 103, 32] := stcC (by decide) (by decide) (by decide)
theorem sk_5 {adK adV : Nat → Nat} {τ : TY} {M : ME} : ST adK adV τ M (adK 5) (adV 5) [32, 115, 108, 111, 112, 101, 32, 45, 32] := stc (by decide) (by decide) (by decide) (by decide)
theorem sc_5 {adK adV : Nat → Nat} : CSt adK adV (adK 5) (adV 5) [32, 115, 108, 111, 112, 101, 32, 45, 32] := stcC (by decide) (by decide) (by decide)
theorem sk_6 {adK adV : Nat → Nat} {τ : TY} {M : ME} : ST adK adV τ M (adK 6) (adV 6) [32, 115, 108, 111, 112, 101, 32] := stc (by decide) (by decide) (by decide) (by decide)
theorem sc_6 {adK adV : Nat → Nat} : CSt adK adV (adK 6) (adV 6) [32, 115, 108, 111, 112, 101, 32] := stcC (by decide) (by decide) (by decide)
theorem sk_7 {adK adV : Nat → Nat} {τ : TY} {M : ME} : ST adK adV τ M (adK 7) (adV 7) [32, 102, 114, 111, 115, 116, 32] := stc (by decide) (by decide) (by decide) (by decide)
theorem sc_7 {adK adV : Nat → Nat} : CSt adK adV (adK 7) (adV 7) [32, 102, 114, 111, 115, 116, 32] := stcC (by decide) (by decide) (by decide)
set_option maxHeartbeats 1000000 in
theorem L3_L_list {l : Launch} {D : va_G} {cA : Nat → ClassId} {n0 : Nat} {sg adK adV : Nat → Nat} {sgA smA wdA bS LS : Nat} {xs : Nat → Int32} (hX : SF n0 (XW0 sg adK adV sgA smA wdA n0 bS LS xs)) {s0 b v0 : Nat} {τ0 : TY} {M0 : ME} (hL : LS ≤ 260) (hbs : b < s0) : ∀ (n : Nat) (i : Nat) (sz : Nat) (v : Nat) (cap : Nat) (τ : TY) (M : ME) (A : Nat → Nat) (nn : Nat → Nat) (Rw : Nat → Nat → Nat) (tx : List Nat) (y4 : Value) (y5 : Value) (hnn : ∀ g, 3 ≤ g → g ≤ 3 → nn g = ldX LS xs 0 g) (hi : i ≤ ldX LS xs 0 3) (hP : PF τ M s0 sz A nn (kF (ldX LS xs) 3 i) Rw (VL (ldX LS xs))) (hB : SBt τ M b v cap tx) (hv : v < sz) (hc1 : 1 ≤ cap) (hA0 : AP s0 τ0 M0 b v0 sz τ M v) (htx : tx = catF (lnT (ldX LS xs)) i), ldX LS xs 0 3 - i < n → T l D cA n0 (XW0 sg adK adV sgA smA wdA n0 bS LS xs) mL_list 13 (12 * (6 - i) + 1036) (54100 * (6 - i) + 2978780)  sz τ M 29 [.ref bS, .ref b, .ref s0, .int (nI i), y4, y5] [] ((LsQ (ldX LS xs) s0 b v0 τ0 M0)) (fun _ _ _ _ => False) := by
  intro n
  induction n with
  | zero => intros; omega
  | succ n ih =>
    intro i sz v cap τ M A nn Rw tx y4 y5 hnn hi hP hB hv hc1 hA0 htx hn
    obtain ⟨⟨o3, o4, o5, o6, o7⟩, ⟨o8, o9, o10⟩, ⟨o11, o12, o13, o14⟩, o15, ⟨o16, o17, o18, o19, o20, o21⟩, ⟨o22, o23, o24, o25, o26⟩⟩ := ldX_ok LS xs
    have q3 : nn 3 = ldX LS xs 0 3 := hnn 3 (by decide) (by decide)
    have k3 := cat_len (lnT_len (ldX LS xs)) i
    have hlen : tx.length ≤ 42 * i := by rw [htx]; (try simp only [List.length_append]); omega
    have dl0 := dg_le2 (i)
    have dl1 := dg_le2 (ldX LS xs 1 i)
    have dl2 := dg_le2 (ldX LS xs 3 i)
    have dl3 := dg_le2 (if ldX LS xs 2 i < 9 then 9 - ldX LS xs 2 i else ldX LS xs 2 i - 9)
    have bd0 := o8 i
    have bd1 := o9 i
    have bd2 := o10 i
    refine T_iload3 dL_list_29 rfl ?_
    refine T_aload2 dL_list_30 rfl ?_
    refine gL_56 _ rfl hP.t0 (hP.pa (f := 3) (by decide) (by decide)) dL_list_31 rfl ?_
    refine T_alen (j := 8) (hP.ta (f := 3) (by decide) (by decide)) (by decide) dL_list_34 rfl ?_
    rw [q3]
    refine T_icmp_ge 191 38 dL_list_35 (by decide) rfl (fun c35 => ?_) (fun c35 => ?_)
    ·
      have hie : i = ldX LS xs 0 3 := Nat.le_antisymm hi ((nI_leI (by omega) (by omega)).mp c35)
      refine T_aload2 dL_list_191 rfl ?_
      refine T_iconst (1) dL_list_192 rfl rfl ?_
      refine T_aload0 dL_list_193 rfl ?_
      refine T_iconst (4) dL_list_194 rfl rfl ?_
      refine T_cS2 (mc' := 0) (ms' := 0) (c_L_cell hX hL (k := 4) (by omega)) hX kL_114 (by decide) (Nat.le_of_ble_eq_true rfl) dL_list_195 rfl ?_
      rintro _ szq τq Mq ⟨rfl, ea, eb, ec⟩
      obtain rfl := ea.symm
      obtain rfl := eb.symm
      obtain rfl := ec.symm
      refine T_iconst (5) dL_list_198 rfl rfl ?_
      refine T_cS2 (mc' := 0) (ms' := 0) (c_L_below hX _ (n := 5) (by decide)) hX kL_120 (by decide) (Nat.le_of_ble_eq_true rfl) dL_list_199 rfl ?_
      rintro _ szq τq Mq ⟨rfl, ea, eb, ec⟩
      obtain rfl := ea.symm
      obtain rfl := eb.symm
      obtain rfl := ec.symm
      refine T_iadd dL_list_202 rfl ?_
      rw [show (1 : Int32) + nI (blF (clF LS xs 4) 5) = nI (ldX LS xs 0 4) from nI_add 1 _]
      refine T_less (bk1 := 1035 + 1) (bn1 := 2978760 + ldX LS xs 0 4) (by omega) (by omega) ?_
      refine T_anewA (N := ldX LS xs 0 4) kcL_124 (fun _ _ h => h.2.2.2.2.2.2) rfl (by omega) dL_list_203 rfl ?_
      refine pL_41 rfl ((tyN_n (Nat.ne_of_lt hP.je)).trans hP.t0) dL_list_206 rfl ?_
      have hB1 := hP.arrB (f := 4) (x := .ref (sz)) (kd := (108, ldX LS xs 0 4)) (g := fun _ => .null) hB (Nat.lt_trans hbs hP.je) hv
      have hA1 := hP.arrA (f := 4) (x := .ref (sz)) (kd := (108, ldX LS xs 0 4)) (g := fun _ => .null) hA0
      have hP1 := (hP.arr (f := 4) (N := ldX LS xs 0 4) (g := fun _ => .null) (Nat.le_refl _) (by decide) (by decide) (kF_0 (ldX LS xs))).cg (k' := kF (ldX LS xs) 4 0) (fun g hg3 _ => kF_nx _ hie g) (fun _ _ _ _ _ _ _ => rfl)
      refine T_iconst (0) dL_list_209 rfl rfl ?_
      refine T_istore3 rfl (by decide) dL_list_210 rfl ?_
      refine T_less (by omega) (by omega) (L4_L_list hX hL hbs _ 0 _ v cap _ _ _ _ _ _ _ _ (hn_nx hnn) (Nat.zero_le _) hP1 hB1 (Nat.lt_succ_of_lt hv) hc1 hA1 (by rw [htx, hie]; exact (List.append_nil _).symm) (Nat.lt_succ_self _))
    ·
      have hlt : i < ldX LS xs 0 3 := Nat.lt_of_not_le (fun q => c35 ((nI_leI (by omega) (by omega)).mpr q))
      refine T_less (bk1 := 12 * (6 - (i + 1)) + 1048) (bn1 := 54100 * (6 - (i + 1)) + 3032880) (by omega) (by omega) ?_
      refine T_aload0 dL_list_38 rfl ?_
      refine T_iconst (1) dL_list_39 rfl rfl ?_
      refine T_iload3 dL_list_40 rfl ?_
      refine T_iconst (3) dL_list_41 rfl rfl ?_
      refine T_irem dL_list_42 rfl (by decide) ?_
      rw [show nI i - nI i / 3 * 3 = nI (i % 3) from nI_mod (b := 3) (by omega) (by decide)]
      refine T_iadd dL_list_43 rfl ?_
      rw [show (1 : Int32) + nI (i % 3) = nI (1 + i % 3) from nI_add 1 _]
      refine T_cS2 (mc' := 0) (ms' := 0) (c_L_cell hX hL (k := 1 + i % 3) (by omega)) hX kL_114 (by decide) (Nat.le_of_ble_eq_true rfl) dL_list_44 rfl ?_
      rintro _ szq τq Mq ⟨rfl, ea, eb, ec⟩
      obtain rfl := ea.symm
      obtain rfl := eb.symm
      obtain rfl := ec.symm
      refine T_iload3 dL_list_47 rfl ?_
      refine T_iconst (3) dL_list_48 rfl rfl ?_
      refine T_idiv dL_list_49 rfl (by decide) ?_
      rw [show nI i / 3 = nI (i / 3) from nI_div (b := 3) (by omega) (by decide)]
      refine T_bipush (9) dL_list_50 rfl rfl ?_
      refine T_imul dL_list_52 rfl ?_
      rw [show nI (i / 3) * 9 = nI (i / 3 * 9) from nI_mul _ 9]
      refine T_ishr dL_list_53 rfl ?_
      rw [show clF LS xs (1 + i % 3) >>> (nI (i / 3 * 9) &&& 31) = xTX LS xs i from rfl]
      refine T_istore4 rfl (by decide) dL_list_54 rfl ?_
      refine T_aload2 dL_list_56 rfl ?_
      refine gL_56 _ rfl hP.t0 (hP.pa (f := 3) (by decide) (by decide)) dL_list_57 rfl ?_
      refine T_iload3 dL_list_60 rfl ?_
      refine T_iconst (3) dL_list_61 rfl rfl ?_
      refine T_newa (atype := .int) (N := 3) 0 (fun _ => .int 0) ka_int (by decide) rfl rfl (by decide) rfl dL_list_62 rfl ?_
      refine T_dup dL_list_64 rfl rfl ?_
      refine T_iconst (0) dL_list_65 rfl rfl ?_
      refine T_iconst (1) dL_list_66 rfl rfl ?_
      refine T_iload4 dL_list_67 rfl ?_
      refine T_bipush (9) dL_list_69 rfl rfl ?_
      refine T_cS2 (mc' := 0) (ms' := 0) (c_L_below hX _ (n := 9) (by decide)) hX kL_120 (by decide) (Nat.le_of_ble_eq_true rfl) dL_list_71 rfl ?_
      rintro _ szq τq Mq ⟨rfl, ea, eb, ec⟩
      obtain rfl := ea.symm
      obtain rfl := eb.symm
      obtain rfl := ec.symm
      refine T_iadd dL_list_74 rfl ?_
      refine T_iast 0 (tyN_s _ _ _) rfl (by decide) (by decide) dL_list_75 rfl ?_
      refine T_dup dL_list_76 rfl rfl ?_
      refine T_iconst (1) dL_list_77 rfl rfl ?_
      refine T_iload4 dL_list_78 rfl ?_
      refine T_iconst (4) dL_list_80 rfl rfl ?_
      refine T_ishr dL_list_81 rfl ?_
      refine T_bipush (19) dL_list_82 rfl rfl ?_
      refine T_cS2 (mc' := 0) (ms' := 0) (c_L_below hX _ (n := 19) (by decide)) hX kL_120 (by decide) (Nat.le_of_ble_eq_true rfl) dL_list_84 rfl ?_
      rintro _ szq τq Mq ⟨rfl, ea, eb, ec⟩
      obtain rfl := ea.symm
      obtain rfl := eb.symm
      obtain rfl := ec.symm
      refine T_bipush (9) dL_list_87 rfl rfl ?_
      refine T_isub dL_list_89 rfl ?_
      refine T_iast 1 (tyN_s _ _ _) rfl (by decide) (by decide) dL_list_90 rfl ?_
      refine T_dup dL_list_91 rfl rfl ?_
      refine T_iconst (2) dL_list_92 rfl rfl ?_
      refine T_iload4 dL_list_93 rfl ?_
      refine T_iconst (3) dL_list_95 rfl rfl ?_
      refine T_ishr dL_list_96 rfl ?_
      refine T_bipush (10) dL_list_97 rfl rfl ?_
      refine T_cS2 (mc' := 0) (ms' := 0) (c_L_below hX _ (n := 10) (by decide)) hX kL_120 (by decide) (Nat.le_of_ble_eq_true rfl) dL_list_99 rfl ?_
      rintro _ szq τq Mq ⟨rfl, ea, eb, ec⟩
      obtain rfl := ea.symm
      obtain rfl := eb.symm
      obtain rfl := ec.symm
      refine T_iast 2 (tyN_s _ _ _) rfl (by decide) (by decide) dL_list_102 rfl ?_
      refine T_nm (fun M2 e2 => ?_)
      have hM2 : ∀ q, q < sz → M2 q = M q := fun q hq => by rw [e2]; (repeat rw [up_a (Nat.ne_of_lt hq)]); rw [meN_n (Nat.ne_of_lt hq)]
      have hV2 : ∀ c, c < wdF 3 → M2 sz c = .int (VL (ldX LS xs) 3 i c) := fun c hc => by
        rw [e2]
        have hc2 : c < 3 := hc
        rcases (by omega : c = 0 ∨ c = 1 ∨ c = 2) with rfl | rfl | rfl
        all_goals ((repeat (first | rw [up_s] | rw [up_k (by decide)])); first | rfl | exact congrArg Value.int (nI_add 1 _))
      clear e2
      refine T_aastA i (fun _ _ h => h.2.2.2.2.2.2) ((tyN_n (Nat.ne_of_lt (hP.ina (f := 3) (by decide) (by decide)).2)).trans (hP.ta (f := 3) (by decide) (by decide))) (tyN_s _ _ _) rfl (by omega) (by omega) dL_list_103 rfl ?_
      have hB1 := hP.rowB (f := 3) (i := i) (x := .ref sz) (kd := (100, 3)) (by decide) (by decide) hB (Nat.lt_trans hbs hP.je) hv hM2
      have hA1 := hP.rowA (f := 3) (i := i) (x := .ref sz) (kd := (100, 3)) (by decide) (by decide) hA0 hM2
      obtain ⟨R1, hP1⟩ : ∃ R1, PF (tyN τ sz (100, 3)) (up M2 (A 3) i (.ref sz)) s0 (sz + 1) A nn (kF (ldX LS xs) 3 (i + 1)) R1 (VL (ldX LS xs)) := ⟨_, (hP.row (f := 3) (i := i) (Nat.le_refl _) (by decide) (by decide) (kF_s _ _ _) (by omega) hM2 hV2).cg (k' := kF (ldX LS xs) 3 (i + 1)) (fun g _ _ => kF_r _ _ _ _) (fun _ _ _ _ _ _ _ => rfl)⟩
      replace hA0 := hA1
      replace hB := hB1
      replace hP := hP1
      replace hv := Nat.lt_succ_of_lt hv
      clear hA1 hB1 hP1 hM2 hV2
      refine T_nt (fun τ1 eτ => ?_)
      refine T_nm (fun M1 e1 => ?_)
      rw [← eτ, ← e1] at hP hB hA0
      clear eτ e1
      refine T_aload2 dL_list_104 rfl ?_
      refine gL_56 _ rfl hP.t0 (hP.pa (f := 3) (by decide) (by decide)) dL_list_105 rfl ?_
      refine T_iload3 dL_list_108 rfl ?_
      refine T_aaldA i (hP.ta (f := 3) (by decide) (by decide)) rfl (by omega) (by omega) dL_list_109 rfl (hP.pr (f := 3) (i := i) (by decide) (by decide) (by rw [kF_s]; omega)) ?_
      refine T_iconst (1) dL_list_110 rfl rfl ?_
      refine T_iald 1 (hP.tr (f := 3) (i := i) (by decide) (by decide) (by rw [kF_s]; omega)) rfl (by decide) (by decide) dL_list_111 rfl (show _ = Value.int (nI (ldX LS xs 2 i) - 9) from hP.v (f := 3) (i := i) (c := 1) (by decide) (by decide) (by rw [kF_s]; omega) (by decide)) ?_
      refine T_istore5 rfl (by decide) dL_list_112 rfl ?_
      refine T_aload1 dL_list_114 rfl ?_
      refine T_ldcS (fun _ _ h => (h.2.1 3 (by decide)).2.2.2.2) dL_list_115 rfl ?_
      refine T_cV1 (mc' := 1) (ms' := 6004) (c_J4_append_15ec4 hX hB sk_3 (And.intro (Nat.lt_trans hbs hP.je) hv) hc1 (by simp only [List.length_append, List.length_cons, List.length_nil]; omega) (Or.inl sc_3)) hX kL_37 hB.rcv (by decide) (Nat.le_of_ble_eq_true rfl) dL_list_117 rfl ?_
      rintro _ szc τc Mc ⟨rfl, v1, cap1, hB2, hA, hc2⟩
      replace hP := (hP.ap hA (Nat.le_refl _) hbs hB.tv).le hA.1
      replace hA0 := hA0.tr hA
      replace hv := hA.vlt hv
      replace hB := hB2
      replace hc1 := hc2
      clear hB2 hc2 hA
      refine T_iload3 dL_list_120 rfl ?_
      refine T_cV1 (mc' := 1) (ms' := 6004) (c_J4_append_bf812 hX hB (n := i) (by omega) (And.intro (Nat.lt_trans hbs hP.je) hv) hc1 (by simp only [List.length_append, List.length_cons, List.length_nil]; omega)) hX kL_47 hB.rcv (by decide) (Nat.le_of_ble_eq_true rfl) dL_list_121 rfl ?_
      rintro _ szc τc Mc ⟨rfl, v1, cap1, hB2, hA, hc2⟩
      replace hP := (hP.ap hA (Nat.le_refl _) hbs hB.tv).le hA.1
      replace hA0 := hA0.tr hA
      replace hv := hA.vlt hv
      replace hB := hB2
      replace hc1 := hc2
      clear hB2 hc2 hA
      refine T_ldcS (fun _ _ h => (h.2.1 4 (by decide)).2.2.2.2) dL_list_124 rfl ?_
      refine T_cV1 (mc' := 1) (ms' := 6004) (c_J4_append_15ec4 hX hB sk_4 (And.intro (Nat.lt_trans hbs hP.je) hv) hc1 (by simp only [List.length_append, List.length_cons, List.length_nil]; omega) (Or.inl sc_4)) hX kL_37 hB.rcv (by decide) (Nat.le_of_ble_eq_true rfl) dL_list_126 rfl ?_
      rintro _ szc τc Mc ⟨rfl, v1, cap1, hB2, hA, hc2⟩
      replace hP := (hP.ap hA (Nat.le_refl _) hbs hB.tv).le hA.1
      replace hA0 := hA0.tr hA
      replace hv := hA.vlt hv
      replace hB := hB2
      replace hc1 := hc2
      clear hB2 hc2 hA
      refine T_aload2 dL_list_129 rfl ?_
      refine gL_56 _ rfl hP.t0 (hP.pa (f := 3) (by decide) (by decide)) dL_list_130 rfl ?_
      refine T_iload3 dL_list_133 rfl ?_
      refine T_aaldA i (hP.ta (f := 3) (by decide) (by decide)) rfl (by omega) (by omega) dL_list_134 rfl (hP.pr (f := 3) (i := i) (by decide) (by decide) (by rw [kF_s]; omega)) ?_
      refine T_iconst (0) dL_list_135 rfl rfl ?_
      refine T_iald 0 (hP.tr (f := 3) (i := i) (by decide) (by decide) (by rw [kF_s]; omega)) rfl (by decide) (by decide) dL_list_136 rfl (show _ = Value.int (nI (ldX LS xs 1 i)) from hP.v (f := 3) (i := i) (c := 0) (by decide) (by decide) (by rw [kF_s]; omega) (by decide)) ?_
      refine T_cV1 (mc' := 1) (ms' := 6004) (c_J4_append_bf812 hX hB (n := ldX LS xs 1 i) (by omega) (And.intro (Nat.lt_trans hbs hP.je) hv) hc1 (by simp only [List.length_append, List.length_cons, List.length_nil]; omega)) hX kL_47 hB.rcv (by decide) (Nat.le_of_ble_eq_true rfl) dL_list_137 rfl ?_
      rintro _ szc τc Mc ⟨rfl, v1, cap1, hB2, hA, hc2⟩
      replace hP := (hP.ap hA (Nat.le_refl _) hbs hB.tv).le hA.1
      replace hA0 := hA0.tr hA
      replace hv := hA.vlt hv
      replace hB := hB2
      replace hc1 := hc2
      clear hB2 hc2 hA
      refine T_iload5 dL_list_140 rfl ?_
      refine T_if_ge 150 145 dL_list_142 (by decide) rfl (fun c142 => ?_) (fun c142 => ?_)
      ·
        have cs := sl_t _ bd1 c142
        have hks : ∀ (τ : TY) (M : ME), ST adK adV τ M (adK 6) (adV 6) [32, 115, 108, 111, 112, 101, 32] := fun _ _ => sk_6
        have hkc : CSt adK adV (adK 6) (adV 6) [32, 115, 108, 111, 112, 101, 32] := sc_6
        refine T_ldcS (fun _ _ h => (h.2.1 6 (by decide)).2.2.2.2) dL_list_150 rfl ?_
        refine T_cV1 (mc' := 1) (ms' := 6004) (c_J4_append_15ec4 hX hB (hks _ _) (And.intro (Nat.lt_trans hbs hP.je) hv) hc1 (by simp only [List.length_append, List.length_cons, List.length_nil]; omega) (Or.inl hkc)) hX kL_37 hB.rcv (by decide) (Nat.le_of_ble_eq_true rfl) dL_list_152 rfl ?_
        rintro _ szc τc Mc ⟨rfl, v1, cap1, hB2, hA, hc2⟩
        replace hP := (hP.ap hA (Nat.le_refl _) hbs hB.tv).le hA.1
        replace hA0 := hA0.tr hA
        replace hv := hA.vlt hv
        replace hB := hB2
        replace hc1 := hc2
        clear hB2 hc2 hA
        refine T_iload5 dL_list_155 rfl ?_
        refine T_abs ⟨w1342, w1343, w62, w1344⟩ (by decide) (Nat.le_of_ble_eq_true rfl) dL_list_157 rfl ?_
        rw [ab_i _ bd1]
        refine T_cV1 (mc' := 1) (ms' := 6004) (c_J4_append_bf812 hX hB (n := if ldX LS xs 2 i < 9 then 9 - ldX LS xs 2 i else ldX LS xs 2 i - 9) (by split <;> omega) (And.intro (Nat.lt_trans hbs hP.je) hv) hc1 (by simp only [List.length_append, List.length_cons, List.length_nil]; omega)) hX kL_47 hB.rcv (by decide) (Nat.le_of_ble_eq_true rfl) dL_list_160 rfl ?_
        rintro _ szc τc Mc ⟨rfl, v1, cap1, hB2, hA, hc2⟩
        replace hP := (hP.ap hA (Nat.le_refl _) hbs hB.tv).le hA.1
        replace hA0 := hA0.tr hA
        replace hv := hA.vlt hv
        replace hB := hB2
        replace hc1 := hc2
        clear hB2 hc2 hA
        refine T_ldcS (fun _ _ h => (h.2.1 7 (by decide)).2.2.2.2) dL_list_163 rfl ?_
        refine T_cV1 (mc' := 1) (ms' := 6004) (c_J4_append_15ec4 hX hB sk_7 (And.intro (Nat.lt_trans hbs hP.je) hv) hc1 (by simp only [List.length_append, List.length_cons, List.length_nil]; omega) (Or.inl sc_7)) hX kL_37 hB.rcv (by decide) (Nat.le_of_ble_eq_true rfl) dL_list_165 rfl ?_
        rintro _ szc τc Mc ⟨rfl, v1, cap1, hB2, hA, hc2⟩
        replace hP := (hP.ap hA (Nat.le_refl _) hbs hB.tv).le hA.1
        replace hA0 := hA0.tr hA
        replace hv := hA.vlt hv
        replace hB := hB2
        replace hc1 := hc2
        clear hB2 hc2 hA
        refine T_aload2 dL_list_168 rfl ?_
        refine gL_56 _ rfl hP.t0 (hP.pa (f := 3) (by decide) (by decide)) dL_list_169 rfl ?_
        refine T_iload3 dL_list_172 rfl ?_
        refine T_aaldA i (hP.ta (f := 3) (by decide) (by decide)) rfl (by omega) (by omega) dL_list_173 rfl (hP.pr (f := 3) (i := i) (by decide) (by decide) (by rw [kF_s]; omega)) ?_
        refine T_iconst (2) dL_list_174 rfl rfl ?_
        refine T_iald 2 (hP.tr (f := 3) (i := i) (by decide) (by decide) (by rw [kF_s]; omega)) rfl (by decide) (by decide) dL_list_175 rfl (show _ = Value.int (nI (ldX LS xs 3 i)) from hP.v (f := 3) (i := i) (c := 2) (by decide) (by decide) (by rw [kF_s]; omega) (by decide)) ?_
        refine T_cV1 (mc' := 1) (ms' := 6004) (c_J4_append_bf812 hX hB (n := ldX LS xs 3 i) (by omega) (And.intro (Nat.lt_trans hbs hP.je) hv) hc1 (by simp only [List.length_append, List.length_cons, List.length_nil]; omega)) hX kL_47 hB.rcv (by decide) (Nat.le_of_ble_eq_true rfl) dL_list_176 rfl ?_
        rintro _ szc τc Mc ⟨rfl, v1, cap1, hB2, hA, hc2⟩
        replace hP := (hP.ap hA (Nat.le_refl _) hbs hB.tv).le hA.1
        replace hA0 := hA0.tr hA
        replace hv := hA.vlt hv
        replace hB := hB2
        replace hc1 := hc2
        clear hB2 hc2 hA
        refine T_ldcS (fun _ _ h => (h.2.1 8 (by decide)).2.2.2.2) dL_list_179 rfl ?_
        refine T_cV1 (mc' := 1) (ms' := 6004) (c_J4_append_15ec4 hX hB sk_8 (And.intro (Nat.lt_trans hbs hP.je) hv) hc1 (by simp only [List.length_append, List.length_cons, List.length_nil]; omega) (Or.inl sc_8)) hX kL_37 hB.rcv (by decide) (Nat.le_of_ble_eq_true rfl) dL_list_181 rfl ?_
        rintro _ szc τc Mc ⟨rfl, v1, cap1, hB2, hA, hc2⟩
        replace hP := (hP.ap hA (Nat.le_refl _) hbs hB.tv).le hA.1
        replace hA0 := hA0.tr hA
        replace hv := hA.vlt hv
        replace hB := hB2
        replace hc1 := hc2
        clear hB2 hc2 hA
        refine T_pop dL_list_184 rfl rfl ?_
        first | refine T_iinc3 rfl (by decide) dL_list_185 rfl (inc1 _) ?_ | refine T_iinc3 rfl (by decide) dL_list_185 rfl rfl ?_
        refine T_goto 29 dL_list_188 (by decide) ?_
        refine T_less ?_ ?_ (ih (i + 1) _ _ _ _ _ A nn _ _ _ _ hnn (by omega) hP hB hv hc1 hA0 ?_ (by omega))
        · omega
        · omega
        · rw [htx]
          first | (simp only [catF, lnT, List.append_assoc, List.nil_append, List.append_nil, if_neg cs]; done) | (simp only [catF, lnT, List.append_assoc, List.nil_append, List.append_nil, if_pos cs]; done) | (simp only [catF, lnT, List.append_assoc, List.nil_append, List.append_nil]; done)
      ·
        have cs := sl_f _ bd1 c142
        have hks : ∀ (τ : TY) (M : ME), ST adK adV τ M (adK 5) (adV 5) [32, 115, 108, 111, 112, 101, 32, 45, 32] := fun _ _ => sk_5
        have hkc : CSt adK adV (adK 5) (adV 5) [32, 115, 108, 111, 112, 101, 32, 45, 32] := sc_5
        refine T_ldcS (fun _ _ h => (h.2.1 5 (by decide)).2.2.2.2) dL_list_145 rfl ?_
        refine T_goto 152 dL_list_147 (by decide) ?_
        refine T_cV1 (mc' := 1) (ms' := 6004) (c_J4_append_15ec4 hX hB (hks _ _) (And.intro (Nat.lt_trans hbs hP.je) hv) hc1 (by simp only [List.length_append, List.length_cons, List.length_nil]; omega) (Or.inl hkc)) hX kL_37 hB.rcv (by decide) (Nat.le_of_ble_eq_true rfl) dL_list_152 rfl ?_
        rintro _ szc τc Mc ⟨rfl, v1, cap1, hB2, hA, hc2⟩
        replace hP := (hP.ap hA (Nat.le_refl _) hbs hB.tv).le hA.1
        replace hA0 := hA0.tr hA
        replace hv := hA.vlt hv
        replace hB := hB2
        replace hc1 := hc2
        clear hB2 hc2 hA
        refine T_iload5 dL_list_155 rfl ?_
        refine T_abs ⟨w1342, w1343, w62, w1344⟩ (by decide) (Nat.le_of_ble_eq_true rfl) dL_list_157 rfl ?_
        rw [ab_i _ bd1]
        refine T_cV1 (mc' := 1) (ms' := 6004) (c_J4_append_bf812 hX hB (n := if ldX LS xs 2 i < 9 then 9 - ldX LS xs 2 i else ldX LS xs 2 i - 9) (by split <;> omega) (And.intro (Nat.lt_trans hbs hP.je) hv) hc1 (by simp only [List.length_append, List.length_cons, List.length_nil]; omega)) hX kL_47 hB.rcv (by decide) (Nat.le_of_ble_eq_true rfl) dL_list_160 rfl ?_
        rintro _ szc τc Mc ⟨rfl, v1, cap1, hB2, hA, hc2⟩
        replace hP := (hP.ap hA (Nat.le_refl _) hbs hB.tv).le hA.1
        replace hA0 := hA0.tr hA
        replace hv := hA.vlt hv
        replace hB := hB2
        replace hc1 := hc2
        clear hB2 hc2 hA
        refine T_ldcS (fun _ _ h => (h.2.1 7 (by decide)).2.2.2.2) dL_list_163 rfl ?_
        refine T_cV1 (mc' := 1) (ms' := 6004) (c_J4_append_15ec4 hX hB sk_7 (And.intro (Nat.lt_trans hbs hP.je) hv) hc1 (by simp only [List.length_append, List.length_cons, List.length_nil]; omega) (Or.inl sc_7)) hX kL_37 hB.rcv (by decide) (Nat.le_of_ble_eq_true rfl) dL_list_165 rfl ?_
        rintro _ szc τc Mc ⟨rfl, v1, cap1, hB2, hA, hc2⟩
        replace hP := (hP.ap hA (Nat.le_refl _) hbs hB.tv).le hA.1
        replace hA0 := hA0.tr hA
        replace hv := hA.vlt hv
        replace hB := hB2
        replace hc1 := hc2
        clear hB2 hc2 hA
        refine T_aload2 dL_list_168 rfl ?_
        refine gL_56 _ rfl hP.t0 (hP.pa (f := 3) (by decide) (by decide)) dL_list_169 rfl ?_
        refine T_iload3 dL_list_172 rfl ?_
        refine T_aaldA i (hP.ta (f := 3) (by decide) (by decide)) rfl (by omega) (by omega) dL_list_173 rfl (hP.pr (f := 3) (i := i) (by decide) (by decide) (by rw [kF_s]; omega)) ?_
        refine T_iconst (2) dL_list_174 rfl rfl ?_
        refine T_iald 2 (hP.tr (f := 3) (i := i) (by decide) (by decide) (by rw [kF_s]; omega)) rfl (by decide) (by decide) dL_list_175 rfl (show _ = Value.int (nI (ldX LS xs 3 i)) from hP.v (f := 3) (i := i) (c := 2) (by decide) (by decide) (by rw [kF_s]; omega) (by decide)) ?_
        refine T_cV1 (mc' := 1) (ms' := 6004) (c_J4_append_bf812 hX hB (n := ldX LS xs 3 i) (by omega) (And.intro (Nat.lt_trans hbs hP.je) hv) hc1 (by simp only [List.length_append, List.length_cons, List.length_nil]; omega)) hX kL_47 hB.rcv (by decide) (Nat.le_of_ble_eq_true rfl) dL_list_176 rfl ?_
        rintro _ szc τc Mc ⟨rfl, v1, cap1, hB2, hA, hc2⟩
        replace hP := (hP.ap hA (Nat.le_refl _) hbs hB.tv).le hA.1
        replace hA0 := hA0.tr hA
        replace hv := hA.vlt hv
        replace hB := hB2
        replace hc1 := hc2
        clear hB2 hc2 hA
        refine T_ldcS (fun _ _ h => (h.2.1 8 (by decide)).2.2.2.2) dL_list_179 rfl ?_
        refine T_cV1 (mc' := 1) (ms' := 6004) (c_J4_append_15ec4 hX hB sk_8 (And.intro (Nat.lt_trans hbs hP.je) hv) hc1 (by simp only [List.length_append, List.length_cons, List.length_nil]; omega) (Or.inl sc_8)) hX kL_37 hB.rcv (by decide) (Nat.le_of_ble_eq_true rfl) dL_list_181 rfl ?_
        rintro _ szc τc Mc ⟨rfl, v1, cap1, hB2, hA, hc2⟩
        replace hP := (hP.ap hA (Nat.le_refl _) hbs hB.tv).le hA.1
        replace hA0 := hA0.tr hA
        replace hv := hA.vlt hv
        replace hB := hB2
        replace hc1 := hc2
        clear hB2 hc2 hA
        refine T_pop dL_list_184 rfl rfl ?_
        first | refine T_iinc3 rfl (by decide) dL_list_185 rfl (inc1 _) ?_ | refine T_iinc3 rfl (by decide) dL_list_185 rfl rfl ?_
        refine T_goto 29 dL_list_188 (by decide) ?_
        refine T_less ?_ ?_ (ih (i + 1) _ _ _ _ _ A nn _ _ _ _ hnn (by omega) hP hB hv hc1 hA0 ?_ (by omega))
        · omega
        · omega
        · rw [htx]
          first | (simp only [catF, lnT, List.append_assoc, List.nil_append, List.append_nil, if_neg cs]; done) | (simp only [catF, lnT, List.append_assoc, List.nil_append, List.append_nil, if_pos cs]; done) | (simp only [catF, lnT, List.append_assoc, List.nil_append, List.append_nil]; done)
set_option maxHeartbeats 1000000 in
theorem c_L_list {l : Launch} {D : va_G} {cA : Nat → ClassId} {n0 : Nat} {sg adK adV : Nat → Nat} {sgA smA wdA bS LS : Nat} {xs : Nat → Int32} (hX : SF n0 (XW0 sg adK adV sgA smA wdA n0 bS LS xs)) {sz : Nat} {τ : TY} {M : ME} {b v cap : Nat} (hL : LS ≤ 260) (hB : SBt τ M b v cap []) (hbs : b < sz) (hv : v < sz) (hc1 : 1 ≤ cap) : CT l D cA n0 (XW0 sg adK adV sgA smA wdA n0 bS LS xs) mL_list 13 1120 3303400 sz τ M [.ref bS, .ref b] (LsQ (ldX LS xs) sz b v τ M) := by
  refine CT.of (ls := [.ref bS, .ref b, UU, UU, UU, UU]) (by decide) (Nat.le_of_ble_eq_true rfl) rfl ?_
  obtain ⟨⟨o3, o4, o5, o6, o7⟩, -⟩ := ldX_ok LS xs
  refine nL_42 rfl dL_list_0 rfl ?_
  refine T_dup dL_list_3 rfl rfl ?_
  refine T_cIN0 (mc' := 5) (ms' := 0) (c_X11_init hX (V := VL (ldX LS xs)) (tyN_s _ _ _) (Nat.lt_succ_self _) (fun c hc => (congrFun (meN_s _ _ _) c).trans (by rcases (by omega : c = 0 ∨ c = 1 ∨ c = 2) with rfl | rfl | rfl <;> rfl))) hX kL_113 (by decide) (Nat.le_of_ble_eq_true rfl) dL_list_4 rfl ?_
  rintro _ _ τc Mc ⟨rfl, rfl, hP, hT, hM⟩
  replace hB := hB.fr ⟨(hT b (by omega)).trans (tyN_n (by omega)), (hT v (by omega)).trans (tyN_n (by omega))⟩ ⟨(hM b (by omega) (by omega)).trans (meN_n (by omega)), (hM v (by omega) (by omega)).trans (meN_n (by omega))⟩
  have hA0 : AP sz τ M b v (sz + 1 + 5) τc Mc v := ⟨by omega, fun q hq => (hT q (by omega)).trans (tyN_n (by omega)), fun q hq _ _ => (hM q (by omega) (by omega)).trans (meN_n (by omega)), Or.inl rfl⟩
  replace hv : v < sz + 1 + 5 := by omega
  clear hT hM
  refine T_astore2 rfl (by decide) dL_list_7 rfl ?_
  refine T_aload2 dL_list_8 rfl ?_
  refine T_iconst (1) dL_list_9 rfl rfl ?_
  refine T_aload0 dL_list_10 rfl ?_
  refine T_iconst (0) dL_list_11 rfl rfl ?_
  refine T_cS2 (mc' := 0) (ms' := 0) (c_L_cell hX hL (k := 0) (by omega)) hX kL_114 (by decide) (Nat.le_of_ble_eq_true rfl) dL_list_12 rfl ?_
  rintro _ szq τq Mq ⟨rfl, ea, eb, ec⟩
  obtain rfl := ea.symm
  obtain rfl := eb.symm
  obtain rfl := ec.symm
  refine T_bipush (6) dL_list_15 rfl rfl ?_
  refine T_cS2 (mc' := 0) (ms' := 0) (c_L_below hX _ (n := 6) (by decide)) hX kL_120 (by decide) (Nat.le_of_ble_eq_true rfl) dL_list_17 rfl ?_
  rintro _ szq τq Mq ⟨rfl, ea, eb, ec⟩
  obtain rfl := ea.symm
  obtain rfl := eb.symm
  obtain rfl := ec.symm
  refine T_iadd dL_list_20 rfl ?_
  rw [show (1 : Int32) + nI (blF (clF LS xs 0) 6) = nI (ldX LS xs 0 3) from nI_add 1 _]
  refine T_less (bk1 := 1108 + 1) (bn1 := 3303380 + ldX LS xs 0 3) (by omega) (by omega) ?_
  refine T_anewA (N := ldX LS xs 0 3) kcL_124 (fun _ _ h => h.2.2.2.2.2.2) rfl (by omega) dL_list_21 rfl ?_
  refine pL_56 rfl ((tyN_n (Nat.ne_of_lt hP.je)).trans hP.t0) dL_list_24 rfl ?_
  have hB1 := hP.arrB (f := 3) (x := .ref (sz + 1 + 5)) (kd := (108, ldX LS xs 0 3)) (g := fun _ => .null) hB (Nat.lt_trans hbs hP.je) hv
  have hA1 := hP.arrA (f := 3) (x := .ref (sz + 1 + 5)) (kd := (108, ldX LS xs 0 3)) (g := fun _ => .null) hA0
  have hP1 := (hP.arr (f := 3) (N := ldX LS xs 0 3) (g := fun _ => .null) (Nat.le_refl _) (by decide) (by decide) rfl).cg (k' := kF (ldX LS xs) 3 0) (fun g hg3 _ => kF_00 _ hg3) (fun _ _ _ _ _ _ _ => rfl)
  refine T_iconst (0) dL_list_27 rfl rfl ?_
  refine T_istore3 rfl (by decide) dL_list_28 rfl ?_
  refine T_less (by omega) (by omega) (L3_L_list hX hL hbs _ 0 _ v cap _ _ _ _ _ _ _ _ (fun g h1 h2 => by rw [show g = 3 by omega]; rfl) (Nat.zero_le _) hP1 hB1 (Nat.lt_succ_of_lt hv) hc1 hA1 (rfl) (Nat.lt_succ_self _))
