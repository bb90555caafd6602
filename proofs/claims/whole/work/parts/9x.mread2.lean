/-! the reference has read a list -/
theorem flF_m1 {V : Nat → Int64} {S : Nat → Int32} {rl : Nat → Int32} {t : Nat} (h : (flF V S rl t).1 = 0) : (flF V S rl t).2 = -1 := by
  induction t with
  | zero => rfl
  | succ t ih =>
    obtain ⟨h1, h2⟩ := nfE_z h
    show nfA (flF V S rl t).1 (flF V S rl t).2 (erF V rl t) (S t) = -1
    rw [h2, nfA_0]; exact ih h1
theorem rs_nm {V : Nat → Int64} {rl : Nat → Int32} {ω : RH} {o t te : Nat} (hn : nmB o = true) (ht : t < te) (h2 : te ≤ 400) (hr : rl t = if o = 3 ∨ o = 22 then 18 else 17) (hm : MTn ω V rl te) : ω 84 t = rsF V rl o (nI t) := by
  have e := nI_clamp (n := t) (by omega)
  unfold rsF
  rw [e]
  rcases nmB_i.mp hn with h | h
  · rw [if_neg (by omega)] at hr
    rw [if_pos h]; exact (hm t ht).1 (Or.inr (Or.inr hr))
  · rw [if_pos h] at hr
    rw [if_neg (by omega), if_pos h]; exact (hm t ht).2 (Or.inr hr)
/-- what reading leaves when all is well -/
def RDK (τ : TY) (M : ME) (m y z s1 s2 n8 : Nat) (B : Nat → Nat) (V : Nat → Int64) (ω0 w0 : RH) (s : PS) (hr wr : Nat) : Prop :=
  ∃ tk dp ω w, MV τ M M m y z s1 s2 n8 tk dp B ω ∧ (∀ f i, ¬ f = 84 → ω f i = ω0 f i) ∧ PV τ M M z (cntR s.2.2.2.2 1 s.1) (cntR s.2.2.2.2 2 s.1) (cntR s.2.2.2.2 3 s.1) (cntR s.2.2.2.2 4 s.1) hr (cntR s.2.2.2.2 5 s.1) wr (psF s.2.2.1 s.2.1) (cnF s.2.2.1 s.2.1) w ∧ GPi V w s (cnF s.2.2.1 s.2.1) ∧ ∀ f i, ¬ f = 71 → (dfB f = true → w f i = dtF V s.2.2.2.2 s.1 f i) ∧ (dfB f = false → w f i = w0 f i)
def RDE (τ : TY) (M : ME) (m y z s1 s2 n8 : Nat) (B : Nat → Nat) (ω0 : RH) (x : Int32) : Prop := ∃ tk dp ω, MV τ M M m y z s1 s2 n8 tk dp B ω ∧ ω 90 0 = ω0 90 0 ∧ ω 91 0 = x
set_option maxHeartbeats 1000000 in
theorem L2_X13_read {l : Launch} {D : va_G} {cA : Nat → ClassId} {n0 : Nat} {sg adK adV : Nat → Nat} {sgA smA wdA bS LS : Nat} {xs : Nat → Int32} (hX : SF n0 (XW0 sg adK adV sgA smA wdA n0 bS LS xs)) {m y z s1 s2 n8 hr wr : Nat} {B : Nat → Nat} {V : Nat → Int64} {ω0 w0 : RH} {s : PS} (hmz : m + 7 ≤ z ∨ z + 19 ≤ m) (hns : NS s) (hs4 : s.1 ≤ 400) (hsn : s.2.1 ≤ s.1) {tk dp : Nat} {x1_ : Int32} {M0 : ME} {sz : Nat} {τ : TY} : ∀ (n : Nat) (i : Nat) (Mk : ME) (ω w : RH), MV τ Mk Mk m y z s1 s2 n8 tk dp B ω → PV τ Mk Mk z (cntR s.2.2.2.2 1 s.1) (cntR s.2.2.2.2 2 s.1) (cntR s.2.2.2.2 3 s.1) (cntR s.2.2.2.2 4 s.1) hr (cntR s.2.2.2.2 5 s.1) wr (psF s.2.2.1 s.2.1) (cnF s.2.2.1 s.2.1) w → (∀ f i, ¬ f = 84 → ω f i = ω0 f i) → MTn ω V s.2.2.2.2 s.1 → GPi V w s i → (∀ f i, ¬ f = 71 → (dfB f = true → w f i = dtF V s.2.2.2.2 s.1 f i) ∧ (dfB f = false → w f i = w0 f i)) → FMZ m z M0 Mk → i ≤ cnF s.2.2.1 s.2.1 → cnF s.2.2.1 s.2.1 - i < n → T l D cA n0 (XW0 sg adK adV sgA smA wdA n0 bS LS xs) mX13_read 102 0 0 sz τ Mk 111 [.ref m, .int x1_, .int (nI i)] [] (fun v' sz' τ' M' => v' = some (.int 0) ∧ sz' = sz ∧ τ' = τ ∧ RDK τ M' m y z s1 s2 n8 B V ω0 w0 s hr wr ∧ FMZ m z M0 M') (fun _ _ _ _ => False) := by
  intro n
  induction n with
  | zero => intros; omega
  | succ n ih =>
    intro i Mk ω w hM hV hω hmt hG hD hF hi hn
    have hcn := cnF_le (σ := s.2.2.1) s.2.1
    have hps := (ps_le (σ := s.2.2.1) s.2.1).1
    refine T_iload2 dX13_read_111 rfl ?_
    refine T_aload0 dX13_read_112 rfl ?_
    refine g13_39 _ rfl (hM.t_m) (hM.g_z) dX13_read_113 rfl ?_
    refine g13_204 _ rfl (hV.t_q) (hV.g_opens) dX13_read_116 rfl ?_
    refine T_icmp_ge 167 122 dX13_read_119 (by decide) rfl (fun c119 => ?_) (fun c119 => ?_)
    ·
      have c119 := (nI_leI (by omega) (by omega)).mp c119
      refine T_iconst (0) dX13_read_167 rfl rfl ?_
      refine T_iret rfl rfl dX13_read_168 ?_
      obtain rfl : i = cnF s.2.2.1 s.2.1 := by omega
      exact ⟨rfl, rfl, rfl, ⟨_, _, ω, w, hM, hω, hV, hG, hD⟩, hF⟩
    ·
      have c119 : i < cnF s.2.2.1 s.2.1 := Nat.lt_of_not_le (fun q => c119 ((nI_leI (by omega) (by omega)).mpr q))
      obtain ⟨k, hk, hnm, hck⟩ := cnF_hit (show i < cnF s.2.2.1 s.2.1 from c119)
      have h72 : w 72 i = nI (psF s.2.2.1 k + 1) := by rw [← hck]; exact hG.2 k hk hnm
      obtain ⟨t, ht1, ht2, ht3⟩ := hns k hk hnm
      have h71 : w 71 (psF s.2.2.1 k + 1) = nI t := by rw [(hG.1 k hk).2 (wd_nm hnm), if_neg (by omega)]; exact ht2
      have h84 : ω 84 t = rsF V s.2.2.2.2 (s.2.2.1 k) (s.2.2.2.1 k) := by rw [ht2]; exact rs_nm hnm ht1 hs4 ht3 hmt
      have hpb : psF s.2.2.1 k + 1 < 800 := by have := psF_nx (σ := s.2.2.1) hk; have := wd_nm hnm; omega
      refine T_aload0 dX13_read_122 rfl ?_
      refine g13_39 _ rfl (hM.t_m) (hM.g_z) dX13_read_123 rfl ?_
      refine g13_133 _ rfl (hV.t_q) (hV.g_code) dX13_read_126 rfl ?_
      refine T_aload0 dX13_read_129 rfl ?_
      refine g13_39 _ rfl (hM.t_m) (hM.g_z) dX13_read_130 rfl ?_
      refine g13_201 _ rfl (hV.t_q) (hV.g_open) dX13_read_133 rfl ?_
      refine T_iload2 dX13_read_136 rfl ?_
      refine T_iald _ (hV.t_open) rfl (by omega) (by decide) dX13_read_137 rfl (hV.g_vopen (by omega)) ?_
      refine T_aload0 dX13_read_138 rfl ?_
      refine g13_29 _ rfl (hM.t_m) (hM.g_me) dX13_read_139 rfl ?_
      refine T_aload0 dX13_read_142 rfl ?_
      refine g13_39 _ rfl (hM.t_m) (hM.g_z) dX13_read_143 rfl ?_
      refine g13_133 _ rfl (hV.t_q) (hV.g_code) dX13_read_146 rfl ?_
      refine T_aload0 dX13_read_149 rfl ?_
      refine g13_39 _ rfl (hM.t_m) (hM.g_z) dX13_read_150 rfl ?_
      refine g13_201 _ rfl (hV.t_q) (hV.g_open) dX13_read_153 rfl ?_
      refine T_iload2 dX13_read_156 rfl ?_
      refine T_iald _ (hV.t_open) rfl (by omega) (by decide) dX13_read_157 rfl (hV.g_vopen (by omega)) ?_
      refine T_iald _ (hV.t_code) h72 (by omega) (by decide) dX13_read_158 rfl (hV.g_vcode (by omega)) ?_
      refine T_iald _ (hM.t_me) h71 (by omega) (by decide) dX13_read_159 rfl (hM.g_vme (by omega)) ?_
      rw [h84]
      refine T_iast _ (hV.t_code) h72 (by omega) (by decide) dX13_read_160 rfl ?_
      refine T_nm (fun M1 e1 => ?_)
      have hM := hM.frU e1 (by omega)
      have hV := PV.mv (hV.p_vcode (by omega)) e1
      have hF := hF.up e1 (by omega)
      first | refine T_iinc2 rfl (by decide) dX13_read_161 rfl (inc1 _) ?_ | refine T_iinc2 rfl (by decide) dX13_read_161 rfl rfl ?_
      refine T_goto 111 dX13_read_164 (by decide) ?_
      exact ih (i + 1) _ _ _ hM.rf hV.rf hω hmt (hG.nx hk hnm hck) (fun f j h1 => by rw [u2_f h1]; exact hD f j h1) hF (by omega) (by omega)
set_option maxHeartbeats 1000000 in
theorem L1_X13_read {l : Launch} {D : va_G} {cA : Nat → ClassId} {n0 : Nat} {sg adK adV : Nat → Nat} {sgA smA wdA bS LS : Nat} {xs : Nat → Int32} (hX : SF n0 (XW0 sg adK adV sgA smA wdA n0 bS LS xs)) {m y z s1 s2 n8 dp hr wr lt : Nat} {B : Nat → Nat} {K : Nat → Nat} {S : Nat → Int32} {V : Nat → Int64} {s : PS} {ω0 w0 : RH} (hmz : m + 7 ≤ z ∨ z + 19 ≤ m) (h8 : ∀ i, B i < 256) (hTK : TKF B lt K S V ω0) (hrl0 : ∀ i, i ≤ lt → ω0 83 i = s.2.2.2.2 i) (hNm : ∀ i, i < lt → K i = 44 → ∃ c, c < 1000000 ∧ V i = Int64.ofNat c) (hRG : ∀ i, RGi K s.2.2.2.2 i)  (hns : NS s) (hs4 : s.1 ≤ lt) (hsn : s.2.1 ≤ s.1) (hw0 : GPw w0 s) {M0 : ME} {sz : Nat} {τ : TY} : ∀ (n : Nat) (t : Nat) (Mk : ME) (u2_ : Value), EI τ Mk m y z s1 s2 n8 dp hr wr (psF s.2.2.1 s.2.1) (cnF s.2.2.1 s.2.1) B V s.2.2.2.2 ω0 w0 t t → (flF V S s.2.2.2.2 t).1 = 0 → FMZ m z M0 Mk → t ≤ s.1 → s.1 - t < n → T l D cA n0 (XW0 sg adK adV sgA smA wdA n0 bS LS xs) mX13_read 102 0 0 sz τ Mk 57 [.ref m, .int (nI s.1), u2_] [] (fun v' sz' τ' M' => sz' = sz ∧ τ' = τ ∧ v' = some (.int (flF V S s.2.2.2.2 s.1).1) ∧ ((flF V S s.2.2.2.2 s.1).1 = 0 → RDK τ M' m y z s1 s2 n8 B V ω0 w0 s hr wr) ∧ (¬ (flF V S s.2.2.2.2 s.1).1 = 0 → RDE τ M' m y z s1 s2 n8 B ω0 (flF V S s.2.2.2.2 s.1).2) ∧ FMZ m z M0 M') (fun _ _ _ _ => False) := by
  intro n
  induction n with
  | zero => intros; omega
  | succ n ih =>
    intro t Mk u2_ hQ hf hF ht hn
    have hl := hTK.1.1
    have hQ0 := hQ
    obtain ⟨ω, w, hM, hV, hω, hmt, hD⟩ := hQ
    have hcn := cnt_ok hf
    refine T_aload0 dX13_read_57 rfl ?_
    refine g13_124 _ rfl (hM.t_m) (hM.g_tk) dX13_read_58 rfl ?_
    refine T_iload1 dX13_read_61 rfl ?_
    refine T_icmp_ge 109 65 dX13_read_62 (by decide) rfl (fun c62 => ?_) (fun c62 => ?_)
    ·
      have c62 := (nI_leI (by omega) (by omega)).mp c62
      obtain rfl : t = s.1 := by omega
      refine T_iconst (0) dX13_read_109 rfl rfl ?_
      refine T_istore2 rfl (by decide) dX13_read_110 rfl ?_
      have hG : GPi V w s 0 := GPw.gi ⟨fun k hk => ⟨by rw [(hD 71 _).2 rfl]; exact (hw0.1 k hk).1, fun z => by rw [(hD 71 _).2 rfl]; exact (hw0.1 k hk).2 z⟩, fun k hk z => by rw [(hD 72 _).2 rfl]; exact hw0.2 k hk z⟩
      refine T_cons ?_ (L2_X13_read hX hmz hns (by omega) hsn _ 0 _ ω w hM.rf hV.rf hω hmt hG (fun f i h1 => hD f i) hF (Nat.zero_le _) (Nat.lt_succ_self _))
      rintro v9 sz9 τ9 M9' ⟨e1, e2, e3, hR, hF2⟩
      exact ⟨e2, e3, by rw [hf]; exact e1, fun _ => hR, fun q => absurd hf q, hF2⟩
    ·
      have c62 : t < s.1 := Nat.lt_of_not_le (fun q => c62 ((nI_leI (by omega) (by omega)).mpr q))
      refine T_aload0 dX13_read_65 rfl ?_
      refine T_aload0 dX13_read_66 rfl ?_
      refine g13_124 _ rfl (hM.t_m) (hM.g_tk) dX13_read_67 rfl ?_
      refine T_cV1 (c_X13_errorOf hX hmz h8 hTK hrl0 hNm (by omega) hRG hcn hQ0) hX k13_288 (Or.inl ⟨_, _, _, _, (hM.t_m), by decide, rfl⟩) (by decide) (Nat.le_of_ble_eq_true rfl) dX13_read_70 rfl ?_
      rintro _ _ _ M9 ⟨rfl, rfl, rfl, ⟨hI, hE⟩, hF9⟩
      have hF := hF.tr hF9
      refine T_istore2 rfl (by decide) dX13_read_73 rfl ?_
      refine T_iload2 dX13_read_74 rfl ?_
      refine T_if_ne 81 78 dX13_read_75 (by decide) rfl (fun c75 => ?_) (fun c75 => ?_)
      ·
        obtain ⟨ω, hM, hω⟩ := hE
        have h81 : ω 81 t = S t := by rw [hω 81 _ (by decide)]; exact (hTK.2.1 t (by omega)).2.2
        have hh := flF_hit (S := S) hf c75 c62
        refine T_aload0 dX13_read_81 rfl ?_
        refine T_aload0 dX13_read_82 rfl ?_
        refine g13_20 _ rfl (hM.t_m) (hM.g_fr) dX13_read_83 rfl ?_
        refine T_aload0 dX13_read_86 rfl ?_
        refine g13_124 _ rfl (hM.t_m) (hM.g_tk) dX13_read_87 rfl ?_
        refine T_iald _ (hM.t_fr) rfl (by omega) (by decide) dX13_read_90 rfl (hM.g_vfr (by omega)) ?_
        rw [h81]
        refine p13_13 rfl (hM.t_m) dX13_read_91 rfl ?_
        refine T_nm (fun M1 e1 => ?_)
        have hM := MV.mv hM.p_ea e1
        have hF := hF.up e1 (by omega)
        refine T_iload2 dX13_read_94 rfl ?_
        refine T_iret rfl rfl dX13_read_95 ?_
        rw [hh]
        exact ⟨rfl, rfl, rfl, fun q => absurd q c75, fun _ => ⟨_, _, _, hM.rf, by rw [u2_f (by decide), hω 90 _ (by decide)], u2_s _ _ _ _⟩, hF⟩
      ·
        have c75 := (by first | exact c75 | exact Decidable.not_not.mp c75 : erF V s.2.2.2.2 t = 0)
        obtain ⟨ω, w, hM, hV, hω, hmt, hD⟩ := hI c75
        refine T_goto 96 dX13_read_78 (by decide) ?_
        refine T_aload0 dX13_read_96 rfl ?_
        refine T_dup dX13_read_97 rfl rfl ?_
        refine g13_124 _ rfl (hM.t_m) (hM.g_tk) dX13_read_98 rfl ?_
        refine T_iconst (1) dX13_read_101 rfl rfl ?_
        refine T_iadd dX13_read_102 rfl ?_
        refine p13_124 rfl (hM.t_m) dX13_read_103 rfl ?_
        refine T_nm (fun M1 e1 => ?_)
        have hM := MV.mv (hM.p_tk (n := t + 1) (nI_1 t)) e1
        have hV := hV.frU e1 (by omega)
        have hF := hF.up e1 (by omega)
        refine T_goto 57 dX13_read_106 (by decide) ?_
        exact ih (t + 1) _ _ ⟨ω, w, hM.rf, hV.rf, hω, hmt, hD⟩ (flF_go hf c75) hF (by omega) (by omega)
