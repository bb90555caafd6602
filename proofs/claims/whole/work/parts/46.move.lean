theorem toF_m1 {a t j : Nat} {ρ : RH} (ht : t < a) (ha : a ≤ 8) (h : toF ρ j t = -1) : ρ 16 j = 0 := Decidable.byContradiction fun q => by
  unfold toF at h
  rw [if_neg q] at h
  exact nI_m1 (n := t + 1) (by omega) ((nI_1 t).symm.trans h)
section ARR
variable {τ : TY} {M0 M : ME} {s m a b c j t : Nat} {ρ : RH} {μ κ : Nat → Int32} {n : Int32}
def SLM (τ : TY) (M0 M : ME) (s a b c m j : Nat) (ρ : RH) (μ : Nat → Int32) (ρ' : RH) (κ : Nat → Int32) : Prop := ∃ μ', SL τ M0 M s a b c ρ' m μ' κ ∧ MA b j μ ρ μ' ρ'
theorem arr_A (h : SL τ M0 M s a b c (u2 (u2 (ulC ρ j c) 16 j 0) 17 j 0) m μ κ) (hp : ρ 15 j = nI t) (q : toF ρ j t = nI a) : SLM τ M0 M s a b c m j ρ μ (lvC a b c ρ j t n) κ := by
  have e : lvC a b c ρ j t n = standC (ulC ρ j c) j (nI t) 0 0 := by
    unfold lvC; rw [if_neg (by rw [q]; exact Int32.lt_irrefl)]
  rw [e]
  refine ⟨μ, ?_, fun o _ _ z => z.trans (ulC_f (by decide) (by decide)).symm⟩
  unfold standC
  rw [u2_same (f := 15) (by rw [ulC_f (by decide) (by decide)]; exact hp)]
  exact h
theorem arr_B (h : SL τ M0 M s a b c (u2 (u2 ρ 15 j (-1)) 17 j 0) m μ κ) (ht : t < a) (ha : a ≤ 8) (q0 : ¬ toF ρ j t = nI a) (q : toF ρ j t = -1) : SLM τ M0 M s a b c m j ρ μ (lvC a b c ρ j t n) κ := by
  have e : lvC a b c ρ j t n = standC ρ j (-1) 0 0 := by
    unfold lvC; rw [if_pos (toF_lt ht ha q0), if_pos (by rw [q]; decide)]
  rw [e]
  refine ⟨μ, ?_, fun o _ _ z => z⟩
  unfold standC
  rw [u2_same (ρ := u2 ρ 15 j (-1)) (f := 16) (by rw [u2_f (by decide)]; exact toF_m1 ht ha q)]
  exact h
theorem arr_C (h : SL τ M0 M s a b c (u2 (u2 ρ 15 j (toF ρ j t)) 17 j 0) m (if cgF b ρ j (toF ρ j t) = 0 then μ else soM b ρ μ j (toF ρ j t) b) κ) (ht : t < a) (ha : a ≤ 8) (q0 : ¬ toF ρ j t = nI a) (q : ¬ toF ρ j t = -1) (q2 : ¬ cgF b ρ j (toF ρ j t) = 0) : SLM τ M0 M s a b c m j ρ μ (lvC a b c ρ j t n) κ := by
  have e : lvC a b c ρ j t n = standC (soC ρ j (toF ρ j t) b) j (toF ρ j t) (ρ 16 j) 0 := by
    unfold lvC; rw [if_pos (toF_lt ht ha q0), if_neg (toF_neg ht ha q), if_neg q2]
  rw [e]
  rw [if_neg q2] at h
  refine ⟨_, h.cg (fun f i hf => ?_), fun o ho hj z => ?_⟩
  · have hf2 : f ≠ 20 := by unfold SL_in at hf; omega
    unfold standC
    rw [u2_same (ρ := u2 (soC ρ j (toF ρ j t) b) 15 j (toF ρ j t)) (f := 16) (by rw [u2_f (by decide)]; exact soC_f (by decide))]
    simp only [u2]
    rw [soC_f hf2]
  · show soM b ρ μ j (toF ρ j t) b o = soC ρ j (toF ρ j t) b 20 o
    unfold soM soC
    by_cases w : ρ 15 o = toF ρ j t ∧ ¬ ρ 16 o = ρ 16 j
    · rw [if_pos ⟨ho, w⟩, if_pos ⟨rfl, ho, w⟩]
    · rw [if_neg (fun y => w y.2), if_neg (fun y => w y.2.2)]; exact z
theorem arr_D (h : SL τ M0 M s a b c (u2 ρ 17 j (n - 1)) m (if cgF b ρ j (toF ρ j t) = 0 then μ else soM b ρ μ j (toF ρ j t) b) κ) (ht : t < a) (ha : a ≤ 8) (q0 : ¬ toF ρ j t = nI a) (q : ¬ toF ρ j t = -1) (q2 : cgF b ρ j (toF ρ j t) = 0) : SLM τ M0 M s a b c m j ρ μ (lvC a b c ρ j t n) κ := by
  have e : lvC a b c ρ j t n = u2 ρ 17 j (n - 1) := by
    unfold lvC; rw [if_pos (toF_lt ht ha q0), if_neg (toF_neg ht ha q), if_pos q2]
  rw [e]
  rw [if_pos q2] at h
  exact ⟨μ, h, fun o _ _ z => z⟩
end ARR
set_option maxHeartbeats 1000000 in
theorem c_X12_arrive {l : Launch} {D : va_G} {cA : Nat → ClassId} {n0 : Nat} {sg adK adV : Nat → Nat} {sgA smA wdA bS LS : Nat} {xs : Nat → Int32} (hX : SF n0 (XW0 sg adK adV sgA smA wdA n0 bS LS xs)) {sz : Nat} {τ : TY} {M0 M : ME} {m y s a b c hc wc sn : Nat} {ρ π : RH} {σ : Nat → Nat} {μ κ : Nat → Int32} (hS : SL τ M0 M s a b c ρ m μ κ) (hW : WN τ M m y s a b c hc wc sn ρ π σ) {j t : Nat} (hj : j < b) (ht : t < a) (hp : ρ 15 j = nI t) (hi : RI a b c ρ) : CT l D cA n0 (XW0 sg adK adV sgA smA wdA n0 bS LS xs) mX12_arrive 4 0 0 sz τ M [.ref s, .int (nI j)] (fun v' sz' τ' M' => v' = none ∧ sz' = sz ∧ τ' = τ ∧ SLM τ M0 M' s a b c m j ρ μ (lvC a b c ρ j t (ρ 41 t)) κ) := by
  refine CT.of (ls := [.ref s, .int (nI j), UU, UU]) (by decide) (Nat.le_of_ble_eq_true rfl) rfl ?_
  obtain ⟨l3, l4, l5, l6, l7, l8⟩ := hW.ok
  refine T_aload0 dX12_arrive_0 rfl ?_
  refine g12_19 _ rfl (hS.t_s) (hS.g_a2) dX12_arrive_1 rfl ?_
  refine T_iload1 dX12_arrive_4 rfl ?_
  refine T_iald _ (hS.t_a2) rfl (by omega) (by decide) dX12_arrive_5 rfl (hS.g_wher (by omega)) ?_
  rw [hp]
  refine T_istore2 rfl (by decide) dX12_arrive_6 rfl ?_
  refine T_joinI 26 (fun v => v = toF ρ j t) (fun hJ => ?_) (fun x26 hx26 => ?_)
  ·
    refine T_aload0 dX12_arrive_7 rfl ?_
    refine g12_22 _ rfl (hS.t_s) (hS.g_a3) dX12_arrive_8 rfl ?_
    refine T_iload1 dX12_arrive_11 rfl ?_
    refine T_iald _ (hS.t_a3) rfl (by omega) (by decide) dX12_arrive_12 rfl (hS.g_down (by omega)) ?_
    refine T_iconst (1) dX12_arrive_13 rfl rfl ?_
    refine T_icmp_ne 23 17 dX12_arrive_14 (by decide) rfl (fun c14 => ?_) (fun c14 => ?_)
    ·
      refine T_iload2 dX12_arrive_23 rfl ?_
      refine T_iconst (1) dX12_arrive_24 rfl rfl ?_
      refine T_isub dX12_arrive_25 rfl ?_
      refine hJ _ ?_
      unfold toF
      first | (rw [if_neg (by rw [c14]; decide)]; done) | (rw [if_pos (down_1 (hi.1 j hj).2.1 c14)]; exact Int32.sub_eq_add_neg _ _)
    ·
      refine T_iload2 dX12_arrive_17 rfl ?_
      refine T_iconst (1) dX12_arrive_18 rfl rfl ?_
      refine T_iadd dX12_arrive_19 rfl ?_
      refine T_goto 26 dX12_arrive_20 (by decide) ?_
      refine hJ _ ?_
      unfold toF
      first | (rw [if_neg (by rw [c14]; decide)]; done) | (rw [if_pos (down_1 (hi.1 j hj).2.1 c14)]; exact Int32.sub_eq_add_neg _ _)
  ·
    subst hx26
    refine T_istore3 rfl (by decide) dX12_arrive_26 rfl ?_
    refine T_iload3 dX12_arrive_27 rfl ?_
    refine T_aload0 dX12_arrive_28 rfl ?_
    refine g12_3 _ rfl (hS.t_s) (hS.g_m) dX12_arrive_29 rfl ?_
    refine g12_75 _ rfl (hW.t_m) (hW.g_pl) dX12_arrive_32 rfl ?_
    refine g12_169 _ rfl (hW.t_q) (hW.g_stretches) dX12_arrive_35 rfl ?_
    refine T_icmp_ne 49 41 dX12_arrive_38 (by decide) rfl (fun c38 => ?_) (fun c38 => ?_)
    ·
      refine T_iload3 dX12_arrive_49 rfl ?_
      refine T_iconst (-1) dX12_arrive_50 rfl rfl ?_
      refine T_icmp_ne 71 54 dX12_arrive_51 (by decide) rfl (fun c51 => ?_) (fun c51 => ?_)
      ·
        refine T_aload0 dX12_arrive_71 rfl ?_
        refine T_iload1 dX12_arrive_72 rfl ?_
        refine T_iload3 dX12_arrive_73 rfl ?_
        refine T_cV2 (c_X12_canGo hX hS.rf hW (by omega) hi _) hX k12_175 (Or.inl ⟨_, _, _, _, (hS.t_s), by decide, rfl⟩) (by decide) (Nat.le_of_ble_eq_true rfl) dX12_arrive_74 rfl ?_
        rintro _ _ _ M1 ⟨rfl, rfl, rfl, hN⟩
        have hW := hW.nx hN.frame
        have hS := hN.bs hS.frame
        refine T_if_eq 97 80 dX12_arrive_77 (by decide) rfl (fun c77 => ?_) (fun c77 => ?_)
        ·
          refine T_aload0 dX12_arrive_97 rfl ?_
          refine g12_25 _ rfl (hS.t_s) (hS.g_a4) dX12_arrive_98 rfl ?_
          refine T_iload1 dX12_arrive_101 rfl ?_
          refine T_aload0 dX12_arrive_102 rfl ?_
          refine g12_3 _ rfl (hS.t_s) (hS.g_m) dX12_arrive_103 rfl ?_
          refine g12_75 _ rfl (hW.t_m) (hW.g_pl) dX12_arrive_106 rfl ?_
          refine g12_163 _ rfl (hW.t_q) (hW.g_length) dX12_arrive_109 rfl ?_
          refine T_iload2 dX12_arrive_112 rfl ?_
          refine T_iald _ (hW.t_length) rfl (by omega) (by decide) dX12_arrive_113 rfl (hW.v_length (by omega)) ?_
          refine T_iconst (1) dX12_arrive_114 rfl rfl ?_
          refine T_isub dX12_arrive_115 rfl ?_
          refine T_iast _ (hS.t_a4) rfl (by omega) (by decide) dX12_arrive_116 rfl ?_
          refine T_nm (fun M1 e1 => ?_)
          have hS := SL.mv (hS.p_gone (by omega)) e1
          have hW := hW.frU e1 (by omega)
          refine T_vret rfl dX12_arrive_117 ?_
          first | exact ⟨rfl, rfl, rfl, arr_A hS hp c38⟩ | exact ⟨rfl, rfl, rfl, arr_B hS ht l3 c38 c51⟩ | exact ⟨rfl, rfl, rfl, arr_C hS ht l3 c38 c51 c77⟩ | exact ⟨rfl, rfl, rfl, arr_D hS ht l3 c38 c51 c77⟩
        ·
          refine T_aload0 dX12_arrive_80 rfl ?_
          refine g12_19 _ rfl (hS.t_s) (hS.g_a2) dX12_arrive_81 rfl ?_
          refine T_iload1 dX12_arrive_84 rfl ?_
          refine T_iload3 dX12_arrive_85 rfl ?_
          refine T_iast _ (hS.t_a2) rfl (by omega) (by decide) dX12_arrive_86 rfl ?_
          refine T_nm (fun M2 e2 => ?_)
          have hS := SL.mv (hS.p_wher (by omega)) e2
          have hW := hW.frU e2 (by omega)
          refine T_aload0 dX12_arrive_87 rfl ?_
          refine g12_25 _ rfl (hS.t_s) (hS.g_a4) dX12_arrive_88 rfl ?_
          refine T_iload1 dX12_arrive_91 rfl ?_
          refine T_iconst (0) dX12_arrive_92 rfl rfl ?_
          refine T_iast _ (hS.t_a4) rfl (by omega) (by decide) dX12_arrive_93 rfl ?_
          refine T_nm (fun M3 e3 => ?_)
          have hS := SL.mv (hS.p_gone (by omega)) e3
          have hW := hW.frU e3 (by omega)
          refine T_goto 117 dX12_arrive_94 (by decide) ?_
          refine T_vret rfl dX12_arrive_117 ?_
          first | exact ⟨rfl, rfl, rfl, arr_A hS hp c38⟩ | exact ⟨rfl, rfl, rfl, arr_B hS ht l3 c38 c51⟩ | exact ⟨rfl, rfl, rfl, arr_C hS ht l3 c38 c51 c77⟩ | exact ⟨rfl, rfl, rfl, arr_D hS ht l3 c38 c51 c77⟩
      ·
        refine T_aload0 dX12_arrive_54 rfl ?_
        refine g12_19 _ rfl (hS.t_s) (hS.g_a2) dX12_arrive_55 rfl ?_
        refine T_iload1 dX12_arrive_58 rfl ?_
        refine T_iconst (-1) dX12_arrive_59 rfl rfl ?_
        refine T_iast _ (hS.t_a2) rfl (by omega) (by decide) dX12_arrive_60 rfl ?_
        refine T_nm (fun M4 e4 => ?_)
        have hS := SL.mv (hS.p_wher (by omega)) e4
        have hW := hW.frU e4 (by omega)
        refine T_aload0 dX12_arrive_61 rfl ?_
        refine g12_25 _ rfl (hS.t_s) (hS.g_a4) dX12_arrive_62 rfl ?_
        refine T_iload1 dX12_arrive_65 rfl ?_
        refine T_iconst (0) dX12_arrive_66 rfl rfl ?_
        refine T_iast _ (hS.t_a4) rfl (by omega) (by decide) dX12_arrive_67 rfl ?_
        refine T_nm (fun M5 e5 => ?_)
        have hS := SL.mv (hS.p_gone (by omega)) e5
        have hW := hW.frU e5 (by omega)
        refine T_goto 117 dX12_arrive_68 (by decide) ?_
        refine T_vret rfl dX12_arrive_117 ?_
        first | exact ⟨rfl, rfl, rfl, arr_A hS hp c38⟩ | exact ⟨rfl, rfl, rfl, arr_B hS ht l3 c38 c51⟩ | exact ⟨rfl, rfl, rfl, arr_C hS ht l3 c38 c51 c77⟩ | exact ⟨rfl, rfl, rfl, arr_D hS ht l3 c38 c51 c77⟩
    ·
      refine T_aload0 dX12_arrive_41 rfl ?_
      refine T_iload1 dX12_arrive_42 rfl ?_
      refine T_cV1 (c_X12_unload hX hS.rf hW hj) hX k12_172 (Or.inl ⟨_, _, _, _, (hS.t_s), by decide, rfl⟩) (by decide) (Nat.le_of_ble_eq_true rfl) dX12_arrive_43 rfl ?_
      rintro _ _ _ M1 ⟨rfl, rfl, rfl, hN⟩
      have hW := hW.nx hN.frame
      have hS := hN.bs hS.frame
      refine T_goto 117 dX12_arrive_46 (by decide) ?_
      refine T_vret rfl dX12_arrive_117 ?_
      first | exact ⟨rfl, rfl, rfl, arr_A hS hp c38⟩ | exact ⟨rfl, rfl, rfl, arr_B hS ht l3 c38 c51⟩ | exact ⟨rfl, rfl, rfl, arr_C hS ht l3 c38 c51 c77⟩ | exact ⟨rfl, rfl, rfl, arr_D hS ht l3 c38 c51 c77⟩
set_option maxHeartbeats 1000000 in
theorem c_X12_move {l : Launch} {D : va_G} {cA : Nat → ClassId} {n0 : Nat} {sg adK adV : Nat → Nat} {sgA smA wdA bS LS : Nat} {xs : Nat → Int32} (hX : SF n0 (XW0 sg adK adV sgA smA wdA n0 bS LS xs)) {sz : Nat} {τ : TY} {M0 M : ME} {m y s a b c hc wc sn : Nat} {ρ π : RH} {σ : Nat → Nat} {μ κ : Nat → Int32} (ho : PmOK a b c hc wc sn σ π) (hS : SL τ M0 M s a b c ρ m μ κ) (hW : WN τ M m y s a b c hc wc sn ρ π σ) {j t : Nat} (hj : j < b) (ht : t < a) (hp : ρ 15 j = nI t) (hi : RI a b c ρ) : CT l D cA n0 (XW0 sg adK adV sgA smA wdA n0 bS LS xs) mX12_move 6 0 0 sz τ M [.ref s, .int (nI j)] (fun v' sz' τ' M' => v' = none ∧ sz' = sz ∧ τ' = τ ∧ ∃ κ', SLM τ M0 M' s a b c m j ρ μ (mtC a b c wc σ π ρ j t) κ') := by
  refine CT.of (ls := [.ref s, .int (nI j), UU, UU]) (by decide) (Nat.le_of_ble_eq_true rfl) rfl ?_
  obtain ⟨l3, l4, l5, l6, l7, l8⟩ := hW.ok
  obtain ⟨g1, g2, g3, g4, g5, g6⟩ := hi.1 j hj
  have g7 := tire_m g5 g6
  refine T_aload0 dX12_move_0 rfl ?_
  refine g12_19 _ rfl (hS.t_s) (hS.g_a2) dX12_move_1 rfl ?_
  refine T_iload1 dX12_move_4 rfl ?_
  refine T_iald _ (hS.t_a2) rfl (by omega) (by decide) dX12_move_5 rfl (hS.g_wher (by omega)) ?_
  rw [hp]
  refine T_istore2 rfl (by decide) dX12_move_6 rfl ?_
  refine T_joinI 27 (fun v => v = ndF c ρ j t) (fun hJ => ?_) (fun x27 hx27 => ?_)
  ·
    refine T_aload0 dX12_move_7 rfl ?_
    refine g12_22 _ rfl (hS.t_s) (hS.g_a3) dX12_move_8 rfl ?_
    refine T_iload1 dX12_move_11 rfl ?_
    refine T_iald _ (hS.t_a3) rfl (by omega) (by decide) dX12_move_12 rfl (hS.g_down (by omega)) ?_
    refine T_iconst (1) dX12_move_13 rfl rfl ?_
    refine T_icmp_ne 26 17 dX12_move_14 (by decide) rfl (fun c14 => ?_) (fun c14 => ?_)
    ·
      refine T_iconst (0) dX12_move_26 rfl rfl ?_
      refine hJ _ ?_
      unfold ndF
      first | (rw [if_neg (by rw [c14]; decide)]; done) | (rw [if_pos (down_1 g2 c14)]; done)
    ·
      refine T_aload0 dX12_move_17 rfl ?_
      refine T_iload1 dX12_move_18 rfl ?_
      refine T_iload2 dX12_move_19 rfl ?_
      refine T_cV2 (c_X12_needs hX hS hW (by omega) (by omega)) hX k12_147 (Or.inl ⟨_, _, _, _, (hS.t_s), by decide, rfl⟩) (by decide) (Nat.le_of_ble_eq_true rfl) dX12_move_20 rfl ?_
      rintro _ _ _ _ ⟨rfl, rfl, rfl, rfl⟩
      refine T_goto 27 dX12_move_23 (by decide) ?_
      refine hJ _ ?_
      unfold ndF
      first | (rw [if_neg (by rw [c14]; decide)]; done) | (rw [if_pos (down_1 g2 c14)]; done)
  ·
    subst hx27
    refine T_istore3 rfl (by decide) dX12_move_27 rfl ?_
    refine T_aload0 dX12_move_28 rfl ?_
    refine T_iload1 dX12_move_29 rfl ?_
    refine T_cV1 (c_X12_waits hX ho hj hS.rf hW) hX k12_150 (Or.inl ⟨_, _, _, _, (hS.t_s), by decide, rfl⟩) (by decide) (Nat.le_of_ble_eq_true rfl) dX12_move_30 rfl ?_
    rintro _ _ _ M1 ⟨rfl, rfl, rfl, κ1, hN⟩
    have hW := hW.nx hN.frame
    have hS := hN.bs hS.frame
    rw [hp]
    refine T_if_eq 57 36 dX12_move_33 (by decide) rfl (fun c33 => ?_) (fun c33 => ?_)
    ·
      refine T_iload3 dX12_move_57 rfl ?_
      refine T_aload0 dX12_move_58 rfl ?_
      refine g12_34 _ rfl (hS.t_s) (hS.g_a7) dX12_move_59 rfl ?_
      refine T_iload1 dX12_move_62 rfl ?_
      refine T_iald _ (hS.t_a7) rfl (by omega) (by decide) dX12_move_63 rfl (hS.g_iron (by omega)) ?_
      refine T_icmp_le 75 67 dX12_move_64 (by decide) rfl (fun c64 => ?_) (fun c64 => ?_)
      ·
        refine T_iload3 dX12_move_75 rfl ?_
        refine T_aload0 dX12_move_76 rfl ?_
        refine g12_3 _ rfl (hS.t_s) (hS.g_m) dX12_move_77 rfl ?_
        refine g12_75 _ rfl (hW.t_m) (hW.g_pl) dX12_move_80 rfl ?_
        refine g12_157 _ rfl (hW.t_q) (hW.g_pull) dX12_move_83 rfl ?_
        refine T_iload1 dX12_move_86 rfl ?_
        refine T_iald _ (hW.t_pull) rfl (by omega) (by decide) dX12_move_87 rfl (hW.v_pull (by omega)) ?_
        refine T_aload0 dX12_move_88 rfl ?_
        refine g12_28 _ rfl (hS.t_s) (hS.g_a5) dX12_move_89 rfl ?_
        refine T_iload1 dX12_move_92 rfl ?_
        refine T_iald _ (hS.t_a5) rfl (by omega) (by decide) dX12_move_93 rfl (hS.g_tire (by omega)) ?_
        refine T_isub dX12_move_94 rfl ?_
        refine T_icmp_le 119 98 dX12_move_95 (by decide) rfl (fun c95 => ?_) (fun c95 => ?_)
        ·
          refine T_aload0 dX12_move_119 rfl ?_
          refine g12_25 _ rfl (hS.t_s) (hS.g_a4) dX12_move_120 rfl ?_
          refine T_iload1 dX12_move_123 rfl ?_
          refine T_dup2 dX12_move_124 rfl rfl rfl ?_
          refine T_iald _ (hS.t_a4) rfl (by omega) (by decide) dX12_move_125 rfl (hS.g_gone (by omega)) ?_
          refine T_joinI 166 (fun v => v = gdF ρ j t) (fun hJ => ?_) (fun x166 hx166 => ?_)
          ·
            refine T_aload0 dX12_move_126 rfl ?_
            refine g12_22 _ rfl (hS.t_s) (hS.g_a3) dX12_move_127 rfl ?_
            refine T_iload1 dX12_move_130 rfl ?_
            refine T_iald _ (hS.t_a3) rfl (by omega) (by decide) dX12_move_131 rfl (hS.g_down (by omega)) ?_
            refine T_iconst (1) dX12_move_132 rfl rfl ?_
            refine T_icmp_ne 165 136 dX12_move_133 (by decide) rfl (fun c133 => ?_) (fun c133 => ?_)
            ·
              refine T_iconst (1) dX12_move_165 rfl rfl ?_
              refine hJ _ ?_
              unfold gdF
              first | (refine (if_pos ?_).symm; exact And.intro (by rw [c133]; decide) (And.intro (Int32.not_le.mp c148) (Int32.not_le.mp c158))) | (refine (if_neg ?_).symm; exact fun q => q.1 (down_1 g2 c133)) | (refine (if_neg ?_).symm; exact fun q => Int32.not_lt.mpr c148 q.2.1) | (refine (if_neg ?_).symm; exact fun q => Int32.not_lt.mpr c158 q.2.2)
            ·
              refine T_aload0 dX12_move_136 rfl ?_
              refine g12_3 _ rfl (hS.t_s) (hS.g_m) dX12_move_137 rfl ?_
              refine g12_75 _ rfl (hW.t_m) (hW.g_pl) dX12_move_140 rfl ?_
              refine g12_98 _ rfl (hW.t_q) (hW.g_slope) dX12_move_143 rfl ?_
              refine T_iload2 dX12_move_146 rfl ?_
              refine T_iald _ (hW.t_slope) rfl (by omega) (by decide) dX12_move_147 rfl (hW.v_slope (by omega)) ?_
              refine T_if_ge 165 151 dX12_move_148 (by decide) rfl (fun c148 => ?_) (fun c148 => ?_)
              ·
                refine T_iconst (1) dX12_move_165 rfl rfl ?_
                refine hJ _ ?_
                unfold gdF
                first | (refine (if_pos ?_).symm; exact And.intro (by rw [c133]; decide) (And.intro (Int32.not_le.mp c148) (Int32.not_le.mp c158))) | (refine (if_neg ?_).symm; exact fun q => q.1 (down_1 g2 c133)) | (refine (if_neg ?_).symm; exact fun q => Int32.not_lt.mpr c148 q.2.1) | (refine (if_neg ?_).symm; exact fun q => Int32.not_lt.mpr c158 q.2.2)
              ·
                refine T_aload0 dX12_move_151 rfl ?_
                refine g12_15 _ rfl (hS.t_s) (hS.g_a1) dX12_move_152 rfl ?_
                refine T_iload2 dX12_move_155 rfl ?_
                refine T_iald _ (hS.t_a1) rfl (by omega) (by decide) dX12_move_156 rfl (hS.g_fros (by omega)) ?_
                refine T_iconst (5) dX12_move_157 rfl rfl ?_
                refine T_icmp_le 165 161 dX12_move_158 (by decide) rfl (fun c158 => ?_) (fun c158 => ?_)
                ·
                  refine T_iconst (1) dX12_move_165 rfl rfl ?_
                  refine hJ _ ?_
                  unfold gdF
                  first | (refine (if_pos ?_).symm; exact And.intro (by rw [c133]; decide) (And.intro (Int32.not_le.mp c148) (Int32.not_le.mp c158))) | (refine (if_neg ?_).symm; exact fun q => q.1 (down_1 g2 c133)) | (refine (if_neg ?_).symm; exact fun q => Int32.not_lt.mpr c148 q.2.1) | (refine (if_neg ?_).symm; exact fun q => Int32.not_lt.mpr c158 q.2.2)
                ·
                  refine T_iconst (2) dX12_move_161 rfl rfl ?_
                  refine T_goto 166 dX12_move_162 (by decide) ?_
                  refine hJ _ ?_
                  unfold gdF
                  first | (refine (if_pos ?_).symm; exact And.intro (by rw [c133]; decide) (And.intro (Int32.not_le.mp c148) (Int32.not_le.mp c158))) | (refine (if_neg ?_).symm; exact fun q => q.1 (down_1 g2 c133)) | (refine (if_neg ?_).symm; exact fun q => Int32.not_lt.mpr c148 q.2.1) | (refine (if_neg ?_).symm; exact fun q => Int32.not_lt.mpr c158 q.2.2)
          ·
            subst hx166
            refine T_iadd dX12_move_166 rfl ?_
            refine T_iast _ (hS.t_a4) rfl (by omega) (by decide) dX12_move_167 rfl ?_
            refine T_nm (fun M1 e1 => ?_)
            have hS := SL.mv (hS.p_gone (by omega)) e1
            have hW := hW.frU e1 (by omega)
            refine T_aload0 dX12_move_168 rfl ?_
            refine g12_28 _ rfl (hS.t_s) (hS.g_a5) dX12_move_169 rfl ?_
            refine T_iload1 dX12_move_172 rfl ?_
            refine T_iconst (0) dX12_move_173 rfl rfl ?_
            refine T_bipush (60) dX12_move_174 rfl rfl ?_
            refine T_aload0 dX12_move_176 rfl ?_
            refine g12_28 _ rfl (hS.t_s) (hS.g_a5) dX12_move_177 rfl ?_
            refine T_iload1 dX12_move_180 rfl ?_
            refine T_iald _ (hS.t_a5) rfl (by omega) (by decide) dX12_move_181 rfl (hS.g_tire (by omega)) ?_
            refine T_joinI 200 (fun v => v = if ρ 16 j = 0 then -1 else ndF c ρ j t / 8) (fun hJ => ?_) (fun x200 hx200 => ?_)
            ·
              refine T_aload0 dX12_move_182 rfl ?_
              refine g12_22 _ rfl (hS.t_s) (hS.g_a3) dX12_move_183 rfl ?_
              refine T_iload1 dX12_move_186 rfl ?_
              refine T_iald _ (hS.t_a3) rfl (by omega) (by decide) dX12_move_187 rfl (hS.g_down (by omega)) ?_
              refine T_iconst (1) dX12_move_188 rfl rfl ?_
              refine T_icmp_ne 199 192 dX12_move_189 (by decide) rfl (fun c189 => ?_) (fun c189 => ?_)
              ·
                refine T_iconst (-1) dX12_move_199 rfl rfl ?_
                refine hJ _ ?_
                first | (refine (if_neg ?_).symm; exact fun q => by rw [show ρ 16 j = 1 from c189] at q; exact absurd q (by decide)) | (refine (if_pos ?_).symm; exact down_1 g2 c189)
              ·
                refine T_iload3 dX12_move_192 rfl ?_
                refine T_bipush (8) dX12_move_193 rfl rfl ?_
                refine T_idiv dX12_move_195 rfl (by decide) ?_
                refine T_goto 200 dX12_move_196 (by decide) ?_
                refine hJ _ ?_
                first | (refine (if_neg ?_).symm; exact fun q => by rw [show ρ 16 j = 1 from c189] at q; exact absurd q (by decide)) | (refine (if_pos ?_).symm; exact down_1 g2 c189)
            ·
              subst hx200
              refine T_iadd dX12_move_200 rfl ?_
              refine T_min km12_160 (by decide) (Nat.le_of_ble_eq_true rfl) dX12_move_201 rfl ?_
              refine T_max km12_101 (by decide) (Nat.le_of_ble_eq_true rfl) dX12_move_204 rfl ?_
              refine T_iast _ (hS.t_a5) rfl (by omega) (by decide) dX12_move_207 rfl ?_
              refine T_nm (fun M2 e2 => ?_)
              have hS := SL.mv (hS.p_tire (by omega)) e2
              have hW := hW.frU e2 (by omega)
              refine T_aload0 dX12_move_208 rfl ?_
              refine g12_25 _ rfl (hS.t_s) (hS.g_a4) dX12_move_209 rfl ?_
              refine T_iload1 dX12_move_212 rfl ?_
              refine T_iald _ (hS.t_a4) rfl (by omega) (by decide) dX12_move_213 rfl (hS.g_gone (by omega)) ?_
              refine T_aload0 dX12_move_214 rfl ?_
              refine g12_3 _ rfl (hS.t_s) (hS.g_m) dX12_move_215 rfl ?_
              refine g12_75 _ rfl (hW.t_m) (hW.g_pl) dX12_move_218 rfl ?_
              refine g12_163 _ rfl (hW.t_q) (hW.g_length) dX12_move_221 rfl ?_
              refine T_iload2 dX12_move_224 rfl ?_
              refine T_iald _ (hW.t_length) rfl (by omega) (by decide) dX12_move_225 rfl (hW.v_length (by omega)) ?_
              refine T_icmp_lt 234 229 dX12_move_226 (by decide) rfl (fun c226 => ?_) (fun c226 => ?_)
              ·
                refine T_vret rfl dX12_move_234 ?_
                refine ⟨rfl, rfl, rfl, κ1, ?_⟩
                first
                  | (unfold mtC; rw [if_neg c33]; exact ⟨_, hS.cg (fun f i hf => by rw [g7.1]; rfl), fun o _ _ z => z⟩)
                  | (unfold mtC; rw [if_pos c33, if_neg c64]; exact ⟨_, hS, fun o _ _ z => z.trans (mpL_f (by decide)).symm⟩)
                  | (unfold mtC; rw [if_pos c33, if_pos c64, if_neg c95]; exact ⟨_, hS.cg (fun f i hf => by rw [g7.2]; rfl), fun o _ _ z => z⟩)
                  | (unfold mtC goC; rw [if_pos c33, if_pos c64, if_pos c95, if_pos (show (g2C ρ j t (ndF c ρ j t)) 17 j < ρ 41 t from c226)]; exact ⟨_, hS, fun o _ _ z => z⟩)
                  | (unfold mtC goC; rw [if_pos c33, if_pos c64, if_pos c95, if_neg (show ¬ (g2C ρ j t (ndF c ρ j t)) 17 j < ρ 41 t from c226)]; exact ⟨_, hS, hA⟩)
              ·
                refine T_aload0 dX12_move_229 rfl ?_
                refine T_iload1 dX12_move_230 rfl ?_
                refine T_cV1 (c_X12_arrive hX (ρ := g2C ρ j t (ndF c ρ j t)) hS.rf (hW.ks (((KS.rf ρ).u (by decide)).tire)) hj ht hp ((hi.u (by decide)).tire)) hX k12_166 (Or.inl ⟨_, _, _, _, (hS.t_s), by decide, rfl⟩) (by decide) (Nat.le_of_ble_eq_true rfl) dX12_move_231 rfl ?_
                rintro _ _ _ M1 ⟨rfl, rfl, rfl, μ1, hN, hA⟩
                have hW := hW.nx hN.frame
                have hS := hN.bs hS.frame
                refine T_vret rfl dX12_move_234 ?_
                refine ⟨rfl, rfl, rfl, κ1, ?_⟩
                first
                  | (unfold mtC; rw [if_neg c33]; exact ⟨_, hS.cg (fun f i hf => by rw [g7.1]; rfl), fun o _ _ z => z⟩)
                  | (unfold mtC; rw [if_pos c33, if_neg c64]; exact ⟨_, hS, fun o _ _ z => z.trans (mpL_f (by decide)).symm⟩)
                  | (unfold mtC; rw [if_pos c33, if_pos c64, if_neg c95]; exact ⟨_, hS.cg (fun f i hf => by rw [g7.2]; rfl), fun o _ _ z => z⟩)
                  | (unfold mtC goC; rw [if_pos c33, if_pos c64, if_pos c95, if_pos (show (g2C ρ j t (ndF c ρ j t)) 17 j < ρ 41 t from c226)]; exact ⟨_, hS, fun o _ _ z => z⟩)
                  | (unfold mtC goC; rw [if_pos c33, if_pos c64, if_pos c95, if_neg (show ¬ (g2C ρ j t (ndF c ρ j t)) 17 j < ρ 41 t from c226)]; exact ⟨_, hS, hA⟩)
        ·
          refine T_aload0 dX12_move_98 rfl ?_
          refine g12_28 _ rfl (hS.t_s) (hS.g_a5) dX12_move_99 rfl ?_
          refine T_iload1 dX12_move_102 rfl ?_
          refine T_iconst (0) dX12_move_103 rfl rfl ?_
          refine T_aload0 dX12_move_104 rfl ?_
          refine g12_28 _ rfl (hS.t_s) (hS.g_a5) dX12_move_105 rfl ?_
          refine T_iload1 dX12_move_108 rfl ?_
          refine T_iald _ (hS.t_a5) rfl (by omega) (by decide) dX12_move_109 rfl (hS.g_tire (by omega)) ?_
          refine T_iconst (4) dX12_move_110 rfl rfl ?_
          refine T_isub dX12_move_111 rfl ?_
          refine T_max km12_101 (by decide) (Nat.le_of_ble_eq_true rfl) dX12_move_112 rfl ?_
          refine T_iast _ (hS.t_a5) rfl (by omega) (by decide) dX12_move_115 rfl ?_
          refine T_nm (fun M3 e3 => ?_)
          have hS := SL.mv (hS.p_tire (by omega)) e3
          have hW := hW.frU e3 (by omega)
          refine T_goto 234 dX12_move_116 (by decide) ?_
          refine T_vret rfl dX12_move_234 ?_
          refine ⟨rfl, rfl, rfl, κ1, ?_⟩
          first
            | (unfold mtC; rw [if_neg c33]; exact ⟨_, hS.cg (fun f i hf => by rw [g7.1]; rfl), fun o _ _ z => z⟩)
            | (unfold mtC; rw [if_pos c33, if_neg c64]; exact ⟨_, hS, fun o _ _ z => z.trans (mpL_f (by decide)).symm⟩)
            | (unfold mtC; rw [if_pos c33, if_pos c64, if_neg c95]; exact ⟨_, hS.cg (fun f i hf => by rw [g7.2]; rfl), fun o _ _ z => z⟩)
            | (unfold mtC goC; rw [if_pos c33, if_pos c64, if_pos c95, if_pos (show (g2C ρ j t (ndF c ρ j t)) 17 j < ρ 41 t from c226)]; exact ⟨_, hS, fun o _ _ z => z⟩)
            | (unfold mtC goC; rw [if_pos c33, if_pos c64, if_pos c95, if_neg (show ¬ (g2C ρ j t (ndF c ρ j t)) 17 j < ρ 41 t from c226)]; exact ⟨_, hS, hA⟩)
      ·
        refine T_aload0 dX12_move_67 rfl ?_
        refine T_iload1 dX12_move_68 rfl ?_
        refine T_cV1 (c_X12_snap hX hS.rf hW hj ht hp) hX k12_153 (Or.inl ⟨_, _, _, _, (hS.t_s), by decide, rfl⟩) (by decide) (Nat.le_of_ble_eq_true rfl) dX12_move_69 rfl ?_
        rintro _ _ _ M1 ⟨rfl, rfl, rfl, hN⟩
        have hW := hW.nx hN.frame
        have hS := hN.bs hS.frame
        refine T_goto 234 dX12_move_72 (by decide) ?_
        refine T_vret rfl dX12_move_234 ?_
        refine ⟨rfl, rfl, rfl, κ1, ?_⟩
        first
          | (unfold mtC; rw [if_neg c33]; exact ⟨_, hS.cg (fun f i hf => by rw [g7.1]; rfl), fun o _ _ z => z⟩)
          | (unfold mtC; rw [if_pos c33, if_neg c64]; exact ⟨_, hS, fun o _ _ z => z.trans (mpL_f (by decide)).symm⟩)
          | (unfold mtC; rw [if_pos c33, if_pos c64, if_neg c95]; exact ⟨_, hS.cg (fun f i hf => by rw [g7.2]; rfl), fun o _ _ z => z⟩)
          | (unfold mtC goC; rw [if_pos c33, if_pos c64, if_pos c95, if_pos (show (g2C ρ j t (ndF c ρ j t)) 17 j < ρ 41 t from c226)]; exact ⟨_, hS, fun o _ _ z => z⟩)
          | (unfold mtC goC; rw [if_pos c33, if_pos c64, if_pos c95, if_neg (show ¬ (g2C ρ j t (ndF c ρ j t)) 17 j < ρ 41 t from c226)]; exact ⟨_, hS, hA⟩)
    ·
      refine T_aload0 dX12_move_36 rfl ?_
      refine g12_28 _ rfl (hS.t_s) (hS.g_a5) dX12_move_37 rfl ?_
      refine T_iload1 dX12_move_40 rfl ?_
      refine T_iconst (0) dX12_move_41 rfl rfl ?_
      refine T_aload0 dX12_move_42 rfl ?_
      refine g12_28 _ rfl (hS.t_s) (hS.g_a5) dX12_move_43 rfl ?_
      refine T_iload1 dX12_move_46 rfl ?_
      refine T_iald _ (hS.t_a5) rfl (by omega) (by decide) dX12_move_47 rfl (hS.g_tire (by omega)) ?_
      refine T_iconst (2) dX12_move_48 rfl rfl ?_
      refine T_isub dX12_move_49 rfl ?_
      refine T_max km12_101 (by decide) (Nat.le_of_ble_eq_true rfl) dX12_move_50 rfl ?_
      refine T_iast _ (hS.t_a5) rfl (by omega) (by decide) dX12_move_53 rfl ?_
      refine T_nm (fun M4 e4 => ?_)
      have hS := SL.mv (hS.p_tire (by omega)) e4
      have hW := hW.frU e4 (by omega)
      refine T_goto 234 dX12_move_54 (by decide) ?_
      refine T_vret rfl dX12_move_234 ?_
      refine ⟨rfl, rfl, rfl, κ1, ?_⟩
      first
        | (unfold mtC; rw [if_neg c33]; exact ⟨_, hS.cg (fun f i hf => by rw [g7.1]; rfl), fun o _ _ z => z⟩)
        | (unfold mtC; rw [if_pos c33, if_neg c64]; exact ⟨_, hS, fun o _ _ z => z.trans (mpL_f (by decide)).symm⟩)
        | (unfold mtC; rw [if_pos c33, if_pos c64, if_neg c95]; exact ⟨_, hS.cg (fun f i hf => by rw [g7.2]; rfl), fun o _ _ z => z⟩)
        | (unfold mtC goC; rw [if_pos c33, if_pos c64, if_pos c95, if_pos (show (g2C ρ j t (ndF c ρ j t)) 17 j < ρ 41 t from c226)]; exact ⟨_, hS, fun o _ _ z => z⟩)
        | (unfold mtC goC; rw [if_pos c33, if_pos c64, if_pos c95, if_neg (show ¬ (g2C ρ j t (ndF c ρ j t)) 17 j < ρ 41 t from c226)]; exact ⟨_, hS, hA⟩)
