/-! the law's loop: the hour -/
theorem i32_ad (x y : Int32) : x = y + (x - y) := by rw [Int32.add_comm, Int32.sub_add_cancel]
set_option maxHeartbeats 1000000 in
theorem PF_law {l : Launch} {D : va_G} {cA : Nat → ClassId} {n0 : Nat} {sg adK adV : Nat → Nat} {sgA smA wdA bS LS : Nat} {xs : Nat → Int32} (hX : SF n0 (XW0 sg adK adV sgA smA wdA n0 bS LS xs)) {τ : TY} (hl : l.stackTraces = false) {nn : String} {x r p r2 p2 hc wc sc j e s0 tb t : Nat} {A : Nat → Nat} {Rw : Nat → Nat → Nat} {cn : Nat → Nat} {π : RH} {ν : NU} {σ : Nat → Nat} {B : Nat → Nat} {fa W0 : Int32} {κ ω : Nat → Nat → Int32} {ρ : RH} {μ : Nat → Int32} (hd : e ≤ x ∨ x + 144 ≤ j) (hlo : x + 144 ≤ s0 ∧ e ≤ s0 ∧ j < e) (hok : CnOK cn) (hI : SI (cn 3) (cn 4) (cn 5) ρ) {bk bn : Nat} {v : Int32} (ho : PlOK (cn 3) (cn 4) hc wc σ π) (e6 : hc = cn 6) (e7 : wc = cn 7) (hPE : PE cn σ π κ ω) (hh : ρ 6 0 = nI t) (ht : t < 60) {g0 ar b21 b22 : Int32} {dg : Int64} {h0 : Nat} {M : ME} (hA : AFt τ s0 (cn 3) (cn 4) (cn 5)) (hta : τ (s0 + 4 + cn 4 + cn 5) = (100, 4)) (hC : CS sg τ M x r p r2 p2 0 (cn 3) (cn 4) (cn 5) hc wc sc ρ ν π σ B fa) (hS : SM τ M M j e A Rw cn ρ μ κ ω) (hF : AF M s0 (cn 3) (cn 4) (cn 5) ρ (cn 4) (cn 4) (cn 3) (cn 5)) (hT : (∀ i, i < 4 → M (s0 + 4 + cn 4 + cn 5) i = .int (fsF (cn 3) (cn 4) (cn 5) hc wc σ π ρ 1 i))) (hg0 : (g0 = -1 ∨ ∃ g, g < cn 5 ∧ g0 = nI g)) (hAR : ((g0 < 0 → ar = -1) ∧ ∀ g, g < cn 5 → g0 = nI g → ar = arG (cn 3) (cn 4) (cn 5) hc wc σ π ρ g 0 201)) (hh0 : h0 < cn 4) {y23 y24 y25 y26 y27 y28 y29 y30 y31 y32 y33 : Value} (KK : ∀ (M1 : ME) (ρ1 : RH) (μ1 : Nat → Int32), CS sg τ M1 x r p r2 p2 0 (cn 3) (cn 4) (cn 5) hc wc sc ρ1 ν π σ B fa → SM τ M1 M1 j e A Rw cn ρ1 μ1 κ ω → AF M1 s0 (cn 3) (cn 4) (cn 5) ρ (cn 4) (cn 4) (cn 3) (cn 5) → SI (cn 3) (cn 4) (cn 5) ρ1 → HR (cn 3) (cn 4) (cn 5) ρ ρ1 → T l D cA n0 (XW0 sg adK adV sgA smA wdA n0 bS LS xs) (mLN nn) 2048 bk bn (s0 + 4 + cn 4 + cn 5 + 1) τ M1 879 (.ref bS :: .ref tb :: .ref j :: .ref x :: .int W0 :: .int (nI t) :: .int v :: .int (nI (cn 4)) :: .int (nI (cn 3)) :: .int (nI (cn 5)) :: .ref s0 :: .ref (s0 + 1 + cn 4) :: .ref (s0 + 2 + cn 4 + cn 5) :: .ref (s0 + 3 + cn 4 + cn 5) :: .long dg :: UU :: .ref (s0 + 4 + cn 4 + cn 5) :: .int g0 :: .int ar :: .int (nI h0) :: .int (brG (cn 3) (cn 4) (cn 5) hc wc σ π ρ h0 1 200) :: .int b21 :: .int b22 :: .int (ρ 6 0) :: .int (ρ 8 0) :: .int (wOf (cn 5) ρ 3) :: .int (ρ 7 0) :: .int (wOf (cn 5) ρ1 3 - wOf (cn 5) ρ 3) :: y28 :: y29 :: y30 :: y31 :: y32 :: y33 :: []) [] Q1L (fun _ _ _ _ => False)) : T l D cA n0 (XW0 sg adK adV sgA smA wdA n0 bS LS xs) (mLN nn) 2048 (bk + 15) (bn + 90) (s0 + 4 + cn 4 + cn 5 + 1) τ M 659 (.ref bS :: .ref tb :: .ref j :: .ref x :: .int W0 :: .int (nI t) :: .int v :: .int (nI (cn 4)) :: .int (nI (cn 3)) :: .int (nI (cn 5)) :: .ref s0 :: .ref (s0 + 1 + cn 4) :: .ref (s0 + 2 + cn 4 + cn 5) :: .ref (s0 + 3 + cn 4 + cn 5) :: .long dg :: UU :: .ref (s0 + 4 + cn 4 + cn 5) :: .int g0 :: .int ar :: .int (nI h0) :: .int (brG (cn 3) (cn 4) (cn 5) hc wc σ π ρ h0 1 200) :: .int b21 :: .int b22 :: y23 :: y24 :: y25 :: y26 :: y27 :: y28 :: y29 :: y30 :: y31 :: y32 :: y33 :: []) [] Q1L (fun _ _ _ _ => False) := by
  unfold CnOK at hok
  subst e6 e7
  have hP19 : ∀ h, h < cn 4 → (1 ≤ ρ 11 h ∧ ρ 11 h ≤ 99) ∧ ρ 13 h ≤ 99 := fun h hh9 => by
    obtain ⟨-, -, -, ⟨m, m1, m2, m3⟩, n, n1, n2, n3⟩ := hI.2.1 h hh9
    rw [m3, n3]
    exact ⟨⟨(nI_leI (a := 1) (by decide) (by omega)).mpr m1, (nI_leI (b := 99) (by omega) (by decide)).mpr m2⟩, (nI_leI (b := 99) (by omega) (by decide)).mpr n2⟩
  have hPz : ∀ h, h < cn 4 → ρ 15 h = -1 → ldOf (cn 5) ρ (nI h) = 0 := fun h hh9 z => by
    obtain ⟨g1, -⟩ := hI.2.1 h hh9
    rcases g1 with ⟨-, q2, -⟩ | ⟨t9, u9, L9, q1, q2, -⟩
    · exact (hI.ld0 hh9).1 q2
    · rw [z] at q2; exact absurd q2.symm (nI_m1 (by omega))
  refine T_aload3 dL_law_659 rfl ?_
  refine T_iconst (0) dL_law_660 rfl rfl ?_
  refine T_less (bk1 := bk + 14 + 1) (bn1 := bn + 84 + 6) (by omega) (by omega) ?_
  refine q_count hX hl hC (k := 0) (by decide) kL_211 (Nat.le_of_ble_eq_true rfl) (Nat.le_of_ble_eq_true rfl) dL_law_661 rfl ?_
  rw [show cntF (cn 3) (cn 4) (cn 5) 0 ρ 0 = ρ 6 0 from rfl]
  refine T_istore23 rfl (Nat.le_of_ble_eq_true rfl) dL_law_664 rfl ?_
  refine T_aload3 dL_law_666 rfl ?_
  refine T_bipush (11) dL_law_667 rfl rfl ?_
  refine T_less (bk1 := bk + 13 + 1) (bn1 := bn + 78 + 6) (by omega) (by omega) ?_
  refine q_count hX hl hC (k := 11) (by decide) kL_211 (Nat.le_of_ble_eq_true rfl) (Nat.le_of_ble_eq_true rfl) dL_law_669 rfl ?_
  rw [show cntF (cn 3) (cn 4) (cn 5) 0 ρ 11 = ρ 8 0 from rfl]
  refine T_istore24 rfl (Nat.le_of_ble_eq_true rfl) dL_law_672 rfl ?_
  refine T_aload3 dL_law_674 rfl ?_
  refine T_bipush (6) dL_law_675 rfl rfl ?_
  refine T_less (bk1 := bk + 12 + 1) (bn1 := bn + 72 + 6) (by omega) (by omega) ?_
  refine q_count hX hl hC (k := 6) (by decide) kL_211 (Nat.le_of_ble_eq_true rfl) (Nat.le_of_ble_eq_true rfl) dL_law_677 rfl ?_
  rw [show cntF (cn 3) (cn 4) (cn 5) 0 ρ 6 = wOf (cn 5) ρ 3 from rfl]
  refine T_istore25 rfl (Nat.le_of_ble_eq_true rfl) dL_law_680 rfl ?_
  refine T_aload3 dL_law_682 rfl ?_
  refine T_iconst (1) dL_law_683 rfl rfl ?_
  refine T_less (bk1 := bk + 11 + 1) (bn1 := bn + 66 + 6) (by omega) (by omega) ?_
  refine q_count hX hl hC (k := 1) (by decide) kL_211 (Nat.le_of_ble_eq_true rfl) (Nat.le_of_ble_eq_true rfl) dL_law_684 rfl ?_
  rw [show cntF (cn 3) (cn 4) (cn 5) 0 ρ 1 = ρ 7 0 from rfl]
  refine T_istore26 rfl (Nat.le_of_ble_eq_true rfl) dL_law_687 rfl ?_
  refine T_aload3 dL_law_689 rfl ?_
  refine T_iconst (1) dL_law_690 rfl rfl ?_
  refine T_less (bk1 := bk + 10 + 1) (bn1 := bn + 60 + 6) (by omega) (by omega) ?_
  refine q_pass hX hl hC hI.2.2.2.2.2 ho kL_248 (Nat.le_of_ble_eq_true rfl) (Nat.le_of_ble_eq_true rfl) dL_law_691 rfl (fun M2 hC hf2 => ?_)
  have hS := hS.fr (M1 := M2) (fun q g1 g2 => hf2 q (by omega))
  have hF := hF.fr (M' := M2) (fun q g1 g2 => hf2 q (by omega))
  have hT : (∀ i, i < 4 → M2 (s0 + 4 + cn 4 + cn 5) i = .int (fsF (cn 3) (cn 4) (cn 5) (cn 6) (cn 7) σ π ρ 1 i)) := fun i hi => (congrFun (hf2 (s0 + 4 + cn 4 + cn 5) (by omega)) i).trans (hT i hi)
  obtain ⟨ρ1, eρ⟩ : ∃ ρ1, ρ1 = hrC (cn 3) (cn 4) (cn 5) (cn 6) (cn 7) σ π ρ := ⟨_, rfl⟩
  rw [← eρ] at hC ⊢
  have hI1 : SI (cn 3) (cn 4) (cn 5) ρ1 := by rw [eρ]; exact (hI.hr ⟨t, by omega, hh⟩).1
  have hHR : HR (cn 3) (cn 4) (cn 5) ρ ρ1 := by rw [eρ]; exact (hI.hr ⟨t, by omega, hh⟩).2
  refine T_istore27 rfl (Nat.le_of_ble_eq_true rfl) dL_law_694 rfl ?_
  refine T_aload2 dL_law_696 rfl ?_
  refine T_cV0 (mc' := 0) (ms' := 0) (c_X11_pass hX hS hPE hI.2.2.2.2.2 hP19 hPz) hX kL_251 (Or.inl ⟨_, _, _, _, hS.t0, by decide, rfl⟩) (Nat.le_of_ble_eq_true rfl) (Nat.le_of_ble_eq_true rfl) dL_law_697 rfl ?_
  rintro _ szq τq M9 ⟨rfl, ea, eb, μ1, hS⟩
  obtain rfl := ea.symm
  obtain rfl := eb.symm
  have hfr := hS.frame
  replace hS := hS.rf
  rw [← eρ] at hS
  have hC := hC.fr (M1 := M9) (fun q g1 g2 => hfr q (by omega))
  have hF := hF.fr (M' := M9) (fun q g1 g2 => hfr q (by omega))
  have hT : (∀ i, i < 4 → M9 (s0 + 4 + cn 4 + cn 5) i = .int (fsF (cn 3) (cn 4) (cn 5) (cn 6) (cn 7) σ π ρ 1 i)) := fun i hi => (congrFun (hfr (s0 + 4 + cn 4 + cn 5) (by omega)) i).trans (hT i hi)
  have hT0 : M9 (s0 + 4 + cn 4 + cn 5) 0 = .int (wOf (cn 5) ρ1 3 - wOf (cn 5) ρ 3) := by rw [eρ]; exact hT 0 (by decide)
  have hT1 : M9 (s0 + 4 + cn 4 + cn 5) 1 = .int (nOf (cn 5) ρ1 2) := by rw [eρ]; exact hT 1 (by decide)
  have hT2 : M9 (s0 + 4 + cn 4 + cn 5) 2 = .int (ρ1 8 0 - ρ 8 0) := by rw [eρ]; exact hT 2 (by decide)
  have hT3 : M9 (s0 + 4 + cn 4 + cn 5) 3 = .int (wOf (cn 5) ρ1 0) := by rw [eρ]; exact hT 3 (by decide)
  refine T_iload27 dL_law_700 rfl ?_
  refine T_aload16 dL_law_702 rfl ?_
  refine T_iconst (0) dL_law_704 rfl rfl ?_
  refine T_iald 0 hta rfl (by decide) (by decide) dL_law_705 rfl hT0 ?_
  refine T_icmp_ne_f 877 709 dL_law_706 (by decide) rfl rfl ?_
  refine T_aload3 dL_law_709 rfl ?_
  refine T_bipush (8) dL_law_710 rfl rfl ?_
  refine T_less (bk1 := bk + 9 + 1) (bn1 := bn + 54 + 6) (by omega) (by omega) ?_
  refine q_count hX hl hC (k := 8) (by decide) kL_211 (Nat.le_of_ble_eq_true rfl) (Nat.le_of_ble_eq_true rfl) dL_law_712 rfl ?_
  rw [show cntF (cn 3) (cn 4) (cn 5) 0 ρ1 8 = nOf (cn 5) ρ1 2 from rfl]
  refine T_aload16 dL_law_715 rfl ?_
  refine T_iconst (1) dL_law_717 rfl rfl ?_
  refine T_iald 1 hta rfl (by decide) (by decide) dL_law_718 rfl hT1 ?_
  refine T_icmp_ne_f 877 722 dL_law_719 (by decide) rfl rfl ?_
  refine T_aload3 dL_law_722 rfl ?_
  refine T_bipush (11) dL_law_723 rfl rfl ?_
  refine T_less (bk1 := bk + 8 + 1) (bn1 := bn + 48 + 6) (by omega) (by omega) ?_
  refine q_count hX hl hC (k := 11) (by decide) kL_211 (Nat.le_of_ble_eq_true rfl) (Nat.le_of_ble_eq_true rfl) dL_law_725 rfl ?_
  rw [show cntF (cn 3) (cn 4) (cn 5) 0 ρ1 11 = ρ1 8 0 from rfl]
  refine T_iload24 dL_law_728 rfl ?_
  refine T_isub dL_law_730 rfl ?_
  refine T_aload16 dL_law_731 rfl ?_
  refine T_iconst (2) dL_law_733 rfl rfl ?_
  refine T_iald 2 hta rfl (by decide) (by decide) dL_law_734 rfl hT2 ?_
  refine T_icmp_ne_f 877 738 dL_law_735 (by decide) rfl rfl ?_
  refine T_aload3 dL_law_738 rfl ?_
  refine T_iconst (5) dL_law_739 rfl rfl ?_
  refine T_less (bk1 := bk + 7 + 1) (bn1 := bn + 42 + 6) (by omega) (by omega) ?_
  refine q_count hX hl hC (k := 5) (by decide) kL_211 (Nat.le_of_ble_eq_true rfl) (Nat.le_of_ble_eq_true rfl) dL_law_740 rfl ?_
  rw [show cntF (cn 3) (cn 4) (cn 5) 0 ρ1 5 = wOf (cn 5) ρ1 0 from rfl]
  refine T_aload16 dL_law_743 rfl ?_
  refine T_iconst (3) dL_law_745 rfl rfl ?_
  refine T_iald 3 hta rfl (by decide) (by decide) dL_law_746 rfl hT3 ?_
  refine T_icmp_ne_f 877 750 dL_law_747 (by decide) rfl rfl ?_
  refine T_aload3 dL_law_750 rfl ?_
  refine T_bipush (6) dL_law_751 rfl rfl ?_
  refine T_less (bk1 := bk + 6 + 1) (bn1 := bn + 36 + 6) (by omega) (by omega) ?_
  refine q_count hX hl hC (k := 6) (by decide) kL_211 (Nat.le_of_ble_eq_true rfl) (Nat.le_of_ble_eq_true rfl) dL_law_753 rfl ?_
  rw [show cntF (cn 3) (cn 4) (cn 5) 0 ρ1 6 = wOf (cn 5) ρ1 3 from rfl]
  refine T_iload25 dL_law_756 rfl ?_
  refine T_iload27 dL_law_758 rfl ?_
  refine T_iadd dL_law_760 rfl ?_
  refine T_icmp_ne_f 877 764 dL_law_761 (by decide) rfl (i32_ad _ _) ?_
  refine T_aload3 dL_law_764 rfl ?_
  refine T_iconst (0) dL_law_765 rfl rfl ?_
  refine T_less (bk1 := bk + 5 + 1) (bn1 := bn + 30 + 6) (by omega) (by omega) ?_
  refine q_count hX hl hC (k := 0) (by decide) kL_211 (Nat.le_of_ble_eq_true rfl) (Nat.le_of_ble_eq_true rfl) dL_law_766 rfl ?_
  rw [show cntF (cn 3) (cn 4) (cn 5) 0 ρ1 0 = ρ1 6 0 from rfl]
  refine T_iload23 dL_law_769 rfl ?_
  refine T_iconst (1) dL_law_771 rfl rfl ?_
  refine T_iadd dL_law_772 rfl ?_
  refine T_icmp_ne_f 877 776 dL_law_773 (by decide) rfl hHR.1.1 ?_
  refine T_jN 822 (bk2 := bk + 3) (bn2 := bn + 18) (fun hJ => ?_) ?_
  ·
    refine T_iload17 dL_law_776 rfl ?_
    refine T_if_lt 822 781 dL_law_778 (by decide) rfl (fun c778 => ?_) (fun c778 => ?_)
    ·
      refine T_less (bk1 := bk + 3) (bn1 := bn + 18) (by omega) (by omega) ?_
      exact hJ
    ·
      obtain ⟨g, hg, hg2⟩ := hg0.resolve_left (fun z => by rw [z] at c778; exact c778 (by decide))
      subst hg2
      have hAR1 := hAR.2 g hg rfl
      have ar1 : ar = 1 ↔ (¬ ρ 32 g = 3 ∧ ρ1 32 g = 3) := by rw [eρ, hAR1]; exact ar_1
      refine T_jI 792 (bk2 := bk + 5) (bn2 := bn + 30) (fun y => y = if (¬ ρ 32 g = 3 ∧ ρ1 32 g = 3) then 1 else 0) (fun hJ => ?_) (fun x792 hx792 => ?_)
      ·
        refine T_iload18 dL_law_781 rfl ?_
        refine T_iconst (1) dL_law_783 rfl rfl ?_
        refine T_icmp_ne 791 787 dL_law_784 (by decide) rfl (fun c784 => ?_) (fun c784 => ?_)
        ·
          refine T_iconst (0) dL_law_791 rfl rfl ?_
          refine T_less (bk1 := bk + 5) (bn1 := bn + 30) (by omega) (by omega) ?_
          refine hJ _ ?_
          first | exact (if_pos (ar1.mp c784)).symm | exact (if_neg (fun z => c784 (ar1.mpr z))).symm
        ·
          refine T_iconst (1) dL_law_787 rfl rfl ?_
          refine T_goto 792 dL_law_788 (by decide) ?_
          refine T_less (bk1 := bk + 5) (bn1 := bn + 30) (by omega) (by omega) ?_
          refine hJ _ ?_
          first | exact (if_pos (ar1.mp c784)).symm | exact (if_neg (fun z => c784 (ar1.mpr z))).symm
      ·
        refine T_jI 819 (bk2 := bk + 3) (bn2 := bn + 18) (fun y => y = if (¬ ρ 32 g = 3 ∧ ρ1 32 g = 3) then 1 else 0) (fun hJ => ?_) (fun x819 hx819 => ?_)
        ·
          refine T_aload11 dL_law_792 rfl ?_
          refine T_iload17 dL_law_794 rfl ?_
          refine T_aaldA g hA.2.2.1 rfl hg (by omega) dL_law_796 rfl (hF.pg hg) ?_
          refine T_iconst (1) dL_law_797 rfl rfl ?_
          refine T_iald 1 (hA.2.2.2.1 g hg) rfl (by decide) (by decide) dL_law_798 rfl (show _ = Value.int (ρ 32 g) from hF.vg hg (k := 1) (by decide)) ?_
          refine T_iconst (3) dL_law_799 rfl rfl ?_
          refine T_icmp_eq 818 803 dL_law_800 (by decide) rfl (fun c800 => ?_) (fun c800 => ?_)
          ·
            refine T_iconst (0) dL_law_818 rfl rfl ?_
            refine T_less (bk1 := bk + 3) (bn1 := bn + 18) (by omega) (by omega) ?_
            refine hJ _ ?_
            first
              | (refine (if_pos ?_).symm; exact And.intro c800 c811)
              | (refine (if_neg ?_).symm; exact fun z => c811 z.2)
              | (refine (if_neg ?_).symm; exact fun z => z.1 c800)
          ·
            refine T_aload3 dL_law_803 rfl ?_
            refine T_iload17 dL_law_804 rfl ?_
            refine T_iconst (1) dL_law_806 rfl rfl ?_
            refine T_less (bk1 := bk + 3 + 2) (bn1 := bn + 18 + 12) (by omega) (by omega) ?_
            refine q_log hX hl hC (h := g) (k := 1) hg (by decide) kL_227 (Nat.le_of_ble_eq_true rfl) (Nat.le_of_ble_eq_true rfl) dL_law_807 rfl ?_
            rw [show lgF ρ1 g 1 = ρ1 32 g from rfl]
            refine T_iconst (3) dL_law_810 rfl rfl ?_
            refine T_icmp_ne 818 814 dL_law_811 (by decide) rfl (fun c811 => ?_) (fun c811 => ?_)
            ·
              refine T_iconst (0) dL_law_818 rfl rfl ?_
              refine T_less (bk1 := bk + 3) (bn1 := bn + 18) (by omega) (by omega) ?_
              refine hJ _ ?_
              first
                | (refine (if_pos ?_).symm; exact And.intro c800 c811)
                | (refine (if_neg ?_).symm; exact fun z => c811 z.2)
                | (refine (if_neg ?_).symm; exact fun z => z.1 c800)
            ·
              refine T_iconst (1) dL_law_814 rfl rfl ?_
              refine T_goto 819 dL_law_815 (by decide) ?_
              refine T_less (bk1 := bk + 3) (bn1 := bn + 18) (by omega) (by omega) ?_
              refine hJ _ ?_
              first
                | (refine (if_pos ?_).symm; exact And.intro c800 c811)
                | (refine (if_neg ?_).symm; exact fun z => c811 z.2)
                | (refine (if_neg ?_).symm; exact fun z => z.1 c800)
        ·
          refine T_icmp_ne_f 877 822 dL_law_819 (by decide) rfl (hx792.trans hx819.symm) ?_
          refine T_less (bk1 := bk + 3) (bn1 := bn + 18) (by omega) (by omega) ?_
          exact hJ
  ·
    refine T_jNM 841 (bk2 := bk + 2) (bn2 := bn + 12) (fun M9 => CS sg τ M9 x r p r2 p2 0 (cn 3) (cn 4) (cn 5) (cn 6) (cn 7) sc ρ1 ν π σ B fa ∧ SM τ M9 M9 j e A Rw cn ρ1 μ1 κ ω ∧ AF M9 s0 (cn 3) (cn 4) (cn 5) ρ (cn 4) (cn 4) (cn 3) (cn 5)) (fun hJ => ?_) (fun M841 hx841 => ?_)
    ·
      refine T_iload18 dL_law_822 rfl ?_
      refine T_iconst (1) dL_law_824 rfl rfl ?_
      refine T_icmp_le 841 828 dL_law_825 (by decide) rfl (fun c825 => ?_) (fun c825 => ?_)
      ·
        refine T_less (bk1 := bk + 2) (bn1 := bn + 12) (by omega) (by omega) ?_
        exact hJ _ ⟨hC, hS, hF⟩
      ·
        obtain ⟨g, hg, hg2⟩ := hg0.resolve_left (fun z => c825 (by rw [hAR.1 (by rw [z]; decide)]; decide))
        subst hg2
        have hAR1 := hAR.2 g hg rfl
        have as1 : arG (cn 3) (cn 4) (cn 5) (cn 6) (cn 7) σ π ρ1 g 0 201 = ar - 1 := by
          rw [eρ, hAR1]
          exact ar_s (by rw [← hAR1]; exact Int32.not_le.mp c825)
        refine T_aload3 dL_law_828 rfl ?_
        refine T_iload17 dL_law_829 rfl ?_
        refine T_less (bk1 := bk + 2 + 1) (bn1 := bn + 12 + 6) (by omega) (by omega) ?_
        refine q_arrives hX hl hC hI1.2.2.2.2.2 ho hg kL_236 (Nat.le_of_ble_eq_true rfl) (Nat.le_of_ble_eq_true rfl) dL_law_831 rfl (fun M3 hC hf3 => ?_)
        have hS := hS.fr (M1 := M3) (fun q g1 g2 => hf3 q (by omega))
        have hF := hF.fr (M' := M3) (fun q g1 g2 => hf3 q (by omega))
        refine T_iload18 dL_law_834 rfl ?_
        refine T_iconst (1) dL_law_836 rfl rfl ?_
        refine T_isub dL_law_837 rfl ?_
        refine T_icmp_ne_f 877 841 dL_law_838 (by decide) rfl as1 ?_
        refine T_less (bk1 := bk + 2) (bn1 := bn + 12) (by omega) (by omega) ?_
        exact hJ _ ⟨hC, hS, hF⟩
    ·
      obtain ⟨hC, hS, hF⟩ := hx841
      have br1 : brG (cn 3) (cn 4) (cn 5) (cn 6) (cn 7) σ π ρ h0 1 200 = 1 ↔ ρ1 12 h0 < ρ 12 h0 := by rw [eρ]; exact br_1
      refine T_jI 852 (bk2 := bk + 2) (bn2 := bn + 12) (fun y => y = if ρ1 12 h0 < ρ 12 h0 then 1 else 0) (fun hJ => ?_) (fun x852 hx852 => ?_)
      ·
        refine T_iload20 dL_law_841 rfl ?_
        refine T_iconst (1) dL_law_843 rfl rfl ?_
        refine T_icmp_ne 851 847 dL_law_844 (by decide) rfl (fun c844 => ?_) (fun c844 => ?_)
        ·
          refine T_iconst (0) dL_law_851 rfl rfl ?_
          refine T_less (bk1 := bk + 2) (bn1 := bn + 12) (by omega) (by omega) ?_
          refine hJ _ ?_
          first | exact (if_pos (br1.mp c844)).symm | exact (if_neg (fun z => c844 (br1.mpr z))).symm
        ·
          refine T_iconst (1) dL_law_847 rfl rfl ?_
          refine T_goto 852 dL_law_848 (by decide) ?_
          refine T_less (bk1 := bk + 2) (bn1 := bn + 12) (by omega) (by omega) ?_
          refine hJ _ ?_
          first | exact (if_pos (br1.mp c844)).symm | exact (if_neg (fun z => c844 (br1.mpr z))).symm
      ·
        refine T_jI 874 (bk2 := bk + 0) (bn2 := bn + 0) (fun y => y = if ρ1 12 h0 < ρ 12 h0 then 1 else 0) (fun hJ => ?_) (fun x874 hx874 => ?_)
        ·
          refine T_aload3 dL_law_852 rfl ?_
          refine T_iload19 dL_law_853 rfl ?_
          refine T_iconst (1) dL_law_855 rfl rfl ?_
          refine T_less (bk1 := bk + 0 + 2) (bn1 := bn + 0 + 12) (by omega) (by omega) ?_
          refine q_horse hX hl hC hI1.2.2.2.2.2 (h := h0) (k := 1) hh0 (by decide) kL_219 (Nat.le_of_ble_eq_true rfl) (Nat.le_of_ble_eq_true rfl) dL_law_856 rfl ?_
          rw [show hsF (cn 5) ρ1 h0 1 = ρ1 12 h0 from rfl]
          refine T_aload10 dL_law_859 rfl ?_
          refine T_iload19 dL_law_861 rfl ?_
          refine T_aaldA h0 hA.1 rfl hh0 (by omega) dL_law_863 rfl (hF.ph hh0) ?_
          refine T_iconst (1) dL_law_864 rfl rfl ?_
          refine T_iald 1 (hA.2.1 h0 hh0) rfl (by decide) (by decide) dL_law_865 rfl (show _ = Value.int (ρ 12 h0) from hF.vh hh0 (k := 1) (by decide)) ?_
          refine T_icmp_ge 873 869 dL_law_866 (by decide) rfl (fun c866 => ?_) (fun c866 => ?_)
          ·
            refine T_iconst (0) dL_law_873 rfl rfl ?_
            refine T_less (bk1 := bk + 0) (bn1 := bn + 0) (by omega) (by omega) ?_
            refine hJ _ ?_
            first | exact (if_pos (Int32.not_le.mp c866)).symm | exact (if_neg (Int32.not_lt.mpr c866)).symm
          ·
            refine T_iconst (1) dL_law_869 rfl rfl ?_
            refine T_goto 874 dL_law_870 (by decide) ?_
            refine T_less (bk1 := bk + 0) (bn1 := bn + 0) (by omega) (by omega) ?_
            refine hJ _ ?_
            first | exact (if_pos (Int32.not_le.mp c866)).symm | exact (if_neg (Int32.not_lt.mpr c866)).symm
        ·
          refine T_icmp_eq_t 879 dL_law_874 (by decide) (hx852.trans hx874.symm) ?_
          exact T_less (by omega) (by omega) (KK _ _ _ hC hS hF hI1 hHR)
