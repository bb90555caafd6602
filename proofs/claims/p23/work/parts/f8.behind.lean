/-! the law's loop: the horses behind the hour -/
set_option maxHeartbeats 1000000 in
theorem IG_law {l : Launch} {D : va_G} {cA : Nat → ClassId} {n0 : Nat} {sg adK adV : Nat → Nat} {sgA smA wdA bS LS : Nat} {xs : Nat → Int32} (hX : SF n0 (XW0 sg adK adV sgA smA wdA n0 bS LS xs)) (hl : l.stackTraces = false) {nn : String} {x r p r2 p2 hc wc sc j e s0 tb t : Nat} {A : Nat → Nat} {Rw : Nat → Nat → Nat} {cn : Nat → Nat} {π : RH} {ν : NU} {σ : Nat → Nat} {B : Nat → Nat} {fa W0 : Int32} {κ ω : Nat → Nat → Int32} {ρ ρ1 : RH} {μ : Nat → Int32} (hd : e ≤ x ∨ x + 144 ≤ j) (hlo : x + 144 ≤ s0 ∧ e ≤ s0 ∧ j < e) (hok : CnOK cn) (hI : SI (cn 3) (cn 4) (cn 5) ρ) {bk bn : Nat} {τ : TY} {v : Int32} {M : ME} (hA : AFt τ s0 (cn 3) (cn 4) (cn 5)) (hC : CS sg τ M x r p r2 p2 0 (cn 3) (cn 4) (cn 5) hc wc sc ρ1 ν π σ B fa) (hF : AF M s0 (cn 3) (cn 4) (cn 5) ρ (cn 4) (cn 4) (cn 3) (cn 5)) (hI1 : SI (cn 3) (cn 4) (cn 5) ρ1) (hHR : HR (cn 3) (cn 4) (cn 5) ρ ρ1) {y14 y15 y16 y17 y18 y19 y20 y21 y22 y24 y25 y33 : Value} (KK : ∀ y30 y31 y32 : Value, T l D cA n0 (XW0 sg adK adV sgA smA wdA n0 bS LS xs) (mLN nn) 2048 bk bn (s0 + 4 + cn 4 + cn 5 + 1) τ M 1274 (.ref bS :: .ref tb :: .ref j :: .ref x :: .int W0 :: .int (nI t) :: .int v :: .int (nI (cn 4)) :: .int (nI (cn 3)) :: .int (nI (cn 5)) :: .ref s0 :: .ref (s0 + 1 + cn 4) :: .ref (s0 + 2 + cn 4 + cn 5) :: .ref (s0 + 3 + cn 4 + cn 5) :: y14 :: y15 :: y16 :: y17 :: y18 :: y19 :: y20 :: y21 :: y22 :: .int (ρ 6 0) :: y24 :: y25 :: .int (ρ 7 0) :: .int (wOf (cn 5) ρ1 3 - wOf (cn 5) ρ 3) :: .int (sm (fun i => ρ1 19 i - ρ 19 i)  (cn 4)) :: .int (nI (cn 4)) :: y30 :: y31 :: y32 :: y33 :: []) [] Q1L (fun _ _ _ _ => False)) : ∀ (n : Nat) (h : Nat) (acc : Int32) (y30 : Value) (y31 : Value) (y32 : Value) (hh : h ≤ cn 4) (ha : acc = sm (fun i => ρ1 19 i - ρ 19 i)  h), cn 4 - h < n → T l D cA n0 (XW0 sg adK adV sgA smA wdA n0 bS LS xs) (mLN nn) 2048 (bk + 34 * (cn 4 - h)) (bn + 204 * (cn 4 - h)) (s0 + 4 + cn 4 + cn 5 + 1) τ M 885 (.ref bS :: .ref tb :: .ref j :: .ref x :: .int W0 :: .int (nI t) :: .int v :: .int (nI (cn 4)) :: .int (nI (cn 3)) :: .int (nI (cn 5)) :: .ref s0 :: .ref (s0 + 1 + cn 4) :: .ref (s0 + 2 + cn 4 + cn 5) :: .ref (s0 + 3 + cn 4 + cn 5) :: y14 :: y15 :: y16 :: y17 :: y18 :: y19 :: y20 :: y21 :: y22 :: .int (ρ 6 0) :: y24 :: y25 :: .int (ρ 7 0) :: .int (wOf (cn 5) ρ1 3 - wOf (cn 5) ρ 3) :: .int acc :: .int (nI h) :: y30 :: y31 :: y32 :: y33 :: []) [] (Q1L) (fun _ _ _ _ => False) := by
  intro n
  induction n with
  | zero => intros; omega
  | succ n ih =>
    intro h acc y30 y31 y32 hh ha hn
    unfold CnOK at hok
    refine T_iload29 dL_law_885 rfl ?_
    refine T_iload7 dL_law_887 rfl ?_
    refine T_icmp_ge 1274 892 dL_law_889 (by decide) rfl (fun c9 => ?_) (fun c9 => ?_)
    ·
      have c9 := le_out rfl c9
      have hk9 : h = cn 4 := by omega
      subst hk9
      rw [ha]
      exact T_less (by omega) (by omega) (KK _ _ _)
    ·
      have c9 := lt_in rfl c9
      have hq := hI.hq hI1 hHR c9
      refine T_aload10 dL_law_892 rfl ?_
      refine T_iload29 dL_law_894 rfl ?_
      refine T_aaldA h hA.1 rfl c9 (by omega) dL_law_896 rfl (hF.ph c9) ?_
      refine T_astore30 rfl (Nat.le_of_ble_eq_true rfl) dL_law_897 rfl ?_
      refine T_aload3 dL_law_899 rfl ?_
      refine T_iload29 dL_law_900 rfl ?_
      refine T_iconst (4) dL_law_902 rfl rfl ?_
      refine T_less (bk1 := bk + 34 * (cn 4 - (h + 1)) + 32 + 2) (bn1 := bn + 204 * (cn 4 - (h + 1)) + 192 + 12) (by omega) (by omega) ?_
      refine q_horse hX hl hC hI1.2.2.2.2.2 (h := h) (k := 4) c9 (by decide) kL_219 (Nat.le_of_ble_eq_true rfl) (Nat.le_of_ble_eq_true rfl) dL_law_903 rfl ?_
      rw [show hsF (cn 5) ρ1 h 4 = ρ1 15 h from rfl]
      refine T_istore31 rfl (Nat.le_of_ble_eq_true rfl) dL_law_906 rfl ?_
      refine T_jI 927 (bk2 := bk + 34 * (cn 4 - (h + 1)) + 30) (bn2 := bn + 204 * (cn 4 - (h + 1)) + 180) (fun y => y = if ρ1 12 h < ρ 12 h then 1 else 0) (fun hJ => ?_) (fun x927 hx927 => ?_)
      ·
        refine T_aload3 dL_law_908 rfl ?_
        refine T_iload29 dL_law_909 rfl ?_
        refine T_iconst (1) dL_law_911 rfl rfl ?_
        refine T_less (bk1 := bk + 34 * (cn 4 - (h + 1)) + 30 + 2) (bn1 := bn + 204 * (cn 4 - (h + 1)) + 180 + 12) (by omega) (by omega) ?_
        refine q_horse hX hl hC hI1.2.2.2.2.2 (h := h) (k := 1) c9 (by decide) kL_219 (Nat.le_of_ble_eq_true rfl) (Nat.le_of_ble_eq_true rfl) dL_law_912 rfl ?_
        rw [show hsF (cn 5) ρ1 h 1 = ρ1 12 h from rfl]
        refine T_aload30 dL_law_915 rfl ?_
        refine T_iconst (1) dL_law_917 rfl rfl ?_
        refine T_iald 1 (hA.2.1 h c9) rfl (by decide) (by decide) dL_law_918 rfl (show _ = Value.int (ρ 12 h) from hF.vh c9 (k := 1) (by decide)) ?_
        refine T_icmp_ge 926 922 dL_law_919 (by decide) rfl (fun c919 => ?_) (fun c919 => ?_)
        ·
          refine T_iconst (0) dL_law_926 rfl rfl ?_
          refine T_less (bk1 := bk + 34 * (cn 4 - (h + 1)) + 30) (bn1 := bn + 204 * (cn 4 - (h + 1)) + 180) (by omega) (by omega) ?_
          refine hJ _ ?_
          first | exact (if_neg (Int32.not_lt.mpr c919)).symm | exact (if_pos (Int32.not_le.mp c919)).symm
        ·
          refine T_iconst (1) dL_law_922 rfl rfl ?_
          refine T_goto 927 dL_law_923 (by decide) ?_
          refine T_less (bk1 := bk + 34 * (cn 4 - (h + 1)) + 30) (bn1 := bn + 204 * (cn 4 - (h + 1)) + 180) (by omega) (by omega) ?_
          refine hJ _ ?_
          first | exact (if_neg (Int32.not_lt.mpr c919)).symm | exact (if_pos (Int32.not_le.mp c919)).symm
      ·
        refine T_istore32 rfl (Nat.le_of_ble_eq_true rfl) dL_law_927 rfl ?_
        refine T_iload28 dL_law_929 rfl ?_
        refine T_aload3 dL_law_931 rfl ?_
        refine T_iload29 dL_law_932 rfl ?_
        refine T_bipush (9) dL_law_934 rfl rfl ?_
        refine T_less (bk1 := bk + 34 * (cn 4 - (h + 1)) + 28 + 2) (bn1 := bn + 204 * (cn 4 - (h + 1)) + 168 + 12) (by omega) (by omega) ?_
        refine q_horse hX hl hC hI1.2.2.2.2.2 (h := h) (k := 9) c9 (by decide) kL_219 (Nat.le_of_ble_eq_true rfl) (Nat.le_of_ble_eq_true rfl) dL_law_936 rfl ?_
        rw [show hsF (cn 5) ρ1 h 9 = ρ1 19 h from rfl]
        refine T_aload30 dL_law_939 rfl ?_
        refine T_bipush (9) dL_law_941 rfl rfl ?_
        refine T_iald 9 (hA.2.1 h c9) rfl (by decide) (by decide) dL_law_943 rfl (show _ = Value.int (ρ 19 h) from hF.vh c9 (k := 9) (by decide)) ?_
        refine T_isub dL_law_944 rfl ?_
        refine T_iadd dL_law_945 rfl ?_
        refine T_istore28 rfl (Nat.le_of_ble_eq_true rfl) dL_law_946 rfl ?_
        refine T_iload32 dL_law_948 rfl ?_
        refine T_jI 1000 (bk2 := bk + 34 * (cn 4 - (h + 1)) + 24) (bn2 := bn + 204 * (cn 4 - (h + 1)) + 144) (fun y => y = if (0 ≤ ρ 15 h ∧ ρ 13 h < nvF (cn 5) ρ h ∧ ρ1 16 h = 0 ∧ ρ1 19 h = ρ 19 h) then 1 else 0) (fun hJ => ?_) (fun x1000 hx1000 => ?_)
        ·
          refine T_aload30 dL_law_950 rfl ?_
          refine T_iconst (4) dL_law_952 rfl rfl ?_
          refine T_iald 4 (hA.2.1 h c9) rfl (by decide) (by decide) dL_law_953 rfl (show _ = Value.int (ρ 15 h) from hF.vh c9 (k := 4) (by decide)) ?_
          refine T_if_lt 999 957 dL_law_954 (by decide) rfl (fun c954 => ?_) (fun c954 => ?_)
          ·
            refine T_iconst (0) dL_law_999 rfl rfl ?_
            refine T_less (bk1 := bk + 34 * (cn 4 - (h + 1)) + 24) (bn1 := bn + 204 * (cn 4 - (h + 1)) + 144) (by omega) (by omega) ?_
            refine hJ _ ?_
            first
              | (refine (if_pos ?_).symm; exact And.intro (Int32.not_lt.mp c954) (And.intro (Int32.not_le.mp c966) (And.intro c976 c992)))
              | (refine (if_neg ?_).symm; exact fun z => c992 z.2.2.2)
              | (refine (if_neg ?_).symm; exact fun z => c976 z.2.2.1)
              | (refine (if_neg ?_).symm; exact fun z => absurd z.2.1 (Int32.not_lt.mpr c966))
              | (refine (if_neg ?_).symm; exact fun z => absurd z.1 (Int32.not_le.mpr c954))
          ·
            refine T_aload13 dL_law_957 rfl ?_
            refine T_iload29 dL_law_959 rfl ?_
            refine T_iald h hA.2.2.2.2.2 rfl c9 (by omega) dL_law_961 rfl (hF.vn c9) ?_
            refine T_aload30 dL_law_962 rfl ?_
            refine T_iconst (2) dL_law_964 rfl rfl ?_
            refine T_iald 2 (hA.2.1 h c9) rfl (by decide) (by decide) dL_law_965 rfl (show _ = Value.int (ρ 13 h) from hF.vh c9 (k := 2) (by decide)) ?_
            refine T_icmp_le 999 969 dL_law_966 (by decide) rfl (fun c966 => ?_) (fun c966 => ?_)
            ·
              refine T_iconst (0) dL_law_999 rfl rfl ?_
              refine T_less (bk1 := bk + 34 * (cn 4 - (h + 1)) + 24) (bn1 := bn + 204 * (cn 4 - (h + 1)) + 144) (by omega) (by omega) ?_
              refine hJ _ ?_
              first
                | (refine (if_pos ?_).symm; exact And.intro (Int32.not_lt.mp c954) (And.intro (Int32.not_le.mp c966) (And.intro c976 c992)))
                | (refine (if_neg ?_).symm; exact fun z => c992 z.2.2.2)
                | (refine (if_neg ?_).symm; exact fun z => c976 z.2.2.1)
                | (refine (if_neg ?_).symm; exact fun z => absurd z.2.1 (Int32.not_lt.mpr c966))
                | (refine (if_neg ?_).symm; exact fun z => absurd z.1 (Int32.not_le.mpr c954))
            ·
              refine T_aload3 dL_law_969 rfl ?_
              refine T_iload29 dL_law_970 rfl ?_
              refine T_iconst (5) dL_law_972 rfl rfl ?_
              refine T_less (bk1 := bk + 34 * (cn 4 - (h + 1)) + 26 + 2) (bn1 := bn + 204 * (cn 4 - (h + 1)) + 156 + 12) (by omega) (by omega) ?_
              refine q_horse hX hl hC hI1.2.2.2.2.2 (h := h) (k := 5) c9 (by decide) kL_219 (Nat.le_of_ble_eq_true rfl) (Nat.le_of_ble_eq_true rfl) dL_law_973 rfl ?_
              rw [show hsF (cn 5) ρ1 h 5 = ρ1 16 h from rfl]
              refine T_if_ne 999 979 dL_law_976 (by decide) rfl (fun c976 => ?_) (fun c976 => ?_)
              ·
                refine T_iconst (0) dL_law_999 rfl rfl ?_
                refine T_less (bk1 := bk + 34 * (cn 4 - (h + 1)) + 24) (bn1 := bn + 204 * (cn 4 - (h + 1)) + 144) (by omega) (by omega) ?_
                refine hJ _ ?_
                first
                  | (refine (if_pos ?_).symm; exact And.intro (Int32.not_lt.mp c954) (And.intro (Int32.not_le.mp c966) (And.intro c976 c992)))
                  | (refine (if_neg ?_).symm; exact fun z => c992 z.2.2.2)
                  | (refine (if_neg ?_).symm; exact fun z => c976 z.2.2.1)
                  | (refine (if_neg ?_).symm; exact fun z => absurd z.2.1 (Int32.not_lt.mpr c966))
                  | (refine (if_neg ?_).symm; exact fun z => absurd z.1 (Int32.not_le.mpr c954))
              ·
                refine T_aload3 dL_law_979 rfl ?_
                refine T_iload29 dL_law_980 rfl ?_
                refine T_bipush (9) dL_law_982 rfl rfl ?_
                refine T_less (bk1 := bk + 34 * (cn 4 - (h + 1)) + 24 + 2) (bn1 := bn + 204 * (cn 4 - (h + 1)) + 144 + 12) (by omega) (by omega) ?_
                refine q_horse hX hl hC hI1.2.2.2.2.2 (h := h) (k := 9) c9 (by decide) kL_219 (Nat.le_of_ble_eq_true rfl) (Nat.le_of_ble_eq_true rfl) dL_law_984 rfl ?_
                rw [show hsF (cn 5) ρ1 h 9 = ρ1 19 h from rfl]
                refine T_aload30 dL_law_987 rfl ?_
                refine T_bipush (9) dL_law_989 rfl rfl ?_
                refine T_iald 9 (hA.2.1 h c9) rfl (by decide) (by decide) dL_law_991 rfl (show _ = Value.int (ρ 19 h) from hF.vh c9 (k := 9) (by decide)) ?_
                refine T_icmp_ne 999 995 dL_law_992 (by decide) rfl (fun c992 => ?_) (fun c992 => ?_)
                ·
                  refine T_iconst (0) dL_law_999 rfl rfl ?_
                  refine T_less (bk1 := bk + 34 * (cn 4 - (h + 1)) + 24) (bn1 := bn + 204 * (cn 4 - (h + 1)) + 144) (by omega) (by omega) ?_
                  refine hJ _ ?_
                  first
                    | (refine (if_pos ?_).symm; exact And.intro (Int32.not_lt.mp c954) (And.intro (Int32.not_le.mp c966) (And.intro c976 c992)))
                    | (refine (if_neg ?_).symm; exact fun z => c992 z.2.2.2)
                    | (refine (if_neg ?_).symm; exact fun z => c976 z.2.2.1)
                    | (refine (if_neg ?_).symm; exact fun z => absurd z.2.1 (Int32.not_lt.mpr c966))
                    | (refine (if_neg ?_).symm; exact fun z => absurd z.1 (Int32.not_le.mpr c954))
                ·
                  refine T_iconst (1) dL_law_995 rfl rfl ?_
                  refine T_goto 1000 dL_law_996 (by decide) ?_
                  refine T_less (bk1 := bk + 34 * (cn 4 - (h + 1)) + 24) (bn1 := bn + 204 * (cn 4 - (h + 1)) + 144) (by omega) (by omega) ?_
                  refine hJ _ ?_
                  first
                    | (refine (if_pos ?_).symm; exact And.intro (Int32.not_lt.mp c954) (And.intro (Int32.not_le.mp c966) (And.intro c976 c992)))
                    | (refine (if_neg ?_).symm; exact fun z => c992 z.2.2.2)
                    | (refine (if_neg ?_).symm; exact fun z => c976 z.2.2.1)
                    | (refine (if_neg ?_).symm; exact fun z => absurd z.2.1 (Int32.not_lt.mpr c966))
                    | (refine (if_neg ?_).symm; exact fun z => absurd z.1 (Int32.not_le.mpr c954))
        ·
          refine T_icmp_ne_f 1070 1003 dL_law_1000 (by decide) rfl (by rw [hx927, hx1000]; exact ifc hq.1) ?_
          refine T_jN 1072 (bk2 := bk + 34 * (cn 4 - (h + 1)) + 16) (bn2 := bn + 204 * (cn 4 - (h + 1)) + 96) (fun hJ => ?_) ?_
          ·
            refine T_iload32 dL_law_1003 rfl ?_
            refine T_if_eq 1072 1008 dL_law_1005 (by decide) rfl (fun c1005 => ?_) (fun c1005 => ?_)
            ·
              refine T_less (bk1 := bk + 34 * (cn 4 - (h + 1)) + 16) (bn1 := bn + 204 * (cn 4 - (h + 1)) + 96) (by omega) (by omega) ?_
              exact hJ
            ·
              have hlt : ρ1 12 h < ρ 12 h := Decidable.byContradiction (fun z => c1005 (hx927.trans (if_neg z)))
              obtain ⟨k1, k2, k3, tt, k4, k5, k6⟩ := hq.2.1 hlt
              refine T_aload3 dL_law_1008 rfl ?_
              refine T_iload29 dL_law_1009 rfl ?_
              refine T_iconst (1) dL_law_1011 rfl rfl ?_
              refine T_less (bk1 := bk + 34 * (cn 4 - (h + 1)) + 22 + 2) (bn1 := bn + 204 * (cn 4 - (h + 1)) + 132 + 12) (by omega) (by omega) ?_
              refine q_horse hX hl hC hI1.2.2.2.2.2 (h := h) (k := 1) c9 (by decide) kL_219 (Nat.le_of_ble_eq_true rfl) (Nat.le_of_ble_eq_true rfl) dL_law_1012 rfl ?_
              rw [show hsF (cn 5) ρ1 h 1 = ρ1 12 h from rfl]
              refine T_aload30 dL_law_1015 rfl ?_
              refine T_iconst (1) dL_law_1017 rfl rfl ?_
              refine T_iald 1 (hA.2.1 h c9) rfl (by decide) (by decide) dL_law_1018 rfl (show _ = Value.int (ρ 12 h) from hF.vh c9 (k := 1) (by decide)) ?_
              refine T_iconst (1) dL_law_1019 rfl rfl ?_
              refine T_isub dL_law_1020 rfl ?_
              refine T_icmp_ne_f 1070 1024 dL_law_1021 (by decide) rfl k1 ?_
              refine T_iload31 dL_law_1024 rfl ?_
              refine T_aload30 dL_law_1026 rfl ?_
              refine T_iconst (4) dL_law_1028 rfl rfl ?_
              refine T_iald 4 (hA.2.1 h c9) rfl (by decide) (by decide) dL_law_1029 rfl (show _ = Value.int (ρ 15 h) from hF.vh c9 (k := 4) (by decide)) ?_
              refine T_icmp_ne_f 1070 1033 dL_law_1030 (by decide) rfl k2 ?_
              refine T_aload3 dL_law_1033 rfl ?_
              refine T_iload29 dL_law_1034 rfl ?_
              refine T_bipush (7) dL_law_1036 rfl rfl ?_
              refine T_less (bk1 := bk + 34 * (cn 4 - (h + 1)) + 20 + 2) (bn1 := bn + 204 * (cn 4 - (h + 1)) + 120 + 12) (by omega) (by omega) ?_
              refine q_horse hX hl hC hI1.2.2.2.2.2 (h := h) (k := 7) c9 (by decide) kL_219 (Nat.le_of_ble_eq_true rfl) (Nat.le_of_ble_eq_true rfl) dL_law_1038 rfl ?_
              rw [show hsF (cn 5) ρ1 h 7 = ldOf (cn 5) ρ1 (nI h) from rfl]
              refine T_if_ne_f 1070 1044 dL_law_1041 (by decide) rfl k3 ?_
              refine T_aload3 dL_law_1044 rfl ?_
              refine T_iload29 dL_law_1045 rfl ?_
              refine T_bipush (6) dL_law_1047 rfl rfl ?_
              refine T_less (bk1 := bk + 34 * (cn 4 - (h + 1)) + 18 + 2) (bn1 := bn + 204 * (cn 4 - (h + 1)) + 108 + 12) (by omega) (by omega) ?_
              refine q_horse hX hl hC hI1.2.2.2.2.2 (h := h) (k := 6) c9 (by decide) kL_219 (Nat.le_of_ble_eq_true rfl) (Nat.le_of_ble_eq_true rfl) dL_law_1049 rfl ?_
              rw [show hsF (cn 5) ρ1 h 6 = ρ1 17 h from rfl]
              refine T_aload3 dL_law_1052 rfl ?_
              refine T_iload31 dL_law_1053 rfl ?_
              rw [k5]
              refine T_iconst (0) dL_law_1055 rfl rfl ?_
              refine T_less (bk1 := bk + 34 * (cn 4 - (h + 1)) + 16 + 2) (bn1 := bn + 204 * (cn 4 - (h + 1)) + 96 + 12) (by omega) (by omega) ?_
              refine q_stretch hX hl hC (h := tt) (k := 0) k4 (by decide) kL_224 (Nat.le_of_ble_eq_true rfl) (Nat.le_of_ble_eq_true rfl) dL_law_1056 rfl ?_
              rw [show stF (cn 4) (cn 5) ρ1 tt 0 = ρ1 41 tt from rfl, ← k5]
              refine T_iconst (1) dL_law_1059 rfl rfl ?_
              refine T_isub dL_law_1060 rfl ?_
              refine T_aload30 dL_law_1061 rfl ?_
              refine T_bipush (6) dL_law_1063 rfl rfl ?_
              refine T_iald 6 (hA.2.1 h c9) rfl (by decide) (by decide) dL_law_1065 rfl (show _ = Value.int (ρ 17 h) from hF.vh c9 (k := 6) (by decide)) ?_
              refine T_isub dL_law_1066 rfl ?_
              refine T_icmp_eq_t 1072 dL_law_1067 (by decide) k6 ?_
              refine T_less (bk1 := bk + 34 * (cn 4 - (h + 1)) + 16) (bn1 := bn + 204 * (cn 4 - (h + 1)) + 96) (by omega) (by omega) ?_
              exact hJ
          ·
            refine T_iload31 dL_law_1072 rfl ?_
            refine T_aload30 dL_law_1074 rfl ?_
            refine T_iconst (4) dL_law_1076 rfl rfl ?_
            refine T_iald 4 (hA.2.1 h c9) rfl (by decide) (by decide) dL_law_1077 rfl (show _ = Value.int (ρ 15 h) from hF.vh c9 (k := 4) (by decide)) ?_
            refine T_isub dL_law_1078 rfl ?_
            refine T_abs ⟨w1342, w1343, w62, w1344⟩ (Nat.le_of_ble_eq_true rfl) (Nat.le_of_ble_eq_true rfl) dL_law_1079 rfl ?_
            refine T_iconst (1) dL_law_1082 rfl rfl ?_
            refine T_icmp_gt_f 1266 1086 dL_law_1083 (by decide) rfl (Int32.not_lt.mpr hq.2.2.1) ?_
            refine T_aload3 dL_law_1086 rfl ?_
            refine T_iload29 dL_law_1087 rfl ?_
            refine T_bipush (8) dL_law_1089 rfl rfl ?_
            refine T_less (bk1 := bk + 34 * (cn 4 - (h + 1)) + 14 + 2) (bn1 := bn + 204 * (cn 4 - (h + 1)) + 84 + 12) (by omega) (by omega) ?_
            refine q_horse hX hl hC hI1.2.2.2.2.2 (h := h) (k := 8) c9 (by decide) kL_219 (Nat.le_of_ble_eq_true rfl) (Nat.le_of_ble_eq_true rfl) dL_law_1091 rfl ?_
            rw [show hsF (cn 5) ρ1 h 8 = ρ1 18 h from rfl]
            refine T_aload30 dL_law_1094 rfl ?_
            refine T_bipush (8) dL_law_1096 rfl rfl ?_
            refine T_iald 8 (hA.2.1 h c9) rfl (by decide) (by decide) dL_law_1098 rfl (show _ = Value.int (ρ 18 h) from hF.vh c9 (k := 8) (by decide)) ?_
            refine T_aload13 dL_law_1099 rfl ?_
            refine T_iload29 dL_law_1101 rfl ?_
            refine T_iald h hA.2.2.2.2.2 rfl c9 (by omega) dL_law_1103 rfl (hF.vn c9) ?_
            refine T_bipush (8) dL_law_1104 rfl rfl ?_
            refine T_idiv dL_law_1106 rfl (by decide) ?_
            refine T_iadd dL_law_1107 rfl ?_
            refine T_icmp_gt_f 1266 1111 dL_law_1108 (by decide) rfl (Int32.not_lt.mpr hq.2.2.2.1) ?_
            refine T_aload3 dL_law_1111 rfl ?_
            refine T_iload29 dL_law_1112 rfl ?_
            refine T_bipush (8) dL_law_1114 rfl rfl ?_
            refine T_less (bk1 := bk + 34 * (cn 4 - (h + 1)) + 12 + 2) (bn1 := bn + 204 * (cn 4 - (h + 1)) + 72 + 12) (by omega) (by omega) ?_
            refine q_horse hX hl hC hI1.2.2.2.2.2 (h := h) (k := 8) c9 (by decide) kL_219 (Nat.le_of_ble_eq_true rfl) (Nat.le_of_ble_eq_true rfl) dL_law_1116 rfl ?_
            rw [show hsF (cn 5) ρ1 h 8 = ρ1 18 h from rfl]
            refine T_aload30 dL_law_1119 rfl ?_
            refine T_bipush (8) dL_law_1121 rfl rfl ?_
            refine T_iald 8 (hA.2.1 h c9) rfl (by decide) (by decide) dL_law_1123 rfl (show _ = Value.int (ρ 18 h) from hF.vh c9 (k := 8) (by decide)) ?_
            refine T_iconst (4) dL_law_1124 rfl rfl ?_
            refine T_isub dL_law_1125 rfl ?_
            refine T_icmp_lt_f 1266 1129 dL_law_1126 (by decide) rfl (Int32.not_lt.mpr hq.2.2.2.2.1) ?_
            refine T_jN 1186 (bk2 := bk + 34 * (cn 4 - (h + 1)) + 6) (bn2 := bn + 204 * (cn 4 - (h + 1)) + 36) (fun hJ => ?_) ?_
            ·
              refine T_iload31 dL_law_1129 rfl ?_
              refine T_aload30 dL_law_1131 rfl ?_
              refine T_iconst (4) dL_law_1133 rfl rfl ?_
              refine T_iald 4 (hA.2.1 h c9) rfl (by decide) (by decide) dL_law_1134 rfl (show _ = Value.int (ρ 15 h) from hF.vh c9 (k := 4) (by decide)) ?_
              refine T_icmp_ne 1186 1138 dL_law_1135 (by decide) rfl (fun c1135 => ?_) (fun c1135 => ?_)
              ·
                refine T_less (bk1 := bk + 34 * (cn 4 - (h + 1)) + 6) (bn1 := bn + 204 * (cn 4 - (h + 1)) + 36) (by omega) (by omega) ?_
                exact hJ
              ·
                refine T_aload3 dL_law_1138 rfl ?_
                refine T_iload29 dL_law_1139 rfl ?_
                refine T_iconst (5) dL_law_1141 rfl rfl ?_
                refine T_less (bk1 := bk + 34 * (cn 4 - (h + 1)) + 10 + 2) (bn1 := bn + 204 * (cn 4 - (h + 1)) + 60 + 12) (by omega) (by omega) ?_
                refine q_horse hX hl hC hI1.2.2.2.2.2 (h := h) (k := 5) c9 (by decide) kL_219 (Nat.le_of_ble_eq_true rfl) (Nat.le_of_ble_eq_true rfl) dL_law_1142 rfl ?_
                rw [show hsF (cn 5) ρ1 h 5 = ρ1 16 h from rfl]
                refine T_aload30 dL_law_1145 rfl ?_
                refine T_iconst (5) dL_law_1147 rfl rfl ?_
                refine T_iald 5 (hA.2.1 h c9) rfl (by decide) (by decide) dL_law_1148 rfl (show _ = Value.int (ρ 16 h) from hF.vh c9 (k := 5) (by decide)) ?_
                refine T_icmp_ne 1186 1152 dL_law_1149 (by decide) rfl (fun c1149 => ?_) (fun c1149 => ?_)
                ·
                  refine T_less (bk1 := bk + 34 * (cn 4 - (h + 1)) + 6) (bn1 := bn + 204 * (cn 4 - (h + 1)) + 36) (by omega) (by omega) ?_
                  exact hJ
                ·
                  refine T_aload3 dL_law_1152 rfl ?_
                  refine T_iload29 dL_law_1153 rfl ?_
                  refine T_bipush (6) dL_law_1155 rfl rfl ?_
                  refine T_less (bk1 := bk + 34 * (cn 4 - (h + 1)) + 8 + 2) (bn1 := bn + 204 * (cn 4 - (h + 1)) + 48 + 12) (by omega) (by omega) ?_
                  refine q_horse hX hl hC hI1.2.2.2.2.2 (h := h) (k := 6) c9 (by decide) kL_219 (Nat.le_of_ble_eq_true rfl) (Nat.le_of_ble_eq_true rfl) dL_law_1157 rfl ?_
                  rw [show hsF (cn 5) ρ1 h 6 = ρ1 17 h from rfl]
                  refine T_aload30 dL_law_1160 rfl ?_
                  refine T_bipush (6) dL_law_1162 rfl rfl ?_
                  refine T_iald 6 (hA.2.1 h c9) rfl (by decide) (by decide) dL_law_1164 rfl (show _ = Value.int (ρ 17 h) from hF.vh c9 (k := 6) (by decide)) ?_
                  refine T_icmp_lt_f 1266 1168 dL_law_1165 (by decide) rfl (Int32.not_lt.mpr (hq.2.2.2.2.2.1 c1135 c1149).1) ?_
                  refine T_aload3 dL_law_1168 rfl ?_
                  refine T_iload29 dL_law_1169 rfl ?_
                  refine T_bipush (6) dL_law_1171 rfl rfl ?_
                  refine T_less (bk1 := bk + 34 * (cn 4 - (h + 1)) + 6 + 2) (bn1 := bn + 204 * (cn 4 - (h + 1)) + 36 + 12) (by omega) (by omega) ?_
                  refine q_horse hX hl hC hI1.2.2.2.2.2 (h := h) (k := 6) c9 (by decide) kL_219 (Nat.le_of_ble_eq_true rfl) (Nat.le_of_ble_eq_true rfl) dL_law_1173 rfl ?_
                  rw [show hsF (cn 5) ρ1 h 6 = ρ1 17 h from rfl]
                  refine T_aload30 dL_law_1176 rfl ?_
                  refine T_bipush (6) dL_law_1178 rfl rfl ?_
                  refine T_iald 6 (hA.2.1 h c9) rfl (by decide) (by decide) dL_law_1180 rfl (show _ = Value.int (ρ 17 h) from hF.vh c9 (k := 6) (by decide)) ?_
                  refine T_iconst (2) dL_law_1181 rfl rfl ?_
                  refine T_iadd dL_law_1182 rfl ?_
                  refine T_icmp_gt_f 1266 1186 dL_law_1183 (by decide) rfl (Int32.not_lt.mpr (hq.2.2.2.2.2.1 c1135 c1149).2) ?_
                  refine T_less (bk1 := bk + 34 * (cn 4 - (h + 1)) + 6) (bn1 := bn + 204 * (cn 4 - (h + 1)) + 36) (by omega) (by omega) ?_
                  exact hJ
            ·
              refine T_jN 1220 (bk2 := bk + 34 * (cn 4 - (h + 1)) + 4) (bn2 := bn + 204 * (cn 4 - (h + 1)) + 24) (fun hJ => ?_) ?_
              ·
                refine T_aload30 dL_law_1186 rfl ?_
                refine T_iconst (5) dL_law_1188 rfl rfl ?_
                refine T_iald 5 (hA.2.1 h c9) rfl (by decide) (by decide) dL_law_1189 rfl (show _ = Value.int (ρ 16 h) from hF.vh c9 (k := 5) (by decide)) ?_
                refine T_if_ne 1220 1193 dL_law_1190 (by decide) rfl (fun c1190 => ?_) (fun c1190 => ?_)
                ·
                  refine T_less (bk1 := bk + 34 * (cn 4 - (h + 1)) + 4) (bn1 := bn + 204 * (cn 4 - (h + 1)) + 24) (by omega) (by omega) ?_
                  exact hJ
                ·
                  refine T_aload30 dL_law_1193 rfl ?_
                  refine T_iconst (4) dL_law_1195 rfl rfl ?_
                  refine T_iald 4 (hA.2.1 h c9) rfl (by decide) (by decide) dL_law_1196 rfl (show _ = Value.int (ρ 15 h) from hF.vh c9 (k := 4) (by decide)) ?_
                  refine T_if_lt 1220 1200 dL_law_1197 (by decide) rfl (fun c1197 => ?_) (fun c1197 => ?_)
                  ·
                    refine T_less (bk1 := bk + 34 * (cn 4 - (h + 1)) + 4) (bn1 := bn + 204 * (cn 4 - (h + 1)) + 24) (by omega) (by omega) ?_
                    exact hJ
                  ·
                    refine T_iload31 dL_law_1200 rfl ?_
                    refine T_aload30 dL_law_1202 rfl ?_
                    refine T_iconst (4) dL_law_1204 rfl rfl ?_
                    refine T_iald 4 (hA.2.1 h c9) rfl (by decide) (by decide) dL_law_1205 rfl (show _ = Value.int (ρ 15 h) from hF.vh c9 (k := 4) (by decide)) ?_
                    refine T_icmp_gt_f 1266 1209 dL_law_1206 (by decide) rfl (Int32.not_lt.mpr (hq.2.2.2.2.2.2.1 c1190 (Int32.not_lt.mp c1197)).1) ?_
                    refine T_aload3 dL_law_1209 rfl ?_
                    refine T_iload29 dL_law_1210 rfl ?_
                    refine T_iconst (5) dL_law_1212 rfl rfl ?_
                    refine T_less (bk1 := bk + 34 * (cn 4 - (h + 1)) + 4 + 2) (bn1 := bn + 204 * (cn 4 - (h + 1)) + 24 + 12) (by omega) (by omega) ?_
                    refine q_horse hX hl hC hI1.2.2.2.2.2 (h := h) (k := 5) c9 (by decide) kL_219 (Nat.le_of_ble_eq_true rfl) (Nat.le_of_ble_eq_true rfl) dL_law_1213 rfl ?_
                    rw [show hsF (cn 5) ρ1 h 5 = ρ1 16 h from rfl]
                    refine T_iconst (1) dL_law_1216 rfl rfl ?_
                    refine T_icmp_eq_f 1266 1220 dL_law_1217 (by decide) rfl (hq.2.2.2.2.2.2.1 c1190 (Int32.not_lt.mp c1197)).2 ?_
                    refine T_less (bk1 := bk + 34 * (cn 4 - (h + 1)) + 4) (bn1 := bn + 204 * (cn 4 - (h + 1)) + 24) (by omega) (by omega) ?_
                    exact hJ
              ·
                refine T_jN 1268 (bk2 := bk + 34 * (cn 4 - (h + 1)) + 0) (bn2 := bn + 204 * (cn 4 - (h + 1)) + 0) (fun hJ => ?_) ?_
                ·
                  refine T_aload30 dL_law_1220 rfl ?_
                  refine T_iconst (4) dL_law_1222 rfl rfl ?_
                  refine T_iald 4 (hA.2.1 h c9) rfl (by decide) (by decide) dL_law_1223 rfl (show _ = Value.int (ρ 15 h) from hF.vh c9 (k := 4) (by decide)) ?_
                  refine T_if_ge 1268 1227 dL_law_1224 (by decide) rfl (fun c1224 => ?_) (fun c1224 => ?_)
                  ·
                    refine T_less (bk1 := bk + 34 * (cn 4 - (h + 1)) + 0) (bn1 := bn + 204 * (cn 4 - (h + 1)) + 0) (by omega) (by omega) ?_
                    exact hJ
                  ·
                    refine T_iload31 dL_law_1227 rfl ?_
                    refine T_if_lt 1268 1232 dL_law_1229 (by decide) rfl (fun c1229 => ?_) (fun c1229 => ?_)
                    ·
                      refine T_less (bk1 := bk + 34 * (cn 4 - (h + 1)) + 0) (bn1 := bn + 204 * (cn 4 - (h + 1)) + 0) (by omega) (by omega) ?_
                      exact hJ
                    ·
                      refine T_iload31 dL_law_1232 rfl ?_
                      refine T_if_ne_f 1266 1237 dL_law_1234 (by decide) rfl (hq.2.2.2.2.2.2.2 (Int32.not_le.mp c1224) (Int32.not_lt.mp c1229)).1 ?_
                      refine T_aload30 dL_law_1237 rfl ?_
                      refine T_iconst (1) dL_law_1239 rfl rfl ?_
                      refine T_iald 1 (hA.2.1 h c9) rfl (by decide) (by decide) dL_law_1240 rfl (show _ = Value.int (ρ 12 h) from hF.vh c9 (k := 1) (by decide)) ?_
                      refine T_if_eq_f 1266 1244 dL_law_1241 (by decide) rfl (hq.2.2.2.2.2.2.2 (Int32.not_le.mp c1224) (Int32.not_lt.mp c1229)).2.1 ?_
                      refine T_aload3 dL_law_1244 rfl ?_
                      refine T_iload29 dL_law_1245 rfl ?_
                      refine T_bipush (7) dL_law_1247 rfl rfl ?_
                      refine T_less (bk1 := bk + 34 * (cn 4 - (h + 1)) + 2 + 2) (bn1 := bn + 204 * (cn 4 - (h + 1)) + 12 + 12) (by omega) (by omega) ?_
                      refine q_horse hX hl hC hI1.2.2.2.2.2 (h := h) (k := 7) c9 (by decide) kL_219 (Nat.le_of_ble_eq_true rfl) (Nat.le_of_ble_eq_true rfl) dL_law_1249 rfl ?_
                      rw [show hsF (cn 5) ρ1 h 7 = ldOf (cn 5) ρ1 (nI h) from rfl]
                      refine T_if_eq_f 1266 1255 dL_law_1252 (by decide) rfl (hq.2.2.2.2.2.2.2 (Int32.not_le.mp c1224) (Int32.not_lt.mp c1229)).2.2.1 ?_
                      refine T_aload3 dL_law_1255 rfl ?_
                      refine T_iload29 dL_law_1256 rfl ?_
                      refine T_bipush (6) dL_law_1258 rfl rfl ?_
                      refine T_less (bk1 := bk + 34 * (cn 4 - (h + 1)) + 0 + 2) (bn1 := bn + 204 * (cn 4 - (h + 1)) + 0 + 12) (by omega) (by omega) ?_
                      refine q_horse hX hl hC hI1.2.2.2.2.2 (h := h) (k := 6) c9 (by decide) kL_219 (Nat.le_of_ble_eq_true rfl) (Nat.le_of_ble_eq_true rfl) dL_law_1260 rfl ?_
                      rw [show hsF (cn 5) ρ1 h 6 = ρ1 17 h from rfl]
                      refine T_if_eq_t 1268 dL_law_1263 (by decide) (hq.2.2.2.2.2.2.2 (Int32.not_le.mp c1224) (Int32.not_lt.mp c1229)).2.2.2 ?_
                      refine T_less (bk1 := bk + 34 * (cn 4 - (h + 1)) + 0) (bn1 := bn + 204 * (cn 4 - (h + 1)) + 0) (by omega) (by omega) ?_
                      exact hJ
                ·
                  first | refine T_iinc29 rfl (Nat.le_of_ble_eq_true rfl) dL_law_1268 rfl (inc1 _) ?_ | refine T_iinc29 rfl (Nat.le_of_ble_eq_true rfl) dL_law_1268 rfl rfl ?_
                  refine T_goto 885 dL_law_1271 (by decide) ?_
                  exact T_less (by omega) (by omega) (ih (h + 1) _ _ _ _ (by omega) (by rw [sm, ha]) (by omega))
