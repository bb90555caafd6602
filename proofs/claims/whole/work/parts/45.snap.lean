def ulM (ρ : RH) (j : Nat) (x : Int32) (k : Nat) : RH := fun f l => if f = 19 ∧ l = j then x else if l < k ∧ ρ 32 l = 1 ∧ ρ 33 l = nI j ∧ (f = 32 ∨ f = 33 ∨ f = 34) then (if f = 32 then 3 else if f = 33 then -1 else ρ 6 0) else ρ f l
theorem ulM_0 {ρ : RH} {j : Nat} {x : Int32} : ulM ρ j x 0 = u2 ρ 19 j x := by
  funext f l
  simp only [ulM, u2]
  by_cases e : f = 19 ∧ l = j
  · rw [if_pos e, if_pos e]
  · rw [if_neg e, if_neg e, if_neg (fun q => absurd q.1 (Nat.not_lt_zero _))]
theorem ulM_c {ρ : RH} {j c : Nat} : ulM ρ j (ρ 19 j + ldOf c ρ (nI j)) c = ulC ρ j c := rfl
theorem ulM_at {ρ : RH} {j k f l : Nat} {x : Int32} (h : f ≠ 19) (h2 : k ≤ l) : ulM ρ j x k f l = ρ f l := by
  unfold ulM
  rw [if_neg (fun q => h q.1), if_neg (fun q => absurd q.1 (Nat.not_lt.mpr h2))]
theorem ulM_f {ρ : RH} {j k f l : Nat} {x : Int32} (h : f ≠ 19) (h2 : f < 32 ∨ 34 < f) : ulM ρ j x k f l = ρ f l := by
  unfold ulM
  rw [if_neg (fun q => h q.1), if_neg (fun q => by omega)]
theorem ulM_y {ρ : RH} {j k : Nat} {x : Int32} (h : ρ 32 k = 1) (h2 : ρ 33 k = nI j) : u2 (lieC (ulM ρ j x k) k 3 (-1)) 34 k (ρ 6 0) = ulM ρ j x (k + 1) := by
  funext f l
  simp only [lieC, u2, ulM]
  by_cases e19 : f = 19 ∧ l = j
  · simp [e19]
  · by_cases e : l = k
    · subst e
      by_cases e3 : f = 33
      · simp [e3, h, h2]
      · by_cases e2 : f = 32
        · simp [e2, h, h2]
        · by_cases e34 : f = 34
          · simp [e34, h, h2]
          · simp [e2, e3, e34]
    · have e4 : (l < k + 1) = (l < k) := propext ⟨fun q => by omega, fun q => by omega⟩
      simp [e19, e, e4]
theorem ulM_n {ρ : RH} {j k : Nat} {x : Int32} (h : ¬ (ρ 32 k = 1 ∧ ρ 33 k = nI j)) : ulM ρ j x (k + 1) = ulM ρ j x k := by
  funext f l
  simp only [ulM]
  by_cases e : l = k
  · subst e
    have h8 : ∀ p : Prop, ¬ (l < l + 1 ∧ ρ 32 l = 1 ∧ ρ 33 l = nI j ∧ p) := fun p q => h ⟨q.2.1, q.2.2.1⟩
    have h9 : ∀ p : Prop, ¬ (l < l ∧ p) := fun p q => absurd q.1 (Nat.lt_irrefl _)
    simp only [h8, h9, if_false]
  · have e4 : (l < k + 1) = (l < k) := propext ⟨fun q => by omega, fun q => by omega⟩
    simp only [e4]
theorem KS.ulM {ρ ρ' : RH} {j k : Nat} {x : Int32} (h : KS ρ ρ') : KS ρ (ulM ρ' j x k) := fun f i q => (by
  by_cases e : f = 31
  · exact (ulM_f (by omega) (by omega)).trans (h f i q)
  · exact (ulM_f (by unfold sF at q; omega) (by unfold sF at q; omega)).trans (h f i q))
def soM (b : Nat) (ρ : RH) (μ : Nat → Int32) (j : Nat) (x : Int32) (k : Nat) : Nat → Int32 := fun o => if o < k ∧ ρ 15 o = x ∧ ¬ ρ 16 o = ρ 16 j then 1 else μ o
theorem soM_0 {b : Nat} {ρ : RH} {μ : Nat → Int32} {j : Nat} {x : Int32} : soM b ρ μ j x 0 = μ := by funext o; simp [soM]
theorem soM_y {b : Nat} {ρ : RH} {μ : Nat → Int32} {j k : Nat} {x : Int32} (h : ρ 15 k = x ∧ ¬ ρ 16 k = ρ 16 j) : uI (soM b ρ μ j x k) k 1 = soM b ρ μ j x (k + 1) := by
  funext o
  simp only [uI, soM]
  by_cases e : o = k
  · subst e; simp [h]
  · have e4 : (o < k + 1) = (o < k) := propext ⟨fun q => by omega, fun q => by omega⟩
    simp [e, e4]
theorem soM_n {b : Nat} {ρ : RH} {μ : Nat → Int32} {j k : Nat} {x : Int32} (h : ¬ (ρ 15 k = x ∧ ¬ ρ 16 k = ρ 16 j)) : soM b ρ μ j x (k + 1) = soM b ρ μ j x k := by
  funext o
  simp only [soM]
  by_cases e : o = k
  · subst e
    rw [if_neg (fun q => h q.2), if_neg (fun q => absurd q.1 (Nat.lt_irrefl _))]
  · have e4 : (o < k + 1) = (o < k) := propext ⟨fun q => by omega, fun q => by omega⟩
    simp only [e4]
theorem or_b {p q : Int32} (h : b01 p) (h2 : b01 q) : b01 (p ||| q) ∧ ((p ||| q) = 0 ↔ p = 0 ∧ q = 0) := by
  unfold b01
  rcases h with rfl | rfl <;> rcases h2 with rfl | rfl <;> decide
/-- moved, of the others -/
def MA (b j : Nat) (μ : Nat → Int32) (ρ : RH) (μ' : Nat → Int32) (ρ' : RH) : Prop := ∀ o, o < b → o ≠ j → μ o = ρ 20 o → μ' o = ρ' 20 o
theorem toF_c {a t j : Nat} {ρ : RH} (ht : t < a) : toF ρ j t = -1 ∨ ∃ u, u ≤ a ∧ toF ρ j t = nI u := by
  unfold toF; split
  · cases t with
    | zero => exact Or.inl (by decide)
    | succ t => exact Or.inr ⟨t, by omega, nI_pr1 (by omega)⟩
  · exact Or.inr ⟨t + 1, by omega, nI_1 t⟩
theorem toF_lt {a t j : Nat} {ρ : RH} (ht : t < a) (ha : a ≤ 8) (h : ¬ toF ρ j t = nI a) : toF ρ j t < nI a := by
  rcases toF_c (ρ := ρ) (j := j) ht with e | ⟨u, hu, e⟩
  · rw [e]; exact Int32.lt_of_lt_of_le (by decide : (-1 : Int32) < 0) ((nI_leI (a := 0) (b := a) (by omega) (by omega)).mpr (Nat.zero_le _))
  · rw [e] at h ⊢
    exact nI_lt (Nat.lt_of_le_of_ne hu (fun q => h (by rw [q]))) (by omega)
theorem toF_neg {a t j : Nat} {ρ : RH} (ht : t < a) (ha : a ≤ 8) (h : ¬ toF ρ j t = -1) : ¬ toF ρ j t < 0 := by
  rcases toF_c (ρ := ρ) (j := j) ht with e | ⟨u, hu, e⟩
  · exact absurd e h
  · rw [e]; exact fun q => Int32.not_le.mpr q ((nI_leI (a := 0) (b := u) (by omega) (by omega)).mpr (Nat.zero_le _))
theorem down_1 {x : Int32} (h : b01 x) (h2 : ¬ x = 1) : x = 0 := h.resolve_right h2
set_option maxHeartbeats 1000000 in
theorem L_X12_unload {l : Launch} {D : va_G} {cA : Nat → ClassId} {n0 : Nat} {sg adK adV : Nat → Nat} {sgA smA wdA bS LS : Nat} {xs : Nat → Int32} (hX : SF n0 (XW0 sg adK adV sgA smA wdA n0 bS LS xs)) {sz : Nat} {τ : TY} {M0 : ME} {m y s a b c hc wc sn : Nat} {ρ π : RH} {σ : Nat → Nat} {μ κ : Nat → Int32} {j : Nat} (hj : j < b) (x : Int32) : ∀ (n : Nat) (k : Nat) (Mk : ME) (hk : k ≤ c) (hS : SL τ M0 Mk s a b c (ulM ρ j x k) m μ κ) (hW : WN τ Mk m y s a b c hc wc sn ρ π σ), c - k < n → T l D cA n0 (XW0 sg adK adV sgA smA wdA n0 bS LS xs) mX12_unload 3 0 0 sz τ Mk 16 [.ref s, .int (nI j), .int (nI k)] [] (MUq none sz τ (fun M' => SL τ M0 M' s a b c (u2 (u2 (ulM ρ j x c) 16 j 0) 17 j 0) m (μ) (κ))) (fun _ _ _ _ => False) := by
  intro n
  induction n with
  | zero => intros; omega
  | succ n ih =>
    intro k Mk hk hS hW hn
    obtain ⟨l3, l4, l5, l6, l7, l8⟩ := hW.ok
    refine T_iload2 dX12_unload_16 rfl ?_
    refine T_aload0 dX12_unload_17 rfl ?_
    refine g12_3 _ rfl (hS.t_s) (hS.g_m) dX12_unload_18 rfl ?_
    refine g12_75 _ rfl (hW.t_m) (hW.g_pl) dX12_unload_21 rfl ?_
    refine g12_84 _ rfl (hW.t_q) (hW.g_logs) dX12_unload_24 rfl ?_
    refine T_icmp_ge 76 30 dX12_unload_27 (by decide) rfl (fun c7 => ?_) (fun c7 => ?_)
    ·
      have c7 := le_out rfl c7
      refine T_aload0 dX12_unload_76 rfl ?_
      refine g12_22 _ rfl (hS.t_s) (hS.g_a3) dX12_unload_77 rfl ?_
      refine T_iload1 dX12_unload_80 rfl ?_
      refine T_iconst (0) dX12_unload_81 rfl rfl ?_
      refine T_iast _ (hS.t_a3) rfl (by omega) (by decide) dX12_unload_82 rfl ?_
      refine T_nm (fun M1 e1 => ?_)
      have hS := SL.mv (hS.p_down (by omega)) e1
      have hW := hW.frU e1 (by omega)
      refine T_aload0 dX12_unload_83 rfl ?_
      refine g12_25 _ rfl (hS.t_s) (hS.g_a4) dX12_unload_84 rfl ?_
      refine T_iload1 dX12_unload_87 rfl ?_
      refine T_iconst (0) dX12_unload_88 rfl rfl ?_
      refine T_iast _ (hS.t_a4) rfl (by omega) (by decide) dX12_unload_89 rfl ?_
      refine T_nm (fun M2 e2 => ?_)
      have hS := SL.mv (hS.p_gone (by omega)) e2
      have hW := hW.frU e2 (by omega)
      refine T_vret rfl dX12_unload_90 ?_
      have hkk : k = c := by omega
      subst hkk
      exact ⟨rfl, rfl, rfl, hS⟩
    ·
      have c7 := lt_in rfl c7
      refine T_aload0 dX12_unload_30 rfl ?_
      refine g12_43 _ rfl (hS.t_s) (hS.g_a10) dX12_unload_31 rfl ?_
      refine T_iload2 dX12_unload_34 rfl ?_
      refine T_iald _ (hS.t_a10) rfl (by omega) (by decide) dX12_unload_35 rfl (hS.g_lies (by omega)) ?_
      refine T_iconst (1) dX12_unload_36 rfl rfl ?_
      refine T_icmp_ne 70 40 dX12_unload_37 (by decide) rfl (fun c1 => ?_) (fun c1 => ?_)
      ·
        rw [ulM_at (by decide) (Nat.le_refl _)] at c1
        first | refine T_iinc2 rfl (by decide) dX12_unload_70 rfl (inc1 _) ?_ | refine T_iinc2 rfl (by decide) dX12_unload_70 rfl rfl ?_
        refine T_goto 16 dX12_unload_73 (by decide) ?_
        first | exact ih (k + 1) _ (by omega) (by rw [← ulM_y c1 c2, show (ρ 6 0) = lieC (ulM ρ j x k) k 3 (-1) 6 0 from by unfold lieC; rw [u2_f (by decide), u2_f (by decide)]; exact (ulM_f (by decide) (by decide)).symm]; exact hS) hW (by omega) | exact ih (k + 1) _ (by omega) (by rw [ulM_n (fun q => by first | exact c1 q.1 | exact c2 q.2)]; exact hS) hW (by omega)
      ·
        rw [ulM_at (by decide) (Nat.le_refl _)] at c1
        refine T_aload0 dX12_unload_40 rfl ?_
        refine g12_46 _ rfl (hS.t_s) (hS.g_a11) dX12_unload_41 rfl ?_
        refine T_iload2 dX12_unload_44 rfl ?_
        refine T_iald _ (hS.t_a11) rfl (by omega) (by decide) dX12_unload_45 rfl (hS.g_atat (by omega)) ?_
        refine T_iload1 dX12_unload_46 rfl ?_
        refine T_icmp_eq 53 50 dX12_unload_47 (by decide) rfl (fun c2 => ?_) (fun c2 => ?_)
        ·
          rw [ulM_at (by decide) (Nat.le_refl _)] at c2
          refine T_aload0 dX12_unload_53 rfl ?_
          refine T_iload2 dX12_unload_54 rfl ?_
          refine T_iconst (3) dX12_unload_55 rfl rfl ?_
          refine T_iconst (-1) dX12_unload_56 rfl rfl ?_
          refine T_cV3 (c_X12_put hX hS.rf (hW.ks (KS.rf ρ).ulM) (by omega) _ _) hX k12_128 (Or.inl ⟨_, _, _, _, (hS.t_s), by decide, rfl⟩) (by decide) (Nat.le_of_ble_eq_true rfl) dX12_unload_57 rfl ?_
          rintro _ _ _ M1 ⟨rfl, rfl, rfl, hN⟩
          have hW := hW.nx hN.frame
          have hS := hN.bs hS.frame
          refine T_aload0 dX12_unload_60 rfl ?_
          refine g12_49 _ rfl (hS.t_s) (hS.g_a12) dX12_unload_61 rfl ?_
          refine T_iload2 dX12_unload_64 rfl ?_
          refine T_aload0 dX12_unload_65 rfl ?_
          refine g12_61 _ rfl (hS.t_s) (hS.g_hour) dX12_unload_66 rfl ?_
          refine T_iast _ (hS.t_a12) rfl (by omega) (by decide) dX12_unload_69 rfl ?_
          refine T_nm (fun M3 e3 => ?_)
          have hS := SL.mv (hS.p_came (by omega)) e3
          have hW := hW.frU e3 (by omega)
          first | refine T_iinc2 rfl (by decide) dX12_unload_70 rfl (inc1 _) ?_ | refine T_iinc2 rfl (by decide) dX12_unload_70 rfl rfl ?_
          refine T_goto 16 dX12_unload_73 (by decide) ?_
          first | exact ih (k + 1) _ (by omega) (by rw [← ulM_y c1 c2, show (ρ 6 0) = lieC (ulM ρ j x k) k 3 (-1) 6 0 from by unfold lieC; rw [u2_f (by decide), u2_f (by decide)]; exact (ulM_f (by decide) (by decide)).symm]; exact hS) hW (by omega) | exact ih (k + 1) _ (by omega) (by rw [ulM_n (fun q => by first | exact c1 q.1 | exact c2 q.2)]; exact hS) hW (by omega)
        ·
          rw [ulM_at (by decide) (Nat.le_refl _)] at c2
          refine T_goto 70 dX12_unload_50 (by decide) ?_
          first | refine T_iinc2 rfl (by decide) dX12_unload_70 rfl (inc1 _) ?_ | refine T_iinc2 rfl (by decide) dX12_unload_70 rfl rfl ?_
          refine T_goto 16 dX12_unload_73 (by decide) ?_
          first | exact ih (k + 1) _ (by omega) (by rw [← ulM_y c1 c2, show (ρ 6 0) = lieC (ulM ρ j x k) k 3 (-1) 6 0 from by unfold lieC; rw [u2_f (by decide), u2_f (by decide)]; exact (ulM_f (by decide) (by decide)).symm]; exact hS) hW (by omega) | exact ih (k + 1) _ (by omega) (by rw [ulM_n (fun q => by first | exact c1 q.1 | exact c2 q.2)]; exact hS) hW (by omega)
set_option maxHeartbeats 1000000 in
theorem c_X12_unload {l : Launch} {D : va_G} {cA : Nat → ClassId} {n0 : Nat} {sg adK adV : Nat → Nat} {sgA smA wdA bS LS : Nat} {xs : Nat → Int32} (hX : SF n0 (XW0 sg adK adV sgA smA wdA n0 bS LS xs)) {sz : Nat} {τ : TY} {M0 M : ME} {m y s a b c hc wc sn : Nat} {ρ π : RH} {σ : Nat → Nat} {μ κ : Nat → Int32} (hS : SL τ M0 M s a b c ρ m μ κ) (hW : WN τ M m y s a b c hc wc sn ρ π σ) {j : Nat} (hj : j < b) : CT l D cA n0 (XW0 sg adK adV sgA smA wdA n0 bS LS xs) mX12_unload 3 0 0 sz τ M [.ref s, .int (nI j)] (MUq none sz τ (fun M' => SL τ M0 M' s a b c (u2 (u2 (ulC ρ j c) 16 j 0) 17 j 0) m (μ) (κ))) := by
  refine CT.of (ls := [.ref s, .int (nI j), UU]) (by decide) (Nat.le_of_ble_eq_true rfl) rfl ?_
  obtain ⟨l3, l4, l5, l6, l7, l8⟩ := hW.ok
  refine T_aload0 dX12_unload_0 rfl ?_
  refine g12_37 _ rfl (hS.t_s) (hS.g_a8) dX12_unload_1 rfl ?_
  refine T_iload1 dX12_unload_4 rfl ?_
  refine T_dup2 dX12_unload_5 rfl rfl rfl ?_
  refine T_iald _ (hS.t_a8) rfl (by omega) (by decide) dX12_unload_6 rfl (hS.g_brou (by omega)) ?_
  refine T_aload0 dX12_unload_7 rfl ?_
  refine T_iload1 dX12_unload_8 rfl ?_
  refine T_cV1 (c_X12_load hX hS hW (by omega)) hX k12_94 (Or.inl ⟨_, _, _, _, (hS.t_s), by decide, rfl⟩) (by decide) (Nat.le_of_ble_eq_true rfl) dX12_unload_9 rfl ?_
  rintro _ _ _ _ ⟨rfl, rfl, rfl, rfl⟩
  refine T_iadd dX12_unload_12 rfl ?_
  refine T_iast _ (hS.t_a8) rfl (by omega) (by decide) dX12_unload_13 rfl ?_
  refine T_nm (fun M1 e1 => ?_)
  have hS := SL.mv (hS.p_brou (by omega)) e1
  have hW := hW.frU e1 (by omega)
  refine T_iconst (0) dX12_unload_14 rfl rfl ?_
  refine T_istore2 rfl (by decide) dX12_unload_15 rfl ?_
  exact L_X12_unload hX hj (ρ 19 j + ldOf c ρ (nI j)) (c + 1) 0 _ (Nat.zero_le _) (by rw [ulM_0]; exact hS) hW (by omega)
set_option maxHeartbeats 1000000 in
theorem L_X12_snap {l : Launch} {D : va_G} {cA : Nat → ClassId} {n0 : Nat} {sg adK adV : Nat → Nat} {sgA smA wdA bS LS : Nat} {xs : Nat → Int32} (hX : SF n0 (XW0 sg adK adV sgA smA wdA n0 bS LS xs)) {sz : Nat} {τ : TY} {M0 : ME} {m y s a b c hc wc sn : Nat} {ρ π : RH} {σ : Nat → Nat} {μ κ : Nat → Int32} {j : Nat} (hj : j < b) {t : Nat} (ht : t < a) (hp : ρ 15 j = nI t) : ∀ (n : Nat) (k : Nat) (Mk : ME) (hk : k ≤ c) (hS : SL τ M0 Mk s a b c (mpL ρ 1 (nI j) 2 (nI t) k) m μ κ) (hW : WN τ Mk m y s a b c hc wc sn ρ π σ), c - k < n → T l D cA n0 (XW0 sg adK adV sgA smA wdA n0 bS LS xs) mX12_snap 2 0 0 sz τ Mk 29 [.ref s, .int (nI j), .int (nI t), .int (nI k)] [] (MUq none sz τ (fun M' => SL τ M0 M' s a b c (standC (mpL ρ 1 (nI j) 2 (nI t) c) j (nI t) 0 (ρ 41 t - 1 - ρ 17 j)) m (μ) (κ))) (fun _ _ _ _ => False) := by
  intro n
  induction n with
  | zero => intros; omega
  | succ n ih =>
    intro k Mk hk hS hW hn
    obtain ⟨l3, l4, l5, l6, l7, l8⟩ := hW.ok
    refine T_iload3 dX12_snap_29 rfl ?_
    refine T_aload0 dX12_snap_30 rfl ?_
    refine g12_3 _ rfl (hS.t_s) (hS.g_m) dX12_snap_31 rfl ?_
    refine g12_75 _ rfl (hW.t_m) (hW.g_pl) dX12_snap_34 rfl ?_
    refine g12_84 _ rfl (hW.t_q) (hW.g_logs) dX12_snap_37 rfl ?_
    refine T_icmp_ge 76 43 dX12_snap_40 (by decide) rfl (fun c7 => ?_) (fun c7 => ?_)
    ·
      have c7 := le_out rfl c7
      refine T_aload0 dX12_snap_76 rfl ?_
      refine g12_22 _ rfl (hS.t_s) (hS.g_a3) dX12_snap_77 rfl ?_
      refine T_iload1 dX12_snap_80 rfl ?_
      refine T_iconst (0) dX12_snap_81 rfl rfl ?_
      refine T_iast _ (hS.t_a3) rfl (by omega) (by decide) dX12_snap_82 rfl ?_
      refine T_nm (fun M1 e1 => ?_)
      have hS := SL.mv (hS.p_down (by omega)) e1
      have hW := hW.frU e1 (by omega)
      refine T_aload0 dX12_snap_83 rfl ?_
      refine g12_25 _ rfl (hS.t_s) (hS.g_a4) dX12_snap_84 rfl ?_
      refine T_iload1 dX12_snap_87 rfl ?_
      refine T_aload0 dX12_snap_88 rfl ?_
      refine g12_3 _ rfl (hS.t_s) (hS.g_m) dX12_snap_89 rfl ?_
      refine g12_75 _ rfl (hW.t_m) (hW.g_pl) dX12_snap_92 rfl ?_
      refine g12_163 _ rfl (hW.t_q) (hW.g_length) dX12_snap_95 rfl ?_
      refine T_iload2 dX12_snap_98 rfl ?_
      refine T_iald _ (hW.t_length) rfl (by omega) (by decide) dX12_snap_99 rfl (hW.v_length (by omega)) ?_
      refine T_iconst (1) dX12_snap_100 rfl rfl ?_
      refine T_isub dX12_snap_101 rfl ?_
      refine T_aload0 dX12_snap_102 rfl ?_
      refine g12_25 _ rfl (hS.t_s) (hS.g_a4) dX12_snap_103 rfl ?_
      refine T_iload1 dX12_snap_106 rfl ?_
      refine T_iald _ (hS.t_a4) rfl (by omega) (by decide) dX12_snap_107 rfl (hS.g_gone (by omega)) ?_
      refine T_isub dX12_snap_108 rfl ?_
      refine T_iast _ (hS.t_a4) rfl (by omega) (by decide) dX12_snap_109 rfl ?_
      refine T_nm (fun M2 e2 => ?_)
      have hS := SL.mv (hS.p_gone (by omega)) e2
      have hW := hW.frU e2 (by omega)
      refine T_vret rfl dX12_snap_110 ?_
      have hkk : k = c := by omega
      subst hkk
      refine ⟨rfl, rfl, rfl, ?_⟩
      have e : u2 (mpL ρ 1 (nI j) 2 (nI t) k) 15 j (nI t) = mpL ρ 1 (nI j) 2 (nI t) k := u2_same (by rw [mpL_f (by decide)]; exact hp)
      have e2 : mpL ρ 1 (nI j) 2 (nI t) k 17 j = ρ 17 j := mpL_f (by decide)
      unfold standC
      rw [e, ← e2]
      exact hS
    ·
      have c7 := lt_in rfl c7
      refine T_aload0 dX12_snap_43 rfl ?_
      refine g12_43 _ rfl (hS.t_s) (hS.g_a10) dX12_snap_44 rfl ?_
      refine T_iload3 dX12_snap_47 rfl ?_
      refine T_iald _ (hS.t_a10) rfl (by omega) (by decide) dX12_snap_48 rfl (hS.g_lies (by omega)) ?_
      refine T_iconst (1) dX12_snap_49 rfl rfl ?_
      refine T_icmp_ne 70 53 dX12_snap_50 (by decide) rfl (fun c1 => ?_) (fun c1 => ?_)
      ·
        rw [mpL_at (Nat.le_refl _)] at c1
        first | refine T_iinc3 rfl (by decide) dX12_snap_70 rfl (inc1 _) ?_ | refine T_iinc3 rfl (by decide) dX12_snap_70 rfl rfl ?_
        refine T_goto 29 dX12_snap_73 (by decide) ?_
        first | exact ih (k + 1) _ (by omega) (by rw [← mpL_y c1 c2]; exact hS) hW (by omega) | exact ih (k + 1) _ (by omega) (by rw [mpL_n (fun q => by first | exact c1 q.1 | exact c2 q.2)]; exact hS) hW (by omega)
      ·
        rw [mpL_at (Nat.le_refl _)] at c1
        refine T_aload0 dX12_snap_53 rfl ?_
        refine g12_46 _ rfl (hS.t_s) (hS.g_a11) dX12_snap_54 rfl ?_
        refine T_iload3 dX12_snap_57 rfl ?_
        refine T_iald _ (hS.t_a11) rfl (by omega) (by decide) dX12_snap_58 rfl (hS.g_atat (by omega)) ?_
        refine T_iload1 dX12_snap_59 rfl ?_
        refine T_icmp_ne 70 63 dX12_snap_60 (by decide) rfl (fun c2 => ?_) (fun c2 => ?_)
        ·
          rw [mpL_at (Nat.le_refl _)] at c2
          first | refine T_iinc3 rfl (by decide) dX12_snap_70 rfl (inc1 _) ?_ | refine T_iinc3 rfl (by decide) dX12_snap_70 rfl rfl ?_
          refine T_goto 29 dX12_snap_73 (by decide) ?_
          first | exact ih (k + 1) _ (by omega) (by rw [← mpL_y c1 c2]; exact hS) hW (by omega) | exact ih (k + 1) _ (by omega) (by rw [mpL_n (fun q => by first | exact c1 q.1 | exact c2 q.2)]; exact hS) hW (by omega)
        ·
          rw [mpL_at (Nat.le_refl _)] at c2
          refine T_aload0 dX12_snap_63 rfl ?_
          refine T_iload3 dX12_snap_64 rfl ?_
          refine T_iconst (2) dX12_snap_65 rfl rfl ?_
          refine T_iload2 dX12_snap_66 rfl ?_
          refine T_cV3 (c_X12_put hX hS.rf (hW.ks (KS.rf ρ).mp) (by omega) _ _) hX k12_128 (Or.inl ⟨_, _, _, _, (hS.t_s), by decide, rfl⟩) (by decide) (Nat.le_of_ble_eq_true rfl) dX12_snap_67 rfl ?_
          rintro _ _ _ M1 ⟨rfl, rfl, rfl, hN⟩
          have hW := hW.nx hN.frame
          have hS := hN.bs hS.frame
          first | refine T_iinc3 rfl (by decide) dX12_snap_70 rfl (inc1 _) ?_ | refine T_iinc3 rfl (by decide) dX12_snap_70 rfl rfl ?_
          refine T_goto 29 dX12_snap_73 (by decide) ?_
          first | exact ih (k + 1) _ (by omega) (by rw [← mpL_y c1 c2]; exact hS) hW (by omega) | exact ih (k + 1) _ (by omega) (by rw [mpL_n (fun q => by first | exact c1 q.1 | exact c2 q.2)]; exact hS) hW (by omega)
set_option maxHeartbeats 1000000 in
theorem c_X12_snap {l : Launch} {D : va_G} {cA : Nat → ClassId} {n0 : Nat} {sg adK adV : Nat → Nat} {sgA smA wdA bS LS : Nat} {xs : Nat → Int32} (hX : SF n0 (XW0 sg adK adV sgA smA wdA n0 bS LS xs)) {sz : Nat} {τ : TY} {M0 M : ME} {m y s a b c hc wc sn : Nat} {ρ π : RH} {σ : Nat → Nat} {μ κ : Nat → Int32} (hS : SL τ M0 M s a b c ρ m μ κ) (hW : WN τ M m y s a b c hc wc sn ρ π σ) {j t : Nat} (hj : j < b) (ht : t < a) (hp : ρ 15 j = nI t) : CT l D cA n0 (XW0 sg adK adV sgA smA wdA n0 bS LS xs) mX12_snap 2 0 0 sz τ M [.ref s, .int (nI j)] (MUq none sz τ (fun M' => SL τ M0 M' s a b c (bkC c ρ j t) m (μ) (κ))) := by
  refine CT.of (ls := [.ref s, .int (nI j), UU, UU]) (by decide) (Nat.le_of_ble_eq_true rfl) rfl ?_
  obtain ⟨l3, l4, l5, l6, l7, l8⟩ := hW.ok
  refine T_aload0 dX12_snap_0 rfl ?_
  refine g12_19 _ rfl (hS.t_s) (hS.g_a2) dX12_snap_1 rfl ?_
  refine T_iload1 dX12_snap_4 rfl ?_
  refine T_iald _ (hS.t_a2) rfl (by omega) (by decide) dX12_snap_5 rfl (hS.g_wher (by omega)) ?_
  rw [hp]
  refine T_istore2 rfl (by decide) dX12_snap_6 rfl ?_
  refine T_aload0 dX12_snap_7 rfl ?_
  refine g12_31 _ rfl (hS.t_s) (hS.g_a6) dX12_snap_8 rfl ?_
  refine T_iload1 dX12_snap_11 rfl ?_
  refine T_dup2 dX12_snap_12 rfl rfl rfl ?_
  refine T_iald _ (hS.t_a6) rfl (by omega) (by decide) dX12_snap_13 rfl (hS.g_link (by omega)) ?_
  refine T_iconst (1) dX12_snap_14 rfl rfl ?_
  refine T_isub dX12_snap_15 rfl ?_
  refine T_iast _ (hS.t_a6) rfl (by omega) (by decide) dX12_snap_16 rfl ?_
  refine T_nm (fun M1 e1 => ?_)
  have hS := SL.mv (hS.p_link (by omega)) e1
  have hW := hW.frU e1 (by omega)
  refine T_aload0 dX12_snap_17 rfl ?_
  refine T_dup dX12_snap_18 rfl rfl ?_
  refine g12_68 _ rfl (hS.t_s) (hS.g_brok) dX12_snap_19 rfl ?_
  refine T_iconst (1) dX12_snap_22 rfl rfl ?_
  refine T_iadd dX12_snap_23 rfl ?_
  refine p12_68 rfl (hS.t_s) dX12_snap_24 rfl ?_
  refine T_nm (fun M2 e2 => ?_)
  have hS := SL.mv hS.p_brok e2
  have hW := hW.frU e2 (by omega)
  refine T_iconst (0) dX12_snap_27 rfl rfl ?_
  refine T_istore3 rfl (by decide) dX12_snap_28 rfl ?_
  exact L_X12_snap hX (ρ := u2 (u2 ρ 12 j (ρ 12 j - 1)) 8 0 (ρ 8 0 + 1)) hj ht (by rw [u2_f (by decide), u2_f (by decide)]; exact hp) (c + 1) 0 _ (Nat.zero_le _) (by rw [mpL_0]; exact hS) (hW.ks (((KS.rf ρ).u (by decide)).u (by decide))) (by omega)
set_option maxHeartbeats 1000000 in
theorem L2_X12_canGo {l : Launch} {D : va_G} {cA : Nat → ClassId} {n0 : Nat} {sg adK adV : Nat → Nat} {sgA smA wdA bS LS : Nat} {xs : Nat → Int32} (hX : SF n0 (XW0 sg adK adV sgA smA wdA n0 bS LS xs)) {sz : Nat} {τ : TY} {M0 : ME} {m y s a b c hc wc sn : Nat} {ρ π : RH} {σ : Nat → Nat} {j : Nat} (hj : j < b) (hi : RI a b c ρ) (x : Int32) {μ κ : Nat → Int32} (v1 v2 : Int32) (hg : cgF b ρ j x = 1) : ∀ (n : Nat) (k : Nat) (Mk : ME) (hk : k ≤ b) (hS : SL τ M0 Mk s a b c ρ m (soM b ρ μ j x k) κ) (hW : WN τ Mk m y s a b c hc wc sn ρ π σ), b - k < n → T l D cA n0 (XW0 sg adK adV sgA smA wdA n0 bS LS xs) mX12_canGo 2 0 0 sz τ Mk 107 [.ref s, .int (nI j), .int x, .int v1, .int v2, .int (nI k)] [] (fun v' sz' τ' M' => v' = some (.int (cgF b ρ j x)) ∧ sz' = sz ∧ τ' = τ ∧ SL τ M0 M' s a b c ρ m (if cgF b ρ j x = 0 then μ else soM b ρ μ j x b) κ) (fun _ _ _ _ => False) := by
  intro n
  induction n with
  | zero => intros; omega
  | succ n ih =>
    intro k Mk hk hS hW hn
    obtain ⟨l3, l4, l5, l6, l7, l8⟩ := hW.ok
    refine T_iload5 dX12_canGo_107 rfl ?_
    refine T_aload0 dX12_canGo_109 rfl ?_
    refine g12_3 _ rfl (hS.t_s) (hS.g_m) dX12_canGo_110 rfl ?_
    refine g12_75 _ rfl (hW.t_m) (hW.g_pl) dX12_canGo_113 rfl ?_
    refine g12_179 _ rfl (hW.t_q) (hW.g_horses) dX12_canGo_116 rfl ?_
    refine T_icmp_ge 147 122 dX12_canGo_119 (by decide) rfl (fun c7 => ?_) (fun c7 => ?_)
    ·
      have c7 := le_out rfl c7
      refine T_iconst (1) dX12_canGo_147 rfl rfl ?_
      refine T_iret rfl rfl dX12_canGo_148 ?_
      have hkk : k = b := by omega
      subst hkk
      refine ⟨by rw [hg], rfl, rfl, ?_⟩
      rw [hg, if_neg (by decide)]
      exact hS
    ·
      have c7 := lt_in rfl c7
      refine T_aload0 dX12_canGo_122 rfl ?_
      refine T_iload1 dX12_canGo_123 rfl ?_
      refine T_iload5 dX12_canGo_124 rfl ?_
      refine T_iload2 dX12_canGo_126 rfl ?_
      refine T_cV3 (c_X12_meets hX hS hW (by omega) (by omega) _) hX k12_182 (Or.inl ⟨_, _, _, _, (hS.t_s), by decide, rfl⟩) (by decide) (Nat.le_of_ble_eq_true rfl) dX12_canGo_127 rfl ?_
      rintro _ _ _ _ ⟨rfl, rfl, rfl, rfl⟩
      refine T_if_eq 141 133 dX12_canGo_130 (by decide) rfl (fun c130 => ?_) (fun c130 => ?_)
      ·
        first | refine T_iinc5 rfl (by decide) dX12_canGo_141 rfl (inc1 _) ?_ | refine T_iinc5 rfl (by decide) dX12_canGo_141 rfl rfl ?_
        refine T_goto 107 dX12_canGo_144 (by decide) ?_
        first | exact ih (k + 1) _ (by omega) (by rw [← soM_y (Decidable.byContradiction fun q => c130 (if_neg q))]; exact hS) hW (by omega) | exact ih (k + 1) _ (by omega) (by rw [soM_n (fun q => by rw [if_pos q] at c130; exact absurd c130 (by decide))]; exact hS) hW (by omega)
      ·
        refine T_aload0 dX12_canGo_133 rfl ?_
        refine g12_40 _ rfl (hS.t_s) (hS.g_a9) dX12_canGo_134 rfl ?_
        refine T_iload5 dX12_canGo_137 rfl ?_
        refine T_iconst (1) dX12_canGo_139 rfl rfl ?_
        refine T_iast _ (hS.t_a9) rfl (by omega) (by decide) dX12_canGo_140 rfl ?_
        refine T_nm (fun M1 e1 => ?_)
        have hS := SL.mv (hS.p_move (by omega)) e1
        have hW := hW.frU e1 (by omega)
        first | refine T_iinc5 rfl (by decide) dX12_canGo_141 rfl (inc1 _) ?_ | refine T_iinc5 rfl (by decide) dX12_canGo_141 rfl rfl ?_
        refine T_goto 107 dX12_canGo_144 (by decide) ?_
        first | exact ih (k + 1) _ (by omega) (by rw [← soM_y (Decidable.byContradiction fun q => c130 (if_neg q))]; exact hS) hW (by omega) | exact ih (k + 1) _ (by omega) (by rw [soM_n (fun q => by rw [if_pos q] at c130; exact absurd c130 (by decide))]; exact hS) hW (by omega)
set_option maxHeartbeats 1000000 in
theorem L1_X12_canGo {l : Launch} {D : va_G} {cA : Nat → ClassId} {n0 : Nat} {sg adK adV : Nat → Nat} {sgA smA wdA bS LS : Nat} {xs : Nat → Int32} (hX : SF n0 (XW0 sg adK adV sgA smA wdA n0 bS LS xs)) {sz : Nat} {τ : TY} {M0 : ME} {m y s a b c hc wc sn : Nat} {ρ π : RH} {σ : Nat → Nat} {j : Nat} (hj : j < b) (hi : RI a b c ρ) (x : Int32) {μ κ : Nat → Int32} {M : ME} (hS : SL τ M0 M s a b c ρ m μ κ) (hW : WN τ M m y s a b c hc wc sn ρ π σ) : ∀ (n : Nat) (k : Nat) (p q : Int32) (hk : k ≤ b) (hp : b01 p) (hq : b01 q) (hp2 : p = 0 ↔ ∀ o, o < k → ¬ (ρ 15 o = x ∧ ¬ ρ 16 o = ρ 16 j)) (hq2 : q = 0 ↔ ∀ o, o < k → ¬ ((ρ 15 o = x ∧ ¬ ρ 16 o = ρ 16 j) ∧ ρ 14 o = 1)), b - k < n → T l D cA n0 (XW0 sg adK adV sgA smA wdA n0 bS LS xs) mX12_canGo 2 0 0 sz τ M 8 [.ref s, .int (nI j), .int x, .int p, .int q, .int (nI k)] [] (fun v' sz' τ' M' => v' = some (.int (cgF b ρ j x)) ∧ sz' = sz ∧ τ' = τ ∧ SL τ M0 M' s a b c ρ m (if cgF b ρ j x = 0 then μ else soM b ρ μ j x b) κ) (fun _ _ _ _ => False) := by
  intro n
  induction n with
  | zero => intros; omega
  | succ n ih =>
    intro k p q hk hp hq hp2 hq2 hn
    obtain ⟨l3, l4, l5, l6, l7, l8⟩ := hW.ok
    refine T_iload5 dX12_canGo_8 rfl ?_
    refine T_aload0 dX12_canGo_10 rfl ?_
    refine g12_3 _ rfl (hS.t_s) (hS.g_m) dX12_canGo_11 rfl ?_
    refine g12_75 _ rfl (hW.t_m) (hW.g_pl) dX12_canGo_14 rfl ?_
    refine g12_179 _ rfl (hW.t_q) (hW.g_horses) dX12_canGo_17 rfl ?_
    refine T_icmp_ge 78 23 dX12_canGo_20 (by decide) rfl (fun c7 => ?_) (fun c7 => ?_)
    ·
      have c7 := le_out rfl c7
      refine T_iload3 dX12_canGo_78 rfl ?_
      refine T_if_eq 104 82 dX12_canGo_79 (by decide) rfl (fun c79 => ?_) (fun c79 => ?_)
      ·
        refine T_iconst (0) dX12_canGo_104 rfl rfl ?_
        refine T_istore5 rfl (by decide) dX12_canGo_105 rfl ?_
        have hkk : k = b := by omega
        subst hkk
        have bj := (hi.1 j hj).2.2.1
        have hg : cgF k ρ j x = 1 := by
          unfold cgF
          rw [if_pos]
          intro o ho w
          first
            | exact hp2.mp c79 o ho ⟨w.1, w.2.1⟩
            | (refine w.2.2.elim c94 (fun w2 => hq2.mp c99 o ho ⟨⟨w.1, w.2.1⟩, ?_⟩)
               exact ((hi.1 o ho).2.2.1).resolve_left w2)
        exact L2_X12_canGo hX hj hi x _ _ hg (k + 1) 0 _ (Nat.zero_le _) (by rw [soM_0]; exact hS) hW (by omega)
      ·
        refine T_aload0 dX12_canGo_82 rfl ?_
        refine g12_3 _ rfl (hS.t_s) (hS.g_m) dX12_canGo_83 rfl ?_
        refine g12_75 _ rfl (hW.t_m) (hW.g_pl) dX12_canGo_86 rfl ?_
        refine g12_186 _ rfl (hW.t_q) (hW.g_bell) dX12_canGo_89 rfl ?_
        refine T_iload1 dX12_canGo_92 rfl ?_
        refine T_iald _ (hW.t_bell) rfl (by omega) (by decide) dX12_canGo_93 rfl (hW.v_bell (by omega)) ?_
        refine T_if_eq 102 97 dX12_canGo_94 (by decide) rfl (fun c94 => ?_) (fun c94 => ?_)
        ·
          refine T_iconst (0) dX12_canGo_102 rfl rfl ?_
          refine T_iret rfl rfl dX12_canGo_103 ?_
          have hkk : k = b := by omega
          subst hkk
          have hg : cgF k ρ j x = 0 := by
            unfold cgF
            refine if_neg (fun w => ?_)
            first
              | exact c79 (hp2.mpr (fun o ho z => w o ho ⟨z.1, z.2, Or.inl c94⟩))
              | exact c99 (hq2.mpr (fun o ho z => w o ho ⟨z.1.1, z.1.2, Or.inr (by rw [z.2]; decide)⟩))
          refine ⟨by rw [hg], rfl, rfl, ?_⟩
          rw [hg, if_pos rfl]
          exact hS
        ·
          refine T_iload4 dX12_canGo_97 rfl ?_
          refine T_if_eq 104 102 dX12_canGo_99 (by decide) rfl (fun c99 => ?_) (fun c99 => ?_)
          ·
            refine T_iconst (0) dX12_canGo_104 rfl rfl ?_
            refine T_istore5 rfl (by decide) dX12_canGo_105 rfl ?_
            have hkk : k = b := by omega
            subst hkk
            have bj := (hi.1 j hj).2.2.1
            have hg : cgF k ρ j x = 1 := by
              unfold cgF
              rw [if_pos]
              intro o ho w
              first
                | exact hp2.mp c79 o ho ⟨w.1, w.2.1⟩
                | (refine w.2.2.elim c94 (fun w2 => hq2.mp c99 o ho ⟨⟨w.1, w.2.1⟩, ?_⟩)
                   exact ((hi.1 o ho).2.2.1).resolve_left w2)
            exact L2_X12_canGo hX hj hi x _ _ hg (k + 1) 0 _ (Nat.zero_le _) (by rw [soM_0]; exact hS) hW (by omega)
          ·
            refine T_iconst (0) dX12_canGo_102 rfl rfl ?_
            refine T_iret rfl rfl dX12_canGo_103 ?_
            have hkk : k = b := by omega
            subst hkk
            have hg : cgF k ρ j x = 0 := by
              unfold cgF
              refine if_neg (fun w => ?_)
              first
                | exact c79 (hp2.mpr (fun o ho z => w o ho ⟨z.1, z.2, Or.inl c94⟩))
                | exact c99 (hq2.mpr (fun o ho z => w o ho ⟨z.1.1, z.1.2, Or.inr (by rw [z.2]; decide)⟩))
            refine ⟨by rw [hg], rfl, rfl, ?_⟩
            rw [hg, if_pos rfl]
            exact hS
    ·
      have c7 := lt_in rfl c7
      refine T_iload3 dX12_canGo_23 rfl ?_
      refine T_aload0 dX12_canGo_24 rfl ?_
      refine T_iload1 dX12_canGo_25 rfl ?_
      refine T_iload5 dX12_canGo_26 rfl ?_
      refine T_iload2 dX12_canGo_28 rfl ?_
      refine T_cV3 (c_X12_meets hX hS hW (by omega) (by omega) _) hX k12_182 (Or.inl ⟨_, _, _, _, (hS.t_s), by decide, rfl⟩) (by decide) (Nat.le_of_ble_eq_true rfl) dX12_canGo_29 rfl ?_
      rintro _ _ _ _ ⟨rfl, rfl, rfl, rfl⟩
      refine T_ior dX12_canGo_32 rfl ?_
      refine T_istore3 rfl (by decide) dX12_canGo_33 rfl ?_
      refine T_iload4 dX12_canGo_34 rfl ?_
      refine T_joinI 69 (fun v => v = if (ρ 15 k = x ∧ ¬ ρ 16 k = ρ 16 j) ∧ ρ 14 k = 1 then 1 else 0) (fun hJ => ?_) (fun x69 hx69 => ?_)
      ·
        refine T_aload0 dX12_canGo_36 rfl ?_
        refine T_iload1 dX12_canGo_37 rfl ?_
        refine T_iload5 dX12_canGo_38 rfl ?_
        refine T_iload2 dX12_canGo_40 rfl ?_
        refine T_cV3 (c_X12_meets hX hS hW (by omega) (by omega) _) hX k12_182 (Or.inl ⟨_, _, _, _, (hS.t_s), by decide, rfl⟩) (by decide) (Nat.le_of_ble_eq_true rfl) dX12_canGo_41 rfl ?_
        rintro _ _ _ _ ⟨rfl, rfl, rfl, rfl⟩
        refine T_if_eq 68 47 dX12_canGo_44 (by decide) rfl (fun c44 => ?_) (fun c44 => ?_)
        ·
          refine T_iconst (0) dX12_canGo_68 rfl rfl ?_
          refine hJ _ ?_
          first | exact (if_neg (fun z => by rw [if_pos z.1] at c44; exact absurd c44 (by decide))).symm | exact (if_neg (fun z => c61 z.2)).symm | exact (if_pos (And.intro (Decidable.byContradiction fun z => c44 (if_neg z)) c61)).symm
        ·
          refine T_aload0 dX12_canGo_47 rfl ?_
          refine g12_3 _ rfl (hS.t_s) (hS.g_m) dX12_canGo_48 rfl ?_
          refine g12_75 _ rfl (hW.t_m) (hW.g_pl) dX12_canGo_51 rfl ?_
          refine g12_186 _ rfl (hW.t_q) (hW.g_bell) dX12_canGo_54 rfl ?_
          refine T_iload5 dX12_canGo_57 rfl ?_
          refine T_iald _ (hW.t_bell) rfl (by omega) (by decide) dX12_canGo_59 rfl (hW.v_bell (by omega)) ?_
          refine T_iconst (1) dX12_canGo_60 rfl rfl ?_
          refine T_icmp_ne 68 64 dX12_canGo_61 (by decide) rfl (fun c61 => ?_) (fun c61 => ?_)
          ·
            refine T_iconst (0) dX12_canGo_68 rfl rfl ?_
            refine hJ _ ?_
            first | exact (if_neg (fun z => by rw [if_pos z.1] at c44; exact absurd c44 (by decide))).symm | exact (if_neg (fun z => c61 z.2)).symm | exact (if_pos (And.intro (Decidable.byContradiction fun z => c44 (if_neg z)) c61)).symm
          ·
            refine T_iconst (1) dX12_canGo_64 rfl rfl ?_
            refine T_goto 69 dX12_canGo_65 (by decide) ?_
            refine hJ _ ?_
            first | exact (if_neg (fun z => by rw [if_pos z.1] at c44; exact absurd c44 (by decide))).symm | exact (if_neg (fun z => c61 z.2)).symm | exact (if_pos (And.intro (Decidable.byContradiction fun z => c44 (if_neg z)) c61)).symm
      ·
        refine T_ior dX12_canGo_69 rfl ?_
        refine T_istore4 rfl (by decide) dX12_canGo_70 rfl ?_
        first | refine T_iinc5 rfl (by decide) dX12_canGo_72 rfl (inc1 _) ?_ | refine T_iinc5 rfl (by decide) dX12_canGo_72 rfl rfl ?_
        refine T_goto 8 dX12_canGo_75 (by decide) ?_
        have bm : b01 (if ρ 15 k = x ∧ ¬ ρ 16 k = ρ 16 j then (1 : Int32) else 0) := by split <;> simp [b01]
        have bq : b01 x69 := by rw [hx69]; split <;> simp [b01]
        have o1 := or_b hp bm
        have o2 := or_b hq bq
        refine ih (k + 1) _ _ (by omega) o1.1 o2.1 ?_ ?_ (by omega)
        · rw [o1.2, hp2]
          refine ⟨fun z o ho => (Nat.lt_succ_iff_lt_or_eq.mp ho).elim (z.1 o) (fun e => by subst e; intro w; have z2 := z.2; rw [if_pos w] at z2; exact absurd z2 (by decide)), fun z => ⟨fun o ho => z o (by omega), if_neg (z k (by omega))⟩⟩
        · rw [o2.2, hq2, hx69]
          refine ⟨fun z o ho => (Nat.lt_succ_iff_lt_or_eq.mp ho).elim (z.1 o) (fun e => by subst e; intro w; have z2 := z.2; rw [if_pos w] at z2; exact absurd z2 (by decide)), fun z => ⟨fun o ho => z o (by omega), if_neg (z k (by omega))⟩⟩
set_option maxHeartbeats 1000000 in
theorem c_X12_canGo {l : Launch} {D : va_G} {cA : Nat → ClassId} {n0 : Nat} {sg adK adV : Nat → Nat} {sgA smA wdA bS LS : Nat} {xs : Nat → Int32} (hX : SF n0 (XW0 sg adK adV sgA smA wdA n0 bS LS xs)) {sz : Nat} {τ : TY} {M0 M : ME} {m y s a b c hc wc sn : Nat} {ρ π : RH} {σ : Nat → Nat} {μ κ : Nat → Int32} (hS : SL τ M0 M s a b c ρ m μ κ) (hW : WN τ M m y s a b c hc wc sn ρ π σ) {j : Nat} (hj : j < b) (hi : RI a b c ρ) (x : Int32) : CT l D cA n0 (XW0 sg adK adV sgA smA wdA n0 bS LS xs) mX12_canGo 2 0 0 sz τ M [.ref s, .int (nI j), .int x] (fun v' sz' τ' M' => v' = some (.int (cgF b ρ j x)) ∧ sz' = sz ∧ τ' = τ ∧ SL τ M0 M' s a b c ρ m (if cgF b ρ j x = 0 then μ else soM b ρ μ j x b) κ) := by
  refine CT.of (ls := [.ref s, .int (nI j), .int x, UU, UU, UU]) (by decide) (Nat.le_of_ble_eq_true rfl) rfl ?_
  refine T_iconst (0) dX12_canGo_0 rfl rfl ?_
  refine T_istore3 rfl (by decide) dX12_canGo_1 rfl ?_
  refine T_iconst (0) dX12_canGo_2 rfl rfl ?_
  refine T_istore4 rfl (by decide) dX12_canGo_3 rfl ?_
  refine T_iconst (0) dX12_canGo_5 rfl rfl ?_
  refine T_istore5 rfl (by decide) dX12_canGo_6 rfl ?_
  exact L1_X12_canGo hX hj hi x hS hW (b + 1) 0 0 0 (Nat.zero_le _) (Or.inl rfl) (Or.inl rfl) ⟨fun _ _ h => absurd h (Nat.not_lt_zero _), fun _ => rfl⟩ ⟨fun _ _ h => absurd h (Nat.not_lt_zero _), fun _ => rfl⟩ (by omega)
