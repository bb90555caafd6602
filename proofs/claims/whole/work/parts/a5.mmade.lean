/-! the reference is made -/
theorem AL.pf {z slot : Nat} {f0 : Nat → Value} {τ0 τ : TY} {M0 M M1 : ME} {done : List (Nat × Nat)} {v : Value} (h : AL z f0 τ0 M0 done τ M) (hn : ¬ slot ∈ done.map Prod.fst) (e : M1 = up M z slot v) : AL z (fun k => if k = slot then v else f0 k) τ0 M0 done τ M1 := by
  subst e
  obtain ⟨h1, h2, h3, h4⟩ := h
  refine ⟨fun j hj => ?_, fun k hk => ?_, fun b hb => ⟨(h3 b hb).1, by rw [up_a (by omega)]; exact (h3 b hb).2⟩, h4⟩
  · obtain ⟨g1, g2, g3⟩ := h1 j hj
    have hsl : ¬ (done.getD j (0, 0)).1 = slot := fun q => hn (by
      rw [← q]
      refine List.mem_map.mpr ⟨done.getD j (0, 0), ?_, rfl⟩
      rw [List.getD_eq_getElem?_getD, List.getElem?_eq_getElem hj]
      exact List.getElem_mem hj)
    refine ⟨g1, ?_, fun i => by rw [up_a (by omega)]; exact g3 i⟩
    unfold up; rw [if_pos rfl, if_neg hsl]; exact g2
  · show up M z slot v z k = if k = slot then v else f0 k
    unfold up; rw [if_pos rfl]
    by_cases e : k = slot
    · rw [if_pos e, if_pos e]
    · rw [if_neg e, if_neg e]; exact h2 k hk
theorem AL.mv9 {z n : Nat} {f0 : Nat → Value} {τ0 τ τ1 : TY} {M0 M M1 : ME} {done : List (Nat × Nat)} (h : AL z f0 τ0 M0 done τ M) (hn : done.length = n) (e : ∀ b, b < z + 1 + n → τ1 b = τ b ∧ M1 b = M b) : AL z f0 τ0 M0 done τ1 M1 := by
  subst hn
  obtain ⟨h1, h2, h3, h4⟩ := h
  refine ⟨fun j hj => ?_, fun k hk => by rw [(e z (by omega)).2]; exact h2 k hk, fun b hb => ⟨(e b (by omega)).1.trans (h3 b hb).1, (e b (by omega)).2.trans (h3 b hb).2⟩, (e z (by omega)).1.trans h4⟩
  obtain ⟨g1, g2, g3⟩ := h1 j hj
  exact ⟨(e _ (by omega)).1.trans g1, by rw [(e z (by omega)).2]; exact g2, fun i => by rw [(e _ (by omega)).2]; exact g3 i⟩
set_option maxHeartbeats 1000000 in
theorem c_X12_init {l : Launch} {D : va_G} {cA : Nat → ClassId} {n0 : Nat} {sg adK adV : Nat → Nat} {sgA smA wdA bS LS : Nat} {xs : Nat → Int32} (hX : SF n0 (XW0 sg adK adV sgA smA wdA n0 bS LS xs)) {τ : TY} {M : ME} {z m : Nat} (ht : τ z = (10, 0)) (hm : M z = f0X12) : CT l D cA n0 (XW0 sg adK adV sgA smA wdA n0 bS LS xs) mX12_init 1 13 516 (z + 1) τ M [.ref z, .ref m] (fun v' sz' τ' M' => v' = none ∧ sz' = z + 14 ∧ SV τ' M' M' z m (fun _ _ => 0) (fun _ => 0) (fun _ => 0) ∧ ∀ b, b < z → τ' b = τ b ∧ M' b = M b) := by
  refine CT.of (ls := [.ref z, .ref m]) (by decide) (Nat.le_of_ble_eq_true rfl) rfl ?_
  have hA := AL.nil (τ := τ) (M := M) (z := z) hm
  refine T_aload0 dX12_init_0 rfl ?_
  refine T_aload1 dX12_init_1 rfl ?_
  refine p12_3 rfl rfl ht dX12_init_2 rfl ?_
  refine T_nm (fun M2 e2 => ?_)
  have hA := hA.pf (by decide) e2
  clear e2
  refine T_aload0 dX12_init_5 rfl ?_
  refine T_obj ko12_9 ko1 ko2 (by decide) (Nat.le_of_ble_eq_true rfl) dX12_init_6 rfl ?_
  refine T_aload0 dX12_init_9 rfl ?_
  refine T_bipush (8) dX12_init_10 rfl rfl ?_
  refine T_newa (atype := .int) (N := 8) 0 (fun _ => .int 0) w360 (by decide) rfl rfl (by decide) rfl dX12_init_12 rfl ?_
  refine T_nt (fun τ1 eτ => ?_)
  refine T_nm (fun M1 e1 => ?_)
  refine p12_15 rfl rfl (by rw [eτ, tyN_n (by omega)]; exact hA.2.2.2.trans ht) dX12_init_14 rfl ?_
  refine T_nm (fun M2 e2 => ?_)
  have hA : AL z _ τ M [(3, 8)] τ1 M2 := hA.nx (slot := 3) (N := 8) rfl eτ e1 e2 (by decide)
  clear eτ e1 e2
  refine T_aload0 dX12_init_17 rfl ?_
  refine T_bipush (6) dX12_init_18 rfl rfl ?_
  refine T_newa (atype := .int) (N := 6) 0 (fun _ => .int 0) w360 (by decide) rfl rfl (by decide) rfl dX12_init_20 rfl ?_
  refine T_nt (fun τ1 eτ => ?_)
  refine T_nm (fun M1 e1 => ?_)
  refine p12_19 rfl rfl (by rw [eτ, tyN_n (by omega)]; exact hA.2.2.2.trans ht) dX12_init_22 rfl ?_
  refine T_nm (fun M2 e2 => ?_)
  have hA : AL z _ τ M [(3, 8), (4, 6)] τ1 M2 := hA.nx (slot := 4) (N := 6) rfl eτ e1 e2 (by decide)
  clear eτ e1 e2
  refine T_aload0 dX12_init_25 rfl ?_
  refine T_bipush (6) dX12_init_26 rfl rfl ?_
  refine T_newa (atype := .int) (N := 6) 0 (fun _ => .int 0) w360 (by decide) rfl rfl (by decide) rfl dX12_init_28 rfl ?_
  refine T_nt (fun τ1 eτ => ?_)
  refine T_nm (fun M1 e1 => ?_)
  refine p12_22 rfl rfl (by rw [eτ, tyN_n (by omega)]; exact hA.2.2.2.trans ht) dX12_init_30 rfl ?_
  refine T_nm (fun M2 e2 => ?_)
  have hA : AL z _ τ M [(3, 8), (4, 6), (5, 6)] τ1 M2 := hA.nx (slot := 5) (N := 6) rfl eτ e1 e2 (by decide)
  clear eτ e1 e2
  refine T_aload0 dX12_init_33 rfl ?_
  refine T_bipush (6) dX12_init_34 rfl rfl ?_
  refine T_newa (atype := .int) (N := 6) 0 (fun _ => .int 0) w360 (by decide) rfl rfl (by decide) rfl dX12_init_36 rfl ?_
  refine T_nt (fun τ1 eτ => ?_)
  refine T_nm (fun M1 e1 => ?_)
  refine p12_25 rfl rfl (by rw [eτ, tyN_n (by omega)]; exact hA.2.2.2.trans ht) dX12_init_38 rfl ?_
  refine T_nm (fun M2 e2 => ?_)
  have hA : AL z _ τ M [(3, 8), (4, 6), (5, 6), (6, 6)] τ1 M2 := hA.nx (slot := 6) (N := 6) rfl eτ e1 e2 (by decide)
  clear eτ e1 e2
  refine T_aload0 dX12_init_41 rfl ?_
  refine T_bipush (6) dX12_init_42 rfl rfl ?_
  refine T_newa (atype := .int) (N := 6) 0 (fun _ => .int 0) w360 (by decide) rfl rfl (by decide) rfl dX12_init_44 rfl ?_
  refine T_nt (fun τ1 eτ => ?_)
  refine T_nm (fun M1 e1 => ?_)
  refine p12_28 rfl rfl (by rw [eτ, tyN_n (by omega)]; exact hA.2.2.2.trans ht) dX12_init_46 rfl ?_
  refine T_nm (fun M2 e2 => ?_)
  have hA : AL z _ τ M [(3, 8), (4, 6), (5, 6), (6, 6), (7, 6)] τ1 M2 := hA.nx (slot := 7) (N := 6) rfl eτ e1 e2 (by decide)
  clear eτ e1 e2
  refine T_aload0 dX12_init_49 rfl ?_
  refine T_bipush (6) dX12_init_50 rfl rfl ?_
  refine T_newa (atype := .int) (N := 6) 0 (fun _ => .int 0) w360 (by decide) rfl rfl (by decide) rfl dX12_init_52 rfl ?_
  refine T_nt (fun τ1 eτ => ?_)
  refine T_nm (fun M1 e1 => ?_)
  refine p12_31 rfl rfl (by rw [eτ, tyN_n (by omega)]; exact hA.2.2.2.trans ht) dX12_init_54 rfl ?_
  refine T_nm (fun M2 e2 => ?_)
  have hA : AL z _ τ M [(3, 8), (4, 6), (5, 6), (6, 6), (7, 6), (8, 6)] τ1 M2 := hA.nx (slot := 8) (N := 6) rfl eτ e1 e2 (by decide)
  clear eτ e1 e2
  refine T_aload0 dX12_init_57 rfl ?_
  refine T_bipush (6) dX12_init_58 rfl rfl ?_
  refine T_newa (atype := .int) (N := 6) 0 (fun _ => .int 0) w360 (by decide) rfl rfl (by decide) rfl dX12_init_60 rfl ?_
  refine T_nt (fun τ1 eτ => ?_)
  refine T_nm (fun M1 e1 => ?_)
  refine p12_34 rfl rfl (by rw [eτ, tyN_n (by omega)]; exact hA.2.2.2.trans ht) dX12_init_62 rfl ?_
  refine T_nm (fun M2 e2 => ?_)
  have hA : AL z _ τ M [(3, 8), (4, 6), (5, 6), (6, 6), (7, 6), (8, 6), (9, 6)] τ1 M2 := hA.nx (slot := 9) (N := 6) rfl eτ e1 e2 (by decide)
  clear eτ e1 e2
  refine T_aload0 dX12_init_65 rfl ?_
  refine T_bipush (6) dX12_init_66 rfl rfl ?_
  refine T_newa (atype := .int) (N := 6) 0 (fun _ => .int 0) w360 (by decide) rfl rfl (by decide) rfl dX12_init_68 rfl ?_
  refine T_nt (fun τ1 eτ => ?_)
  refine T_nm (fun M1 e1 => ?_)
  refine p12_37 rfl rfl (by rw [eτ, tyN_n (by omega)]; exact hA.2.2.2.trans ht) dX12_init_70 rfl ?_
  refine T_nm (fun M2 e2 => ?_)
  have hA : AL z _ τ M [(3, 8), (4, 6), (5, 6), (6, 6), (7, 6), (8, 6), (9, 6), (10, 6)] τ1 M2 := hA.nx (slot := 10) (N := 6) rfl eτ e1 e2 (by decide)
  clear eτ e1 e2
  refine T_aload0 dX12_init_73 rfl ?_
  refine T_bipush (6) dX12_init_74 rfl rfl ?_
  refine T_newa (atype := .int) (N := 6) 0 (fun _ => .int 0) w360 (by decide) rfl rfl (by decide) rfl dX12_init_76 rfl ?_
  refine T_nt (fun τ1 eτ => ?_)
  refine T_nm (fun M1 e1 => ?_)
  refine p12_40 rfl rfl (by rw [eτ, tyN_n (by omega)]; exact hA.2.2.2.trans ht) dX12_init_78 rfl ?_
  refine T_nm (fun M2 e2 => ?_)
  have hA : AL z _ τ M [(3, 8), (4, 6), (5, 6), (6, 6), (7, 6), (8, 6), (9, 6), (10, 6), (11, 6)] τ1 M2 := hA.nx (slot := 11) (N := 6) rfl eτ e1 e2 (by decide)
  clear eτ e1 e2
  refine T_aload0 dX12_init_81 rfl ?_
  refine T_bipush (20) dX12_init_82 rfl rfl ?_
  refine T_newa (atype := .int) (N := 20) 0 (fun _ => .int 0) w360 (by decide) rfl rfl (by decide) rfl dX12_init_84 rfl ?_
  refine T_nt (fun τ1 eτ => ?_)
  refine T_nm (fun M1 e1 => ?_)
  refine p12_43 rfl rfl (by rw [eτ, tyN_n (by omega)]; exact hA.2.2.2.trans ht) dX12_init_86 rfl ?_
  refine T_nm (fun M2 e2 => ?_)
  have hA : AL z _ τ M [(3, 8), (4, 6), (5, 6), (6, 6), (7, 6), (8, 6), (9, 6), (10, 6), (11, 6), (12, 20)] τ1 M2 := hA.nx (slot := 12) (N := 20) rfl eτ e1 e2 (by decide)
  clear eτ e1 e2
  refine T_aload0 dX12_init_89 rfl ?_
  refine T_bipush (20) dX12_init_90 rfl rfl ?_
  refine T_newa (atype := .int) (N := 20) 0 (fun _ => .int 0) w360 (by decide) rfl rfl (by decide) rfl dX12_init_92 rfl ?_
  refine T_nt (fun τ1 eτ => ?_)
  refine T_nm (fun M1 e1 => ?_)
  refine p12_46 rfl rfl (by rw [eτ, tyN_n (by omega)]; exact hA.2.2.2.trans ht) dX12_init_94 rfl ?_
  refine T_nm (fun M2 e2 => ?_)
  have hA : AL z _ τ M [(3, 8), (4, 6), (5, 6), (6, 6), (7, 6), (8, 6), (9, 6), (10, 6), (11, 6), (12, 20), (13, 20)] τ1 M2 := hA.nx (slot := 13) (N := 20) rfl eτ e1 e2 (by decide)
  clear eτ e1 e2
  refine T_aload0 dX12_init_97 rfl ?_
  refine T_bipush (20) dX12_init_98 rfl rfl ?_
  refine T_newa (atype := .int) (N := 20) 0 (fun _ => .int 0) w360 (by decide) rfl rfl (by decide) rfl dX12_init_100 rfl ?_
  refine T_nt (fun τ1 eτ => ?_)
  refine T_nm (fun M1 e1 => ?_)
  refine p12_49 rfl rfl (by rw [eτ, tyN_n (by omega)]; exact hA.2.2.2.trans ht) dX12_init_102 rfl ?_
  refine T_nm (fun M2 e2 => ?_)
  have hA : AL z _ τ M [(3, 8), (4, 6), (5, 6), (6, 6), (7, 6), (8, 6), (9, 6), (10, 6), (11, 6), (12, 20), (13, 20), (14, 20)] τ1 M2 := hA.nx (slot := 14) (N := 20) rfl eτ e1 e2 (by decide)
  clear eτ e1 e2
  refine T_aload0 dX12_init_105 rfl ?_
  refine T_sipush (400) dX12_init_106 rfl rfl ?_
  refine T_newa (atype := .int) (N := 400) 0 (fun _ => .int 0) w360 (by decide) rfl rfl (by decide) rfl dX12_init_109 rfl ?_
  refine T_nt (fun τ1 eτ => ?_)
  refine T_nm (fun M1 e1 => ?_)
  refine p12_52 rfl rfl (by rw [eτ, tyN_n (by omega)]; exact hA.2.2.2.trans ht) dX12_init_111 rfl ?_
  refine T_nm (fun M2 e2 => ?_)
  have hA : AL z _ τ M [(3, 8), (4, 6), (5, 6), (6, 6), (7, 6), (8, 6), (9, 6), (10, 6), (11, 6), (12, 20), (13, 20), (14, 20), (15, 400)] τ1 M2 := hA.nx (slot := 15) (N := 400) rfl eτ e1 e2 (by decide)
  clear eτ e1 e2
  refine T_vret rfl dX12_init_114 ?_
  exact ⟨rfl, rfl, ⟨hA.2.2.2.trans ht, (hA.1 0 (by decide)).1, (hA.1 1 (by decide)).1, (hA.1 2 (by decide)).1, (hA.1 3 (by decide)).1, (hA.1 4 (by decide)).1, (hA.1 5 (by decide)).1, (hA.1 6 (by decide)).1, (hA.1 7 (by decide)).1, (hA.1 8 (by decide)).1, (hA.1 9 (by decide)).1, (hA.1 10 (by decide)).1, (hA.1 11 (by decide)).1, (hA.1 12 (by decide)).1, (hA.1 0 (by decide)).2.1, (hA.1 1 (by decide)).2.1, (hA.1 2 (by decide)).2.1, (hA.1 3 (by decide)).2.1, (hA.1 4 (by decide)).2.1, (hA.1 5 (by decide)).2.1, (hA.1 6 (by decide)).2.1, (hA.1 7 (by decide)).2.1, (hA.1 8 (by decide)).2.1, (hA.1 9 (by decide)).2.1, (hA.1 10 (by decide)).2.1, (hA.1 11 (by decide)).2.1, (hA.1 12 (by decide)).2.1, hA.2.1 16 (by decide), hA.2.1 0 (by decide), hA.2.1 1 (by decide), hA.2.1 2 (by decide), fun i _ => (hA.1 0 (by decide)).2.2 i, fun i _ => (hA.1 1 (by decide)).2.2 i, fun i _ => (hA.1 2 (by decide)).2.2 i, fun i _ => (hA.1 3 (by decide)).2.2 i, fun i _ => (hA.1 4 (by decide)).2.2 i, fun i _ => (hA.1 5 (by decide)).2.2 i, fun i _ => (hA.1 6 (by decide)).2.2 i, fun i _ => (hA.1 7 (by decide)).2.2 i, fun i _ => (hA.1 8 (by decide)).2.2 i, fun i _ => (hA.1 9 (by decide)).2.2 i, fun i _ => (hA.1 10 (by decide)).2.2 i, fun i _ => (hA.1 11 (by decide)).2.2 i, fun i _ => (hA.1 12 (by decide)).2.2 i, Fr.rf _ _ _⟩, hA.2.2.1⟩
set_option maxHeartbeats 2000000 in
theorem c_X13_init {l : Launch} {D : va_G} {cA : Nat → ClassId} {n0 : Nat} {sg adK adV : Nat → Nat} {sgA smA wdA bS LS : Nat} {xs : Nat → Int32} (hX : SF n0 (XW0 sg adK adV sgA smA wdA n0 bS LS xs)) {τ : TY} {M : ME} {m : Nat} (ht : τ m = (11, 0)) (hm : M m = f0X13) : CT l D cA n0 (XW0 sg adK adV sgA smA wdA n0 bS LS xs) mX13_init 4 53 6467 (m + 1) τ M [.ref m] (fun v' sz' τ' M' => v' = none ∧ sz' = m + 54 ∧ (∃ ω, MV τ' M' M' m (m + 7) (m + 7) (m + 26) (m + 40) 0 0 0 (fun _ => 0) ω ∧ ω 90 0 = 0 ∧ ω 91 0 = -1) ∧ PV τ' M' M' (m + 7) 0 0 0 0 0 0 0 0 0 (fun _ _ => 0) ∧ (∃ ρ', SV τ' M' M' (m + 26) m ρ' (fun _ => 0) (fun _ => 0) ∧ BGN (fun _ _ => 0) (fun _ _ => 0) ρ') ∧ SV τ' M' M' (m + 40) m (fun _ _ => 0) (fun _ => 0) (fun _ => 0) ∧ ∀ b, b < m → τ' b = τ b ∧ M' b = M b) := by
  refine CT.of (ls := [.ref m]) (by decide) (Nat.le_of_ble_eq_true rfl) rfl ?_
  have hA := AL.nil (τ := τ) (M := M) (z := m) hm
  refine T_aload0 dX13_init_0 rfl ?_
  refine T_obj ko13_1 ko1 ko2 (by decide) (Nat.le_of_ble_eq_true rfl) dX13_init_1 rfl ?_
  refine T_aload0 dX13_init_4 rfl ?_
  refine T_sipush (2000) dX13_init_5 rfl rfl ?_
  refine T_newa (atype := .int) (N := 2000) 0 (fun _ => .int 0) w360 (by decide) rfl rfl (by decide) rfl dX13_init_8 rfl ?_
  refine T_nt (fun τ1 eτ => ?_)
  refine T_nm (fun M1 e1 => ?_)
  refine p13_9 rfl rfl (by rw [eτ, tyN_n (by omega)]; exact hA.2.2.2.trans ht) dX13_init_10 rfl ?_
  refine T_nm (fun M2 e2 => ?_)
  have hA : AL m _ τ M [(1, 2000)] τ1 M2 := hA.nx (slot := 1) (N := 2000) rfl eτ e1 e2 (by decide)
  clear eτ e1 e2
  refine T_aload0 dX13_init_13 rfl ?_
  refine T_iconst (-1) dX13_init_14 rfl rfl ?_
  refine p13_13 rfl (hA.2.2.2.trans ht) dX13_init_15 rfl ?_
  refine T_nm (fun M2 e2 => ?_)
  have hA := hA.pf (by decide) e2
  clear e2
  refine T_aload0 dX13_init_18 rfl ?_
  refine T_sipush (401) dX13_init_19 rfl rfl ?_
  refine T_newa (atype := .int) (N := 401) 0 (fun _ => .int 0) w360 (by decide) rfl rfl (by decide) rfl dX13_init_22 rfl ?_
  refine T_nt (fun τ1 eτ => ?_)
  refine T_nm (fun M1 e1 => ?_)
  refine p13_17 rfl rfl (by rw [eτ, tyN_n (by omega)]; exact hA.2.2.2.trans ht) dX13_init_24 rfl ?_
  refine T_nm (fun M2 e2 => ?_)
  have hA : AL m _ τ M [(1, 2000), (4, 401)] τ1 M2 := hA.nx (slot := 4) (N := 401) rfl eτ e1 e2 (by decide)
  clear eτ e1 e2
  refine T_aload0 dX13_init_27 rfl ?_
  refine T_sipush (401) dX13_init_28 rfl rfl ?_
  refine T_newa (atype := .int) (N := 401) 0 (fun _ => .int 0) w360 (by decide) rfl rfl (by decide) rfl dX13_init_31 rfl ?_
  refine T_nt (fun τ1 eτ => ?_)
  refine T_nm (fun M1 e1 => ?_)
  refine p13_20 rfl rfl (by rw [eτ, tyN_n (by omega)]; exact hA.2.2.2.trans ht) dX13_init_33 rfl ?_
  refine T_nm (fun M2 e2 => ?_)
  have hA : AL m _ τ M [(1, 2000), (4, 401), (5, 401)] τ1 M2 := hA.nx (slot := 5) (N := 401) rfl eτ e1 e2 (by decide)
  clear eτ e1 e2
  refine T_aload0 dX13_init_36 rfl ?_
  refine T_sipush (401) dX13_init_37 rfl rfl ?_
  refine T_newa (atype := .int) (N := 401) 0 (fun _ => .int 0) w360 (by decide) rfl rfl (by decide) rfl dX13_init_40 rfl ?_
  refine T_nt (fun τ1 eτ => ?_)
  refine T_nm (fun M1 e1 => ?_)
  refine p13_23 rfl rfl (by rw [eτ, tyN_n (by omega)]; exact hA.2.2.2.trans ht) dX13_init_42 rfl ?_
  refine T_nm (fun M2 e2 => ?_)
  have hA : AL m _ τ M [(1, 2000), (4, 401), (5, 401), (6, 401)] τ1 M2 := hA.nx (slot := 6) (N := 401) rfl eτ e1 e2 (by decide)
  clear eτ e1 e2
  refine T_aload0 dX13_init_45 rfl ?_
  refine T_sipush (401) dX13_init_46 rfl rfl ?_
  refine T_newa (atype := .int) (N := 401) 0 (fun _ => .int 0) w360 (by decide) rfl rfl (by decide) rfl dX13_init_49 rfl ?_
  refine T_nt (fun τ1 eτ => ?_)
  refine T_nm (fun M1 e1 => ?_)
  refine p13_26 rfl rfl (by rw [eτ, tyN_n (by omega)]; exact hA.2.2.2.trans ht) dX13_init_51 rfl ?_
  refine T_nm (fun M2 e2 => ?_)
  have hA : AL m _ τ M [(1, 2000), (4, 401), (5, 401), (6, 401), (7, 401)] τ1 M2 := hA.nx (slot := 7) (N := 401) rfl eτ e1 e2 (by decide)
  clear eτ e1 e2
  refine T_aload0 dX13_init_54 rfl ?_
  refine T_sipush (401) dX13_init_55 rfl rfl ?_
  refine T_newa (atype := .int) (N := 401) 0 (fun _ => .int 0) w360 (by decide) rfl rfl (by decide) rfl dX13_init_58 rfl ?_
  refine T_nt (fun τ1 eτ => ?_)
  refine T_nm (fun M1 e1 => ?_)
  refine p13_29 rfl rfl (by rw [eτ, tyN_n (by omega)]; exact hA.2.2.2.trans ht) dX13_init_60 rfl ?_
  refine T_nm (fun M2 e2 => ?_)
  have hA : AL m _ τ M [(1, 2000), (4, 401), (5, 401), (6, 401), (7, 401), (8, 401)] τ1 M2 := hA.nx (slot := 8) (N := 401) rfl eτ e1 e2 (by decide)
  clear eτ e1 e2
  refine T_aload0 dX13_init_63 rfl ?_
  refine n13_32 rfl dX13_init_64 rfl ?_
  refine T_nt (fun τ1 eτ => ?_)
  refine T_nm (fun Mn en => ?_)
  have hA := hA.mv9 (n := 6) rfl (τ1 := τ1) (M1 := Mn) (fun b hb => ⟨by rw [eτ]; exact tyN_n (by omega), by rw [en]; exact meN_n (by omega)⟩)
  refine T_dup dX13_init_67 rfl rfl ?_
  refine T_cIN0 (c_X11_init hX (z := m + 7) (by rw [eτ]; exact tyN_s _ _ _) (by rw [en]; exact meN_s _ _ _)) hX k13_34 (by decide) (Nat.le_of_ble_eq_true rfl) dX13_init_68 rfl ?_
  rintro _ _ τ2 M9 ⟨rfl, rfl, hV, hfr⟩
  have hA := hA.mv9 (n := 6) rfl (τ1 := τ2) (M1 := M9) (fun b hb => ⟨(hfr b (by omega)).1, (hfr b (by omega)).2⟩)
  clear eτ en
  refine p13_35 rfl (hA.2.2.2.trans ht) dX13_init_71 rfl ?_
  refine T_nm (fun M2 e2 => ?_)
  have hA := hA.pf (by decide) e2
  have hV := hV.frU e2 (by omega)
  clear e2
  refine T_aload0 dX13_init_74 rfl ?_
  refine T_aload0 dX13_init_75 rfl ?_
  refine g13_35 _ rfl (hA.2.2.2.trans ht) (hA.2.1 11 (by decide)) dX13_init_76 rfl ?_
  refine p13_39 rfl (hA.2.2.2.trans ht) dX13_init_79 rfl ?_
  refine T_nm (fun M2 e2 => ?_)
  have hA := hA.pf (by decide) e2
  have hV := hV.frU e2 (by omega)
  clear e2
  refine T_aload0 dX13_init_82 rfl ?_
  refine n13_42 rfl dX13_init_83 rfl ?_
  refine T_nt (fun τ1 eτ => ?_)
  refine T_nm (fun Mn en => ?_)
  have hA := hA.mv9 (n := 6) rfl (τ1 := τ1) (M1 := Mn) (fun b hb => ⟨by rw [eτ]; exact tyN_n (by omega), by rw [en]; exact meN_n (by omega)⟩)
  have hV := (hV.tau (τ' := τ1) (fun q g1 g2 => by rw [eτ]; exact tyN_n (by omega))).fr (M1 := Mn) (fun q g1 g2 => by rw [en]; exact meN_n (by omega))
  refine T_dup dX13_init_86 rfl rfl ?_
  refine T_aload0 dX13_init_87 rfl ?_
  refine T_cIN1 (c_X12_init hX (z := m + 26) (m := m) (by rw [eτ]; exact tyN_s _ _ _) (by rw [en]; exact meN_s _ _ _)) hX k13_44 (by decide) (Nat.le_of_ble_eq_true rfl) dX13_init_88 rfl ?_
  rintro _ _ τ2 M9 ⟨rfl, rfl, hS, hfr⟩
  have hA := hA.mv9 (n := 6) rfl (τ1 := τ2) (M1 := M9) (fun b hb => ⟨(hfr b (by omega)).1, (hfr b (by omega)).2⟩)
  have hV := (hV.tau (τ' := τ2) (fun q g1 g2 => (hfr q (by omega)).1)).fr (M1 := M9) (fun q g1 g2 => (hfr q (by omega)).2)
  clear eτ en
  refine p13_47 rfl rfl (hA.2.2.2.trans ht) dX13_init_91 rfl ?_
  refine T_nm (fun M2 e2 => ?_)
  have hA := hA.pf (by decide) e2
  have hV := hV.frU e2 (by omega)
  have hS := hS.frU e2 (by omega)
  clear e2
  refine T_aload0 dX13_init_94 rfl ?_
  refine n13_42 rfl dX13_init_95 rfl ?_
  refine T_nt (fun τ1 eτ => ?_)
  refine T_nm (fun Mn en => ?_)
  have hA := hA.mv9 (n := 6) rfl (τ1 := τ1) (M1 := Mn) (fun b hb => ⟨by rw [eτ]; exact tyN_n (by omega), by rw [en]; exact meN_n (by omega)⟩)
  have hV := (hV.tau (τ' := τ1) (fun q g1 g2 => by rw [eτ]; exact tyN_n (by omega))).fr (M1 := Mn) (fun q g1 g2 => by rw [en]; exact meN_n (by omega))
  have hS := (hS.tau (τ' := τ1) (fun q g1 g2 => by rw [eτ]; exact tyN_n (by omega))).fr (M1 := Mn) (fun q g1 g2 => by rw [en]; exact meN_n (by omega))
  refine T_dup dX13_init_98 rfl rfl ?_
  refine T_aload0 dX13_init_99 rfl ?_
  refine T_cIN1 (c_X12_init hX (z := m + 40) (m := m) (by rw [eτ]; exact tyN_s _ _ _) (by rw [en]; exact meN_s _ _ _)) hX k13_44 (by decide) (Nat.le_of_ble_eq_true rfl) dX13_init_100 rfl ?_
  rintro _ _ τ2 M9 ⟨rfl, rfl, hS2, hfr⟩
  have hA := hA.mv9 (n := 6) rfl (τ1 := τ2) (M1 := M9) (fun b hb => ⟨(hfr b (by omega)).1, (hfr b (by omega)).2⟩)
  have hV := (hV.tau (τ' := τ2) (fun q g1 g2 => (hfr q (by omega)).1)).fr (M1 := M9) (fun q g1 g2 => (hfr q (by omega)).2)
  have hS := (hS.tau (τ' := τ2) (fun q g1 g2 => (hfr q (by omega)).1)).fr (M1 := M9) (fun q g1 g2 => (hfr q (by omega)).2)
  clear eτ en
  refine p13_51 rfl rfl (hA.2.2.2.trans ht) dX13_init_103 rfl ?_
  refine T_nm (fun M2 e2 => ?_)
  have hA := hA.pf (by decide) e2
  have hV := hV.frU e2 (by omega)
  have hS := hS.frU e2 (by omega)
  have hS2 := hS2.frU e2 (by omega)
  clear e2
  have hM : MV _ _ _ m (m + 7) (m + 7) (m + 26) (m + 40) 0 0 0 (fun _ => 0) (fun f i => if f = 91 then -1 else 0) := ⟨hA.2.2.2.trans ht, (hA.1 0 (by decide)).1, (hA.1 1 (by decide)).1, (hA.1 2 (by decide)).1, (hA.1 3 (by decide)).1, (hA.1 4 (by decide)).1, (hA.1 5 (by decide)).1, (hA.1 0 (by decide)).2.1, (hA.1 1 (by decide)).2.1, (hA.1 2 (by decide)).2.1, (hA.1 3 (by decide)).2.1, (hA.1 4 (by decide)).2.1, (hA.1 5 (by decide)).2.1, hA.2.1 13 (by decide), hA.2.1 14 (by decide), hA.2.1 0 (by decide), hA.2.1 2 (by decide), hA.2.1 3 (by decide), hA.2.1 9 (by decide), hA.2.1 10 (by decide), hA.2.1 11 (by decide), hA.2.1 12 (by decide), fun i _ => (hA.1 0 (by decide)).2.2 i, fun i _ => (hA.1 1 (by decide)).2.2 i, fun i _ => (hA.1 2 (by decide)).2.2 i, fun i _ => (hA.1 3 (by decide)).2.2 i, fun i _ => (hA.1 4 (by decide)).2.2 i, fun i _ => (hA.1 5 (by decide)).2.2 i, Fr.rf _ _ _⟩
  refine T_aload0 dX13_init_106 rfl ?_
  refine g13_47 _ rfl (hM.t_m) (hM.g_s1) dX13_init_107 rfl ?_
  refine T_cV0 (c_X12_begin hX hS hV ⟨hM.t_m, hM.g_y, by omega, by omega⟩) hX k13_54 (Or.inl ⟨_, _, _, _, (hS.t_s), by decide, rfl⟩) (by decide) (Nat.le_of_ble_eq_true rfl) dX13_init_110 rfl ?_
  rintro _ _ _ M7 ⟨rfl, rfl, rfl, ρ', hS7, hBG⟩
  have hM := hM.fr (M1 := M7) (fun b g1 g2 => hS7.frame b (by omega))
  have hV := hV.fr (M1 := M7) (fun b g1 g2 => hS7.frame b (by omega))
  have hS2 := hS2.fr (M1 := M7) (fun b g1 g2 => hS7.frame b (by omega))
  refine T_vret rfl dX13_init_113 ?_
  exact ⟨rfl, rfl, ⟨_, hM, rfl, rfl⟩, hV, ⟨ρ', hS7.rf, hBG⟩, hS2, fun b hb => ⟨(hA.2.2.1 b hb).1, (hS7.frame b (by omega)).trans (hA.2.2.1 b hb).2⟩⟩
