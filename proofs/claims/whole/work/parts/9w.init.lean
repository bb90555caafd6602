/-! an object made with its arrays -/
def AL (z : Nat) (f0 : Nat → Value) (τ0 : TY) (M0 : ME) (done : List (Nat × Nat)) (τ : TY) (M : ME) : Prop :=
  (∀ j, j < done.length → τ (z + 1 + j) = (100, (done.getD j (0, 0)).2) ∧ M z (done.getD j (0, 0)).1 = .ref (z + 1 + j) ∧ ∀ i, M (z + 1 + j) i = .int 0) ∧ (∀ k, ¬ k ∈ done.map Prod.fst → M z k = f0 k) ∧ (∀ b, b < z → τ b = τ0 b ∧ M b = M0 b) ∧ τ z = τ0 z
theorem AL.nil {z : Nat} {f0 : Nat → Value} {τ : TY} {M : ME} (h : M z = f0) : AL z f0 τ M [] τ M := ⟨fun j h => absurd h (Nat.not_lt_zero _), fun k _ => by rw [h], fun _ _ => ⟨rfl, rfl⟩, rfl⟩
theorem AL.nx {z sz slot N : Nat} {f0 : Nat → Value} {τ0 τ τ1 : TY} {M0 M M1 M2 : ME} {done : List (Nat × Nat)} (h : AL z f0 τ0 M0 done τ M) (hs : sz = z + 1 + done.length) (eτ : τ1 = tyN τ sz (100, N)) (e1 : M1 = meN M sz (fun _ => .int 0)) (e2 : M2 = up M1 z slot (.ref sz)) (hn : ¬ slot ∈ done.map Prod.fst) : AL z f0 τ0 M0 (done ++ [(slot, N)]) τ1 M2 := by
  subst hs eτ e1 e2
  obtain ⟨h1, h2, h3, h4⟩ := h
  refine ⟨fun j hj => ?_, fun k hk => ?_, fun b hb => ⟨?_, ?_⟩, ?_⟩
  · have hj' : j < done.length + 1 := by simpa using hj
    by_cases e : j = done.length
    · subst e
      have eg : (done ++ [(slot, N)]).getD done.length (0, 0) = (slot, N) := by simp [List.getD_eq_getElem?_getD]
      rw [eg]
      refine ⟨tyN_s _ _ _, ?_, fun i => ?_⟩
      · show up _ z slot _ z slot = _
        simp [up]
      · rw [up_a (by omega), meN_s]
    · have hlt : j < done.length := by omega
      have eg : (done ++ [(slot, N)]).getD j (0, 0) = done.getD j (0, 0) := by simp [List.getD_eq_getElem?_getD, List.getElem?_append_left hlt]
      rw [eg]
      obtain ⟨g1, g2, g3⟩ := h1 j hlt
      have hsl : ¬ (done.getD j (0, 0)).1 = slot := fun q => hn (by
        rw [← q]
        refine List.mem_map.mpr ⟨done.getD j (0, 0), ?_, rfl⟩
        rw [List.getD_eq_getElem?_getD, List.getElem?_eq_getElem hlt]
        exact List.getElem_mem hlt)
      refine ⟨by rw [tyN_n (by omega)]; exact g1, ?_, fun i => ?_⟩
      · show up _ z slot _ z _ = _
        unfold up
        rw [if_pos rfl, if_neg hsl, meN_n (by omega)]; exact g2
      · rw [up_a (by omega), meN_n (by omega)]; exact g3 i
  · have hk' : ¬ k ∈ done.map Prod.fst ∧ ¬ k = slot := by
      refine ⟨fun q => hk ?_, fun q => hk ?_⟩
      · rw [List.map_append]; exact List.mem_append_left _ q
      · rw [List.map_append, q]; exact List.mem_append_right _ (by simp)
    unfold up
    rw [if_pos rfl, if_neg hk'.2, meN_n (by omega)]
    exact h2 k hk'.1
  · rw [tyN_n (by omega)]; exact (h3 b hb).1
  · rw [up_a (by omega), meN_n (by omega)]; exact (h3 b hb).2
  · rw [tyN_n (by omega)]; exact h4
set_option maxHeartbeats 1000000 in
theorem c_X11_init {l : Launch} {D : va_G} {cA : Nat → ClassId} {n0 : Nat} {sg adK adV : Nat → Nat} {sgA smA wdA bS LS : Nat} {xs : Nat → Int32} (hX : SF n0 (XW0 sg adK adV sgA smA wdA n0 bS LS xs)) {τ : TY} {M : ME} {z : Nat} (ht : τ z = (9, 0)) (hm : M z = f0X11) : CT l D cA n0 (XW0 sg adK adV sgA smA wdA n0 bS LS xs) mX11_init 1 18 1369 (z + 1) τ M [.ref z] (fun v' sz' τ' M' => v' = none ∧ sz' = z + 19 ∧ PV τ' M' M' z 0 0 0 0 0 0 0 0 0 (fun _ _ => 0) ∧ ∀ b, b < z → τ' b = τ b ∧ M' b = M b) := by
  refine CT.of (ls := [.ref z]) (by decide) (Nat.le_of_ble_eq_true rfl) rfl ?_
  have hA := AL.nil (τ := τ) (M := M) (z := z) hm
  refine T_aload0 dX11_init_0 rfl ?_
  refine T_obj ko11_3 ko1 ko2 (by decide) (Nat.le_of_ble_eq_true rfl) dX11_init_1 rfl ?_
  refine T_aload0 dX11_init_4 rfl ?_
  refine T_bipush (8) dX11_init_5 rfl rfl ?_
  refine T_newa (atype := .int) (N := 8) 0 (fun _ => .int 0) w360 (by decide) rfl rfl (by decide) rfl dX11_init_7 rfl ?_
  refine T_nt (fun τ1 eτ => ?_)
  refine T_nm (fun M1 e1 => ?_)
  refine p11_9 rfl rfl (by rw [eτ, tyN_n (by omega)]; exact hA.2.2.2.trans ht) dX11_init_9 rfl ?_
  refine T_nm (fun M2 e2 => ?_)
  have hA : AL z _ τ M [(1, 8)] τ1 M2 := hA.nx (slot := 1) (N := 8) rfl eτ e1 e2 (by decide)
  clear eτ e1 e2
  refine T_aload0 dX11_init_12 rfl ?_
  refine T_bipush (8) dX11_init_13 rfl rfl ?_
  refine T_newa (atype := .int) (N := 8) 0 (fun _ => .int 0) w360 (by decide) rfl rfl (by decide) rfl dX11_init_15 rfl ?_
  refine T_nt (fun τ1 eτ => ?_)
  refine T_nm (fun M1 e1 => ?_)
  refine p11_15 rfl rfl (by rw [eτ, tyN_n (by omega)]; exact hA.2.2.2.trans ht) dX11_init_17 rfl ?_
  refine T_nm (fun M2 e2 => ?_)
  have hA : AL z _ τ M [(1, 8), (2, 8)] τ1 M2 := hA.nx (slot := 2) (N := 8) rfl eτ e1 e2 (by decide)
  clear eτ e1 e2
  refine T_aload0 dX11_init_20 rfl ?_
  refine T_bipush (8) dX11_init_21 rfl rfl ?_
  refine T_newa (atype := .int) (N := 8) 0 (fun _ => .int 0) w360 (by decide) rfl rfl (by decide) rfl dX11_init_23 rfl ?_
  refine T_nt (fun τ1 eτ => ?_)
  refine T_nm (fun M1 e1 => ?_)
  refine p11_18 rfl rfl (by rw [eτ, tyN_n (by omega)]; exact hA.2.2.2.trans ht) dX11_init_25 rfl ?_
  refine T_nm (fun M2 e2 => ?_)
  have hA : AL z _ τ M [(1, 8), (2, 8), (3, 8)] τ1 M2 := hA.nx (slot := 3) (N := 8) rfl eτ e1 e2 (by decide)
  clear eτ e1 e2
  refine T_aload0 dX11_init_28 rfl ?_
  refine T_bipush (6) dX11_init_29 rfl rfl ?_
  refine T_newa (atype := .int) (N := 6) 0 (fun _ => .int 0) w360 (by decide) rfl rfl (by decide) rfl dX11_init_31 rfl ?_
  refine T_nt (fun τ1 eτ => ?_)
  refine T_nm (fun M1 e1 => ?_)
  refine p11_21 rfl rfl (by rw [eτ, tyN_n (by omega)]; exact hA.2.2.2.trans ht) dX11_init_33 rfl ?_
  refine T_nm (fun M2 e2 => ?_)
  have hA : AL z _ τ M [(1, 8), (2, 8), (3, 8), (5, 6)] τ1 M2 := hA.nx (slot := 5) (N := 6) rfl eτ e1 e2 (by decide)
  clear eτ e1 e2
  refine T_aload0 dX11_init_36 rfl ?_
  refine T_bipush (6) dX11_init_37 rfl rfl ?_
  refine T_newa (atype := .int) (N := 6) 0 (fun _ => .int 0) w360 (by decide) rfl rfl (by decide) rfl dX11_init_39 rfl ?_
  refine T_nt (fun τ1 eτ => ?_)
  refine T_nm (fun M1 e1 => ?_)
  refine p11_24 rfl rfl (by rw [eτ, tyN_n (by omega)]; exact hA.2.2.2.trans ht) dX11_init_41 rfl ?_
  refine T_nm (fun M2 e2 => ?_)
  have hA : AL z _ τ M [(1, 8), (2, 8), (3, 8), (5, 6), (6, 6)] τ1 M2 := hA.nx (slot := 6) (N := 6) rfl eτ e1 e2 (by decide)
  clear eτ e1 e2
  refine T_aload0 dX11_init_44 rfl ?_
  refine T_bipush (6) dX11_init_45 rfl rfl ?_
  refine T_newa (atype := .int) (N := 6) 0 (fun _ => .int 0) w360 (by decide) rfl rfl (by decide) rfl dX11_init_47 rfl ?_
  refine T_nt (fun τ1 eτ => ?_)
  refine T_nm (fun M1 e1 => ?_)
  refine p11_27 rfl rfl (by rw [eτ, tyN_n (by omega)]; exact hA.2.2.2.trans ht) dX11_init_49 rfl ?_
  refine T_nm (fun M2 e2 => ?_)
  have hA : AL z _ τ M [(1, 8), (2, 8), (3, 8), (5, 6), (6, 6), (7, 6)] τ1 M2 := hA.nx (slot := 7) (N := 6) rfl eτ e1 e2 (by decide)
  clear eτ e1 e2
  refine T_aload0 dX11_init_52 rfl ?_
  refine T_bipush (6) dX11_init_53 rfl rfl ?_
  refine T_newa (atype := .int) (N := 6) 0 (fun _ => .int 0) w360 (by decide) rfl rfl (by decide) rfl dX11_init_55 rfl ?_
  refine T_nt (fun τ1 eτ => ?_)
  refine T_nm (fun M1 e1 => ?_)
  refine p11_30 rfl rfl (by rw [eτ, tyN_n (by omega)]; exact hA.2.2.2.trans ht) dX11_init_57 rfl ?_
  refine T_nm (fun M2 e2 => ?_)
  have hA : AL z _ τ M [(1, 8), (2, 8), (3, 8), (5, 6), (6, 6), (7, 6), (8, 6)] τ1 M2 := hA.nx (slot := 8) (N := 6) rfl eτ e1 e2 (by decide)
  clear eτ e1 e2
  refine T_aload0 dX11_init_60 rfl ?_
  refine T_bipush (20) dX11_init_61 rfl rfl ?_
  refine T_newa (atype := .int) (N := 20) 0 (fun _ => .int 0) w360 (by decide) rfl rfl (by decide) rfl dX11_init_63 rfl ?_
  refine T_nt (fun τ1 eτ => ?_)
  refine T_nm (fun M1 e1 => ?_)
  refine p11_33 rfl rfl (by rw [eτ, tyN_n (by omega)]; exact hA.2.2.2.trans ht) dX11_init_65 rfl ?_
  refine T_nm (fun M2 e2 => ?_)
  have hA : AL z _ τ M [(1, 8), (2, 8), (3, 8), (5, 6), (6, 6), (7, 6), (8, 6), (10, 20)] τ1 M2 := hA.nx (slot := 10) (N := 20) rfl eτ e1 e2 (by decide)
  clear eτ e1 e2
  refine T_aload0 dX11_init_68 rfl ?_
  refine T_bipush (12) dX11_init_69 rfl rfl ?_
  refine T_newa (atype := .int) (N := 12) 0 (fun _ => .int 0) w360 (by decide) rfl rfl (by decide) rfl dX11_init_71 rfl ?_
  refine T_nt (fun τ1 eτ => ?_)
  refine T_nm (fun M1 e1 => ?_)
  refine p11_36 rfl rfl (by rw [eτ, tyN_n (by omega)]; exact hA.2.2.2.trans ht) dX11_init_73 rfl ?_
  refine T_nm (fun M2 e2 => ?_)
  have hA : AL z _ τ M [(1, 8), (2, 8), (3, 8), (5, 6), (6, 6), (7, 6), (8, 6), (10, 20), (13, 12)] τ1 M2 := hA.nx (slot := 13) (N := 12) rfl eτ e1 e2 (by decide)
  clear eτ e1 e2
  refine T_aload0 dX11_init_76 rfl ?_
  refine T_bipush (13) dX11_init_77 rfl rfl ?_
  refine T_newa (atype := .int) (N := 13) 0 (fun _ => .int 0) w360 (by decide) rfl rfl (by decide) rfl dX11_init_79 rfl ?_
  refine T_nt (fun τ1 eτ => ?_)
  refine T_nm (fun M1 e1 => ?_)
  refine p11_39 rfl rfl (by rw [eτ, tyN_n (by omega)]; exact hA.2.2.2.trans ht) dX11_init_81 rfl ?_
  refine T_nm (fun M2 e2 => ?_)
  have hA : AL z _ τ M [(1, 8), (2, 8), (3, 8), (5, 6), (6, 6), (7, 6), (8, 6), (10, 20), (13, 12), (14, 13)] τ1 M2 := hA.nx (slot := 14) (N := 13) rfl eτ e1 e2 (by decide)
  clear eτ e1 e2
  refine T_aload0 dX11_init_84 rfl ?_
  refine T_bipush (13) dX11_init_85 rfl rfl ?_
  refine T_newa (atype := .int) (N := 13) 0 (fun _ => .int 0) w360 (by decide) rfl rfl (by decide) rfl dX11_init_87 rfl ?_
  refine T_nt (fun τ1 eτ => ?_)
  refine T_nm (fun M1 e1 => ?_)
  refine p11_42 rfl rfl (by rw [eτ, tyN_n (by omega)]; exact hA.2.2.2.trans ht) dX11_init_89 rfl ?_
  refine T_nm (fun M2 e2 => ?_)
  have hA : AL z _ τ M [(1, 8), (2, 8), (3, 8), (5, 6), (6, 6), (7, 6), (8, 6), (10, 20), (13, 12), (14, 13), (15, 13)] τ1 M2 := hA.nx (slot := 15) (N := 13) rfl eτ e1 e2 (by decide)
  clear eτ e1 e2
  refine T_aload0 dX11_init_92 rfl ?_
  refine T_bipush (13) dX11_init_93 rfl rfl ?_
  refine T_newa (atype := .int) (N := 13) 0 (fun _ => .int 0) w360 (by decide) rfl rfl (by decide) rfl dX11_init_95 rfl ?_
  refine T_nt (fun τ1 eτ => ?_)
  refine T_nm (fun M1 e1 => ?_)
  refine p11_45 rfl rfl (by rw [eτ, tyN_n (by omega)]; exact hA.2.2.2.trans ht) dX11_init_97 rfl ?_
  refine T_nm (fun M2 e2 => ?_)
  have hA : AL z _ τ M [(1, 8), (2, 8), (3, 8), (5, 6), (6, 6), (7, 6), (8, 6), (10, 20), (13, 12), (14, 13), (15, 13), (16, 13)] τ1 M2 := hA.nx (slot := 16) (N := 13) rfl eτ e1 e2 (by decide)
  clear eτ e1 e2
  refine T_aload0 dX11_init_100 rfl ?_
  refine T_bipush (12) dX11_init_101 rfl rfl ?_
  refine T_newa (atype := .int) (N := 12) 0 (fun _ => .int 0) w360 (by decide) rfl rfl (by decide) rfl dX11_init_103 rfl ?_
  refine T_nt (fun τ1 eτ => ?_)
  refine T_nm (fun M1 e1 => ?_)
  refine p11_48 rfl rfl (by rw [eτ, tyN_n (by omega)]; exact hA.2.2.2.trans ht) dX11_init_105 rfl ?_
  refine T_nm (fun M2 e2 => ?_)
  have hA : AL z _ τ M [(1, 8), (2, 8), (3, 8), (5, 6), (6, 6), (7, 6), (8, 6), (10, 20), (13, 12), (14, 13), (15, 13), (16, 13), (19, 12)] τ1 M2 := hA.nx (slot := 19) (N := 12) rfl eτ e1 e2 (by decide)
  clear eτ e1 e2
  refine T_aload0 dX11_init_108 rfl ?_
  refine T_bipush (12) dX11_init_109 rfl rfl ?_
  refine T_newa (atype := .int) (N := 12) 0 (fun _ => .int 0) w360 (by decide) rfl rfl (by decide) rfl dX11_init_111 rfl ?_
  refine T_nt (fun τ1 eτ => ?_)
  refine T_nm (fun M1 e1 => ?_)
  refine p11_51 rfl rfl (by rw [eτ, tyN_n (by omega)]; exact hA.2.2.2.trans ht) dX11_init_113 rfl ?_
  refine T_nm (fun M2 e2 => ?_)
  have hA : AL z _ τ M [(1, 8), (2, 8), (3, 8), (5, 6), (6, 6), (7, 6), (8, 6), (10, 20), (13, 12), (14, 13), (15, 13), (16, 13), (19, 12), (20, 12)] τ1 M2 := hA.nx (slot := 20) (N := 12) rfl eτ e1 e2 (by decide)
  clear eτ e1 e2
  refine T_aload0 dX11_init_116 rfl ?_
  refine T_bipush (13) dX11_init_117 rfl rfl ?_
  refine T_newa (atype := .int) (N := 13) 0 (fun _ => .int 0) w360 (by decide) rfl rfl (by decide) rfl dX11_init_119 rfl ?_
  refine T_nt (fun τ1 eτ => ?_)
  refine T_nm (fun M1 e1 => ?_)
  refine p11_54 rfl rfl (by rw [eτ, tyN_n (by omega)]; exact hA.2.2.2.trans ht) dX11_init_121 rfl ?_
  refine T_nm (fun M2 e2 => ?_)
  have hA : AL z _ τ M [(1, 8), (2, 8), (3, 8), (5, 6), (6, 6), (7, 6), (8, 6), (10, 20), (13, 12), (14, 13), (15, 13), (16, 13), (19, 12), (20, 12), (21, 13)] τ1 M2 := hA.nx (slot := 21) (N := 13) rfl eτ e1 e2 (by decide)
  clear eτ e1 e2
  refine T_aload0 dX11_init_124 rfl ?_
  refine T_bipush (13) dX11_init_125 rfl rfl ?_
  refine T_newa (atype := .int) (N := 13) 0 (fun _ => .int 0) w360 (by decide) rfl rfl (by decide) rfl dX11_init_127 rfl ?_
  refine T_nt (fun τ1 eτ => ?_)
  refine T_nm (fun M1 e1 => ?_)
  refine p11_57 rfl rfl (by rw [eτ, tyN_n (by omega)]; exact hA.2.2.2.trans ht) dX11_init_129 rfl ?_
  refine T_nm (fun M2 e2 => ?_)
  have hA : AL z _ τ M [(1, 8), (2, 8), (3, 8), (5, 6), (6, 6), (7, 6), (8, 6), (10, 20), (13, 12), (14, 13), (15, 13), (16, 13), (19, 12), (20, 12), (21, 13), (22, 13)] τ1 M2 := hA.nx (slot := 22) (N := 13) rfl eτ e1 e2 (by decide)
  clear eτ e1 e2
  refine T_aload0 dX11_init_132 rfl ?_
  refine T_sipush (800) dX11_init_133 rfl rfl ?_
  refine T_newa (atype := .int) (N := 800) 0 (fun _ => .int 0) w360 (by decide) rfl rfl (by decide) rfl dX11_init_136 rfl ?_
  refine T_nt (fun τ1 eτ => ?_)
  refine T_nm (fun M1 e1 => ?_)
  refine p11_60 rfl rfl (by rw [eτ, tyN_n (by omega)]; exact hA.2.2.2.trans ht) dX11_init_138 rfl ?_
  refine T_nm (fun M2 e2 => ?_)
  have hA : AL z _ τ M [(1, 8), (2, 8), (3, 8), (5, 6), (6, 6), (7, 6), (8, 6), (10, 20), (13, 12), (14, 13), (15, 13), (16, 13), (19, 12), (20, 12), (21, 13), (22, 13), (23, 800)] τ1 M2 := hA.nx (slot := 23) (N := 800) rfl eτ e1 e2 (by decide)
  clear eτ e1 e2
  refine T_aload0 dX11_init_141 rfl ?_
  refine T_sipush (400) dX11_init_142 rfl rfl ?_
  refine T_newa (atype := .int) (N := 400) 0 (fun _ => .int 0) w360 (by decide) rfl rfl (by decide) rfl dX11_init_145 rfl ?_
  refine T_nt (fun τ1 eτ => ?_)
  refine T_nm (fun M1 e1 => ?_)
  refine p11_63 rfl rfl (by rw [eτ, tyN_n (by omega)]; exact hA.2.2.2.trans ht) dX11_init_147 rfl ?_
  refine T_nm (fun M2 e2 => ?_)
  have hA : AL z _ τ M [(1, 8), (2, 8), (3, 8), (5, 6), (6, 6), (7, 6), (8, 6), (10, 20), (13, 12), (14, 13), (15, 13), (16, 13), (19, 12), (20, 12), (21, 13), (22, 13), (23, 800), (25, 400)] τ1 M2 := hA.nx (slot := 25) (N := 400) rfl eτ e1 e2 (by decide)
  clear eτ e1 e2
  refine T_vret rfl dX11_init_150 ?_
  exact ⟨rfl, rfl, ⟨hA.2.2.2.trans ht, (hA.1 0 (by decide)).1, (hA.1 1 (by decide)).1, (hA.1 2 (by decide)).1, (hA.1 3 (by decide)).1, (hA.1 4 (by decide)).1, (hA.1 5 (by decide)).1, (hA.1 6 (by decide)).1, (hA.1 7 (by decide)).1, (hA.1 8 (by decide)).1, (hA.1 9 (by decide)).1, (hA.1 10 (by decide)).1, (hA.1 11 (by decide)).1, (hA.1 12 (by decide)).1, (hA.1 13 (by decide)).1, (hA.1 14 (by decide)).1, (hA.1 15 (by decide)).1, (hA.1 16 (by decide)).1, (hA.1 17 (by decide)).1, (hA.1 0 (by decide)).2.1, (hA.1 1 (by decide)).2.1, (hA.1 2 (by decide)).2.1, (hA.1 3 (by decide)).2.1, (hA.1 4 (by decide)).2.1, (hA.1 5 (by decide)).2.1, (hA.1 6 (by decide)).2.1, (hA.1 7 (by decide)).2.1, (hA.1 8 (by decide)).2.1, (hA.1 9 (by decide)).2.1, (hA.1 10 (by decide)).2.1, (hA.1 11 (by decide)).2.1, (hA.1 12 (by decide)).2.1, (hA.1 13 (by decide)).2.1, (hA.1 14 (by decide)).2.1, (hA.1 15 (by decide)).2.1, (hA.1 16 (by decide)).2.1, (hA.1 17 (by decide)).2.1, hA.2.1 0 (by decide), hA.2.1 4 (by decide), hA.2.1 9 (by decide), hA.2.1 11 (by decide), hA.2.1 12 (by decide), hA.2.1 17 (by decide), hA.2.1 18 (by decide), hA.2.1 24 (by decide), hA.2.1 26 (by decide), fun i _ => (hA.1 0 (by decide)).2.2 i, fun i _ => (hA.1 1 (by decide)).2.2 i, fun i _ => (hA.1 2 (by decide)).2.2 i, fun i _ => (hA.1 3 (by decide)).2.2 i, fun i _ => (hA.1 4 (by decide)).2.2 i, fun i _ => (hA.1 5 (by decide)).2.2 i, fun i _ => (hA.1 6 (by decide)).2.2 i, fun i _ => (hA.1 7 (by decide)).2.2 i, fun i _ => (hA.1 8 (by decide)).2.2 i, fun i _ => (hA.1 9 (by decide)).2.2 i, fun i _ => (hA.1 10 (by decide)).2.2 i, fun i _ => (hA.1 11 (by decide)).2.2 i, fun i _ => (hA.1 12 (by decide)).2.2 i, fun i _ => (hA.1 13 (by decide)).2.2 i, fun i _ => (hA.1 14 (by decide)).2.2 i, fun i _ => (hA.1 15 (by decide)).2.2 i, fun i _ => (hA.1 16 (by decide)).2.2 i, fun i _ => (hA.1 17 (by decide)).2.2 i, Fr.rf _ _ _⟩, hA.2.2.1⟩
