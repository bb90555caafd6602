/-! a reader is made -/
set_option maxHeartbeats 1000000 in
theorem c_X5_init {l : Launch} {D : va_G} {cA : Nat → ClassId} {n0 : Nat} {sg adK adV : Nat → Nat} {sgA smA wdA bS LS : Nat} {xs : Nat → Int32} (hX : SF n0 (XW0 sg adK adV sgA smA wdA n0 bS LS xs)) {τ0 : TY} {M0 : ME} {j r p : Nat} (ht : τ0 j = (4, 0)) : CT l D cA n0 (XW0 sg adK adV sgA smA wdA n0 bS LS xs) mX5_init 3 5 1209 (j + 1) τ0 M0 [.ref j, .ref r, .ref p] (fun v' sz' τ' M' => v' = none ∧ sz' = j + 6 ∧ RV τ' M' M' j r p 0 0 (-1) 0 (-1) ∧ TM τ' M' M' (j + 1) sg (j + 5) 0 0 (fun _ => 45) (fun _ => 0) (fun _ => 0) ∧ ∀ b, b < j → τ' b = τ0 b ∧ M' b = M0 b) := by
  refine CT.of (ls := [.ref j, .ref r, .ref p]) (by decide) (Nat.le_of_ble_eq_true rfl) rfl ?_
  refine T_aload0 dX5_init_0 rfl ?_
  refine T_obj ko5_3 ko1 ko2 (by decide) (Nat.le_of_ble_eq_true rfl) dX5_init_1 rfl ?_
  refine T_aload0 dX5_init_4 rfl ?_
  refine n5_9 rfl dX5_init_5 rfl ?_
  refine T_nt (fun τ1 eτ => ?_)
  refine T_nm (fun M1 e1 => ?_)
  refine T_dup dX5_init_8 rfl rfl ?_
  refine T_cI0 (c_X9_init hX (t := j + 1) (by rw [eτ]; exact tyN_s _ _ _)) hX k5_11 (by decide) (Nat.le_of_ble_eq_true rfl) dX5_init_9 rfl ?_
  rintro _ _ τ2 M2 ⟨rfl, rfl, hT, hfr⟩
  have h5 : τ2 j = (4, 0) := by rw [(hfr j (by omega)).1, eτ, tyN_n (by omega)]; exact ht
  have hb : ∀ b, b < j → τ2 b = τ0 b ∧ M2 b = M0 b := fun b q => ⟨by rw [(hfr b (by omega)).1, eτ]; exact tyN_n (by omega), by rw [(hfr b (by omega)).2, e1]; exact meN_n (by omega)⟩
  refine p5_12 rfl rfl h5 dX5_init_12 rfl ?_
  refine T_nm (fun N0 f0 => ?_)
  refine T_aload0 dX5_init_15 rfl ?_
  refine T_aload1 dX5_init_16 rfl ?_
  refine p5_18 rfl h5 dX5_init_17 rfl ?_
  refine T_nm (fun N1 f1 => ?_)
  refine T_aload0 dX5_init_20 rfl ?_
  refine T_aload2 dX5_init_21 rfl ?_
  refine p5_22 rfl h5 dX5_init_22 rfl ?_
  refine T_nm (fun N2 f2 => ?_)
  refine T_aload0 dX5_init_25 rfl ?_
  refine T_iconst (0) dX5_init_26 rfl rfl ?_
  refine p5_26 rfl h5 dX5_init_27 rfl ?_
  refine T_nm (fun N3 f3 => ?_)
  refine T_aload0 dX5_init_30 rfl ?_
  refine T_iconst (0) dX5_init_31 rfl rfl ?_
  refine p5_30 (Or.inl rfl) rfl h5 dX5_init_32 rfl ?_
  refine T_nm (fun N4 f4 => ?_)
  refine T_aload0 dX5_init_35 rfl ?_
  refine T_iconst (-1) dX5_init_36 rfl rfl ?_
  refine p5_34 rfl h5 dX5_init_37 rfl ?_
  refine T_nm (fun N5 f5 => ?_)
  refine T_aload0 dX5_init_40 rfl ?_
  refine T_iconst (0) dX5_init_41 rfl rfl ?_
  refine p5_37 rfl h5 dX5_init_42 rfl ?_
  refine T_nm (fun N6 f6 => ?_)
  refine T_aload0 dX5_init_45 rfl ?_
  refine T_iconst (-1) dX5_init_46 rfl rfl ?_
  refine p5_40 rfl h5 dX5_init_47 rfl ?_
  refine T_nm (fun N7 f7 => ?_)
  have hN : ∀ b, ¬ b = j → N7 b = M2 b := fun b q => by rw [f7, up_a q, f6, up_a q, f5, up_a q, f4, up_a q, f3, up_a q, f2, up_a q, f1, up_a q, f0, up_a q]
  have hp : ∀ k, N7 j k = if k = 7 then .int (-1) else if k = 6 then .int 0 else if k = 5 then .int (-1) else if k = 4 then .int 0 else if k = 3 then .int 0 else if k = 2 then .ref p else if k = 1 then .ref r else if k = 0 then .ref (j + 1) else M2 j k := fun k => by
    rw [f7]; unfold up; rw [if_pos rfl, f6]; unfold up; rw [if_pos rfl, f5]; unfold up; rw [if_pos rfl, f4]; unfold up; rw [if_pos rfl, f3]; unfold up; rw [if_pos rfl, f2]; unfold up; rw [if_pos rfl, f1]; unfold up; rw [if_pos rfl, f0]; unfold up; rw [if_pos rfl]
  refine T_vret rfl dX5_init_50 ?_
  exact ⟨rfl, rfl, ⟨h5, hp 0, hp 1, hp 2, hp 3, hp 4, hp 5, hp 6, hp 7, Fr.rf _ _ _⟩, hT.fr (M1 := N7) (fun b q1 q2 => hN b (by omega)), fun b q => ⟨(hb b q).1, (hN b (by omega)).trans (hb b q).2⟩⟩

