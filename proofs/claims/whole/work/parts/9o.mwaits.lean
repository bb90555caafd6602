/-! the reference reads the lines of waits -/
set_option maxHeartbeats 1000000 in
theorem c_X13_isWaitLine {l : Launch} {D : va_G} {cA : Nat → ClassId} {n0 : Nat} {sg adK adV : Nat → Nat} {sgA smA wdA bS LS : Nat} {xs : Nat → Int32} (hX : SF n0 (XW0 sg adK adV sgA smA wdA n0 bS LS xs)) {m y z s1 s2 n8 lt : Nat} {B : Nat → Nat} {K : Nat → Nat} {S : Nat → Int32} {V : Nat → Int64} {ω0 w0 : RH} (hTK : TKF B lt K S V ω0) (hmz : m + 7 ≤ z ∨ z + 19 ≤ m) {s : PS} {β β' : RH} {q' : PQ} (h0 : K s.1 < 45) (hR : WLr K (fun t => (V t).toInt32) s β q' β') {sz : Nat} {τ : TY} {M : ME} (hL : MLn τ M m y z s1 s2 n8 B ω0 w0 lt (s) (β)) : CT l D cA n0 (XW0 sg adK adV sgA smA wdA n0 bS LS xs) mX13_isWaitLine 100 0 0 sz τ M [.ref m] (fun v' sz' τ' M' => (v' = some (.int (if (q').1 = true then 1 else 0)) ∧ MLQ τ M' m y z s1 s2 n8 B ω0 w0 lt (q') (β')) ∧ sz' = sz ∧ τ' = τ ∧ FMZ m z M M') := by
  refine CT.of (ls := [.ref m, UU]) (by decide) (Nat.le_of_ble_eq_true rfl) rfl ?_
  obtain ⟨hp3, hβ⟩ := hR
  subst hβ
  obtain ⟨w1, hQ, hMW⟩ := hL
  obtain ⟨h, eh⟩ : ∃ h, h = cntR s.2.2.2.2 4 s.1 := ⟨_, rfl⟩
  obtain ⟨v, ev⟩ : ∃ v, v = cntR s.2.2.2.2 5 s.1 := ⟨_, rfl⟩
  rw [← eh, ← ev] at hQ hMW
  have hh : h ≤ s.1 := by rw [eh]; exact cntR_le _
  have hv : v ≤ s.1 := by rw [ev]; exact cntR_le _
  obtain ⟨ω, w, hM, hV, hω, hrl, hwa, hG, hn, ht, hz⟩ := hQ
  have hl := hTK.1.1
  have hlt := hTK.lt ht rfl (by omega) (by omega)
  have hps := (ps_le (σ := s.2.2.1) s.2.1).1
  have hF : FMZ m z M M := FMZ.rf _ _ _
  have hz1 : ∀ i, (adv (rol s s.1 5) 1).1 ≤ i → (adv (rol s s.1 5) 1).2.2.2.2 i = 0 := fun i hi => (uI_i (by have h9 : s.1 + 1 ≤ i := hi; omega)).trans (hz i (Nat.le_trans (Nat.le_succ _) hi))
  refine T_aload0 dX13_isWaitLine_0 rfl ?_
  refine g13_26 _ rfl (hM.t_m) (hM.g_ro) dX13_isWaitLine_1 rfl ?_
  refine T_aload0 dX13_isWaitLine_4 rfl ?_
  refine g13_124 _ rfl (hM.t_m) (hM.g_tk) dX13_isWaitLine_5 rfl ?_
  refine T_iconst (5) dX13_isWaitLine_8 rfl rfl ?_
  refine T_iast _ (hM.t_ro) rfl (by omega) (by decide) dX13_isWaitLine_9 rfl ?_
  refine T_nm (fun M1 e1 => ?_)
  have hM := MV.mv (hM.p_vro (by omega)) e1
  have hV := hV.frU e1 (by omega)
  have hF := hF.up e1 (by omega)
  refine T_aload0 dX13_isWaitLine_10 rfl ?_
  refine T_dup dX13_isWaitLine_11 rfl rfl ?_
  refine g13_124 _ rfl (hM.t_m) (hM.g_tk) dX13_isWaitLine_12 rfl ?_
  refine T_iconst (1) dX13_isWaitLine_15 rfl rfl ?_
  refine T_iadd dX13_isWaitLine_16 rfl ?_
  refine p13_124 rfl (hM.t_m) dX13_isWaitLine_17 rfl ?_
  refine T_nm (fun M2 e2 => ?_)
  have hM := MV.mv (hM.p_tk (n := s.1 + 1) (nI_1 _)) e2
  have hV := hV.frU e2 (by omega)
  have hF := hF.up e2 (by omega)
  refine T_aload0 dX13_isWaitLine_20 rfl ?_
  refine g13_39 _ rfl (hM.t_m) (hM.g_z) dX13_isWaitLine_21 rfl ?_
  refine g13_179 _ rfl (hV.t_q) (hV.g_waitsRead) dX13_isWaitLine_24 rfl ?_
  refine T_bipush (12) dX13_isWaitLine_27 rfl rfl ?_
  refine T_min km13_77 (by decide) (Nat.le_of_ble_eq_true rfl) dX13_isWaitLine_29 rfl ?_
  rw [mn12 (by omega)]
  refine T_istore1 rfl (by decide) dX13_isWaitLine_32 rfl ?_
  refine T_aload0 dX13_isWaitLine_33 rfl ?_
  refine g13_39 _ rfl (hM.t_m) (hM.g_z) dX13_isWaitLine_34 rfl ?_
  refine T_dup dX13_isWaitLine_37 rfl rfl ?_
  refine g13_179 _ rfl (hV.t_q) (hV.g_waitsRead) dX13_isWaitLine_38 rfl ?_
  refine T_iconst (1) dX13_isWaitLine_41 rfl rfl ?_
  refine T_iadd dX13_isWaitLine_42 rfl ?_
  refine p13_179 rfl (hV.t_q) dX13_isWaitLine_43 rfl ?_
  refine T_nm (fun M3 e3 => ?_)
  have hM := hM.frU e3 (by omega)
  have hV := PV.mv (hV.p_waitsRead (n := v + 1) (nI_1 _)) e3
  have hF := hF.up e3 (by omega)
  refine T_aload0 dX13_isWaitLine_46 rfl ?_
  refine g13_39 _ rfl (hM.t_m) (hM.g_z) dX13_isWaitLine_47 rfl ?_
  refine g13_182 _ rfl (hV.t_q) (hV.g_test) dX13_isWaitLine_50 rfl ?_
  refine T_iload1 dX13_isWaitLine_53 rfl ?_
  refine T_aload0 dX13_isWaitLine_54 rfl ?_
  refine g13_39 _ rfl (hM.t_m) (hM.g_z) dX13_isWaitLine_55 rfl ?_
  refine g13_136 _ rfl (hV.t_q) (hV.g_size) dX13_isWaitLine_58 rfl ?_
  refine T_iast _ (hV.t_test) rfl (by omega) (by decide) dX13_isWaitLine_61 rfl ?_
  refine T_nm (fun M4 e4 => ?_)
  have hM := hM.frU e4 (by omega)
  have hV := PV.mv (hV.p_vtest (by omega)) e4
  have hF := hF.up e4 (by omega)
  refine T_aload0 dX13_isWaitLine_62 rfl ?_
  refine T_bipush (40) dX13_isWaitLine_63 rfl rfl ?_
  refine T_bipush (15) dX13_isWaitLine_65 rfl rfl ?_
  refine T_cV2 (mq_R hX hTK hmz (by decide) (q := (true, adv (rol s s.1 5) 1)) rfl kc_40 (by decide) (by decide) (MPl.rolad (ez := 0) (q := (true, s)) hM hV hω hrl (fun _ _ _ _ => rfl) (hG.up (by decide) (by decide)) hn hlt hz)) hX k13_157 (Or.inl ⟨_, _, _, _, (hM.t_m), by decide, rfl⟩) (by decide) (Nat.le_of_ble_eq_true rfl) dX13_isWaitLine_67 rfl ?_
  rintro _ _ _ M9 ⟨⟨rfl, hQ9⟩, rfl, rfl, hF9⟩
  have hF := hF.tr hF9
  refine T_if_eq 109 73 dX13_isWaitLine_70 (by decide) rfl (fun c70 => ?_) (fun c70 => ?_)
  ·
    have z9 := ifz0 c70
    refine T_iconst (0) dX13_isWaitLine_109 rfl rfl ?_
    refine T_iret rfl rfl dX13_isWaitLine_110 ?_
    first
      | (have e0 : lnwq K s = (tkR K 43 15 (true, adv (rol s s.1 5) 1)) := by unfold lnwq; simp only [tkR_n z9, tkQ_n z9]
         have e6 : q' = (tkR K 43 15 (true, adv (rol s s.1 5) 1)) := (hp3.fls (by rw [e0]; exact fls z9)).trans e0
         subst e6
         exact ⟨⟨by rw [if_neg z9], MLQ.ff z9 (hQ9.2 (fls z9))⟩, rfl, rfl, hF⟩)
      | (have e0 : lnwq K s = (tkQ K 15 (tkR K 43 15 (true, adv (rol s s.1 5) 1))) := by unfold lnwq; simp only [tkR_n z9, tkQ_n z9]
         have e6 : q' = (tkQ K 15 (tkR K 43 15 (true, adv (rol s s.1 5) 1))) := (hp3.fls (by rw [e0]; exact fls z9)).trans e0
         subst e6
         exact ⟨⟨by rw [if_neg z9], MLQ.ff z9 (hQ9.2 (fls z9))⟩, rfl, rfl, hF⟩)
      | (have e0 : lnwq K s = (tkR K 43 16 (tkQ K 15 (tkR K 43 15 (true, adv (rol s s.1 5) 1)))) := by unfold lnwq; simp only [tkR_n z9, tkQ_n z9]
         have e6 : q' = (tkR K 43 16 (tkQ K 15 (tkR K 43 15 (true, adv (rol s s.1 5) 1)))) := (hp3.fls (by rw [e0]; exact fls z9)).trans e0
         subst e6
         exact ⟨⟨by rw [if_neg z9], MLQ.ff z9 (hQ9.2 (fls z9))⟩, rfl, rfl, hF⟩)
      | (have e0 : lnwq K s = (tkQ K 13 (tkR K 43 16 (tkQ K 15 (tkR K 43 15 (true, adv (rol s s.1 5) 1))))) := by unfold lnwq; rfl
         have e6 : q' = (tkQ K 13 (tkR K 43 16 (tkQ K 15 (tkR K 43 15 (true, adv (rol s s.1 5) 1))))) := (hp3.fls (by rw [e0]; exact fls z9)).trans e0
         subst e6
         exact ⟨⟨by rw [if_neg z9], MLQ.ff z9 (hQ9.2 (fls z9))⟩, rfl, rfl, hF⟩)
      | (exact ⟨⟨by rw [if_neg z9], MLQ.ff z9 (hQ9.2 (fls z9))⟩, rfl, rfl, hF⟩)
  ·
    have z9 := ifz1 c70
    
    refine T_aload0 dX13_isWaitLine_73 rfl ?_
    refine T_bipush (15) dX13_isWaitLine_74 rfl rfl ?_
    refine T_cV1 (mq_Q hX hTK hmz (by decide) (q := (tkR K 43 15 (true, adv (rol s s.1 5) 1))) z9 kc_15 (by decide) (by decide) (hQ9.1 z9)) hX k13_130 (Or.inl ⟨_, _, _, _, (hM.t_m), by decide, rfl⟩) (by decide) (Nat.le_of_ble_eq_true rfl) dX13_isWaitLine_76 rfl ?_
    rintro _ _ _ M9 ⟨⟨rfl, hQ9⟩, rfl, rfl, hF9⟩
    have hF := hF.tr hF9
    refine T_if_eq 109 82 dX13_isWaitLine_79 (by decide) rfl (fun c79 => ?_) (fun c79 => ?_)
    ·
      have z9 := ifz0 c79
      refine T_iconst (0) dX13_isWaitLine_109 rfl rfl ?_
      refine T_iret rfl rfl dX13_isWaitLine_110 ?_
      first
        | (have e0 : lnwq K s = (tkR K 43 15 (true, adv (rol s s.1 5) 1)) := by unfold lnwq; simp only [tkR_n z9, tkQ_n z9]
           have e6 : q' = (tkR K 43 15 (true, adv (rol s s.1 5) 1)) := (hp3.fls (by rw [e0]; exact fls z9)).trans e0
           subst e6
           exact ⟨⟨by rw [if_neg z9], MLQ.ff z9 (hQ9.2 (fls z9))⟩, rfl, rfl, hF⟩)
        | (have e0 : lnwq K s = (tkQ K 15 (tkR K 43 15 (true, adv (rol s s.1 5) 1))) := by unfold lnwq; simp only [tkR_n z9, tkQ_n z9]
           have e6 : q' = (tkQ K 15 (tkR K 43 15 (true, adv (rol s s.1 5) 1))) := (hp3.fls (by rw [e0]; exact fls z9)).trans e0
           subst e6
           exact ⟨⟨by rw [if_neg z9], MLQ.ff z9 (hQ9.2 (fls z9))⟩, rfl, rfl, hF⟩)
        | (have e0 : lnwq K s = (tkR K 43 16 (tkQ K 15 (tkR K 43 15 (true, adv (rol s s.1 5) 1)))) := by unfold lnwq; simp only [tkR_n z9, tkQ_n z9]
           have e6 : q' = (tkR K 43 16 (tkQ K 15 (tkR K 43 15 (true, adv (rol s s.1 5) 1)))) := (hp3.fls (by rw [e0]; exact fls z9)).trans e0
           subst e6
           exact ⟨⟨by rw [if_neg z9], MLQ.ff z9 (hQ9.2 (fls z9))⟩, rfl, rfl, hF⟩)
        | (have e0 : lnwq K s = (tkQ K 13 (tkR K 43 16 (tkQ K 15 (tkR K 43 15 (true, adv (rol s s.1 5) 1))))) := by unfold lnwq; rfl
           have e6 : q' = (tkQ K 13 (tkR K 43 16 (tkQ K 15 (tkR K 43 15 (true, adv (rol s s.1 5) 1))))) := (hp3.fls (by rw [e0]; exact fls z9)).trans e0
           subst e6
           exact ⟨⟨by rw [if_neg z9], MLQ.ff z9 (hQ9.2 (fls z9))⟩, rfl, rfl, hF⟩)
        | (exact ⟨⟨by rw [if_neg z9], MLQ.ff z9 (hQ9.2 (fls z9))⟩, rfl, rfl, hF⟩)
    ·
      have z9 := ifz1 c79
      
      refine T_aload0 dX13_isWaitLine_82 rfl ?_
      refine T_bipush (40) dX13_isWaitLine_83 rfl rfl ?_
      refine T_bipush (16) dX13_isWaitLine_85 rfl rfl ?_
      refine T_cV2 (mq_R hX hTK hmz (by decide) (q := (tkQ K 15 (tkR K 43 15 (true, adv (rol s s.1 5) 1)))) z9 kc_40 (by decide) (by decide) (hQ9.1 z9)) hX k13_157 (Or.inl ⟨_, _, _, _, (hM.t_m), by decide, rfl⟩) (by decide) (Nat.le_of_ble_eq_true rfl) dX13_isWaitLine_87 rfl ?_
      rintro _ _ _ M9 ⟨⟨rfl, hQ9⟩, rfl, rfl, hF9⟩
      have hF := hF.tr hF9
      refine T_if_eq 109 93 dX13_isWaitLine_90 (by decide) rfl (fun c90 => ?_) (fun c90 => ?_)
      ·
        have z9 := ifz0 c90
        refine T_iconst (0) dX13_isWaitLine_109 rfl rfl ?_
        refine T_iret rfl rfl dX13_isWaitLine_110 ?_
        first
          | (have e0 : lnwq K s = (tkR K 43 15 (true, adv (rol s s.1 5) 1)) := by unfold lnwq; simp only [tkR_n z9, tkQ_n z9]
             have e6 : q' = (tkR K 43 15 (true, adv (rol s s.1 5) 1)) := (hp3.fls (by rw [e0]; exact fls z9)).trans e0
             subst e6
             exact ⟨⟨by rw [if_neg z9], MLQ.ff z9 (hQ9.2 (fls z9))⟩, rfl, rfl, hF⟩)
          | (have e0 : lnwq K s = (tkQ K 15 (tkR K 43 15 (true, adv (rol s s.1 5) 1))) := by unfold lnwq; simp only [tkR_n z9, tkQ_n z9]
             have e6 : q' = (tkQ K 15 (tkR K 43 15 (true, adv (rol s s.1 5) 1))) := (hp3.fls (by rw [e0]; exact fls z9)).trans e0
             subst e6
             exact ⟨⟨by rw [if_neg z9], MLQ.ff z9 (hQ9.2 (fls z9))⟩, rfl, rfl, hF⟩)
          | (have e0 : lnwq K s = (tkR K 43 16 (tkQ K 15 (tkR K 43 15 (true, adv (rol s s.1 5) 1)))) := by unfold lnwq; simp only [tkR_n z9, tkQ_n z9]
             have e6 : q' = (tkR K 43 16 (tkQ K 15 (tkR K 43 15 (true, adv (rol s s.1 5) 1)))) := (hp3.fls (by rw [e0]; exact fls z9)).trans e0
             subst e6
             exact ⟨⟨by rw [if_neg z9], MLQ.ff z9 (hQ9.2 (fls z9))⟩, rfl, rfl, hF⟩)
          | (have e0 : lnwq K s = (tkQ K 13 (tkR K 43 16 (tkQ K 15 (tkR K 43 15 (true, adv (rol s s.1 5) 1))))) := by unfold lnwq; rfl
             have e6 : q' = (tkQ K 13 (tkR K 43 16 (tkQ K 15 (tkR K 43 15 (true, adv (rol s s.1 5) 1))))) := (hp3.fls (by rw [e0]; exact fls z9)).trans e0
             subst e6
             exact ⟨⟨by rw [if_neg z9], MLQ.ff z9 (hQ9.2 (fls z9))⟩, rfl, rfl, hF⟩)
          | (exact ⟨⟨by rw [if_neg z9], MLQ.ff z9 (hQ9.2 (fls z9))⟩, rfl, rfl, hF⟩)
      ·
        have z9 := ifz1 c90
        
        refine T_aload0 dX13_isWaitLine_93 rfl ?_
        refine T_bipush (13) dX13_isWaitLine_94 rfl rfl ?_
        refine T_cV1 (mq_Q hX hTK hmz (by decide) (q := (tkR K 43 16 (tkQ K 15 (tkR K 43 15 (true, adv (rol s s.1 5) 1))))) z9 kc_13 (by decide) (by decide) (hQ9.1 z9)) hX k13_130 (Or.inl ⟨_, _, _, _, (hM.t_m), by decide, rfl⟩) (by decide) (Nat.le_of_ble_eq_true rfl) dX13_isWaitLine_96 rfl ?_
        rintro _ _ _ M9 ⟨⟨rfl, hQ9⟩, rfl, rfl, hF9⟩
        have hF := hF.tr hF9
        refine T_if_eq 109 102 dX13_isWaitLine_99 (by decide) rfl (fun c99 => ?_) (fun c99 => ?_)
        ·
          have z9 := ifz0 c99
          refine T_iconst (0) dX13_isWaitLine_109 rfl rfl ?_
          refine T_iret rfl rfl dX13_isWaitLine_110 ?_
          first
            | (have e0 : lnwq K s = (tkR K 43 15 (true, adv (rol s s.1 5) 1)) := by unfold lnwq; simp only [tkR_n z9, tkQ_n z9]
               have e6 : q' = (tkR K 43 15 (true, adv (rol s s.1 5) 1)) := (hp3.fls (by rw [e0]; exact fls z9)).trans e0
               subst e6
               exact ⟨⟨by rw [if_neg z9], MLQ.ff z9 (hQ9.2 (fls z9))⟩, rfl, rfl, hF⟩)
            | (have e0 : lnwq K s = (tkQ K 15 (tkR K 43 15 (true, adv (rol s s.1 5) 1))) := by unfold lnwq; simp only [tkR_n z9, tkQ_n z9]
               have e6 : q' = (tkQ K 15 (tkR K 43 15 (true, adv (rol s s.1 5) 1))) := (hp3.fls (by rw [e0]; exact fls z9)).trans e0
               subst e6
               exact ⟨⟨by rw [if_neg z9], MLQ.ff z9 (hQ9.2 (fls z9))⟩, rfl, rfl, hF⟩)
            | (have e0 : lnwq K s = (tkR K 43 16 (tkQ K 15 (tkR K 43 15 (true, adv (rol s s.1 5) 1)))) := by unfold lnwq; simp only [tkR_n z9, tkQ_n z9]
               have e6 : q' = (tkR K 43 16 (tkQ K 15 (tkR K 43 15 (true, adv (rol s s.1 5) 1)))) := (hp3.fls (by rw [e0]; exact fls z9)).trans e0
               subst e6
               exact ⟨⟨by rw [if_neg z9], MLQ.ff z9 (hQ9.2 (fls z9))⟩, rfl, rfl, hF⟩)
            | (have e0 : lnwq K s = (tkQ K 13 (tkR K 43 16 (tkQ K 15 (tkR K 43 15 (true, adv (rol s s.1 5) 1))))) := by unfold lnwq; rfl
               have e6 : q' = (tkQ K 13 (tkR K 43 16 (tkQ K 15 (tkR K 43 15 (true, adv (rol s s.1 5) 1))))) := (hp3.fls (by rw [e0]; exact fls z9)).trans e0
               subst e6
               exact ⟨⟨by rw [if_neg z9], MLQ.ff z9 (hQ9.2 (fls z9))⟩, rfl, rfl, hF⟩)
            | (exact ⟨⟨by rw [if_neg z9], MLQ.ff z9 (hQ9.2 (fls z9))⟩, rfl, rfl, hF⟩)
        ·
          have z9 := ifz1 c99
          
          refine T_aload0 dX13_isWaitLine_102 rfl ?_
          refine T_cV0 (PR.m8 hX hTK hmz (by decide) (q := (tkQ K 13 (tkR K 43 16 (tkQ K 15 (tkR K 43 15 (true, adv (rol s s.1 5) 1)))))) z9 hp3 (hQ9.1 z9)) hX k13_173 (Or.inl ⟨_, _, _, _, (hM.t_m), by decide, rfl⟩) (by decide) (Nat.le_of_ble_eq_true rfl) dX13_isWaitLine_103 rfl ?_
          rintro _ _ _ M9 ⟨⟨rfl, hQ9⟩, rfl, rfl, hF9⟩
          have hF := hF.tr hF9
          refine T_if_ne 111 109 dX13_isWaitLine_106 (by decide) rfl (fun c106 => ?_) (fun c106 => ?_)
          ·
            have z9 := ifz1 c106
            obtain ⟨ω, wb, hM, hV, hω, hrl, hwb, hG, hn, ht, hz⟩ := hQ9.1 z9
            have k0 : ω 80 (q').2.1 = nI (kkF (K (q').2.1)) := by rw [hω 80 _ (by decide)]; exact (hTK.2.1 _ ht).1
            have hk := (hTK.2.1 _ ht).2.1
            have hps := (ps_le (σ := (q').2.2.2.1) (q').2.2.1).1
            refine T_aload0 dX13_isWaitLine_111 rfl ?_
            refine g13_39 _ rfl (hM.t_m) (hM.g_z) dX13_isWaitLine_112 rfl ?_
            refine g13_185 _ rfl (hV.t_q) (hV.g_tested) dX13_isWaitLine_115 rfl ?_
            refine T_iload1 dX13_isWaitLine_118 rfl ?_
            refine T_aload0 dX13_isWaitLine_119 rfl ?_
            refine g13_39 _ rfl (hM.t_m) (hM.g_z) dX13_isWaitLine_120 rfl ?_
            refine g13_136 _ rfl (hV.t_q) (hV.g_size) dX13_isWaitLine_123 rfl ?_
            refine T_iast _ (hV.t_tested) rfl (by omega) (by decide) dX13_isWaitLine_126 rfl ?_
            refine T_nm (fun M5 e5 => ?_)
            have hM := hM.frU e5 (by omega)
            have hV := PV.mv (hV.p_vtested (by omega)) e5
            have hF := hF.up e5 (by omega)
            refine T_iconst (1) dX13_isWaitLine_127 rfl rfl ?_
            refine T_iret rfl rfl dX13_isWaitLine_128 ?_
            have x3 := hp3.psm z9
            have y4 := (tkQ_t x3.1).1
            have y3 := (tkR_t y4).1
            have y2 := (tkQ_t y3).1
            have xs := C45.psm (C45.tq x3.1 (C45.tr9 y4 (C45.tq y3 (C45.tr9 y2 (C45.rf hz1) (by decide) (by decide))) (by decide) (by decide))) x3.2
            have ex4 : EXT s q'.2 := (PSX.ext ((((((PXQ.st s 5).tr).tk).tr).tk) x3.1)).tr (PSM.ext x3.2)
            have eh9 : cntR (adv (rol s s.1 5) 1).2.2.2.2 4 (adv (rol s s.1 5) 1).1 = h := by
              show cntR (uI s.2.2.2.2 s.1 5) 4 (s.1 + 1) = h
              rw [cntR_n (by rw [uI_s]; decide), cntR_c (uI_c (Nat.le_refl _)), eh]
            have ev9 : cntR (adv (rol s s.1 5) 1).2.2.2.2 5 (adv (rol s s.1 5) 1).1 = v + 1 := by
              show cntR (uI s.2.2.2.2 s.1 5) 5 (s.1 + 1) = v + 1
              rw [cntR_y (uI_s _ _ _), cntR_c (uI_c (Nat.le_refl _)), ev]
            rw [← ev]
            have hW9 := MW.wait hMW hwa rfl hwb ex4 rfl rfl
            exact ⟨⟨by rw [if_pos z9], MLQ.tt z9 (MLn.mk9 (xs.1.1.trans eh9) (xs.1.2.trans ev9) hW9 ⟨ω, _, hM.rf, hV.rf, hω, hrl, (fun _ _ _ _ => rfl), hG.up (by decide) (by decide), hn, ht, hz⟩)⟩, rfl, rfl, hF⟩
          ·
            have z9 := ifz0 (by first | exact c106 | exact Decidable.not_not.mp c106)
            refine T_iconst (0) dX13_isWaitLine_109 rfl rfl ?_
            refine T_iret rfl rfl dX13_isWaitLine_110 ?_
            first
              | (have e0 : lnwq K s = (tkR K 43 15 (true, adv (rol s s.1 5) 1)) := by unfold lnwq; simp only [tkR_n z9, tkQ_n z9]
                 have e6 : q' = (tkR K 43 15 (true, adv (rol s s.1 5) 1)) := (hp3.fls (by rw [e0]; exact fls z9)).trans e0
                 subst e6
                 exact ⟨⟨by rw [if_neg z9], MLQ.ff z9 (hQ9.2 (fls z9))⟩, rfl, rfl, hF⟩)
              | (have e0 : lnwq K s = (tkQ K 15 (tkR K 43 15 (true, adv (rol s s.1 5) 1))) := by unfold lnwq; simp only [tkR_n z9, tkQ_n z9]
                 have e6 : q' = (tkQ K 15 (tkR K 43 15 (true, adv (rol s s.1 5) 1))) := (hp3.fls (by rw [e0]; exact fls z9)).trans e0
                 subst e6
                 exact ⟨⟨by rw [if_neg z9], MLQ.ff z9 (hQ9.2 (fls z9))⟩, rfl, rfl, hF⟩)
              | (have e0 : lnwq K s = (tkR K 43 16 (tkQ K 15 (tkR K 43 15 (true, adv (rol s s.1 5) 1)))) := by unfold lnwq; simp only [tkR_n z9, tkQ_n z9]
                 have e6 : q' = (tkR K 43 16 (tkQ K 15 (tkR K 43 15 (true, adv (rol s s.1 5) 1)))) := (hp3.fls (by rw [e0]; exact fls z9)).trans e0
                 subst e6
                 exact ⟨⟨by rw [if_neg z9], MLQ.ff z9 (hQ9.2 (fls z9))⟩, rfl, rfl, hF⟩)
              | (have e0 : lnwq K s = (tkQ K 13 (tkR K 43 16 (tkQ K 15 (tkR K 43 15 (true, adv (rol s s.1 5) 1))))) := by unfold lnwq; rfl
                 have e6 : q' = (tkQ K 13 (tkR K 43 16 (tkQ K 15 (tkR K 43 15 (true, adv (rol s s.1 5) 1))))) := (hp3.fls (by rw [e0]; exact fls z9)).trans e0
                 subst e6
                 exact ⟨⟨by rw [if_neg z9], MLQ.ff z9 (hQ9.2 (fls z9))⟩, rfl, rfl, hF⟩)
              | (exact ⟨⟨by rw [if_neg z9], MLQ.ff z9 (hQ9.2 (fls z9))⟩, rfl, rfl, hF⟩)
