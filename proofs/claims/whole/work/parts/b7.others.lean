/-! teach, errorAt, mean, digest; the loop; the law -/
theorem warr_l : Cond.arrayClass .long ∈ GW := inGW (List.mem_of_getElem? (i := 399) (by decide +kernel)) (by decide +kernel)
set_option maxHeartbeats 1000000 in
theorem cm_teach {l : Launch} {D : va_G} {cA : Nat → ClassId} {n0 : Nat} {sg adK adV : Nat → Nat} {sgA smA wdA bS LS : Nat} {xs : Nat → Int32} (hX : SF n0 (XW0 sg adK adV sgA smA wdA n0 bS LS xs)) (hl : l.stackTraces = false) {nn : String} {i : Nat} (hi : i + 6 ≤ LS) (hL : LS ≤ 3072) {sz : Nat} {τ : TY} {M : ME} {x bk bn : Nat} {Q : QT} {QX : QXT} (hI : INV sg x sz τ M) (Kk : ∀ sz' τ' M', INV sg x sz' τ' M' → T l D cA n0 (XW0 sg adK adV sgA smA wdA n0 bS LS xs) (mLN nn) 2048 bk bn sz' τ' M' 1233 [.ref bS, .ref x, .ref (x + 144), .ref (x + 198), .int (nI i), UU, UU, UU, UU] [] Q QX) : T l D cA n0 (XW0 sg adK adV sgA smA wdA n0 bS LS xs) (mLN nn) 2048 (bk + 19 + 0) (bn + 1396 + 0) sz τ M 296 [.ref bS, .ref x, .ref (x + 144), .ref (x + 198), .int (nI i), UU, UU, UU, UU] [] Q QX := by
  have hI0 := hI
  obtain ⟨r, p, r2, p2, n8, a, b, c, hc, wc, sc, ρ, ν, π, σ, B, fa, y, hC, hD, ⟨h8, hB8⟩, hRI, hPl, hPm, hto, hz1, hz2⟩ := hI
  have hC0 := hC
  obtain ⟨hlay, ⟨ωc, hV, hfc⟩, hR, -⟩ := hC
  refine T_aload1 dL_law_296 rfl ?_
  refine T_cV0 (bk := bk + 19) (bn := bn + 1396) (c_X10_teach hX hC0 hB8 h8) hX kL_84 (Or.inl ⟨_, _, _, _, hV.t_x, by decide, rfl⟩) (Nat.le_of_ble_eq_true rfl) (Nat.le_of_ble_eq_true rfl) dL_law_297 rfl ?_
  rintro _ sz1 τ1 M1 ⟨rfl, rfl, hf, lt, K, S, V, q', β', hTk, hLS, hK45, rfl, hok, hno⟩
  refine T_aload2 dL_law_300 rfl ?_
  obtain ⟨z, tk, dp, ω, μ, κ, hM, hfm, ⟨hb9, ρs, hSV, hsl⟩, ⟨ρA, μA, κA, hAm⟩, hW, hLy⟩ := hD.fr (M1 := M1) (fun q hq => hf q (by omega))
  refine T_cV0 (bk := bk) (bn := bn) (c_X13_teach hX hM hSV (by omega) h8 hB8 hTk hLS) hX kL_87 (Or.inl ⟨_, _, _, _, hM.t_m, by decide, rfl⟩) (Nat.le_of_ble_eq_true rfl) (Nat.le_of_ble_eq_true rfl) dL_law_301 rfl ?_
  rintro _ sz' τ' M' ⟨rfl, rfl, hτ, hF, hok2, hno2⟩
  refine T_icmp_eq_t 1233 dL_law_304 (by decide) rfl ?_
  refine Kk _ _ _ ?_
  by_cases e : erV V S q' = 0
  · obtain ⟨a', b', c', hc', wc', sc', ρ', ν', π', σ', hC', e6, e7, ⟨hh, hw, hs⟩, hLC⟩ := hok e
    obtain ⟨⟨hz, hRG, hNS, hle, hsn⟩, tk1, dp1, ω1, w, hM', -, hfa1, hNW, ρn, hSn, hBG⟩ := hok2 e
    have hf0 : (flF V S q'.2.2.2.2.2 q'.2.1).1 = 0 := by unfold erV at e; rw [if_pos hz] at e; exact e
    have hb := hC'.2.2.1.ok
    have hRI' := JT.ri hLS hz hf0 (Toks.num hB8 hTk) hRG hle hLC
    obtain ⟨hPl', hPm'⟩ := JT.pl hLS hz hf0 hNS hle hTk.1 hsn hLC hh hw
    have hSL := JT.sl hLC hb hNW hBG ((hsl 6 0 (Or.inl ⟨Or.inl rfl, rfl⟩)).trans e6.symm) ((hsl 7 0 (Or.inl ⟨Or.inr (Or.inl rfl), rfl⟩)).trans e7.symm)
    have hWn := JT.wnn (s1 := x + 144 + 26) hLC hb hh hw hs hNW hM'.t_m hM'.g_y (by omega) (by omega)
    exact INV.of ((hC'.fr (fun q q1 q2 => hF q (by omega) (by omega) (by omega))).tau (fun q q1 q2 => hτ q (by omega))) ⟨_, tk1, dp1, ω1, μ, κ, hM', hfa1, ⟨hb, ρn, hSn, hSL⟩, ⟨ρA, μA, κA, (hAm.fr (fun q q1 q2 => hF q (by omega) (by omega) (by omega))).tau (fun q q1 q2 => hτ q (by omega))⟩, hWn, Or.inr (by omega)⟩ (Nat.zero_le _) hB8 hRI' hPl' hPm' (by rw [hτ _ (by omega)]; exact hto) (by omega) (by omega)
  · obtain ⟨⟨tk1, dp1, ω1, hM', -, hfa1⟩, hSn⟩ := hno2 e
    have hC' := hno e
    have hW' := (hW.re hM'.g_y (fun q g1 g2 => hF q (by omega) (by omega) (by omega)) (KS.rf _)).al rfl (fun _ _ _ => rfl) (hτ _ (by omega)) (fun q g1 g2 => hτ q (by omega))
    exact INV.of ((hC'.fr (fun q q1 q2 => hF q (by omega) (by omega) (by omega))).tau (fun q q1 q2 => hτ q (by omega))) ⟨_, tk1, dp1, ω1, μ, κ, hM', hfa1, ⟨hb9, ρs, hSn, hsl⟩, ⟨ρA, μA, κA, (hAm.fr (fun q q1 q2 => hF q (by omega) (by omega) (by omega))).tau (fun q q1 q2 => hτ q (by omega))⟩, hW', hLy⟩ (Nat.zero_le _) hB8 hRI hPl hPm (by rw [hτ _ (by omega)]; exact hto) (by omega) (by omega)
set_option maxHeartbeats 1000000 in
theorem cm_errorAt {l : Launch} {D : va_G} {cA : Nat → ClassId} {n0 : Nat} {sg adK adV : Nat → Nat} {sgA smA wdA bS LS : Nat} {xs : Nat → Int32} (hX : SF n0 (XW0 sg adK adV sgA smA wdA n0 bS LS xs)) (hl : l.stackTraces = false) {nn : String} {i : Nat} (hi : i + 6 ≤ LS) (hL : LS ≤ 3072) {sz : Nat} {τ : TY} {M : ME} {x bk bn : Nat} {Q : QT} {QX : QXT} (hI : INV sg x sz τ M) (K : ∀ sz' τ' M', INV sg x sz' τ' M' → T l D cA n0 (XW0 sg adK adV sgA smA wdA n0 bS LS xs) (mLN nn) 2048 bk bn sz' τ' M' 1233 [.ref bS, .ref x, .ref (x + 144), .ref (x + 198), .int (nI i), UU, UU, UU, UU] [] Q QX) : T l D cA n0 (XW0 sg adK adV sgA smA wdA n0 bS LS xs) (mLN nn) 2048 (bk + 0 + 0) (bn + 0 + 0) sz τ M 309 [.ref bS, .ref x, .ref (x + 144), .ref (x + 198), .int (nI i), UU, UU, UU, UU] [] Q QX := by
  have hI0 := hI
  obtain ⟨r, p, r2, p2, n8, a, b, c, hc, wc, sc, ρ, ν, π, σ, B, fa, y, hC, hD, ⟨h8, hB8⟩, hRI, hPl, hPm, hto, hz1, hz2⟩ := hI
  have hC0 := hC
  obtain ⟨hlay, ⟨ωc, hV, hfc⟩, hR, -⟩ := hC
  obtain ⟨z, tk, dp, ω, μ, κ, hM, hfm, hS, ⟨ρA, μA, κA, hAm⟩, hW, hLy⟩ := hD
  refine T_aload1 dL_law_309 rfl ?_
  refine T_cV0 (bk := bk + 0) (bn := bn + 0) (c_X10_errorAt hX hV) hX kL_88 (Or.inl ⟨_, _, _, _, hV.t_x, by decide, rfl⟩) (Nat.le_of_ble_eq_true rfl) (Nat.le_of_ble_eq_true rfl) dL_law_310 rfl ?_
  rintro _ _ _ _ ⟨rfl, rfl, rfl, rfl⟩
  refine T_aload2 dL_law_313 rfl ?_
  refine T_cV0 (bk := bk) (bn := bn) (c_X13_errorAt hX hM hS hW (by omega)) hX kL_91 (Or.inl ⟨_, _, _, _, hM.t_m, by decide, rfl⟩) (Nat.le_of_ble_eq_true rfl) (Nat.le_of_ble_eq_true rfl) dL_law_314 rfl ?_
  intro v' sz' τ' M' h2
  obtain ⟨rfl, hTH⟩ := h2 trivial
  refine T_icmp_eq_t 1233 dL_law_317 (by decide) (hfc.trans hfm.symm) ?_
  exact K _ _ _ (hI0.td hTH.td).1
set_option maxHeartbeats 1000000 in
theorem cm_mean {l : Launch} {D : va_G} {cA : Nat → ClassId} {n0 : Nat} {sg adK adV : Nat → Nat} {sgA smA wdA bS LS : Nat} {xs : Nat → Int32} (hX : SF n0 (XW0 sg adK adV sgA smA wdA n0 bS LS xs)) (hl : l.stackTraces = false) {nn : String} {i : Nat} (hi : i + 6 ≤ LS) (hL : LS ≤ 3072) {sz : Nat} {τ : TY} {M : ME} {x bk bn : Nat} {Q : QT} {QX : QXT} (hI : INV sg x sz τ M) (K : ∀ sz' τ' M', INV sg x sz' τ' M' → T l D cA n0 (XW0 sg adK adV sgA smA wdA n0 bS LS xs) (mLN nn) 2048 bk bn sz' τ' M' 1233 [.ref bS, .ref x, .ref (x + 144), .ref (x + 198), .int (nI i), UU, UU, UU, UU] [] Q QX) : T l D cA n0 (XW0 sg adK adV sgA smA wdA n0 bS LS xs) (mLN nn) 2048 (bk + 0 + 0) (bn + 0 + 0) sz τ M 1178 [.ref bS, .ref x, .ref (x + 144), .ref (x + 198), .int (nI i), UU, UU, UU, UU] [] Q QX := by
  have hI0 := hI
  obtain ⟨r, p, r2, p2, n8, a, b, c, hc, wc, sc, ρ, ν, π, σ, B, fa, y, hC, hD, ⟨h8, hB8⟩, hRI, hPl, hPm, hto, hz1, hz2⟩ := hI
  have hC0 := hC
  obtain ⟨hlay, ⟨ωc, hV, hfc⟩, hR, -⟩ := hC
  obtain ⟨z, tk, dp, ω, μ, κ, hM, hfm, hS, ⟨ρA, μA, κA, hAm⟩, hW, hLy⟩ := hD
  refine T_aload1 dL_law_1178 rfl ?_
  refine T_cV0 (bk := bk + 0) (bn := bn + 0) (c_X10_mean hX hV hR hRI) hX kL_135 (Or.inl ⟨_, _, _, _, hV.t_x, by decide, rfl⟩) (Nat.le_of_ble_eq_true rfl) (Nat.le_of_ble_eq_true rfl) dL_law_1179 rfl ?_
  rintro _ _ _ _ ⟨rfl, rfl, rfl, rfl⟩
  refine T_dstore5 rfl (Nat.le_of_ble_eq_true rfl) dL_law_1182 rfl ?_
  refine T_aload2 dL_law_1184 rfl ?_
  refine T_cV0 (bk := bk) (bn := bn) (c_X13_mean hX hM hS hW (by omega) hRI) hX kL_139 (Or.inl ⟨_, _, _, _, hM.t_m, by decide, rfl⟩) (Nat.le_of_ble_eq_true rfl) (Nat.le_of_ble_eq_true rfl) dL_law_1185 rfl ?_
  rintro _ sz' τ' M' ⟨rfl, hTH⟩
  refine T_dstore7 rfl (Nat.le_of_ble_eq_true rfl) dL_law_1188 rfl ?_
  refine T_dload5 dL_law_1190 rfl ?_
  refine T_dload7 dL_law_1192 rfl ?_
  refine T_dcmp dL_law_1194 rfl ?_
  refine T_if_eq 1216 1198 dL_law_1195 (by decide) rfl (fun c1 => ?_) (fun c1 => ?_)
  · refine T_goto 1233 dL_law_1216 (by decide) ?_
    exact T_ls5 (K _ _ _ (hI0.td hTH.td).1)
  · refine T_dload5 dL_law_1198 rfl ?_
    refine T_dload5 dL_law_1200 rfl ?_
    refine T_dcmp dL_law_1202 rfl ?_
    refine T_if_eq 1214 1206 dL_law_1203 (by decide) rfl (fun c2 => absurd c2 c1) (fun c2 => ?_)
    refine T_dload7 dL_law_1206 rfl ?_
    refine T_dload7 dL_law_1208 rfl ?_
    refine T_dcmp dL_law_1210 rfl ?_
    refine T_if_ne_t 1216 dL_law_1211 (by decide) c1 ?_
    refine T_goto 1233 dL_law_1216 (by decide) ?_
    exact T_ls5 (K _ _ _ (hI0.td hTH.td).1)
set_option maxHeartbeats 1000000 in
theorem cm_digest {l : Launch} {D : va_G} {cA : Nat → ClassId} {n0 : Nat} {sg adK adV : Nat → Nat} {sgA smA wdA bS LS : Nat} {xs : Nat → Int32} (hX : SF n0 (XW0 sg adK adV sgA smA wdA n0 bS LS xs)) (hl : l.stackTraces = false) {nn : String} {i : Nat} (hi : i + 6 ≤ LS) (hL : LS ≤ 3072) {sz : Nat} {τ : TY} {M : ME} {x bk bn : Nat} {Q : QT} {QX : QXT} (hI : INV sg x sz τ M) (K : ∀ sz' τ' M', INV sg x sz' τ' M' → T l D cA n0 (XW0 sg adK adV sgA smA wdA n0 bS LS xs) (mLN nn) 2048 bk bn sz' τ' M' 1233 [.ref bS, .ref x, .ref (x + 144), .ref (x + 198), .int (nI i), UU, UU, UU, UU] [] Q QX) : T l D cA n0 (XW0 sg adK adV sgA smA wdA n0 bS LS xs) (mLN nn) 2048 (bk + 113 + 13) (bn + 969 + 78) sz τ M 1219 [.ref bS, .ref x, .ref (x + 144), .ref (x + 198), .int (nI i), UU, UU, UU, UU] [] Q QX := by
  have hI0 := hI
  obtain ⟨r, p, r2, p2, n8, a, b, c, hc, wc, sc, ρ, ν, π, σ, B, fa, y, hC, hD, ⟨h8, hB8⟩, hRI, hPl, hPm, hto, hz1, hz2⟩ := hI
  have hC0 := hC
  obtain ⟨hlay, ⟨ωc, hV, hfc⟩, hR, -⟩ := hC
  obtain ⟨z, tk, dp, ω, μ, κ, hM, hfm, hS, ⟨ρA, μA, κA, hAm⟩, hW, hLy⟩ := hD
  refine T_aload1 dL_law_1219 rfl ?_
  refine T_cV0 (bk := bk + 113) (bn := bn + 969) (c_X10_digest hX hl hV hR hRI) hX kL_140 (Or.inl ⟨_, _, _, _, hV.t_x, by decide, rfl⟩) (Nat.le_of_ble_eq_true rfl) (Nat.le_of_ble_eq_true rfl) dL_law_1220 rfl ?_
  rintro _ _ _ _ ⟨rfl, rfl, rfl, rfl⟩
  refine T_aload2 dL_law_1223 rfl ?_
  refine T_cV0 (bk := bk) (bn := bn) (c_X13_digest hX hM hS hW (by omega) (by omega)) hX kL_144 (Or.inl ⟨_, _, _, _, hM.t_m, by decide, rfl⟩) (Nat.le_of_ble_eq_true rfl) (Nat.le_of_ble_eq_true rfl) dL_law_1224 rfl ?_
  rintro _ sz' τ' M' ⟨rfl, hTD⟩
  refine T_lcmp dL_law_1227 rfl ?_
  refine T_if_eq_t 1233 dL_law_1228 (by decide) (lg_self _) ?_
  exact K _ _ _ (hI0.td hTD).1
