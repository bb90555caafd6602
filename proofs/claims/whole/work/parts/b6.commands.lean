/-! each call of both: the invariant again, the same answer -/
set_option maxHeartbeats 1000000 in
theorem cm_feed {l : Launch} {D : va_G} {cA : Nat → ClassId} {n0 : Nat} {sg adK adV : Nat → Nat} {sgA smA wdA bS LS : Nat} {xs : Nat → Int32} (hX : SF n0 (XW0 sg adK adV sgA smA wdA n0 bS LS xs)) (hl : l.stackTraces = false) {nn : String} {i : Nat} (hi : i + 6 ≤ LS) (hL : LS ≤ 3072) {sz : Nat} {τ : TY} {M : ME} {x bk bn : Nat} {Q : QT} {QX : QXT} (hI : INV sg x sz τ M) (K : ∀ sz' τ' M', INV sg x sz' τ' M' → T l D cA n0 (XW0 sg adK adV sgA smA wdA n0 bS LS xs) (mLN nn) 2048 bk bn sz' τ' M' 1233 [.ref bS, .ref x, .ref (x + 144), .ref (x + 198), .int (nI i), UU, UU, UU, UU] [] Q QX) : T l D cA n0 (XW0 sg adK adV sgA smA wdA n0 bS LS xs) (mLN nn) 2048 (bk + 1 + 1) (bn + 5 + 6) sz τ M 136 [.ref bS, .ref x, .ref (x + 144), .ref (x + 198), .int (nI i), UU, UU, UU, UU] [] Q QX := by
  have hI0 := hI
  obtain ⟨r, p, r2, p2, n8, a, b, c, hc, wc, sc, ρ, ν, π, σ, B, fa, y, hC, hD, ⟨h8, hB8⟩, hRI, hPl, hPm, hto, hz1, hz2⟩ := hI
  have hC0 := hC
  obtain ⟨hlay, ⟨ωc, hV, hfc⟩, hR, ⟨κc, hP⟩, ⟨a2, b2, c2, ρ2, ν2, hA⟩, -, hBM, -, -⟩ := hC
  have htm : τ (x + 144) = (11, 0) := hD.t_m
  refine st_feed (dm := 2) hX hi hL (c_L_feed hX hV.t_x _ _ _ _ _ (c_X10_feed hX hl h8 hV hBM _ _ _ _ _) (by rintro _ _ _ _ ⟨⟨rfl, -⟩, -, rfl, -⟩; exact ⟨_, rfl, hto⟩) (by rintro _ _ _ _ ⟨⟨rfl, -⟩, -⟩; rfl)) (Nat.le_of_ble_eq_true rfl) (Nat.le_of_ble_eq_true rfl) ?_ K
  rintro _ sz1 τ1 M1 (⟨w, M2, hq, rfl, eM⟩ | ⟨E, sz3, hq, e3, rfl⟩)
  · obtain ⟨⟨e0, e1⟩, rfl, rfl, hV', hB', hf⟩ := hq
    cases e0
    have hC2 := hC0.setFB hV' hfc hB' hf
    have hD2 := hD.fr (M1 := M2) (fun q hq => hf q (by omega) (by omega))
    obtain ⟨z, tk, dp, ω, μ, κ, hM, hfm, hS, ⟨ρA, μA, κA, hAm⟩, hW, hLy⟩ := hD2.o eM
    refine ⟨0, rfl, htm, ?_⟩
    refine (c_X13_feed hX hM h8 _ _ _ _ _).wk ?_
    rintro v' sz' τ' M' ⟨-, h2⟩
    obtain ⟨rfl, rfl, ht9, hF, hM'⟩ := h2 e1
    have hW' := hW.re hM'.g_y (fun q g1 g2 => hF q (by omega) (by omega)) (KS.rf _)
    have hD3 : MD τ' M' (x + 144) y _ a b c hc wc sc ρ π σ _ fa := ⟨_, _, _, _, _, _, hM', (by simpa [u2] using hfm), (hS.fr (fun q g1 g2 => hF q (by omega) (by omega))).tau (fun q g1 g2 => ht9 q (by omega)), ⟨_, _, _, (hAm.fr (fun q g1 g2 => hF q (by omega) (by omega))).tau (fun q g1 g2 => ht9 q (by omega))⟩, hW'.al rfl (fun _ _ _ => rfl) (ht9 _ (by omega)) (fun q g1 g2 => ht9 q (by omega)), hLy⟩
    exact ⟨_, rfl, INV.of ((hC2.fr (fun q q1 q2 => (hF q (by omega) (by omega)).trans (by rw [eM]; exact up_a (by omega)))).tau (fun q q1 q2 => ht9 q (by omega))) hD3 (by omega) (fun q => by unfold fdT; split; exact (fdN_ok _ _).2; exact hB8 q) hRI hPl hPm (by rw [ht9 _ (by omega)]; exact hto) (by omega) (by omega), (by rw [hM'.g_th, u2_s]), fun _ => by rw [hF _ (by omega) (by omega), eM, up_s]⟩
  · obtain ⟨⟨rfl, e1⟩, e2, rfl, rfl⟩ := hq
    obtain ⟨z, tk, dp, ω, μ, κ, hM, hfm, hS, ⟨ρA, μA, κA, hAm⟩, hW, hLy⟩ := hD
    refine ⟨1, rfl, htm, ?_⟩
    refine (c_X13_feed hX hM h8 _ _ _ _ _).wk ?_
    rintro v' sz' τ' M' ⟨h1, -⟩
    obtain ⟨rfl, hTH⟩ := h1 e1
    exact DN.td (hI0.szl (by omega)) hTH.td (fun e => absurd e (by decide))
set_option maxHeartbeats 1000000 in
theorem cm_trim {l : Launch} {D : va_G} {cA : Nat → ClassId} {n0 : Nat} {sg adK adV : Nat → Nat} {sgA smA wdA bS LS : Nat} {xs : Nat → Int32} (hX : SF n0 (XW0 sg adK adV sgA smA wdA n0 bS LS xs)) (hl : l.stackTraces = false) {nn : String} {i : Nat} (hi : i + 6 ≤ LS) (hL : LS ≤ 3072) {sz : Nat} {τ : TY} {M : ME} {x bk bn : Nat} {Q : QT} {QX : QXT} (hI : INV sg x sz τ M) (K : ∀ sz' τ' M', INV sg x sz' τ' M' → T l D cA n0 (XW0 sg adK adV sgA smA wdA n0 bS LS xs) (mLN nn) 2048 bk bn sz' τ' M' 1233 [.ref bS, .ref x, .ref (x + 144), .ref (x + 198), .int (nI i), UU, UU, UU, UU] [] Q QX) : T l D cA n0 (XW0 sg adK adV sgA smA wdA n0 bS LS xs) (mLN nn) 2048 (bk + 0 + 1) (bn + 0 + 6) sz τ M 240 [.ref bS, .ref x, .ref (x + 144), .ref (x + 198), .int (nI i), UU, UU, UU, UU] [] Q QX := by
  have hI0 := hI
  obtain ⟨r, p, r2, p2, n8, a, b, c, hc, wc, sc, ρ, ν, π, σ, B, fa, y, hC, hD, ⟨h8, hB8⟩, hRI, hPl, hPm, hto, hz1, hz2⟩ := hI
  have hC0 := hC
  obtain ⟨hlay, ⟨ωc, hV, hfc⟩, hR, ⟨κc, hP⟩, ⟨a2, b2, c2, ρ2, ν2, hA⟩, -, hBM, -, -⟩ := hC
  have htm : τ (x + 144) = (11, 0) := hD.t_m
  refine st_trim (dm := 2) hX hi hL (c_L_trim hX hV.t_x _ (c_X10_trim hX hl h8 hV _) (by rintro _ _ _ _ ⟨⟨rfl, -⟩, -, rfl, -⟩; exact ⟨_, rfl, hto⟩) (by rintro _ _ _ _ ⟨⟨rfl, -⟩, -⟩; rfl)) (Nat.le_of_ble_eq_true rfl) (Nat.le_of_ble_eq_true rfl) ?_ K
  rintro _ sz1 τ1 M1 (⟨w, M2, hq, rfl, eM⟩ | ⟨E, sz3, hq, e3, rfl⟩)
  · obtain ⟨⟨e0, e1⟩, rfl, rfl, hV', hf⟩ := hq
    cases e0
    obtain ⟨j, j2, ej⟩ := ii_nI2 h8 e1
    have hj : (xs (i + 1)).toNatClampNeg = j := by rw [ej]; exact nI_cl (by omega)
    subst hj
    have hC2 := hC0.setF hV' hfc hf
    have hD2 := hD.fr (M1 := M2) (fun q hq => hf q (by omega))
    obtain ⟨z, tk, dp, ω, μ, κ, hM, hfm, hS, ⟨ρA, μA, κA, hAm⟩, hW, hLy⟩ := hD2.o eM
    refine ⟨0, rfl, htm, ?_⟩
    refine (c_X13_trim hX hM hS hW (by omega) h8 _).wk ?_
    rintro v' sz' τ' M' ⟨-, h2⟩
    obtain ⟨rfl, hSC⟩ := h2 _ j2 ej
    obtain ⟨rfl, rfl, hD3, hth, hF⟩ := MD.sct hW hLy hAm hfm (KS.rf _) hSC
    exact ⟨_, rfl, INV.of (hC2.fr (fun q q1 q2 => (hF q (by omega)).trans (by rw [eM]; exact up_a (by omega)))) hD3 (by omega) hB8 hRI hPl hPm hto hz1 hz2, hth, fun _ => by rw [hF _ (by omega), eM, up_s]⟩
  · obtain ⟨⟨rfl, e1⟩, e2, rfl, rfl⟩ := hq
    obtain ⟨z, tk, dp, ω, μ, κ, hM, hfm, hS, ⟨ρA, μA, κA, hAm⟩, hW, hLy⟩ := hD
    refine ⟨1, rfl, htm, ?_⟩
    refine (c_X13_trim hX hM hS hW (by omega) h8 _).wk ?_
    rintro v' sz' τ' M' ⟨h1, -⟩
    obtain ⟨rfl, hTH⟩ := h1 e1
    exact DN.td (hI0.szl (by omega)) hTH.td (fun e => absurd e (by decide))
set_option maxHeartbeats 1000000 in
theorem cm_count {l : Launch} {D : va_G} {cA : Nat → ClassId} {n0 : Nat} {sg adK adV : Nat → Nat} {sgA smA wdA bS LS : Nat} {xs : Nat → Int32} (hX : SF n0 (XW0 sg adK adV sgA smA wdA n0 bS LS xs)) (hl : l.stackTraces = false) {nn : String} {i : Nat} (hi : i + 6 ≤ LS) (hL : LS ≤ 3072) {sz : Nat} {τ : TY} {M : ME} {x bk bn : Nat} {Q : QT} {QX : QXT} (hI : INV sg x sz τ M) (K : ∀ sz' τ' M', INV sg x sz' τ' M' → T l D cA n0 (XW0 sg adK adV sgA smA wdA n0 bS LS xs) (mLN nn) 2048 bk bn sz' τ' M' 1233 [.ref bS, .ref x, .ref (x + 144), .ref (x + 198), .int (nI i), UU, UU, UU, UU] [] Q QX) : T l D cA n0 (XW0 sg adK adV sgA smA wdA n0 bS LS xs) (mLN nn) 2048 (bk + 1 + 1) (bn + 13 + 6) sz τ M 322 [.ref bS, .ref x, .ref (x + 144), .ref (x + 198), .int (nI i), UU, UU, UU, UU] [] Q QX := by
  have hI0 := hI
  obtain ⟨r, p, r2, p2, n8, a, b, c, hc, wc, sc, ρ, ν, π, σ, B, fa, y, hC, hD, ⟨h8, hB8⟩, hRI, hPl, hPm, hto, hz1, hz2⟩ := hI
  have hC0 := hC
  obtain ⟨hlay, ⟨ωc, hV, hfc⟩, hR, ⟨κc, hP⟩, ⟨a2, b2, c2, ρ2, ν2, hA⟩, -, hBM, -, -⟩ := hC
  have htm : τ (x + 144) = (11, 0) := hD.t_m
  refine st_count (dm := 4) hX hi hL (c_L_count hX hV.t_x _ (c_X10_count hX hl hV hR _) (by rintro _ _ _ _ ⟨⟨rfl, -⟩, -, rfl, -⟩; exact ⟨_, rfl, hto⟩) (by rintro _ _ _ _ ⟨⟨rfl, -⟩, -⟩; rfl)) (Nat.le_of_ble_eq_true rfl) (Nat.le_of_ble_eq_true rfl) ?_ K
  rintro _ sz1 τ1 M1 (⟨w, M2, hq, rfl, eM⟩ | ⟨E, sz3, hq, e3, rfl⟩)
  · obtain ⟨⟨e0, e1⟩, rfl, rfl, rfl⟩ := hq
    cases e0
    obtain ⟨z, tk, dp, ω, μ, κ, hM, hfm, hS, ⟨ρA, μA, κA, hAm⟩, hW, hLy⟩ := hD.o eM
    refine ⟨0, rfl, htm, ?_⟩
    refine (c_X13_count hX hM hS hW (by omega) _).wk ?_
    rintro v' sz' τ' M' ⟨-, h2⟩
    obtain ⟨rfl, hTH⟩ := h2 e1
    exact DN.td (hI0.o eM) hTH.td (fun _ => by rw [eM, up_s])
  · obtain ⟨⟨rfl, e1⟩, e2, rfl, rfl⟩ := hq
    obtain ⟨z, tk, dp, ω, μ, κ, hM, hfm, hS, ⟨ρA, μA, κA, hAm⟩, hW, hLy⟩ := hD
    refine ⟨1, rfl, htm, ?_⟩
    refine (c_X13_count hX hM hS hW (by omega) _).wk ?_
    rintro v' sz' τ' M' ⟨h1, -⟩
    obtain ⟨rfl, hTH⟩ := h1 e1
    exact DN.td (hI0.szl (by omega)) hTH.td (fun e => absurd e (by decide))
set_option maxHeartbeats 1000000 in
theorem cm_stretch {l : Launch} {D : va_G} {cA : Nat → ClassId} {n0 : Nat} {sg adK adV : Nat → Nat} {sgA smA wdA bS LS : Nat} {xs : Nat → Int32} (hX : SF n0 (XW0 sg adK adV sgA smA wdA n0 bS LS xs)) (hl : l.stackTraces = false) {nn : String} {i : Nat} (hi : i + 6 ≤ LS) (hL : LS ≤ 3072) {sz : Nat} {τ : TY} {M : ME} {x bk bn : Nat} {Q : QT} {QX : QXT} (hI : INV sg x sz τ M) (K : ∀ sz' τ' M', INV sg x sz' τ' M' → T l D cA n0 (XW0 sg adK adV sgA smA wdA n0 bS LS xs) (mLN nn) 2048 bk bn sz' τ' M' 1233 [.ref bS, .ref x, .ref (x + 144), .ref (x + 198), .int (nI i), UU, UU, UU, UU] [] Q QX) : T l D cA n0 (XW0 sg adK adV sgA smA wdA n0 bS LS xs) (mLN nn) 2048 (bk + 1 + 2) (bn + 5 + 12) sz τ M 378 [.ref bS, .ref x, .ref (x + 144), .ref (x + 198), .int (nI i), UU, UU, UU, UU] [] Q QX := by
  have hI0 := hI
  obtain ⟨r, p, r2, p2, n8, a, b, c, hc, wc, sc, ρ, ν, π, σ, B, fa, y, hC, hD, ⟨h8, hB8⟩, hRI, hPl, hPm, hto, hz1, hz2⟩ := hI
  have hC0 := hC
  obtain ⟨hlay, ⟨ωc, hV, hfc⟩, hR, ⟨κc, hP⟩, ⟨a2, b2, c2, ρ2, ν2, hA⟩, -, hBM, -, -⟩ := hC
  have htm : τ (x + 144) = (11, 0) := hD.t_m
  refine st_stretch (dm := 4) hX hi hL (c_L_stretch hX hV.t_x _ _ (c_X10_stretch hX hl hV hR _ _) (by rintro _ _ _ _ ⟨⟨rfl, -⟩, -, rfl, -⟩; exact ⟨_, rfl, hto⟩) (by rintro _ _ _ _ ⟨⟨rfl, -⟩, -⟩; rfl)) (Nat.le_of_ble_eq_true rfl) (Nat.le_of_ble_eq_true rfl) ?_ K
  rintro _ sz1 τ1 M1 (⟨w, M2, hq, rfl, eM⟩ | ⟨E, sz3, hq, e3, rfl⟩)
  · obtain ⟨⟨e0, e1⟩, rfl, rfl, rfl⟩ := hq
    cases e0
    obtain ⟨z, tk, dp, ω, μ, κ, hM, hfm, hS, ⟨ρA, μA, κA, hAm⟩, hW, hLy⟩ := hD.o eM
    refine ⟨0, rfl, htm, ?_⟩
    refine (c_X13_stretch hX hM hS hW (by omega) _ _).wk ?_
    rintro v' sz' τ' M' ⟨-, h2⟩
    obtain ⟨rfl, hTH⟩ := h2 e1
    exact DN.td (hI0.o eM) hTH.td (fun _ => by rw [eM, up_s])
  · obtain ⟨⟨rfl, e1⟩, e2, rfl, rfl⟩ := hq
    obtain ⟨z, tk, dp, ω, μ, κ, hM, hfm, hS, ⟨ρA, μA, κA, hAm⟩, hW, hLy⟩ := hD
    refine ⟨1, rfl, htm, ?_⟩
    refine (c_X13_stretch hX hM hS hW (by omega) _ _).wk ?_
    rintro v' sz' τ' M' ⟨h1, -⟩
    obtain ⟨rfl, hTH⟩ := h1 e1
    exact DN.td (hI0.szl (by omega)) hTH.td (fun e => absurd e (by decide))
set_option maxHeartbeats 1000000 in
theorem cm_horse {l : Launch} {D : va_G} {cA : Nat → ClassId} {n0 : Nat} {sg adK adV : Nat → Nat} {sgA smA wdA bS LS : Nat} {xs : Nat → Int32} (hX : SF n0 (XW0 sg adK adV sgA smA wdA n0 bS LS xs)) (hl : l.stackTraces = false) {nn : String} {i : Nat} (hi : i + 6 ≤ LS) (hL : LS ≤ 3072) {sz : Nat} {τ : TY} {M : ME} {x bk bn : Nat} {Q : QT} {QX : QXT} (hI : INV sg x sz τ M) (K : ∀ sz' τ' M', INV sg x sz' τ' M' → T l D cA n0 (XW0 sg adK adV sgA smA wdA n0 bS LS xs) (mLN nn) 2048 bk bn sz' τ' M' 1233 [.ref bS, .ref x, .ref (x + 144), .ref (x + 198), .int (nI i), UU, UU, UU, UU] [] Q QX) : T l D cA n0 (XW0 sg adK adV sgA smA wdA n0 bS LS xs) (mLN nn) 2048 (bk + 1 + 2) (bn + 10 + 12) sz τ M 446 [.ref bS, .ref x, .ref (x + 144), .ref (x + 198), .int (nI i), UU, UU, UU, UU] [] Q QX := by
  have hI0 := hI
  obtain ⟨r, p, r2, p2, n8, a, b, c, hc, wc, sc, ρ, ν, π, σ, B, fa, y, hC, hD, ⟨h8, hB8⟩, hRI, hPl, hPm, hto, hz1, hz2⟩ := hI
  have hC0 := hC
  obtain ⟨hlay, ⟨ωc, hV, hfc⟩, hR, ⟨κc, hP⟩, ⟨a2, b2, c2, ρ2, ν2, hA⟩, -, hBM, -, -⟩ := hC
  have htm : τ (x + 144) = (11, 0) := hD.t_m
  refine st_horse (dm := 4) hX hi hL (c_L_horse hX hV.t_x _ _ (c_X10_horse hX hl hV hR hRI _ _) (by rintro _ _ _ _ ⟨⟨rfl, -⟩, -, rfl, -⟩; exact ⟨_, rfl, hto⟩) (by rintro _ _ _ _ ⟨⟨rfl, -⟩, -⟩; rfl)) (Nat.le_of_ble_eq_true rfl) (Nat.le_of_ble_eq_true rfl) ?_ K
  rintro _ sz1 τ1 M1 (⟨w, M2, hq, rfl, eM⟩ | ⟨E, sz3, hq, e3, rfl⟩)
  · obtain ⟨⟨e0, e1⟩, rfl, rfl, rfl⟩ := hq
    cases e0
    obtain ⟨z, tk, dp, ω, μ, κ, hM, hfm, hS, ⟨ρA, μA, κA, hAm⟩, hW, hLy⟩ := hD.o eM
    refine ⟨0, rfl, htm, ?_⟩
    refine (c_X13_horse hX hM hS hW (by omega) _ _).wk ?_
    rintro v' sz' τ' M' ⟨-, h2⟩
    obtain ⟨rfl, hTH⟩ := h2 e1
    exact DN.td (hI0.o eM) hTH.td (fun _ => by rw [eM, up_s])
  · obtain ⟨⟨rfl, e1⟩, e2, rfl, rfl⟩ := hq
    obtain ⟨z, tk, dp, ω, μ, κ, hM, hfm, hS, ⟨ρA, μA, κA, hAm⟩, hW, hLy⟩ := hD
    refine ⟨1, rfl, htm, ?_⟩
    refine (c_X13_horse hX hM hS hW (by omega) _ _).wk ?_
    rintro v' sz' τ' M' ⟨h1, -⟩
    obtain ⟨rfl, hTH⟩ := h1 e1
    exact DN.td (hI0.szl (by omega)) hTH.td (fun e => absurd e (by decide))
set_option maxHeartbeats 1000000 in
theorem cm_log {l : Launch} {D : va_G} {cA : Nat → ClassId} {n0 : Nat} {sg adK adV : Nat → Nat} {sgA smA wdA bS LS : Nat} {xs : Nat → Int32} (hX : SF n0 (XW0 sg adK adV sgA smA wdA n0 bS LS xs)) (hl : l.stackTraces = false) {nn : String} {i : Nat} (hi : i + 6 ≤ LS) (hL : LS ≤ 3072) {sz : Nat} {τ : TY} {M : ME} {x bk bn : Nat} {Q : QT} {QX : QXT} (hI : INV sg x sz τ M) (K : ∀ sz' τ' M', INV sg x sz' τ' M' → T l D cA n0 (XW0 sg adK adV sgA smA wdA n0 bS LS xs) (mLN nn) 2048 bk bn sz' τ' M' 1233 [.ref bS, .ref x, .ref (x + 144), .ref (x + 198), .int (nI i), UU, UU, UU, UU] [] Q QX) : T l D cA n0 (XW0 sg adK adV sgA smA wdA n0 bS LS xs) (mLN nn) 2048 (bk + 0 + 2) (bn + 0 + 12) sz τ M 514 [.ref bS, .ref x, .ref (x + 144), .ref (x + 198), .int (nI i), UU, UU, UU, UU] [] Q QX := by
  have hI0 := hI
  obtain ⟨r, p, r2, p2, n8, a, b, c, hc, wc, sc, ρ, ν, π, σ, B, fa, y, hC, hD, ⟨h8, hB8⟩, hRI, hPl, hPm, hto, hz1, hz2⟩ := hI
  have hC0 := hC
  obtain ⟨hlay, ⟨ωc, hV, hfc⟩, hR, ⟨κc, hP⟩, ⟨a2, b2, c2, ρ2, ν2, hA⟩, -, hBM, -, -⟩ := hC
  have htm : τ (x + 144) = (11, 0) := hD.t_m
  refine st_log (dm := 3) hX hi hL (c_L_log hX hV.t_x _ _ (c_X10_log hX hl hV hR _ _) (by rintro _ _ _ _ ⟨⟨rfl, -⟩, -, rfl, -⟩; exact ⟨_, rfl, hto⟩) (by rintro _ _ _ _ ⟨⟨rfl, -⟩, -⟩; rfl)) (Nat.le_of_ble_eq_true rfl) (Nat.le_of_ble_eq_true rfl) ?_ K
  rintro _ sz1 τ1 M1 (⟨w, M2, hq, rfl, eM⟩ | ⟨E, sz3, hq, e3, rfl⟩)
  · obtain ⟨⟨e0, e1⟩, rfl, rfl, rfl⟩ := hq
    cases e0
    obtain ⟨z, tk, dp, ω, μ, κ, hM, hfm, hS, ⟨ρA, μA, κA, hAm⟩, hW, hLy⟩ := hD.o eM
    refine ⟨0, rfl, htm, ?_⟩
    refine (c_X13_log hX hM hS hW (by omega) _ _).wk ?_
    rintro v' sz' τ' M' ⟨-, h2⟩
    obtain ⟨rfl, hTH⟩ := h2 e1
    exact DN.td (hI0.o eM) hTH.td (fun _ => by rw [eM, up_s])
  · obtain ⟨⟨rfl, e1⟩, e2, rfl, rfl⟩ := hq
    obtain ⟨z, tk, dp, ω, μ, κ, hM, hfm, hS, ⟨ρA, μA, κA, hAm⟩, hW, hLy⟩ := hD
    refine ⟨1, rfl, htm, ?_⟩
    refine (c_X13_log hX hM hS hW (by omega) _ _).wk ?_
    rintro v' sz' τ' M' ⟨h1, -⟩
    obtain ⟨rfl, hTH⟩ := h1 e1
    exact DN.td (hI0.szl (by omega)) hTH.td (fun e => absurd e (by decide))
set_option maxHeartbeats 1000000 in
theorem cm_needs {l : Launch} {D : va_G} {cA : Nat → ClassId} {n0 : Nat} {sg adK adV : Nat → Nat} {sgA smA wdA bS LS : Nat} {xs : Nat → Int32} (hX : SF n0 (XW0 sg adK adV sgA smA wdA n0 bS LS xs)) (hl : l.stackTraces = false) {nn : String} {i : Nat} (hi : i + 6 ≤ LS) (hL : LS ≤ 3072) {sz : Nat} {τ : TY} {M : ME} {x bk bn : Nat} {Q : QT} {QX : QXT} (hI : INV sg x sz τ M) (K : ∀ sz' τ' M', INV sg x sz' τ' M' → T l D cA n0 (XW0 sg adK adV sgA smA wdA n0 bS LS xs) (mLN nn) 2048 bk bn sz' τ' M' 1233 [.ref bS, .ref x, .ref (x + 144), .ref (x + 198), .int (nI i), UU, UU, UU, UU] [] Q QX) : T l D cA n0 (XW0 sg adK adV sgA smA wdA n0 bS LS xs) (mLN nn) 2048 (bk + 0 + 2) (bn + 0 + 12) sz τ M 582 [.ref bS, .ref x, .ref (x + 144), .ref (x + 198), .int (nI i), UU, UU, UU, UU] [] Q QX := by
  have hI0 := hI
  obtain ⟨r, p, r2, p2, n8, a, b, c, hc, wc, sc, ρ, ν, π, σ, B, fa, y, hC, hD, ⟨h8, hB8⟩, hRI, hPl, hPm, hto, hz1, hz2⟩ := hI
  have hC0 := hC
  obtain ⟨hlay, ⟨ωc, hV, hfc⟩, hR, ⟨κc, hP⟩, ⟨a2, b2, c2, ρ2, ν2, hA⟩, -, hBM, -, -⟩ := hC
  have htm : τ (x + 144) = (11, 0) := hD.t_m
  refine st_needs (dm := 4) hX hi hL (c_L_needs hX hV.t_x _ _ (c_X10_needs hX hl hV hR _ _) (by rintro _ _ _ _ ⟨⟨rfl, -⟩, -, rfl, -⟩; exact ⟨_, rfl, hto⟩) (by rintro _ _ _ _ ⟨⟨rfl, -⟩, -⟩; rfl)) (Nat.le_of_ble_eq_true rfl) (Nat.le_of_ble_eq_true rfl) ?_ K
  rintro _ sz1 τ1 M1 (⟨w, M2, hq, rfl, eM⟩ | ⟨E, sz3, hq, e3, rfl⟩)
  · obtain ⟨⟨e0, e1⟩, rfl, rfl, rfl⟩ := hq
    cases e0
    obtain ⟨z, tk, dp, ω, μ, κ, hM, hfm, hS, ⟨ρA, μA, κA, hAm⟩, hW, hLy⟩ := hD.o eM
    refine ⟨0, rfl, htm, ?_⟩
    refine (c_X13_needs hX hM hS hW (by omega) _ _).wk ?_
    rintro v' sz' τ' M' ⟨-, h2⟩
    obtain ⟨rfl, hTH⟩ := h2 e1
    exact DN.td (hI0.o eM) hTH.td (fun _ => by rw [eM, up_s])
  · obtain ⟨⟨rfl, e1⟩, e2, rfl, rfl⟩ := hq
    obtain ⟨z, tk, dp, ω, μ, κ, hM, hfm, hS, ⟨ρA, μA, κA, hAm⟩, hW, hLy⟩ := hD
    refine ⟨1, rfl, htm, ?_⟩
    refine (c_X13_needs hX hM hS hW (by omega) _ _).wk ?_
    rintro v' sz' τ' M' ⟨h1, -⟩
    obtain ⟨rfl, hTH⟩ := h1 e1
    exact DN.td (hI0.szl (by omega)) hTH.td (fun e => absurd e (by decide))
set_option maxHeartbeats 1000000 in
theorem cm_setWeather {l : Launch} {D : va_G} {cA : Nat → ClassId} {n0 : Nat} {sg adK adV : Nat → Nat} {sgA smA wdA bS LS : Nat} {xs : Nat → Int32} (hX : SF n0 (XW0 sg adK adV sgA smA wdA n0 bS LS xs)) (hl : l.stackTraces = false) {nn : String} {i : Nat} (hi : i + 6 ≤ LS) (hL : LS ≤ 3072) {sz : Nat} {τ : TY} {M : ME} {x bk bn : Nat} {Q : QT} {QX : QXT} (hI : INV sg x sz τ M) (K : ∀ sz' τ' M', INV sg x sz' τ' M' → T l D cA n0 (XW0 sg adK adV sgA smA wdA n0 bS LS xs) (mLN nn) 2048 bk bn sz' τ' M' 1233 [.ref bS, .ref x, .ref (x + 144), .ref (x + 198), .int (nI i), UU, UU, UU, UU] [] Q QX) : T l D cA n0 (XW0 sg adK adV sgA smA wdA n0 bS LS xs) (mLN nn) 2048 (bk + 0 + 1) (bn + 0 + 6) sz τ M 650 [.ref bS, .ref x, .ref (x + 144), .ref (x + 198), .int (nI i), UU, UU, UU, UU] [] Q QX := by
  have hI0 := hI
  obtain ⟨r, p, r2, p2, n8, a, b, c, hc, wc, sc, ρ, ν, π, σ, B, fa, y, hC, hD, ⟨h8, hB8⟩, hRI, hPl, hPm, hto, hz1, hz2⟩ := hI
  have hC0 := hC
  obtain ⟨hlay, ⟨ωc, hV, hfc⟩, hR, ⟨κc, hP⟩, ⟨a2, b2, c2, ρ2, ν2, hA⟩, -, hBM, -, -⟩ := hC
  have htm : τ (x + 144) = (11, 0) := hD.t_m
  refine st_setWeather (dm := 2) hX hi hL (c_L_setWeather hX hV.t_x _ (c_X10_setWeather hX hl hV hR (by omega) _) (by rintro _ _ _ _ ⟨⟨rfl, -⟩, -, rfl, -⟩; exact ⟨_, rfl, hto⟩) (by rintro _ _ _ _ ⟨⟨rfl, -⟩, -⟩; rfl)) (Nat.le_of_ble_eq_true rfl) (Nat.le_of_ble_eq_true rfl) ?_ K
  rintro _ sz1 τ1 M1 (⟨w, M2, hq, rfl, eM⟩ | ⟨E, sz3, hq, e3, rfl⟩)
  · obtain ⟨⟨e0, e1⟩, rfl, rfl, hR'⟩ := hq
    cases e0
    have hC2 := hC0.setR hR'
    have hD2 := hD.fr (M1 := M2) (fun q hq => LMfr hR' hlay.1 q (by omega))
    obtain ⟨z, tk, dp, ω, μ, κ, hM, hfm, hS, ⟨ρA, μA, κA, hAm⟩, hW, hLy⟩ := hD2.o eM
    refine ⟨0, rfl, htm, ?_⟩
    refine (c_X13_setWeather hX hM hS hW (by omega) _).wk ?_
    rintro v' sz' τ' M' ⟨-, h2⟩
    obtain ⟨rfl, hSC⟩ := h2 e1
    obtain ⟨rfl, rfl, hD3, hth, hF⟩ := MD.sct hW hLy hAm hfm ((KS.rf _).u (by decide)) hSC
    exact ⟨_, rfl, INV.of (hC2.fr (fun q q1 q2 => (hF q (by omega)).trans (by rw [eM]; exact up_a (by omega)))) hD3 h8 hB8 (hRI.u (by decide)) hPl hPm hto hz1 hz2, hth, fun _ => by rw [hF _ (by omega), eM, up_s]⟩
  · obtain ⟨⟨rfl, e1⟩, e2, rfl, rfl⟩ := hq
    obtain ⟨z, tk, dp, ω, μ, κ, hM, hfm, hS, ⟨ρA, μA, κA, hAm⟩, hW, hLy⟩ := hD
    refine ⟨1, rfl, htm, ?_⟩
    refine (c_X13_setWeather hX hM hS hW (by omega) _).wk ?_
    rintro v' sz' τ' M' ⟨h1, -⟩
    obtain ⟨rfl, hTH⟩ := h1 e1
    exact DN.td (hI0.szl (by omega)) hTH.td (fun e => absurd e (by decide))
set_option maxHeartbeats 1000000 in
theorem cm_forge {l : Launch} {D : va_G} {cA : Nat → ClassId} {n0 : Nat} {sg adK adV : Nat → Nat} {sgA smA wdA bS LS : Nat} {xs : Nat → Int32} (hX : SF n0 (XW0 sg adK adV sgA smA wdA n0 bS LS xs)) (hl : l.stackTraces = false) {nn : String} {i : Nat} (hi : i + 6 ≤ LS) (hL : LS ≤ 3072) {sz : Nat} {τ : TY} {M : ME} {x bk bn : Nat} {Q : QT} {QX : QXT} (hI : INV sg x sz τ M) (K : ∀ sz' τ' M', INV sg x sz' τ' M' → T l D cA n0 (XW0 sg adK adV sgA smA wdA n0 bS LS xs) (mLN nn) 2048 bk bn sz' τ' M' 1233 [.ref bS, .ref x, .ref (x + 144), .ref (x + 198), .int (nI i), UU, UU, UU, UU] [] Q QX) : T l D cA n0 (XW0 sg adK adV sgA smA wdA n0 bS LS xs) (mLN nn) 2048 (bk + 0 + 2) (bn + 0 + 12) sz τ M 706 [.ref bS, .ref x, .ref (x + 144), .ref (x + 198), .int (nI i), UU, UU, UU, UU] [] Q QX := by
  have hI0 := hI
  obtain ⟨r, p, r2, p2, n8, a, b, c, hc, wc, sc, ρ, ν, π, σ, B, fa, y, hC, hD, ⟨h8, hB8⟩, hRI, hPl, hPm, hto, hz1, hz2⟩ := hI
  have hC0 := hC
  obtain ⟨hlay, ⟨ωc, hV, hfc⟩, hR, ⟨κc, hP⟩, ⟨a2, b2, c2, ρ2, ν2, hA⟩, -, hBM, -, -⟩ := hC
  have htm : τ (x + 144) = (11, 0) := hD.t_m
  refine st_forge (dm := 3) hX hi hL (c_L_forge hX hV.t_x _ _ (c_X10_forge hX hl hV hR (by omega) _ _) (by rintro _ _ _ _ ⟨⟨rfl, -⟩, -, rfl, -⟩; exact ⟨_, rfl, hto⟩) (by rintro _ _ _ _ ⟨(⟨rfl, -⟩ | ⟨rfl, -⟩), -⟩; exact Or.inl rfl; exact Or.inr rfl)) (Nat.le_of_ble_eq_true rfl) (Nat.le_of_ble_eq_true rfl) ?_ K
  rintro _ sz1 τ1 M1 (⟨w, M2, hq, rfl, eM⟩ | ⟨E, sz3, hq, e3, rfl⟩)
  · obtain ⟨⟨e0, e1⟩, rfl, rfl, hR'⟩ := hq
    cases e0
    have hC2 := hC0.setR hR'
    have hD2 := hD.fr (M1 := M2) (fun q hq => LMfr hR' hlay.1 q (by omega))
    obtain ⟨z, tk, dp, ω, μ, κ, hM, hfm, hS, ⟨ρA, μA, κA, hAm⟩, hW, hLy⟩ := hD2.o eM
    refine ⟨0, rfl, htm, ?_⟩
    refine (c_X13_forge hX hM hS hW (by omega) _ _).wk ?_
    rintro v' sz' τ' M' ⟨-, -, h2⟩
    obtain ⟨rfl, hSC⟩ := h2 e1
    obtain ⟨rfl, rfl, hD3, hth, hF⟩ := MD.sct hW hLy hAm hfm ((KS.rf _).u (by decide)) hSC
    exact ⟨_, rfl, INV.of (hC2.fr (fun q q1 q2 => (hF q (by omega)).trans (by rw [eM]; exact up_a (by omega)))) hD3 h8 hB8 (hRI.u (by decide)) hPl hPm hto hz1 hz2, hth, fun _ => by rw [hF _ (by omega), eM, up_s]⟩
  · obtain ⟨(⟨rfl, e1⟩ | ⟨rfl, e1⟩), e2, rfl, rfl⟩ := hq
    ·
      obtain ⟨z, tk, dp, ω, μ, κ, hM, hfm, hS, ⟨ρA, μA, κA, hAm⟩, hW, hLy⟩ := hD
      refine ⟨1, by simp, htm, ?_⟩
      refine (c_X13_forge hX hM hS hW (by omega) _ _).wk ?_
      rintro v' sz' τ' M' ⟨h1, -⟩
      obtain ⟨rfl, hTH⟩ := h1 e1
      exact DN.td (hI0.szl (by omega)) hTH.td (fun e => absurd e (by decide))
    ·
      obtain ⟨z, tk, dp, ω, μ, κ, hM, hfm, hS, ⟨ρA, μA, κA, hAm⟩, hW, hLy⟩ := hD
      refine ⟨2, by simp, htm, ?_⟩
      refine (c_X13_forge hX hM hS hW (by omega) _ _).wk ?_
      rintro v' sz' τ' M' ⟨-, h1, -⟩
      obtain ⟨rfl, hTH⟩ := h1 e1
      exact DN.td (hI0.szl (by omega)) hTH.td (fun e => absurd e (by decide))
set_option maxHeartbeats 1000000 in
theorem cm_clear {l : Launch} {D : va_G} {cA : Nat → ClassId} {n0 : Nat} {sg adK adV : Nat → Nat} {sgA smA wdA bS LS : Nat} {xs : Nat → Int32} (hX : SF n0 (XW0 sg adK adV sgA smA wdA n0 bS LS xs)) (hl : l.stackTraces = false) {nn : String} {i : Nat} (hi : i + 6 ≤ LS) (hL : LS ≤ 3072) {sz : Nat} {τ : TY} {M : ME} {x bk bn : Nat} {Q : QT} {QX : QXT} (hI : INV sg x sz τ M) (K : ∀ sz' τ' M', INV sg x sz' τ' M' → T l D cA n0 (XW0 sg adK adV sgA smA wdA n0 bS LS xs) (mLN nn) 2048 bk bn sz' τ' M' 1233 [.ref bS, .ref x, .ref (x + 144), .ref (x + 198), .int (nI i), UU, UU, UU, UU] [] Q QX) : T l D cA n0 (XW0 sg adK adV sgA smA wdA n0 bS LS xs) (mLN nn) 2048 (bk + 0 + 1) (bn + 0 + 6) sz τ M 774 [.ref bS, .ref x, .ref (x + 144), .ref (x + 198), .int (nI i), UU, UU, UU, UU] [] Q QX := by
  have hI0 := hI
  obtain ⟨r, p, r2, p2, n8, a, b, c, hc, wc, sc, ρ, ν, π, σ, B, fa, y, hC, hD, ⟨h8, hB8⟩, hRI, hPl, hPm, hto, hz1, hz2⟩ := hI
  have hC0 := hC
  obtain ⟨hlay, ⟨ωc, hV, hfc⟩, hR, ⟨κc, hP⟩, ⟨a2, b2, c2, ρ2, ν2, hA⟩, -, hBM, -, -⟩ := hC
  have htm : τ (x + 144) = (11, 0) := hD.t_m
  refine st_clear (dm := 3) hX hi hL (c_L_clear hX hV.t_x _ (c_X10_clear hX hl hV hR (by omega) _) (by rintro _ _ _ _ ⟨⟨rfl, -⟩, -, rfl, -⟩; exact ⟨_, rfl, hto⟩) (by rintro _ _ _ _ ⟨⟨rfl, -⟩, -⟩; rfl)) (Nat.le_of_ble_eq_true rfl) (Nat.le_of_ble_eq_true rfl) ?_ K
  rintro _ sz1 τ1 M1 (⟨w, M2, hq, rfl, eM⟩ | ⟨E, sz3, hq, e3, rfl⟩)
  · obtain ⟨⟨e0, e1⟩, rfl, rfl, hR'⟩ := hq
    cases e0
    have hC2 := hC0.setR hR'
    have hD2 := hD.fr (M1 := M2) (fun q hq => LMfr hR' hlay.1 q (by omega))
    obtain ⟨z, tk, dp, ω, μ, κ, hM, hfm, hS, ⟨ρA, μA, κA, hAm⟩, hW, hLy⟩ := hD2.o eM
    refine ⟨0, rfl, htm, ?_⟩
    refine (c_X13_clear hX hM hS hW (by omega) _).wk ?_
    rintro v' sz' τ' M' ⟨-, h2⟩
    obtain ⟨rfl, hSC⟩ := h2 e1
    obtain ⟨rfl, rfl, hD3, hth, hF⟩ := MD.sct hW hLy hAm hfm (KS.rf _).mp hSC
    exact ⟨_, rfl, INV.of (hC2.fr (fun q q1 q2 => (hF q (by omega)).trans (by rw [eM]; exact up_a (by omega)))) hD3 h8 hB8 hRI.mp hPl hPm hto hz1 hz2, hth, fun _ => by rw [hF _ (by omega), eM, up_s]⟩
  · obtain ⟨⟨rfl, e1⟩, e2, rfl, rfl⟩ := hq
    obtain ⟨z, tk, dp, ω, μ, κ, hM, hfm, hS, ⟨ρA, μA, κA, hAm⟩, hW, hLy⟩ := hD
    refine ⟨1, rfl, htm, ?_⟩
    refine (c_X13_clear hX hM hS hW (by omega) _).wk ?_
    rintro v' sz' τ' M' ⟨h1, -⟩
    obtain ⟨rfl, hTH⟩ := h1 e1
    exact DN.td (hI0.szl (by omega)) hTH.td (fun e => absurd e (by decide))
set_option maxHeartbeats 1000000 in
theorem cm_pass {l : Launch} {D : va_G} {cA : Nat → ClassId} {n0 : Nat} {sg adK adV : Nat → Nat} {sgA smA wdA bS LS : Nat} {xs : Nat → Int32} (hX : SF n0 (XW0 sg adK adV sgA smA wdA n0 bS LS xs)) (hl : l.stackTraces = false) {nn : String} {i : Nat} (hi : i + 6 ≤ LS) (hL : LS ≤ 3072) {sz : Nat} {τ : TY} {M : ME} {x bk bn : Nat} {Q : QT} {QX : QXT} (hI : INV sg x sz τ M) (K : ∀ sz' τ' M', INV sg x sz' τ' M' → T l D cA n0 (XW0 sg adK adV sgA smA wdA n0 bS LS xs) (mLN nn) 2048 bk bn sz' τ' M' 1233 [.ref bS, .ref x, .ref (x + 144), .ref (x + 198), .int (nI i), UU, UU, UU, UU] [] Q QX) : T l D cA n0 (XW0 sg adK adV sgA smA wdA n0 bS LS xs) (mLN nn) 2048 (bk + 0 + 1) (bn + 0 + 6) sz τ M 830 [.ref bS, .ref x, .ref (x + 144), .ref (x + 198), .int (nI i), UU, UU, UU, UU] [] Q QX := by
  have hI0 := hI
  obtain ⟨r, p, r2, p2, n8, a, b, c, hc, wc, sc, ρ, ν, π, σ, B, fa, y, hC, hD, ⟨h8, hB8⟩, hRI, hPl, hPm, hto, hz1, hz2⟩ := hI
  have hC0 := hC
  obtain ⟨hlay, ⟨ωc, hV, hfc⟩, hR, ⟨κc, hP⟩, ⟨a2, b2, c2, ρ2, ν2, hA⟩, -, hBM, -, -⟩ := hC
  have htm : τ (x + 144) = (11, 0) := hD.t_m
  refine st_pass (dm := 9) hX hi hL (c_L_pass hX hV.t_x _ (c_X10_pass hX hl hV hR hP hPl hRI (by omega) (by omega) _) (by rintro _ _ _ _ ⟨⟨rfl, -⟩, -, rfl, -⟩; exact ⟨_, rfl, hto⟩) (by rintro _ _ _ _ ⟨⟨rfl, -⟩, -⟩; rfl)) (Nat.le_of_ble_eq_true rfl) (Nat.le_of_ble_eq_true rfl) ?_ K
  rintro _ sz1 τ1 M1 (⟨w, M2, hq, rfl, eM⟩ | ⟨E, sz3, hq, e3, rfl⟩)
  · obtain ⟨⟨e0, e1⟩, rfl, rfl, hP', hR', hf⟩ := hq
    cases e0
    obtain ⟨j, j1, j2, ej⟩ := ii_1n (n := 120) (by omega) e1
    have hj : (xs (i + 1)).toNatClampNeg = j := by rw [ej]; exact nI_cl (by omega)
    subst hj
    have hC2 := hC0.setRP hR' hP' hf
    have hD2 := hD.fr (M1 := M2) (fun q hq => hf q (by omega) (by omega))
    obtain ⟨z, tk, dp, ω, μ, κ, hM, hfm, hS, ⟨ρA, μA, κA, hAm⟩, hW, hLy⟩ := hD2.o eM
    refine ⟨0, rfl, htm, ?_⟩
    refine (c_X13_pass hX hM hS hW (by omega) hPm hRI _).wk ?_
    rintro v' sz' τ' M' ⟨-, h2⟩
    obtain ⟨rfl, hSC⟩ := h2 _ j1 j2 ej
    obtain ⟨rfl, rfl, hD3, hth, hF⟩ := MD.sct hW hLy hAm hfm ((KS.rf _).gb _) hSC
    exact ⟨_, rfl, INV.of (hC2.fr (fun q q1 q2 => (hF q (by omega)).trans (by rw [eM]; exact up_a (by omega)))) hD3 h8 hB8 (hRI.gb hR.ok.1 _) hPl hPm hto hz1 hz2, hth, fun _ => by rw [hF _ (by omega), eM, up_s]⟩
  · obtain ⟨⟨rfl, e1⟩, e2, rfl, rfl⟩ := hq
    obtain ⟨z, tk, dp, ω, μ, κ, hM, hfm, hS, ⟨ρA, μA, κA, hAm⟩, hW, hLy⟩ := hD
    refine ⟨1, rfl, htm, ?_⟩
    refine (c_X13_pass hX hM hS hW (by omega) hPm hRI _).wk ?_
    rintro v' sz' τ' M' ⟨h1, -⟩
    obtain ⟨rfl, hTH⟩ := h1 e1
    exact DN.td (hI0.szl (by omega)) hTH.td (fun e => absurd e (by decide))
set_option maxHeartbeats 1000000 in
theorem cm_arrives {l : Launch} {D : va_G} {cA : Nat → ClassId} {n0 : Nat} {sg adK adV : Nat → Nat} {sgA smA wdA bS LS : Nat} {xs : Nat → Int32} (hX : SF n0 (XW0 sg adK adV sgA smA wdA n0 bS LS xs)) (hl : l.stackTraces = false) {nn : String} {i : Nat} (hi : i + 6 ≤ LS) (hL : LS ≤ 3072) {sz : Nat} {τ : TY} {M : ME} {x bk bn : Nat} {Q : QT} {QX : QXT} (hI : INV sg x sz τ M) (K : ∀ sz' τ' M', INV sg x sz' τ' M' → T l D cA n0 (XW0 sg adK adV sgA smA wdA n0 bS LS xs) (mLN nn) 2048 bk bn sz' τ' M' 1233 [.ref bS, .ref x, .ref (x + 144), .ref (x + 198), .int (nI i), UU, UU, UU, UU] [] Q QX) : T l D cA n0 (XW0 sg adK adV sgA smA wdA n0 bS LS xs) (mLN nn) 2048 (bk + 0 + 1) (bn + 0 + 6) sz τ M 886 [.ref bS, .ref x, .ref (x + 144), .ref (x + 198), .int (nI i), UU, UU, UU, UU] [] Q QX := by
  have hI0 := hI
  obtain ⟨r, p, r2, p2, n8, a, b, c, hc, wc, sc, ρ, ν, π, σ, B, fa, y, hC, hD, ⟨h8, hB8⟩, hRI, hPl, hPm, hto, hz1, hz2⟩ := hI
  have hC0 := hC
  obtain ⟨hlay, ⟨ωc, hV, hfc⟩, hR, ⟨κc, hP⟩, ⟨a2, b2, c2, ρ2, ν2, hA⟩, -, hBM, -, -⟩ := hC
  have htm : τ (x + 144) = (11, 0) := hD.t_m
  refine st_arrives (dm := 9) hX hi hL (c_L_arrives hX hV.t_x _ (c_X10_arrives hX hl hV hR hP hPl hRI (by omega) (by omega) hA (by omega) (by omega) (by omega) _) (by rintro _ _ _ _ ⟨⟨rfl, -⟩, -, rfl, -⟩; exact ⟨_, rfl, hto⟩) (by rintro _ _ _ _ ⟨⟨rfl, -⟩, -⟩; rfl)) (Nat.le_of_ble_eq_true rfl) (Nat.le_of_ble_eq_true rfl) ?_ K
  rintro _ sz1 τ1 M1 (⟨w, M2, hq, rfl, eM⟩ | ⟨E, sz3, hq, e3, rfl⟩)
  · obtain ⟨⟨e0, e1⟩, hSB⟩ := hq
    cases e0
    obtain ⟨rfl, rfl, hC2, hf⟩ := hC0.setSB hSB
    have hD2 := hD.fr (M1 := M2) (fun q hq => hf q (by omega))
    obtain ⟨z, tk, dp, ω, μ, κ, hM, hfm, hS, ⟨ρA, μA, κA, hAm⟩, hW, hLy⟩ := hD2.o eM
    refine ⟨0, rfl, htm, ?_⟩
    refine (c_X13_arrives hX hM hS hW (by omega) hPm hRI (hAm.sl hR.ok) (hW.s2 hLy) _).wk ?_
    rintro v' sz' τ' M' ⟨-, h2⟩
    obtain ⟨rfl, hSA⟩ := h2 e1
    obtain ⟨rfl, rfl, hD3, hth, hF⟩ := MD.sa hW hLy hfm hSA
    exact ⟨_, rfl, INV.of (hC2.fr (fun q q1 q2 => (hF q (by omega)).trans (by rw [eM]; exact up_a (by omega)))) hD3 h8 hB8 hRI hPl hPm hto hz1 hz2, hth, fun _ => by rw [hF _ (by omega), eM, up_s]⟩
  · obtain ⟨⟨rfl, e1⟩, e2, rfl, rfl⟩ := hq
    obtain ⟨z, tk, dp, ω, μ, κ, hM, hfm, hS, ⟨ρA, μA, κA, hAm⟩, hW, hLy⟩ := hD
    refine ⟨1, rfl, htm, ?_⟩
    refine (c_X13_arrives hX hM hS hW (by omega) hPm hRI (hAm.sl hR.ok) (hW.s2 hLy) _).wk ?_
    rintro v' sz' τ' M' ⟨h1, -⟩
    obtain ⟨rfl, hTH⟩ := h1 e1
    exact DN.td (hI0.szl (by omega)) hTH.td (fun e => absurd e (by decide))
set_option maxHeartbeats 1000000 in
theorem cm_breaks {l : Launch} {D : va_G} {cA : Nat → ClassId} {n0 : Nat} {sg adK adV : Nat → Nat} {sgA smA wdA bS LS : Nat} {xs : Nat → Int32} (hX : SF n0 (XW0 sg adK adV sgA smA wdA n0 bS LS xs)) (hl : l.stackTraces = false) {nn : String} {i : Nat} (hi : i + 6 ≤ LS) (hL : LS ≤ 3072) {sz : Nat} {τ : TY} {M : ME} {x bk bn : Nat} {Q : QT} {QX : QXT} (hI : INV sg x sz τ M) (K : ∀ sz' τ' M', INV sg x sz' τ' M' → T l D cA n0 (XW0 sg adK adV sgA smA wdA n0 bS LS xs) (mLN nn) 2048 bk bn sz' τ' M' 1233 [.ref bS, .ref x, .ref (x + 144), .ref (x + 198), .int (nI i), UU, UU, UU, UU] [] Q QX) : T l D cA n0 (XW0 sg adK adV sgA smA wdA n0 bS LS xs) (mLN nn) 2048 (bk + 0 + 1) (bn + 0 + 6) sz τ M 942 [.ref bS, .ref x, .ref (x + 144), .ref (x + 198), .int (nI i), UU, UU, UU, UU] [] Q QX := by
  have hI0 := hI
  obtain ⟨r, p, r2, p2, n8, a, b, c, hc, wc, sc, ρ, ν, π, σ, B, fa, y, hC, hD, ⟨h8, hB8⟩, hRI, hPl, hPm, hto, hz1, hz2⟩ := hI
  have hC0 := hC
  obtain ⟨hlay, ⟨ωc, hV, hfc⟩, hR, ⟨κc, hP⟩, ⟨a2, b2, c2, ρ2, ν2, hA⟩, -, hBM, -, -⟩ := hC
  have htm : τ (x + 144) = (11, 0) := hD.t_m
  refine st_breaks (dm := 9) hX hi hL (c_L_breaks hX hV.t_x _ (c_X10_breaks hX hl hV hR hP hPl hRI (by omega) (by omega) hA (by omega) (by omega) (by omega) _) (by rintro _ _ _ _ ⟨⟨rfl, -⟩, -, rfl, -⟩; exact ⟨_, rfl, hto⟩) (by rintro _ _ _ _ ⟨⟨rfl, -⟩, -⟩; rfl)) (Nat.le_of_ble_eq_true rfl) (Nat.le_of_ble_eq_true rfl) ?_ K
  rintro _ sz1 τ1 M1 (⟨w, M2, hq, rfl, eM⟩ | ⟨E, sz3, hq, e3, rfl⟩)
  · obtain ⟨⟨e0, e1⟩, hSB⟩ := hq
    cases e0
    obtain ⟨rfl, rfl, hC2, hf⟩ := hC0.setSB hSB
    have hD2 := hD.fr (M1 := M2) (fun q hq => hf q (by omega))
    obtain ⟨z, tk, dp, ω, μ, κ, hM, hfm, hS, ⟨ρA, μA, κA, hAm⟩, hW, hLy⟩ := hD2.o eM
    refine ⟨0, rfl, htm, ?_⟩
    refine (c_X13_breaks hX hM hS hW (by omega) hPm hRI (hAm.sl hR.ok) (hW.s2 hLy) _).wk ?_
    rintro v' sz' τ' M' ⟨-, h2⟩
    obtain ⟨rfl, hSA⟩ := h2 e1
    obtain ⟨rfl, rfl, hD3, hth, hF⟩ := MD.sa hW hLy hfm hSA
    exact ⟨_, rfl, INV.of (hC2.fr (fun q q1 q2 => (hF q (by omega)).trans (by rw [eM]; exact up_a (by omega)))) hD3 h8 hB8 hRI hPl hPm hto hz1 hz2, hth, fun _ => by rw [hF _ (by omega), eM, up_s]⟩
  · obtain ⟨⟨rfl, e1⟩, e2, rfl, rfl⟩ := hq
    obtain ⟨z, tk, dp, ω, μ, κ, hM, hfm, hS, ⟨ρA, μA, κA, hAm⟩, hW, hLy⟩ := hD
    refine ⟨1, rfl, htm, ?_⟩
    refine (c_X13_breaks hX hM hS hW (by omega) hPm hRI (hAm.sl hR.ok) (hW.s2 hLy) _).wk ?_
    rintro v' sz' τ' M' ⟨h1, -⟩
    obtain ⟨rfl, hTH⟩ := h1 e1
    exact DN.td (hI0.szl (by omega)) hTH.td (fun e => absurd e (by decide))
set_option maxHeartbeats 1000000 in
theorem cm_foresee {l : Launch} {D : va_G} {cA : Nat → ClassId} {n0 : Nat} {sg adK adV : Nat → Nat} {sgA smA wdA bS LS : Nat} {xs : Nat → Int32} (hX : SF n0 (XW0 sg adK adV sgA smA wdA n0 bS LS xs)) (hl : l.stackTraces = false) {nn : String} {i : Nat} (hi : i + 6 ≤ LS) (hL : LS ≤ 3072) {sz : Nat} {τ : TY} {M : ME} {x bk bn : Nat} {Q : QT} {QX : QXT} (hI : INV sg x sz τ M) (K : ∀ sz' τ' M', INV sg x sz' τ' M' → T l D cA n0 (XW0 sg adK adV sgA smA wdA n0 bS LS xs) (mLN nn) 2048 bk bn sz' τ' M' 1233 [.ref bS, .ref x, .ref (x + 144), .ref (x + 198), .int (nI i), UU, UU, UU, UU] [] Q QX) : T l D cA n0 (XW0 sg adK adV sgA smA wdA n0 bS LS xs) (mLN nn) 2048 (bk + 0 + 2) (bn + 0 + 12) sz τ M 998 [.ref bS, .ref x, .ref (x + 144), .ref (x + 198), .int (nI i), UU, UU, UU, UU] [] Q QX := by
  have hI0 := hI
  obtain ⟨r, p, r2, p2, n8, a, b, c, hc, wc, sc, ρ, ν, π, σ, B, fa, y, hC, hD, ⟨h8, hB8⟩, hRI, hPl, hPm, hto, hz1, hz2⟩ := hI
  have hC0 := hC
  obtain ⟨hlay, ⟨ωc, hV, hfc⟩, hR, ⟨κc, hP⟩, ⟨a2, b2, c2, ρ2, ν2, hA⟩, -, hBM, -, -⟩ := hC
  have htm : τ (x + 144) = (11, 0) := hD.t_m
  refine st_foresee (dm := 9) hX hi hL (c_L_foresee hX hV.t_x _ _ (c_X10_foresee hX hl hV hR hP hPl hRI (by omega) (by omega) hA (by omega) (by omega) (by omega) _ _) (by rintro _ _ _ _ ⟨⟨rfl, -⟩, -, rfl, -⟩; exact ⟨_, rfl, hto⟩) (by rintro _ _ _ _ ⟨(⟨rfl, -⟩ | ⟨rfl, -⟩), -⟩; exact Or.inl rfl; exact Or.inr rfl)) (Nat.le_of_ble_eq_true rfl) (Nat.le_of_ble_eq_true rfl) ?_ K
  rintro _ sz1 τ1 M1 (⟨w, M2, hq, rfl, eM⟩ | ⟨E, sz3, hq, e3, rfl⟩)
  · obtain ⟨⟨e0, e1⟩, hSB⟩ := hq
    cases e0
    obtain ⟨rfl, rfl, hC2, hf⟩ := hC0.setSB hSB
    have hD2 := hD.fr (M1 := M2) (fun q hq => hf q (by omega))
    obtain ⟨z, tk, dp, ω, μ, κ, hM, hfm, hS, ⟨ρA, μA, κA, hAm⟩, hW, hLy⟩ := hD2.o eM
    refine ⟨0, rfl, htm, ?_⟩
    refine (c_X13_foresee hX hM hS hW (by omega) hPm hRI (hAm.sl hR.ok) (hW.s2 hLy) _ _).wk ?_
    rintro v' sz' τ' M' ⟨-, -, h2⟩
    obtain ⟨rfl, hSA⟩ := h2 e1
    obtain ⟨rfl, rfl, hD3, hth, hF⟩ := MD.sa hW hLy hfm hSA
    exact ⟨_, rfl, INV.of (hC2.fr (fun q q1 q2 => (hF q (by omega)).trans (by rw [eM]; exact up_a (by omega)))) hD3 h8 hB8 hRI hPl hPm hto hz1 hz2, hth, fun _ => by rw [hF _ (by omega), eM, up_s]⟩
  · obtain ⟨(⟨rfl, e1⟩ | ⟨rfl, e1⟩), e2, rfl, rfl⟩ := hq
    ·
      obtain ⟨z, tk, dp, ω, μ, κ, hM, hfm, hS, ⟨ρA, μA, κA, hAm⟩, hW, hLy⟩ := hD
      refine ⟨1, by simp, htm, ?_⟩
      refine (c_X13_foresee hX hM hS hW (by omega) hPm hRI (hAm.sl hR.ok) (hW.s2 hLy) _ _).wk ?_
      rintro v' sz' τ' M' ⟨h1, -⟩
      obtain ⟨rfl, hTH⟩ := h1 e1
      exact DN.td (hI0.szl (by omega)) hTH.td (fun e => absurd e (by decide))
    ·
      obtain ⟨z, tk, dp, ω, μ, κ, hM, hfm, hS, ⟨ρA, μA, κA, hAm⟩, hW, hLy⟩ := hD
      refine ⟨2, by simp, htm, ?_⟩
      refine (c_X13_foresee hX hM hS hW (by omega) hPm hRI (hAm.sl hR.ok) (hW.s2 hLy) _ _).wk ?_
      rintro v' sz' τ' M' ⟨-, h1, -⟩
      obtain ⟨rfl, hTH⟩ := h1 e1
      exact DN.td (hI0.szl (by omega)) hTH.td (fun e => absurd e (by decide))
set_option maxHeartbeats 1000000 in
theorem cm_advise {l : Launch} {D : va_G} {cA : Nat → ClassId} {n0 : Nat} {sg adK adV : Nat → Nat} {sgA smA wdA bS LS : Nat} {xs : Nat → Int32} (hX : SF n0 (XW0 sg adK adV sgA smA wdA n0 bS LS xs)) (hl : l.stackTraces = false) {nn : String} {i : Nat} (hi : i + 6 ≤ LS) (hL : LS ≤ 3072) {sz : Nat} {τ : TY} {M : ME} {x bk bn : Nat} {Q : QT} {QX : QXT} (hI : INV sg x sz τ M) (K : ∀ sz' τ' M', INV sg x sz' τ' M' → T l D cA n0 (XW0 sg adK adV sgA smA wdA n0 bS LS xs) (mLN nn) 2048 bk bn sz' τ' M' 1233 [.ref bS, .ref x, .ref (x + 144), .ref (x + 198), .int (nI i), UU, UU, UU, UU] [] Q QX) : T l D cA n0 (XW0 sg adK adV sgA smA wdA n0 bS LS xs) (mLN nn) 2048 (bk + 0 + 1) (bn + 0 + 6) sz τ M 1066 [.ref bS, .ref x, .ref (x + 144), .ref (x + 198), .int (nI i), UU, UU, UU, UU] [] Q QX := by
  have hI0 := hI
  obtain ⟨r, p, r2, p2, n8, a, b, c, hc, wc, sc, ρ, ν, π, σ, B, fa, y, hC, hD, ⟨h8, hB8⟩, hRI, hPl, hPm, hto, hz1, hz2⟩ := hI
  have hC0 := hC
  obtain ⟨hlay, ⟨ωc, hV, hfc⟩, hR, ⟨κc, hP⟩, ⟨a2, b2, c2, ρ2, ν2, hA⟩, -, hBM, -, -⟩ := hC
  have htm : τ (x + 144) = (11, 0) := hD.t_m
  refine st_advise (dm := 10) hX hi hL (c_L_advise hX hV.t_x _ (c_X10_advise hX hl hV hR hP hPl hRI (by omega) (by omega) hA (by omega) (by omega) (by omega) _) (by rintro _ _ _ _ ⟨⟨rfl, -⟩, -, rfl, -⟩; exact ⟨_, rfl, hto⟩) (by rintro _ _ _ _ ⟨⟨rfl, -⟩, -⟩; rfl)) (Nat.le_of_ble_eq_true rfl) (Nat.le_of_ble_eq_true rfl) ?_ K
  rintro _ sz1 τ1 M1 (⟨w, M2, hq, rfl, eM⟩ | ⟨E, sz3, hq, e3, rfl⟩)
  · obtain ⟨⟨e0, e1⟩, hSB⟩ := hq
    cases e0
    obtain ⟨rfl, rfl, hC2, hf⟩ := hC0.setSB hSB
    have hD2 := hD.fr (M1 := M2) (fun q hq => hf q (by omega))
    obtain ⟨z, tk, dp, ω, μ, κ, hM, hfm, hS, ⟨ρA, μA, κA, hAm⟩, hW, hLy⟩ := hD2.o eM
    refine ⟨0, rfl, htm, ?_⟩
    refine (c_X13_advise hX hM hS hW (by omega) hPm hRI (hAm.sl hR.ok) (hW.s2 hLy) _).wk ?_
    rintro v' sz' τ' M' ⟨-, h2⟩
    obtain ⟨rfl, hSA⟩ := h2 e1
    obtain ⟨rfl, rfl, hD3, hth, hF⟩ := MD.sa hW hLy hfm hSA
    exact ⟨_, rfl, INV.of (hC2.fr (fun q q1 q2 => (hF q (by omega)).trans (by rw [eM]; exact up_a (by omega)))) hD3 h8 hB8 hRI hPl hPm hto hz1 hz2, hth, fun _ => by rw [hF _ (by omega), eM, up_s]⟩
  · obtain ⟨⟨rfl, e1⟩, e2, rfl, rfl⟩ := hq
    obtain ⟨z, tk, dp, ω, μ, κ, hM, hfm, hS, ⟨ρA, μA, κA, hAm⟩, hW, hLy⟩ := hD
    refine ⟨1, rfl, htm, ?_⟩
    refine (c_X13_advise hX hM hS hW (by omega) hPm hRI (hAm.sl hR.ok) (hW.s2 hLy) _).wk ?_
    rintro v' sz' τ' M' ⟨h1, -⟩
    obtain ⟨rfl, hTH⟩ := h1 e1
    exact DN.td (hI0.szl (by omega)) hTH.td (fun e => absurd e (by decide))
set_option maxHeartbeats 1000000 in
theorem cm_choose {l : Launch} {D : va_G} {cA : Nat → ClassId} {n0 : Nat} {sg adK adV : Nat → Nat} {sgA smA wdA bS LS : Nat} {xs : Nat → Int32} (hX : SF n0 (XW0 sg adK adV sgA smA wdA n0 bS LS xs)) (hl : l.stackTraces = false) {nn : String} {i : Nat} (hi : i + 6 ≤ LS) (hL : LS ≤ 3072) {sz : Nat} {τ : TY} {M : ME} {x bk bn : Nat} {Q : QT} {QX : QXT} (hI : INV sg x sz τ M) (K : ∀ sz' τ' M', INV sg x sz' τ' M' → T l D cA n0 (XW0 sg adK adV sgA smA wdA n0 bS LS xs) (mLN nn) 2048 bk bn sz' τ' M' 1233 [.ref bS, .ref x, .ref (x + 144), .ref (x + 198), .int (nI i), UU, UU, UU, UU] [] Q QX) : T l D cA n0 (XW0 sg adK adV sgA smA wdA n0 bS LS xs) (mLN nn) 2048 (bk + 0 + 1) (bn + 0 + 6) sz τ M 1122 [.ref bS, .ref x, .ref (x + 144), .ref (x + 198), .int (nI i), UU, UU, UU, UU] [] Q QX := by
  have hI0 := hI
  obtain ⟨r, p, r2, p2, n8, a, b, c, hc, wc, sc, ρ, ν, π, σ, B, fa, y, hC, hD, ⟨h8, hB8⟩, hRI, hPl, hPm, hto, hz1, hz2⟩ := hI
  have hC0 := hC
  obtain ⟨hlay, ⟨ωc, hV, hfc⟩, hR, ⟨κc, hP⟩, ⟨a2, b2, c2, ρ2, ν2, hA⟩, -, hBM, -, -⟩ := hC
  have htm : τ (x + 144) = (11, 0) := hD.t_m
  refine st_choose (dm := 11) hX hi hL (c_L_choose hX hV.t_x _ (c_X10_choose hX hl hV hR hP hPl hRI (by omega) (by omega) hA (by omega) (by omega) (by omega) _) (by rintro _ _ _ _ ⟨⟨rfl, -⟩, -, rfl, -⟩; exact ⟨_, rfl, hto⟩) (by rintro _ _ _ _ ⟨⟨rfl, -⟩, -⟩; rfl)) (Nat.le_of_ble_eq_true rfl) (Nat.le_of_ble_eq_true rfl) ?_ K
  rintro _ sz1 τ1 M1 (⟨w, M2, hq, rfl, eM⟩ | ⟨E, sz3, hq, e3, rfl⟩)
  · obtain ⟨⟨e0, e1⟩, hSB⟩ := hq
    cases e0
    obtain ⟨rfl, rfl, hC2, hf⟩ := hC0.setSB hSB
    have hD2 := hD.fr (M1 := M2) (fun q hq => hf q (by omega))
    obtain ⟨z, tk, dp, ω, μ, κ, hM, hfm, hS, ⟨ρA, μA, κA, hAm⟩, hW, hLy⟩ := hD2.o eM
    refine ⟨0, rfl, htm, ?_⟩
    refine (c_X13_choose hX hM hS hW (by omega) hPm hRI (hAm.sl hR.ok) (hW.s2 hLy) _).wk ?_
    rintro v' sz' τ' M' ⟨-, h2⟩
    obtain ⟨rfl, hSA⟩ := h2 e1
    obtain ⟨rfl, rfl, hD3, hth, hF⟩ := MD.sa hW hLy hfm hSA
    exact ⟨_, rfl, INV.of (hC2.fr (fun q q1 q2 => (hF q (by omega)).trans (by rw [eM]; exact up_a (by omega)))) hD3 h8 hB8 hRI hPl hPm hto hz1 hz2, hth, fun _ => by rw [hF _ (by omega), eM, up_s]⟩
  · obtain ⟨⟨rfl, e1⟩, e2, rfl, rfl⟩ := hq
    obtain ⟨z, tk, dp, ω, μ, κ, hM, hfm, hS, ⟨ρA, μA, κA, hAm⟩, hW, hLy⟩ := hD
    refine ⟨1, rfl, htm, ?_⟩
    refine (c_X13_choose hX hM hS hW (by omega) hPm hRI (hAm.sl hR.ok) (hW.s2 hLy) _).wk ?_
    rintro v' sz' τ' M' ⟨h1, -⟩
    obtain ⟨rfl, hTH⟩ := h1 e1
    exact DN.td (hI0.szl (by omega)) hTH.td (fun e => absurd e (by decide))
