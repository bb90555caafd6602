/-! the law's loop: the logs and the frost behind the hour -/
theorem mn_c (x : Int32) : minI 9 x = minI x 9 := by
  unfold minI
  by_cases h : 9 < x
  · rw [if_pos h, if_neg (fun z => absurd (Int32.lt_trans h z) Int32.lt_irrefl)]
  · rw [if_neg h]
    by_cases z : x < 9
    · rw [if_pos z]
    · rw [if_neg z]; exact Int32.le_antisymm (Int32.not_lt.mp h) (Int32.not_lt.mp z)
set_option maxHeartbeats 1000000 in
theorem IH_law {l : Launch} {D : va_G} {cA : Nat → ClassId} {n0 : Nat} {sg adK adV : Nat → Nat} {sgA smA wdA bS LS : Nat} {xs : Nat → Int32} (hX : SF n0 (XW0 sg adK adV sgA smA wdA n0 bS LS xs)) (hl : l.stackTraces = false) {nn : String} {x r p r2 p2 hc wc sc j e s0 tb t : Nat} {A : Nat → Nat} {Rw : Nat → Nat → Nat} {cn : Nat → Nat} {π : RH} {ν : NU} {σ : Nat → Nat} {B : Nat → Nat} {fa W0 : Int32} {κ ω : Nat → Nat → Int32} {ρ ρ1 : RH} {μ1 : Nat → Int32} {br : Int32} (hd : e ≤ x ∨ x + 144 ≤ j) (hlo : x + 144 ≤ s0 ∧ e ≤ s0 ∧ j < e) (hok : CnOK cn) (hI : SI (cn 3) (cn 4) (cn 5) ρ) {bk bn : Nat} {τ : TY} {v : Int32} (hA : AFt τ s0 (cn 3) (cn 4) (cn 5)) (hta2 : τ (s0 + 4 + cn 4 + cn 5 + 1) = (100, cn 3)) (hI1 : SI (cn 3) (cn 4) (cn 5) ρ1) (hHR : HR (cn 3) (cn 4) (cn 5) ρ ρ1) {y14 y15 y16 y17 y18 y19 y20 y21 y22 y24 y25 : Value} (KK : ∀ (Mk : ME) (y32 y33 : Value), CS sg τ Mk x r p r2 p2 0 (cn 3) (cn 4) (cn 5) hc wc sc ρ1 ν π σ B fa → SM τ Mk Mk j e A Rw cn ρ1 μ1 κ ω → AF Mk s0 (cn 3) (cn 4) (cn 5) ρ (cn 4) (cn 4) (cn 3) (cn 5) → (∀ u, u < cn 3 → Mk (s0 + 4 + cn 4 + cn 5 + 1) u = .int (sm (fun l => if ρ1 32 l = 2 ∧ ρ1 33 l = nI u then 1 else 0) (cn 5))) → T l D cA n0 (XW0 sg adK adV sgA smA wdA n0 bS LS xs) (mLN nn) 2048 bk bn (s0 + 4 + cn 4 + cn 5 + 2) τ Mk 1540 (.ref bS :: .ref tb :: .ref j :: .ref x :: .int W0 :: .int (nI t) :: .int v :: .int (nI (cn 4)) :: .int (nI (cn 3)) :: .int (nI (cn 5)) :: .ref s0 :: .ref (s0 + 1 + cn 4) :: .ref (s0 + 2 + cn 4 + cn 5) :: .ref (s0 + 3 + cn 4 + cn 5) :: y14 :: y15 :: y16 :: y17 :: y18 :: y19 :: y20 :: y21 :: y22 :: .int (ρ 6 0) :: y24 :: y25 :: .int (ρ 7 0) :: .int (wOf (cn 5) ρ1 3 - wOf (cn 5) ρ 3) :: .int br :: .int (sm (fun l => ρ 31 l) (cn 5)) :: .ref (s0 + 4 + cn 4 + cn 5 + 1) :: .int (nI (cn 5)) :: y32 :: y33 :: []) [] Q1L (fun _ _ _ _ => False)) : ∀ (n : Nat) (g : Nat) (Mk : ME) (acc : Int32) (y32 : Value) (y33 : Value) (hg : g ≤ cn 5) (hC : CS sg τ Mk x r p r2 p2 0 (cn 3) (cn 4) (cn 5) hc wc sc ρ1 ν π σ B fa) (hS : SM τ Mk Mk j e A Rw cn ρ1 μ1 κ ω) (hF : AF Mk s0 (cn 3) (cn 4) (cn 5) ρ (cn 4) (cn 4) (cn 3) (cn 5)) (hL : (∀ u, u < cn 3 → Mk (s0 + 4 + cn 4 + cn 5 + 1) u = .int (sm (fun l => if ρ1 32 l = 2 ∧ ρ1 33 l = nI u then 1 else 0) (g)))) (ha : acc = sm (fun l => ρ 31 l) g), cn 5 - g < n → T l D cA n0 (XW0 sg adK adV sgA smA wdA n0 bS LS xs) (mLN nn) 2048 (bk + 10 * (cn 5 - g)) (bn + 60 * (cn 5 - g)) (s0 + 4 + cn 4 + cn 5 + 2) τ Mk 1295 (.ref bS :: .ref tb :: .ref j :: .ref x :: .int W0 :: .int (nI t) :: .int v :: .int (nI (cn 4)) :: .int (nI (cn 3)) :: .int (nI (cn 5)) :: .ref s0 :: .ref (s0 + 1 + cn 4) :: .ref (s0 + 2 + cn 4 + cn 5) :: .ref (s0 + 3 + cn 4 + cn 5) :: y14 :: y15 :: y16 :: y17 :: y18 :: y19 :: y20 :: y21 :: y22 :: .int (ρ 6 0) :: y24 :: y25 :: .int (ρ 7 0) :: .int (wOf (cn 5) ρ1 3 - wOf (cn 5) ρ 3) :: .int br :: .int acc :: .ref (s0 + 4 + cn 4 + cn 5 + 1) :: .int (nI g) :: y32 :: y33 :: []) [] (Q1L) (fun _ _ _ _ => False) := by
  intro n
  induction n with
  | zero => intros; omega
  | succ n ih =>
    intro g Mk acc y32 y33 hg hC hS hF hL ha hn
    unfold CnOK at hok
    refine T_iload31 dL_law_1295 rfl ?_
    refine T_iload9 dL_law_1297 rfl ?_
    refine T_icmp_ge 1540 1302 dL_law_1299 (by decide) rfl (fun c9 => ?_) (fun c9 => ?_)
    ·
      have c9 := le_out rfl c9
      have hk9 : g = cn 5 := by omega
      subst hk9
      rw [ha]
      exact T_less (by omega) (by omega) (KK _ _ _ hC hS hF hL)
    ·
      have c9 := lt_in rfl c9
      have lq := hI.lq hI1 hHR c9
      refine T_aload3 dL_law_1302 rfl ?_
      refine T_iload31 dL_law_1303 rfl ?_
      refine T_iconst (1) dL_law_1305 rfl rfl ?_
      refine T_less (bk1 := bk + 10 * (cn 5 - (g + 1)) + 8 + 2) (bn1 := bn + 60 * (cn 5 - (g + 1)) + 48 + 12) (by omega) (by omega) ?_
      refine q_log hX hl hC (h := g) (k := 1) c9 (by decide) kL_227 (Nat.le_of_ble_eq_true rfl) (Nat.le_of_ble_eq_true rfl) dL_law_1306 rfl ?_
      rw [show lgF ρ1 g 1 = ρ1 32 g from rfl]
      refine T_istore32 rfl (Nat.le_of_ble_eq_true rfl) dL_law_1309 rfl ?_
      refine T_aload3 dL_law_1311 rfl ?_
      refine T_iload31 dL_law_1312 rfl ?_
      refine T_iconst (2) dL_law_1314 rfl rfl ?_
      refine T_less (bk1 := bk + 10 * (cn 5 - (g + 1)) + 6 + 2) (bn1 := bn + 60 * (cn 5 - (g + 1)) + 36 + 12) (by omega) (by omega) ?_
      refine q_log hX hl hC (h := g) (k := 2) c9 (by decide) kL_227 (Nat.le_of_ble_eq_true rfl) (Nat.le_of_ble_eq_true rfl) dL_law_1315 rfl ?_
      rw [show lgF ρ1 g 2 = ρ1 33 g from rfl]
      refine T_istore33 rfl (Nat.le_of_ble_eq_true rfl) dL_law_1318 rfl ?_
      refine T_iload29 dL_law_1320 rfl ?_
      refine T_aload11 dL_law_1322 rfl ?_
      refine T_iload31 dL_law_1324 rfl ?_
      refine T_aaldA g hA.2.2.1 rfl c9 (by omega) dL_law_1326 rfl (hF.pg c9) ?_
      refine T_iconst (0) dL_law_1327 rfl rfl ?_
      refine T_iald 0 (hA.2.2.2.1 g c9) rfl (by decide) (by decide) dL_law_1328 rfl (show _ = Value.int (ρ 31 g) from hF.vg c9 (k := 0) (by decide)) ?_
      refine T_iadd dL_law_1329 rfl ?_
      refine T_istore29 rfl (Nat.le_of_ble_eq_true rfl) dL_law_1330 rfl ?_
      refine T_jNM 1347 (bk2 := bk + 10 * (cn 5 - (g + 1)) + 6) (bn2 := bn + 60 * (cn 5 - (g + 1)) + 36) (fun M9 => CS sg τ M9 x r p r2 p2 0 (cn 3) (cn 4) (cn 5) hc wc sc ρ1 ν π σ B fa ∧ SM τ M9 M9 j e A Rw cn ρ1 μ1 κ ω ∧ AF M9 s0 (cn 3) (cn 4) (cn 5) ρ (cn 4) (cn 4) (cn 3) (cn 5) ∧ (∀ u, u < cn 3 → M9 (s0 + 4 + cn 4 + cn 5 + 1) u = .int (sm (fun l => if ρ1 32 l = 2 ∧ ρ1 33 l = nI u then 1 else 0) (g + 1)))) (fun hJ => ?_) (fun M1347 hx1347 => ?_)
      ·
        refine T_iload32 dL_law_1332 rfl ?_
        refine T_iconst (2) dL_law_1334 rfl rfl ?_
        refine T_icmp_ne 1347 1338 dL_law_1335 (by decide) rfl (fun c1335 => ?_) (fun c1335 => ?_)
        ·
          refine T_less (bk1 := bk + 10 * (cn 5 - (g + 1)) + 6) (bn1 := bn + 60 * (cn 5 - (g + 1)) + 36) (by omega) (by omega) ?_
          first
            | (have q9 := k9
               refine hJ _ ⟨hC, hS, hF, fun u hu => ?_⟩
               rw [e5, sm]
               by_cases z : u = tt
               · subst z
                 rw [up_s, if_pos (And.intro c1335 k9)]
               · rw [up_k z, hL u hu, if_neg (fun w => z ((nI_eq (by omega) (by omega)).mp (k9.symm.trans w.2)).symm)]
                 exact congrArg Value.int (Int32.add_zero _).symm)
            | (refine hJ _ ⟨hC, hS, hF, fun u hu => ?_⟩
               rw [sm, hL u hu, if_neg (fun w => c1335 w.1)]
               exact congrArg Value.int (Int32.add_zero _).symm)
        ·
          obtain ⟨tt, ht9, k9⟩ := lq.2.2.2.2.2.2.2 c1335
          refine T_aload30 dL_law_1338 rfl ?_
          refine T_iload33 dL_law_1340 rfl ?_
          rw [k9]
          refine T_dup2 dL_law_1342 rfl rfl rfl ?_
          refine T_iald tt hta2 rfl ht9 (by omega) dL_law_1343 rfl (hL tt ht9) ?_
          refine T_iconst (1) dL_law_1344 rfl rfl ?_
          refine T_iadd dL_law_1345 rfl ?_
          refine T_iast tt hta2 rfl ht9 (by omega) dL_law_1346 rfl ?_
          rw [← k9]
          refine T_nm (fun M5 e5 => ?_)
          have hC := hC.fr (M1 := M5) (fun q g1 g2 => by rw [e5]; exact up_a (by omega))
          have hS := hS.fr (M1 := M5) (fun q g1 g2 => by rw [e5]; exact up_a (by omega))
          rw [k9] at e5
          have hF := hF.fr (M' := M5) (fun q g1 g2 => by rw [e5]; exact up_a (by omega))
          refine T_less (bk1 := bk + 10 * (cn 5 - (g + 1)) + 6) (bn1 := bn + 60 * (cn 5 - (g + 1)) + 36) (by omega) (by omega) ?_
          first
            | (have q9 := k9
               refine hJ _ ⟨hC, hS, hF, fun u hu => ?_⟩
               rw [e5, sm]
               by_cases z : u = tt
               · subst z
                 rw [up_s, if_pos (And.intro c1335 k9)]
               · rw [up_k z, hL u hu, if_neg (fun w => z ((nI_eq (by omega) (by omega)).mp (k9.symm.trans w.2)).symm)]
                 exact congrArg Value.int (Int32.add_zero _).symm)
            | (refine hJ _ ⟨hC, hS, hF, fun u hu => ?_⟩
               rw [sm, hL u hu, if_neg (fun w => c1335 w.1)]
               exact congrArg Value.int (Int32.add_zero _).symm)
      ·
        obtain ⟨hC, hS, hF, hL⟩ := hx1347
        refine T_aload3 dL_law_1347 rfl ?_
        refine T_iload31 dL_law_1348 rfl ?_
        refine T_iconst (0) dL_law_1350 rfl rfl ?_
        refine T_less (bk1 := bk + 10 * (cn 5 - (g + 1)) + 4 + 2) (bn1 := bn + 60 * (cn 5 - (g + 1)) + 24 + 12) (by omega) (by omega) ?_
        refine q_log hX hl hC (h := g) (k := 0) c9 (by decide) kL_227 (Nat.le_of_ble_eq_true rfl) (Nat.le_of_ble_eq_true rfl) dL_law_1351 rfl ?_
        rw [show lgF ρ1 g 0 = ρ1 31 g from rfl]
        refine T_aload11 dL_law_1354 rfl ?_
        refine T_iload31 dL_law_1356 rfl ?_
        refine T_aaldA g hA.2.2.1 rfl c9 (by omega) dL_law_1358 rfl (hF.pg c9) ?_
        refine T_iconst (0) dL_law_1359 rfl rfl ?_
        refine T_iald 0 (hA.2.2.2.1 g c9) rfl (by decide) (by decide) dL_law_1360 rfl (show _ = Value.int (ρ 31 g) from hF.vg c9 (k := 0) (by decide)) ?_
        refine T_icmp_ne_f 1532 1364 dL_law_1361 (by decide) rfl lq.1 ?_
        refine T_iload32 dL_law_1364 rfl ?_
        refine T_aload11 dL_law_1366 rfl ?_
        refine T_iload31 dL_law_1368 rfl ?_
        refine T_aaldA g hA.2.2.1 rfl c9 (by omega) dL_law_1370 rfl (hF.pg c9) ?_
        refine T_iconst (1) dL_law_1371 rfl rfl ?_
        refine T_iald 1 (hA.2.2.2.1 g c9) rfl (by decide) (by decide) dL_law_1372 rfl (show _ = Value.int (ρ 32 g) from hF.vg c9 (k := 1) (by decide)) ?_
        refine T_icmp_lt_f 1532 1376 dL_law_1373 (by decide) rfl lq.2.1 ?_
        refine T_jI 1387 (bk2 := bk + 10 * (cn 5 - (g + 1)) + 4) (bn2 := bn + 60 * (cn 5 - (g + 1)) + 24) (fun y => y = if ρ1 32 g = 3 then 1 else 0) (fun hJ => ?_) (fun x1387 hx1387 => ?_)
        ·
          refine T_iload32 dL_law_1376 rfl ?_
          refine T_iconst (3) dL_law_1378 rfl rfl ?_
          refine T_icmp_ne 1386 1382 dL_law_1379 (by decide) rfl (fun c1379 => ?_) (fun c1379 => ?_)
          ·
            refine T_iconst (0) dL_law_1386 rfl rfl ?_
            refine T_less (bk1 := bk + 10 * (cn 5 - (g + 1)) + 4) (bn1 := bn + 60 * (cn 5 - (g + 1)) + 24) (by omega) (by omega) ?_
            refine hJ _ ?_
            first | exact (if_pos c1379).symm | exact (if_neg c1379).symm
          ·
            refine T_iconst (1) dL_law_1382 rfl rfl ?_
            refine T_goto 1387 dL_law_1383 (by decide) ?_
            refine T_less (bk1 := bk + 10 * (cn 5 - (g + 1)) + 4) (bn1 := bn + 60 * (cn 5 - (g + 1)) + 24) (by omega) (by omega) ?_
            refine hJ _ ?_
            first | exact (if_pos c1379).symm | exact (if_neg c1379).symm
        ·
          refine T_jI 1402 (bk2 := bk + 10 * (cn 5 - (g + 1)) + 2) (bn2 := bn + 60 * (cn 5 - (g + 1)) + 12) (fun y => y = if 0 ≤ ρ1 34 g then 1 else 0) (fun hJ => ?_) (fun x1402 hx1402 => ?_)
          ·
            refine T_aload3 dL_law_1387 rfl ?_
            refine T_iload31 dL_law_1388 rfl ?_
            refine T_iconst (3) dL_law_1390 rfl rfl ?_
            refine T_less (bk1 := bk + 10 * (cn 5 - (g + 1)) + 2 + 2) (bn1 := bn + 60 * (cn 5 - (g + 1)) + 12 + 12) (by omega) (by omega) ?_
            refine q_log hX hl hC (h := g) (k := 3) c9 (by decide) kL_227 (Nat.le_of_ble_eq_true rfl) (Nat.le_of_ble_eq_true rfl) dL_law_1391 rfl ?_
            rw [show lgF ρ1 g 3 = ρ1 34 g from rfl]
            refine T_if_lt 1401 1397 dL_law_1394 (by decide) rfl (fun c1394 => ?_) (fun c1394 => ?_)
            ·
              refine T_iconst (0) dL_law_1401 rfl rfl ?_
              refine T_less (bk1 := bk + 10 * (cn 5 - (g + 1)) + 2) (bn1 := bn + 60 * (cn 5 - (g + 1)) + 12) (by omega) (by omega) ?_
              refine hJ _ ?_
              first | exact (if_neg (Int32.not_le.mpr c1394)).symm | exact (if_pos (Int32.not_lt.mp c1394)).symm
            ·
              refine T_iconst (1) dL_law_1397 rfl rfl ?_
              refine T_goto 1402 dL_law_1398 (by decide) ?_
              refine T_less (bk1 := bk + 10 * (cn 5 - (g + 1)) + 2) (bn1 := bn + 60 * (cn 5 - (g + 1)) + 12) (by omega) (by omega) ?_
              refine hJ _ ?_
              first | exact (if_neg (Int32.not_le.mpr c1394)).symm | exact (if_pos (Int32.not_lt.mp c1394)).symm
          ·
            refine T_icmp_ne_f 1532 1405 dL_law_1402 (by decide) rfl (by rw [hx1387, hx1402]; exact ifc lq.2.2.1) ?_
            refine T_jI 1422 (bk2 := bk + 10 * (cn 5 - (g + 1)) + 2) (bn2 := bn + 60 * (cn 5 - (g + 1)) + 12) (fun y => y = if (ρ1 32 g = 1 ∨ ρ1 32 g = 2) then 1 else 0) (fun hJ => ?_) (fun x1422 hx1422 => ?_)
            ·
              refine T_iload32 dL_law_1405 rfl ?_
              refine T_iconst (1) dL_law_1407 rfl rfl ?_
              refine T_icmp_eq 1417 1411 dL_law_1408 (by decide) rfl (fun c1408 => ?_) (fun c1408 => ?_)
              ·
                refine T_iconst (1) dL_law_1417 rfl rfl ?_
                refine T_goto 1422 dL_law_1418 (by decide) ?_
                refine T_less (bk1 := bk + 10 * (cn 5 - (g + 1)) + 2) (bn1 := bn + 60 * (cn 5 - (g + 1)) + 12) (by omega) (by omega) ?_
                refine hJ _ ?_
                first
                  | (refine (if_pos ?_).symm; exact Or.inl c1408)
                  | (refine (if_pos ?_).symm; exact Or.inr c1414)
                  | (refine (if_neg ?_).symm; exact fun z => z.elim c1408 c1414)
              ·
                refine T_iload32 dL_law_1411 rfl ?_
                refine T_iconst (2) dL_law_1413 rfl rfl ?_
                refine T_icmp_ne 1421 1417 dL_law_1414 (by decide) rfl (fun c1414 => ?_) (fun c1414 => ?_)
                ·
                  refine T_iconst (0) dL_law_1421 rfl rfl ?_
                  refine T_less (bk1 := bk + 10 * (cn 5 - (g + 1)) + 2) (bn1 := bn + 60 * (cn 5 - (g + 1)) + 12) (by omega) (by omega) ?_
                  refine hJ _ ?_
                  first
                    | (refine (if_pos ?_).symm; exact Or.inl c1408)
                    | (refine (if_pos ?_).symm; exact Or.inr c1414)
                    | (refine (if_neg ?_).symm; exact fun z => z.elim c1408 c1414)
                ·
                  refine T_iconst (1) dL_law_1417 rfl rfl ?_
                  refine T_goto 1422 dL_law_1418 (by decide) ?_
                  refine T_less (bk1 := bk + 10 * (cn 5 - (g + 1)) + 2) (bn1 := bn + 60 * (cn 5 - (g + 1)) + 12) (by omega) (by omega) ?_
                  refine hJ _ ?_
                  first
                    | (refine (if_pos ?_).symm; exact Or.inl c1408)
                    | (refine (if_pos ?_).symm; exact Or.inr c1414)
                    | (refine (if_neg ?_).symm; exact fun z => z.elim c1408 c1414)
            ·
              refine T_jI 1432 (bk2 := bk + 10 * (cn 5 - (g + 1)) + 2) (bn2 := bn + 60 * (cn 5 - (g + 1)) + 12) (fun y => y = if 0 ≤ ρ1 33 g then 1 else 0) (fun hJ => ?_) (fun x1432 hx1432 => ?_)
              ·
                refine T_iload33 dL_law_1422 rfl ?_
                refine T_if_lt 1431 1427 dL_law_1424 (by decide) rfl (fun c1424 => ?_) (fun c1424 => ?_)
                ·
                  refine T_iconst (0) dL_law_1431 rfl rfl ?_
                  refine T_less (bk1 := bk + 10 * (cn 5 - (g + 1)) + 2) (bn1 := bn + 60 * (cn 5 - (g + 1)) + 12) (by omega) (by omega) ?_
                  refine hJ _ ?_
                  first | exact (if_neg (Int32.not_le.mpr c1424)).symm | exact (if_pos (Int32.not_lt.mp c1424)).symm
                ·
                  refine T_iconst (1) dL_law_1427 rfl rfl ?_
                  refine T_goto 1432 dL_law_1428 (by decide) ?_
                  refine T_less (bk1 := bk + 10 * (cn 5 - (g + 1)) + 2) (bn1 := bn + 60 * (cn 5 - (g + 1)) + 12) (by omega) (by omega) ?_
                  refine hJ _ ?_
                  first | exact (if_neg (Int32.not_le.mpr c1424)).symm | exact (if_pos (Int32.not_lt.mp c1424)).symm
              ·
                refine T_icmp_ne_f 1532 1435 dL_law_1432 (by decide) rfl (by rw [hx1422, hx1432]; exact ifc lq.2.2.2.1) ?_
                refine T_jN 1475 (bk2 := bk + 10 * (cn 5 - (g + 1)) + 0) (bn2 := bn + 60 * (cn 5 - (g + 1)) + 0) (fun hJ => ?_) ?_
                ·
                  refine T_iload32 dL_law_1435 rfl ?_
                  refine T_iconst (3) dL_law_1437 rfl rfl ?_
                  refine T_icmp_ne 1475 1441 dL_law_1438 (by decide) rfl (fun c1438 => ?_) (fun c1438 => ?_)
                  ·
                    refine T_less (bk1 := bk + 10 * (cn 5 - (g + 1)) + 0) (bn1 := bn + 60 * (cn 5 - (g + 1)) + 0) (by omega) (by omega) ?_
                    exact hJ
                  ·
                    refine T_aload11 dL_law_1441 rfl ?_
                    refine T_iload31 dL_law_1443 rfl ?_
                    refine T_aaldA g hA.2.2.1 rfl c9 (by omega) dL_law_1445 rfl (hF.pg c9) ?_
                    refine T_iconst (1) dL_law_1446 rfl rfl ?_
                    refine T_iald 1 (hA.2.2.2.1 g c9) rfl (by decide) (by decide) dL_law_1447 rfl (show _ = Value.int (ρ 32 g) from hF.vg c9 (k := 1) (by decide)) ?_
                    refine T_iconst (3) dL_law_1448 rfl rfl ?_
                    refine T_icmp_ge 1475 1452 dL_law_1449 (by decide) rfl (fun c1449 => ?_) (fun c1449 => ?_)
                    ·
                      refine T_less (bk1 := bk + 10 * (cn 5 - (g + 1)) + 0) (bn1 := bn + 60 * (cn 5 - (g + 1)) + 0) (by omega) (by omega) ?_
                      exact hJ
                    ·
                      refine T_aload3 dL_law_1452 rfl ?_
                      refine T_iload31 dL_law_1453 rfl ?_
                      refine T_iconst (3) dL_law_1455 rfl rfl ?_
                      refine T_less (bk1 := bk + 10 * (cn 5 - (g + 1)) + 0 + 2) (bn1 := bn + 60 * (cn 5 - (g + 1)) + 0 + 12) (by omega) (by omega) ?_
                      refine q_log hX hl hC (h := g) (k := 3) c9 (by decide) kL_227 (Nat.le_of_ble_eq_true rfl) (Nat.le_of_ble_eq_true rfl) dL_law_1456 rfl ?_
                      rw [show lgF ρ1 g 3 = ρ1 34 g from rfl]
                      refine T_iload23 dL_law_1459 rfl ?_
                      refine T_icmp_ne_f 1532 1464 dL_law_1461 (by decide) rfl (lq.2.2.2.2.1 c1438 (Int32.not_le.mp c1449)).1 ?_
                      refine T_aload11 dL_law_1464 rfl ?_
                      refine T_iload31 dL_law_1466 rfl ?_
                      refine T_aaldA g hA.2.2.1 rfl c9 (by omega) dL_law_1468 rfl (hF.pg c9) ?_
                      refine T_iconst (1) dL_law_1469 rfl rfl ?_
                      refine T_iald 1 (hA.2.2.2.1 g c9) rfl (by decide) (by decide) dL_law_1470 rfl (show _ = Value.int (ρ 32 g) from hF.vg c9 (k := 1) (by decide)) ?_
                      refine T_iconst (1) dL_law_1471 rfl rfl ?_
                      refine T_icmp_ne_f 1532 1475 dL_law_1472 (by decide) rfl (lq.2.2.2.2.1 c1438 (Int32.not_le.mp c1449)).2 ?_
                      refine T_less (bk1 := bk + 10 * (cn 5 - (g + 1)) + 0) (bn1 := bn + 60 * (cn 5 - (g + 1)) + 0) (by omega) (by omega) ?_
                      exact hJ
                ·
                  refine T_jN 1503 (bk2 := bk + 10 * (cn 5 - (g + 1)) + 0) (bn2 := bn + 60 * (cn 5 - (g + 1)) + 0) (fun hJ => ?_) ?_
                  ·
                    refine T_iload32 dL_law_1475 rfl ?_
                    refine T_iconst (2) dL_law_1477 rfl rfl ?_
                    refine T_icmp_ne 1503 1481 dL_law_1478 (by decide) rfl (fun c1478 => ?_) (fun c1478 => ?_)
                    ·
                      refine T_less (bk1 := bk + 10 * (cn 5 - (g + 1)) + 0) (bn1 := bn + 60 * (cn 5 - (g + 1)) + 0) (by omega) (by omega) ?_
                      exact hJ
                    ·
                      refine T_aload11 dL_law_1481 rfl ?_
                      refine T_iload31 dL_law_1483 rfl ?_
                      refine T_aaldA g hA.2.2.1 rfl c9 (by omega) dL_law_1485 rfl (hF.pg c9) ?_
                      refine T_iconst (1) dL_law_1486 rfl rfl ?_
                      refine T_iald 1 (hA.2.2.2.1 g c9) rfl (by decide) (by decide) dL_law_1487 rfl (show _ = Value.int (ρ 32 g) from hF.vg c9 (k := 1) (by decide)) ?_
                      refine T_iconst (2) dL_law_1488 rfl rfl ?_
                      refine T_icmp_eq 1503 1492 dL_law_1489 (by decide) rfl (fun c1489 => ?_) (fun c1489 => ?_)
                      ·
                        refine T_less (bk1 := bk + 10 * (cn 5 - (g + 1)) + 0) (bn1 := bn + 60 * (cn 5 - (g + 1)) + 0) (by omega) (by omega) ?_
                        exact hJ
                      ·
                        refine T_aload11 dL_law_1492 rfl ?_
                        refine T_iload31 dL_law_1494 rfl ?_
                        refine T_aaldA g hA.2.2.1 rfl c9 (by omega) dL_law_1496 rfl (hF.pg c9) ?_
                        refine T_iconst (1) dL_law_1497 rfl rfl ?_
                        refine T_iald 1 (hA.2.2.2.1 g c9) rfl (by decide) (by decide) dL_law_1498 rfl (show _ = Value.int (ρ 32 g) from hF.vg c9 (k := 1) (by decide)) ?_
                        refine T_iconst (1) dL_law_1499 rfl rfl ?_
                        refine T_icmp_ne_f 1532 1503 dL_law_1500 (by decide) rfl (lq.2.2.2.2.2.1 c1478 c1489) ?_
                        refine T_less (bk1 := bk + 10 * (cn 5 - (g + 1)) + 0) (bn1 := bn + 60 * (cn 5 - (g + 1)) + 0) (by omega) (by omega) ?_
                        exact hJ
                  ·
                    refine T_jN 1534 (bk2 := bk + 10 * (cn 5 - (g + 1)) + 0) (bn2 := bn + 60 * (cn 5 - (g + 1)) + 0) (fun hJ => ?_) ?_
                    ·
                      refine T_iload32 dL_law_1503 rfl ?_
                      refine T_iconst (1) dL_law_1505 rfl rfl ?_
                      refine T_icmp_ne 1534 1509 dL_law_1506 (by decide) rfl (fun c1506 => ?_) (fun c1506 => ?_)
                      ·
                        refine T_less (bk1 := bk + 10 * (cn 5 - (g + 1)) + 0) (bn1 := bn + 60 * (cn 5 - (g + 1)) + 0) (by omega) (by omega) ?_
                        exact hJ
                      ·
                        refine T_aload11 dL_law_1509 rfl ?_
                        refine T_iload31 dL_law_1511 rfl ?_
                        refine T_aaldA g hA.2.2.1 rfl c9 (by omega) dL_law_1513 rfl (hF.pg c9) ?_
                        refine T_iconst (1) dL_law_1514 rfl rfl ?_
                        refine T_iald 1 (hA.2.2.2.1 g c9) rfl (by decide) (by decide) dL_law_1515 rfl (show _ = Value.int (ρ 32 g) from hF.vg c9 (k := 1) (by decide)) ?_
                        refine T_iconst (1) dL_law_1516 rfl rfl ?_
                        refine T_icmp_ne 1534 1520 dL_law_1517 (by decide) rfl (fun c1517 => ?_) (fun c1517 => ?_)
                        ·
                          refine T_less (bk1 := bk + 10 * (cn 5 - (g + 1)) + 0) (bn1 := bn + 60 * (cn 5 - (g + 1)) + 0) (by omega) (by omega) ?_
                          exact hJ
                        ·
                          refine T_iload33 dL_law_1520 rfl ?_
                          refine T_aload11 dL_law_1522 rfl ?_
                          refine T_iload31 dL_law_1524 rfl ?_
                          refine T_aaldA g hA.2.2.1 rfl c9 (by omega) dL_law_1526 rfl (hF.pg c9) ?_
                          refine T_iconst (2) dL_law_1527 rfl rfl ?_
                          refine T_iald 2 (hA.2.2.2.1 g c9) rfl (by decide) (by decide) dL_law_1528 rfl (show _ = Value.int (ρ 33 g) from hF.vg c9 (k := 2) (by decide)) ?_
                          refine T_icmp_eq_t 1534 dL_law_1529 (by decide) (lq.2.2.2.2.2.2.1 c1506 c1517) ?_
                          refine T_less (bk1 := bk + 10 * (cn 5 - (g + 1)) + 0) (bn1 := bn + 60 * (cn 5 - (g + 1)) + 0) (by omega) (by omega) ?_
                          exact hJ
                    ·
                      first | refine T_iinc31 rfl (Nat.le_of_ble_eq_true rfl) dL_law_1534 rfl (inc1 _) ?_ | refine T_iinc31 rfl (Nat.le_of_ble_eq_true rfl) dL_law_1534 rfl rfl ?_
                      refine T_goto 1295 dL_law_1537 (by decide) ?_
                      exact T_less (by omega) (by omega) (ih (g + 1) _ _ _ _ (by omega) hC hS hF hL (by rw [sm, ha]) (by omega))
set_option maxHeartbeats 1000000 in
theorem II_law {l : Launch} {D : va_G} {cA : Nat → ClassId} {n0 : Nat} {sg adK adV : Nat → Nat} {sgA smA wdA bS LS : Nat} {xs : Nat → Int32} (hX : SF n0 (XW0 sg adK adV sgA smA wdA n0 bS LS xs)) (hl : l.stackTraces = false) {nn : String} {x r p r2 p2 hc wc sc j e s0 tb t : Nat} {A : Nat → Nat} {Rw : Nat → Nat → Nat} {cn : Nat → Nat} {π : RH} {ν : NU} {σ : Nat → Nat} {B : Nat → Nat} {fa W0 : Int32} {κ ω : Nat → Nat → Int32} {ρ ρ1 : RH} {μ1 : Nat → Int32} {br : Int32} (hd : e ≤ x ∨ x + 144 ≤ j) (hlo : x + 144 ≤ s0 ∧ e ≤ s0 ∧ j < e) (hok : CnOK cn) (hI : SI (cn 3) (cn 4) (cn 5) ρ) {bk bn : Nat} {τ : TY} {v : Int32} {M : ME} (hA : AFt τ s0 (cn 3) (cn 4) (cn 5)) (hta2 : τ (s0 + 4 + cn 4 + cn 5 + 1) = (100, cn 3)) (hC : CS sg τ M x r p r2 p2 0 (cn 3) (cn 4) (cn 5) hc wc sc ρ1 ν π σ B fa) (hF : AF M s0 (cn 3) (cn 4) (cn 5) ρ (cn 4) (cn 4) (cn 3) (cn 5)) (hL : (∀ u, u < cn 3 → M (s0 + 4 + cn 4 + cn 5 + 1) u = .int (sm (fun l => if ρ1 32 l = 2 ∧ ρ1 33 l = nI u then 1 else 0) (cn 5)))) (hHR : HR (cn 3) (cn 4) (cn 5) ρ ρ1) {y14 y15 y16 y17 y18 y19 y20 y21 y22 y24 y25 y32 y33 : Value} (KK : T l D cA n0 (XW0 sg adK adV sgA smA wdA n0 bS LS xs) (mLN nn) 2048 bk bn (s0 + 4 + cn 4 + cn 5 + 2) τ M 1625 (.ref bS :: .ref tb :: .ref j :: .ref x :: .int W0 :: .int (nI t) :: .int v :: .int (nI (cn 4)) :: .int (nI (cn 3)) :: .int (nI (cn 5)) :: .ref s0 :: .ref (s0 + 1 + cn 4) :: .ref (s0 + 2 + cn 4 + cn 5) :: .ref (s0 + 3 + cn 4 + cn 5) :: y14 :: y15 :: y16 :: y17 :: y18 :: y19 :: y20 :: y21 :: y22 :: .int (ρ 6 0) :: y24 :: y25 :: .int (ρ 7 0) :: .int (wOf (cn 5) ρ1 3 - wOf (cn 5) ρ 3) :: .int br :: .int (sm (fun l => ρ 31 l) (cn 5)) :: .ref (s0 + 4 + cn 4 + cn 5 + 1) :: .int (nI (cn 3)) :: y32 :: y33 :: []) [] Q1L (fun _ _ _ _ => False)) : ∀ (n : Nat) (u : Nat) (hu : u ≤ cn 3), cn 3 - u < n → T l D cA n0 (XW0 sg adK adV sgA smA wdA n0 bS LS xs) (mLN nn) 2048 (bk + 4 * (cn 3 - u)) (bn + 24 * (cn 3 - u)) (s0 + 4 + cn 4 + cn 5 + 2) τ M 1552 (.ref bS :: .ref tb :: .ref j :: .ref x :: .int W0 :: .int (nI t) :: .int v :: .int (nI (cn 4)) :: .int (nI (cn 3)) :: .int (nI (cn 5)) :: .ref s0 :: .ref (s0 + 1 + cn 4) :: .ref (s0 + 2 + cn 4 + cn 5) :: .ref (s0 + 3 + cn 4 + cn 5) :: y14 :: y15 :: y16 :: y17 :: y18 :: y19 :: y20 :: y21 :: y22 :: .int (ρ 6 0) :: y24 :: y25 :: .int (ρ 7 0) :: .int (wOf (cn 5) ρ1 3 - wOf (cn 5) ρ 3) :: .int br :: .int (sm (fun l => ρ 31 l) (cn 5)) :: .ref (s0 + 4 + cn 4 + cn 5 + 1) :: .int (nI u) :: y32 :: y33 :: []) [] (Q1L) (fun _ _ _ _ => False) := by
  intro n
  induction n with
  | zero => intros; omega
  | succ n ih =>
    intro u hu hn
    unfold CnOK at hok
    refine T_iload31 dL_law_1552 rfl ?_
    refine T_iload8 dL_law_1554 rfl ?_
    refine T_icmp_ge 1625 1559 dL_law_1556 (by decide) rfl (fun c9 => ?_) (fun c9 => ?_)
    ·
      have c9 := le_out rfl c9
      have hk9 : u = cn 3 := by omega
      subst hk9
      exact T_less (by omega) (by omega) KK
    ·
      have c9 := lt_in rfl c9
      refine T_aload3 dL_law_1559 rfl ?_
      refine T_iload31 dL_law_1560 rfl ?_
      refine T_iconst (4) dL_law_1562 rfl rfl ?_
      refine T_less (bk1 := bk + 4 * (cn 3 - (u + 1)) + 2 + 2) (bn1 := bn + 24 * (cn 3 - (u + 1)) + 12 + 12) (by omega) (by omega) ?_
      refine q_stretch hX hl hC (h := u) (k := 4) c9 (by decide) kL_224 (Nat.le_of_ble_eq_true rfl) (Nat.le_of_ble_eq_true rfl) dL_law_1563 rfl ?_
      rw [show stF (cn 4) (cn 5) ρ1 u 4 = flOf (cn 5) ρ1 (nI u) from rfl]
      refine T_aload30 dL_law_1566 rfl ?_
      refine T_iload31 dL_law_1568 rfl ?_
      refine T_iald u hta2 rfl c9 (by omega) dL_law_1570 rfl (hL u c9) ?_
      refine T_icmp_ne_f 1617 1574 dL_law_1571 (by decide) rfl rfl ?_
      refine T_aload3 dL_law_1574 rfl ?_
      refine T_iload31 dL_law_1575 rfl ?_
      refine T_iconst (2) dL_law_1577 rfl rfl ?_
      refine T_less (bk1 := bk + 4 * (cn 3 - (u + 1)) + 0 + 2) (bn1 := bn + 24 * (cn 3 - (u + 1)) + 0 + 12) (by omega) (by omega) ?_
      refine q_stretch hX hl hC (h := u) (k := 2) c9 (by decide) kL_224 (Nat.le_of_ble_eq_true rfl) (Nat.le_of_ble_eq_true rfl) dL_law_1578 rfl ?_
      rw [show stF (cn 4) (cn 5) ρ1 u 2 = ρ1 43 u from rfl]
      refine T_jI 1614 (bk2 := bk + 4 * (cn 3 - (u + 1)) + 0) (bn2 := bn + 24 * (cn 3 - (u + 1)) + 0) (fun y => y = FZ ρ (ρ 43 u)) (fun hJ => ?_) (fun x1614 hx1614 => ?_)
      ·
        refine T_iload23 dL_law_1581 rfl ?_
        refine T_bipush (6) dL_law_1583 rfl rfl ?_
        refine T_irem dL_law_1585 rfl (by decide) ?_
        refine T_if_ne 1609 1589 dL_law_1586 (by decide) rfl (fun c1586 => ?_) (fun c1586 => ?_)
        ·
          refine T_aload12 dL_law_1609 rfl ?_
          refine T_iload31 dL_law_1611 rfl ?_
          refine T_iald u hA.2.2.2.2.1 rfl c9 (by omega) dL_law_1613 rfl (hF.vs c9) ?_
          refine T_less (bk1 := bk + 4 * (cn 3 - (u + 1)) + 0) (bn1 := bn + 24 * (cn 3 - (u + 1)) + 0) (by omega) (by omega) ?_
          refine hJ _ ?_
          unfold FZ
          first | exact (if_neg c1586).symm | (rw [if_pos c1586]; rfl)
        ·
          refine T_iconst (0) dL_law_1589 rfl rfl ?_
          refine T_bipush (9) dL_law_1590 rfl rfl ?_
          refine T_aload12 dL_law_1592 rfl ?_
          refine T_iload31 dL_law_1594 rfl ?_
          refine T_iald u hA.2.2.2.2.1 rfl c9 (by omega) dL_law_1596 rfl (hF.vs c9) ?_
          refine T_iload26 dL_law_1597 rfl ?_
          refine T_iadd dL_law_1599 rfl ?_
          refine T_min kmL_160 (by decide) (Nat.le_of_ble_eq_true rfl) dL_law_1600 rfl ?_
          refine T_max kmL_253 (by decide) (Nat.le_of_ble_eq_true rfl) dL_law_1603 rfl ?_
          refine T_goto 1614 dL_law_1606 (by decide) ?_
          refine T_less (bk1 := bk + 4 * (cn 3 - (u + 1)) + 0) (bn1 := bn + 24 * (cn 3 - (u + 1)) + 0) (by omega) (by omega) ?_
          refine hJ _ ?_
          unfold FZ
          first | exact (if_neg c1586).symm | (rw [if_pos c1586]; rfl)
      ·
        refine T_icmp_eq_t 1619 dL_law_1614 (by decide) ((hHR.2.1 u c9).trans hx1614.symm) ?_
        first | refine T_iinc31 rfl (Nat.le_of_ble_eq_true rfl) dL_law_1619 rfl (inc1 _) ?_ | refine T_iinc31 rfl (Nat.le_of_ble_eq_true rfl) dL_law_1619 rfl rfl ?_
        refine T_goto 1552 dL_law_1622 (by decide) ?_
        exact T_less (by omega) (by omega) (ih (u + 1) (by omega) (by omega))
