/-! the law, call by call -/
abbrev mLN (nn : String) : MI := (⟨RL, nn, "([I)Z"⟩, cL_law, 9, some .boolean, [(1, 1, 1, 1)], [])
theorem lg_self (x : Int64) : lg_cmp x x = 0 := by
  unfold lg_cmp
  rw [if_neg Int64.lt_irrefl, if_pos rfl]
theorem MV.thI {τ : TY} {N M : ME} {m y z s1 s2 n tk dp : Nat} {B : Nat → Nat} {ω : RH} {k : Int32} (h : MV τ N M m y z s1 s2 n tk dp B ω) (hk : M m 0 = .int k) : ω 90 0 = k := by
  have := h.g_th.symm.trans hk
  simpa using this
set_option maxHeartbeats 1000000 in
theorem st_feed {l : Launch} {D : va_G} {cA : Nat → ClassId} {n0 : Nat} {sg adK adV : Nat → Nat} {sgA smA wdA bS LS : Nat} {xs : Nat → Int32} (hX : SF n0 (XW0 sg adK adV sgA smA wdA n0 bS LS xs)) {nn : String} {i : Nat} (hi : i + 6 ≤ LS) (hL : LS ≤ 3072) {sz : Nat} {τ : TY} {M : ME} {x bk bn d9 mc9 ms9 dm mcm msm : Nat} {Q QW : QT} {QX : QXT} (hW : CW l D cA n0 (XW0 sg adK adV sgA smA wdA n0 bS LS xs) mH_feed hL_feed d9 mc9 ms9 sz τ M [.ref x, .int (xs (i + 1)), .int (xs (i + 2)), .int (xs (i + 3)), .int (xs (i + 4)), .int (xs (i + 5)), .ref (x + 198)] QW) (hd9 : d9 + 1 ≤ 2048) (hdm : dm + 1 ≤ 2048) (hN : ∀ v sz1 τ1 M1, QW v sz1 τ1 M1 → ∃ k, v = some (.int k) ∧ τ1 (x + 144) = (11, 0) ∧ CT l D cA n0 (XW0 sg adK adV sgA smA wdA n0 bS LS xs) mX13_feed dm mcm msm sz1 τ1 M1 [.ref (x + 144), .int (xs (i + 1)), .int (xs (i + 2)), .int (xs (i + 3)), .int (xs (i + 4)), .int (xs (i + 5))] (DN sg x k)) (K : ∀ sz' τ' M', INV sg x sz' τ' M' → T l D cA n0 (XW0 sg adK adV sgA smA wdA n0 bS LS xs) (mLN nn) 2048 bk bn sz' τ' M' 1233 [.ref bS, .ref x, .ref (x + 144), .ref (x + 198), .int (nI i), UU, UU, UU, UU] [] Q QX) : T l D cA n0 (XW0 sg adK adV sgA smA wdA n0 bS LS xs) (mLN nn) 2048 (bk + mcm + mc9) (bn + msm + ms9) sz τ M 136 [.ref bS, .ref x, .ref (x + 144), .ref (x + 198), .int (nI i), UU, UU, UU, UU] [] Q QX := by
  refine T_aload1 dL_law_136 rfl ?_
  refine T_aload0 dL_law_137 rfl ?_
  refine T_iload4 dL_law_138 rfl ?_
  refine T_iconst (1) dL_law_140 rfl rfl ?_
  refine T_iadd dL_law_141 rfl ?_
  refine T_sld (i + 1) (nI_add i 1) (by omega) (by omega) dL_law_142 rfl ?_
  refine T_aload0 dL_law_143 rfl ?_
  refine T_iload4 dL_law_144 rfl ?_
  refine T_iconst (2) dL_law_146 rfl rfl ?_
  refine T_iadd dL_law_147 rfl ?_
  refine T_sld (i + 2) (nI_add i 2) (by omega) (by omega) dL_law_148 rfl ?_
  refine T_aload0 dL_law_149 rfl ?_
  refine T_iload4 dL_law_150 rfl ?_
  refine T_iconst (3) dL_law_152 rfl rfl ?_
  refine T_iadd dL_law_153 rfl ?_
  refine T_sld (i + 3) (nI_add i 3) (by omega) (by omega) dL_law_154 rfl ?_
  refine T_aload0 dL_law_155 rfl ?_
  refine T_iload4 dL_law_156 rfl ?_
  refine T_iconst (4) dL_law_158 rfl rfl ?_
  refine T_iadd dL_law_159 rfl ?_
  refine T_sld (i + 4) (nI_add i 4) (by omega) (by omega) dL_law_160 rfl ?_
  refine T_aload0 dL_law_161 rfl ?_
  refine T_iload4 dL_law_162 rfl ?_
  refine T_iconst (5) dL_law_164 rfl rfl ?_
  refine T_iadd dL_law_165 rfl ?_
  refine T_sld (i + 5) (nI_add i 5) (by omega) (by omega) dL_law_166 rfl ?_
  refine T_aload3 dL_law_167 rfl ?_
  refine T_callW (bk := bk + mcm) (bn := bn + msm) (As := [.ref x, .int (xs (i + 1)), .int (xs (i + 2)), .int (xs (i + 3)), .int (xs (i + 4)), .int (xs (i + 5)), .ref (x + 198)]) hW hX kW_feed (by omega) rfl rfl (Nat.le_of_ble_eq_true rfl) dL_law_168 rfl ?_
  intro v9 sz9 τ9 M9 hq
  obtain ⟨k, rfl, htm, hMo⟩ := hN _ _ _ _ hq
  refine T_istore5 rfl (Nat.le_of_ble_eq_true rfl) dL_law_171 rfl ?_
  refine T_aload2 dL_law_173 rfl ?_
  refine T_aload0 dL_law_174 rfl ?_
  refine T_iload4 dL_law_175 rfl ?_
  refine T_iconst (1) dL_law_177 rfl rfl ?_
  refine T_iadd dL_law_178 rfl ?_
  refine T_sld (i + 1) (nI_add i 1) (by omega) (by omega) dL_law_179 rfl ?_
  refine T_aload0 dL_law_180 rfl ?_
  refine T_iload4 dL_law_181 rfl ?_
  refine T_iconst (2) dL_law_183 rfl rfl ?_
  refine T_iadd dL_law_184 rfl ?_
  refine T_sld (i + 2) (nI_add i 2) (by omega) (by omega) dL_law_185 rfl ?_
  refine T_aload0 dL_law_186 rfl ?_
  refine T_iload4 dL_law_187 rfl ?_
  refine T_iconst (3) dL_law_189 rfl rfl ?_
  refine T_iadd dL_law_190 rfl ?_
  refine T_sld (i + 3) (nI_add i 3) (by omega) (by omega) dL_law_191 rfl ?_
  refine T_aload0 dL_law_192 rfl ?_
  refine T_iload4 dL_law_193 rfl ?_
  refine T_iconst (4) dL_law_195 rfl rfl ?_
  refine T_iadd dL_law_196 rfl ?_
  refine T_sld (i + 4) (nI_add i 4) (by omega) (by omega) dL_law_197 rfl ?_
  refine T_aload0 dL_law_198 rfl ?_
  refine T_iload4 dL_law_199 rfl ?_
  refine T_iconst (5) dL_law_201 rfl rfl ?_
  refine T_iadd dL_law_202 rfl ?_
  refine T_sld (i + 5) (nI_add i 5) (by omega) (by omega) dL_law_203 rfl ?_
  refine T_cV5 (bk := bk) (bn := bn) hMo hX kL_75 (Or.inl ⟨_, _, _, _, htm, by decide, rfl⟩) (by omega) (Nat.le_of_ble_eq_true rfl) dL_law_204 rfl ?_
  rintro _ sz8 τ8 M8 ⟨w, rfl, hI, hk0, ho⟩
  have hI9 := hI
  obtain ⟨r, p, r2, p2, n8, a, b, c, hc, wc, sc, ρ, ν, π, σ, B, fa, y, hC, ⟨z, tk, dp, ω, μ, κ, hM, hfa, hS, hA, hWn, hLy⟩, hB, hRI, hPl, hPm, hto, hz1, hz2⟩ := hI9
  refine T_istore6 rfl (Nat.le_of_ble_eq_true rfl) dL_law_207 rfl ?_
  refine T_aload2 dL_law_209 rfl ?_
  refine T_cV0 (bk := bk) (bn := bn) (c_X13_thrown hX hM) hX kL_76 (Or.inl ⟨_, _, _, _, hM.t_m, by decide, rfl⟩) (by decide) (Nat.le_of_ble_eq_true rfl) dL_law_210 rfl ?_
  rintro _ _ _ _ ⟨rfl, rfl, rfl, rfl⟩
  refine T_iload5 dL_law_213 rfl ?_
  refine T_icmp_eq_t 220 dL_law_215 (by decide) (hM.thI hk0) ?_
  refine T_iload5 dL_law_220 rfl ?_
  refine T_if_ne 237 225 dL_law_222 (by decide) rfl (fun hk => ?_) (fun hk => ?_)
  · refine T_goto 1233 dL_law_237 (by decide) ?_
    exact T_ls5 (K _ _ _ hI)
  · refine T_aload3 dL_law_225 rfl ?_
    refine T_iconst (0) dL_law_226 rfl rfl ?_
    refine T_lald 0 hto rfl (by decide) (by decide) dL_law_227 rfl (ho hk) ?_
    refine T_iload6 dL_law_228 rfl ?_
    refine T_i2l dL_law_230 rfl ?_
    refine T_lcmp dL_law_231 rfl ?_
    refine T_if_eq_t 237 dL_law_232 (by decide) (lg_self _) ?_
    refine T_goto 1233 dL_law_237 (by decide) ?_
    exact T_ls5 (K _ _ _ hI)
set_option maxHeartbeats 1000000 in
theorem st_trim {l : Launch} {D : va_G} {cA : Nat → ClassId} {n0 : Nat} {sg adK adV : Nat → Nat} {sgA smA wdA bS LS : Nat} {xs : Nat → Int32} (hX : SF n0 (XW0 sg adK adV sgA smA wdA n0 bS LS xs)) {nn : String} {i : Nat} (hi : i + 6 ≤ LS) (hL : LS ≤ 3072) {sz : Nat} {τ : TY} {M : ME} {x bk bn d9 mc9 ms9 dm mcm msm : Nat} {Q QW : QT} {QX : QXT} (hW : CW l D cA n0 (XW0 sg adK adV sgA smA wdA n0 bS LS xs) mH_trim hL_trim d9 mc9 ms9 sz τ M [.ref x, .int (xs (i + 1)), .ref (x + 198)] QW) (hd9 : d9 + 1 ≤ 2048) (hdm : dm + 1 ≤ 2048) (hN : ∀ v sz1 τ1 M1, QW v sz1 τ1 M1 → ∃ k, v = some (.int k) ∧ τ1 (x + 144) = (11, 0) ∧ CT l D cA n0 (XW0 sg adK adV sgA smA wdA n0 bS LS xs) mX13_trim dm mcm msm sz1 τ1 M1 [.ref (x + 144), .int (xs (i + 1))] (DN sg x k)) (K : ∀ sz' τ' M', INV sg x sz' τ' M' → T l D cA n0 (XW0 sg adK adV sgA smA wdA n0 bS LS xs) (mLN nn) 2048 bk bn sz' τ' M' 1233 [.ref bS, .ref x, .ref (x + 144), .ref (x + 198), .int (nI i), UU, UU, UU, UU] [] Q QX) : T l D cA n0 (XW0 sg adK adV sgA smA wdA n0 bS LS xs) (mLN nn) 2048 (bk + mcm + mc9) (bn + msm + ms9) sz τ M 240 [.ref bS, .ref x, .ref (x + 144), .ref (x + 198), .int (nI i), UU, UU, UU, UU] [] Q QX := by
  refine T_aload1 dL_law_240 rfl ?_
  refine T_aload0 dL_law_241 rfl ?_
  refine T_iload4 dL_law_242 rfl ?_
  refine T_iconst (1) dL_law_244 rfl rfl ?_
  refine T_iadd dL_law_245 rfl ?_
  refine T_sld (i + 1) (nI_add i 1) (by omega) (by omega) dL_law_246 rfl ?_
  refine T_aload3 dL_law_247 rfl ?_
  refine T_callW (bk := bk + mcm) (bn := bn + msm) (As := [.ref x, .int (xs (i + 1)), .ref (x + 198)]) hW hX kW_trim (by omega) rfl rfl (Nat.le_of_ble_eq_true rfl) dL_law_248 rfl ?_
  intro v9 sz9 τ9 M9 hq
  obtain ⟨k, rfl, htm, hMo⟩ := hN _ _ _ _ hq
  refine T_istore5 rfl (Nat.le_of_ble_eq_true rfl) dL_law_251 rfl ?_
  refine T_aload2 dL_law_253 rfl ?_
  refine T_aload0 dL_law_254 rfl ?_
  refine T_iload4 dL_law_255 rfl ?_
  refine T_iconst (1) dL_law_257 rfl rfl ?_
  refine T_iadd dL_law_258 rfl ?_
  refine T_sld (i + 1) (nI_add i 1) (by omega) (by omega) dL_law_259 rfl ?_
  refine T_cV1 (bk := bk) (bn := bn) hMo hX kL_83 (Or.inl ⟨_, _, _, _, htm, by decide, rfl⟩) (by omega) (Nat.le_of_ble_eq_true rfl) dL_law_260 rfl ?_
  rintro _ sz8 τ8 M8 ⟨w, rfl, hI, hk0, ho⟩
  have hI9 := hI
  obtain ⟨r, p, r2, p2, n8, a, b, c, hc, wc, sc, ρ, ν, π, σ, B, fa, y, hC, ⟨z, tk, dp, ω, μ, κ, hM, hfa, hS, hA, hWn, hLy⟩, hB, hRI, hPl, hPm, hto, hz1, hz2⟩ := hI9
  refine T_istore6 rfl (Nat.le_of_ble_eq_true rfl) dL_law_263 rfl ?_
  refine T_aload2 dL_law_265 rfl ?_
  refine T_cV0 (bk := bk) (bn := bn) (c_X13_thrown hX hM) hX kL_76 (Or.inl ⟨_, _, _, _, hM.t_m, by decide, rfl⟩) (by decide) (Nat.le_of_ble_eq_true rfl) dL_law_266 rfl ?_
  rintro _ _ _ _ ⟨rfl, rfl, rfl, rfl⟩
  refine T_iload5 dL_law_269 rfl ?_
  refine T_icmp_eq_t 276 dL_law_271 (by decide) (hM.thI hk0) ?_
  refine T_iload5 dL_law_276 rfl ?_
  refine T_if_ne 293 281 dL_law_278 (by decide) rfl (fun hk => ?_) (fun hk => ?_)
  · refine T_goto 1233 dL_law_293 (by decide) ?_
    exact T_ls5 (K _ _ _ hI)
  · refine T_aload3 dL_law_281 rfl ?_
    refine T_iconst (0) dL_law_282 rfl rfl ?_
    refine T_lald 0 hto rfl (by decide) (by decide) dL_law_283 rfl (ho hk) ?_
    refine T_iload6 dL_law_284 rfl ?_
    refine T_i2l dL_law_286 rfl ?_
    refine T_lcmp dL_law_287 rfl ?_
    refine T_if_eq_t 293 dL_law_288 (by decide) (lg_self _) ?_
    refine T_goto 1233 dL_law_293 (by decide) ?_
    exact T_ls5 (K _ _ _ hI)
set_option maxHeartbeats 1000000 in
theorem st_count {l : Launch} {D : va_G} {cA : Nat → ClassId} {n0 : Nat} {sg adK adV : Nat → Nat} {sgA smA wdA bS LS : Nat} {xs : Nat → Int32} (hX : SF n0 (XW0 sg adK adV sgA smA wdA n0 bS LS xs)) {nn : String} {i : Nat} (hi : i + 6 ≤ LS) (hL : LS ≤ 3072) {sz : Nat} {τ : TY} {M : ME} {x bk bn d9 mc9 ms9 dm mcm msm : Nat} {Q QW : QT} {QX : QXT} (hW : CW l D cA n0 (XW0 sg adK adV sgA smA wdA n0 bS LS xs) mH_count hL_count d9 mc9 ms9 sz τ M [.ref x, .int (xs (i + 1)), .ref (x + 198)] QW) (hd9 : d9 + 1 ≤ 2048) (hdm : dm + 1 ≤ 2048) (hN : ∀ v sz1 τ1 M1, QW v sz1 τ1 M1 → ∃ k, v = some (.int k) ∧ τ1 (x + 144) = (11, 0) ∧ CT l D cA n0 (XW0 sg adK adV sgA smA wdA n0 bS LS xs) mX13_count dm mcm msm sz1 τ1 M1 [.ref (x + 144), .int (xs (i + 1))] (DN sg x k)) (K : ∀ sz' τ' M', INV sg x sz' τ' M' → T l D cA n0 (XW0 sg adK adV sgA smA wdA n0 bS LS xs) (mLN nn) 2048 bk bn sz' τ' M' 1233 [.ref bS, .ref x, .ref (x + 144), .ref (x + 198), .int (nI i), UU, UU, UU, UU] [] Q QX) : T l D cA n0 (XW0 sg adK adV sgA smA wdA n0 bS LS xs) (mLN nn) 2048 (bk + mcm + mc9) (bn + msm + ms9) sz τ M 322 [.ref bS, .ref x, .ref (x + 144), .ref (x + 198), .int (nI i), UU, UU, UU, UU] [] Q QX := by
  refine T_aload1 dL_law_322 rfl ?_
  refine T_aload0 dL_law_323 rfl ?_
  refine T_iload4 dL_law_324 rfl ?_
  refine T_iconst (1) dL_law_326 rfl rfl ?_
  refine T_iadd dL_law_327 rfl ?_
  refine T_sld (i + 1) (nI_add i 1) (by omega) (by omega) dL_law_328 rfl ?_
  refine T_aload3 dL_law_329 rfl ?_
  refine T_callW (bk := bk + mcm) (bn := bn + msm) (As := [.ref x, .int (xs (i + 1)), .ref (x + 198)]) hW hX kW_count (by omega) rfl rfl (Nat.le_of_ble_eq_true rfl) dL_law_330 rfl ?_
  intro v9 sz9 τ9 M9 hq
  obtain ⟨k, rfl, htm, hMo⟩ := hN _ _ _ _ hq
  refine T_istore5 rfl (Nat.le_of_ble_eq_true rfl) dL_law_333 rfl ?_
  refine T_aload2 dL_law_335 rfl ?_
  refine T_aload0 dL_law_336 rfl ?_
  refine T_iload4 dL_law_337 rfl ?_
  refine T_iconst (1) dL_law_339 rfl rfl ?_
  refine T_iadd dL_law_340 rfl ?_
  refine T_sld (i + 1) (nI_add i 1) (by omega) (by omega) dL_law_341 rfl ?_
  refine T_cV1 (bk := bk) (bn := bn) hMo hX kL_94 (Or.inl ⟨_, _, _, _, htm, by decide, rfl⟩) (by omega) (Nat.le_of_ble_eq_true rfl) dL_law_342 rfl ?_
  rintro _ sz8 τ8 M8 ⟨w, rfl, hI, hk0, ho⟩
  have hI9 := hI
  obtain ⟨r, p, r2, p2, n8, a, b, c, hc, wc, sc, ρ, ν, π, σ, B, fa, y, hC, ⟨z, tk, dp, ω, μ, κ, hM, hfa, hS, hA, hWn, hLy⟩, hB, hRI, hPl, hPm, hto, hz1, hz2⟩ := hI9
  refine T_istore6 rfl (Nat.le_of_ble_eq_true rfl) dL_law_345 rfl ?_
  refine T_aload2 dL_law_347 rfl ?_
  refine T_cV0 (bk := bk) (bn := bn) (c_X13_thrown hX hM) hX kL_76 (Or.inl ⟨_, _, _, _, hM.t_m, by decide, rfl⟩) (by decide) (Nat.le_of_ble_eq_true rfl) dL_law_348 rfl ?_
  rintro _ _ _ _ ⟨rfl, rfl, rfl, rfl⟩
  refine T_iload5 dL_law_351 rfl ?_
  refine T_icmp_eq_t 358 dL_law_353 (by decide) (hM.thI hk0) ?_
  refine T_iload5 dL_law_358 rfl ?_
  refine T_if_ne 375 363 dL_law_360 (by decide) rfl (fun hk => ?_) (fun hk => ?_)
  · refine T_goto 1233 dL_law_375 (by decide) ?_
    exact T_ls5 (K _ _ _ hI)
  · refine T_aload3 dL_law_363 rfl ?_
    refine T_iconst (0) dL_law_364 rfl rfl ?_
    refine T_lald 0 hto rfl (by decide) (by decide) dL_law_365 rfl (ho hk) ?_
    refine T_iload6 dL_law_366 rfl ?_
    refine T_i2l dL_law_368 rfl ?_
    refine T_lcmp dL_law_369 rfl ?_
    refine T_if_eq_t 375 dL_law_370 (by decide) (lg_self _) ?_
    refine T_goto 1233 dL_law_375 (by decide) ?_
    exact T_ls5 (K _ _ _ hI)
set_option maxHeartbeats 1000000 in
theorem st_stretch {l : Launch} {D : va_G} {cA : Nat → ClassId} {n0 : Nat} {sg adK adV : Nat → Nat} {sgA smA wdA bS LS : Nat} {xs : Nat → Int32} (hX : SF n0 (XW0 sg adK adV sgA smA wdA n0 bS LS xs)) {nn : String} {i : Nat} (hi : i + 6 ≤ LS) (hL : LS ≤ 3072) {sz : Nat} {τ : TY} {M : ME} {x bk bn d9 mc9 ms9 dm mcm msm : Nat} {Q QW : QT} {QX : QXT} (hW : CW l D cA n0 (XW0 sg adK adV sgA smA wdA n0 bS LS xs) mH_stretch hL_stretch d9 mc9 ms9 sz τ M [.ref x, .int (xs (i + 1)), .int (xs (i + 2)), .ref (x + 198)] QW) (hd9 : d9 + 1 ≤ 2048) (hdm : dm + 1 ≤ 2048) (hN : ∀ v sz1 τ1 M1, QW v sz1 τ1 M1 → ∃ k, v = some (.int k) ∧ τ1 (x + 144) = (11, 0) ∧ CT l D cA n0 (XW0 sg adK adV sgA smA wdA n0 bS LS xs) mX13_stretch dm mcm msm sz1 τ1 M1 [.ref (x + 144), .int (xs (i + 1)), .int (xs (i + 2))] (DN sg x k)) (K : ∀ sz' τ' M', INV sg x sz' τ' M' → T l D cA n0 (XW0 sg adK adV sgA smA wdA n0 bS LS xs) (mLN nn) 2048 bk bn sz' τ' M' 1233 [.ref bS, .ref x, .ref (x + 144), .ref (x + 198), .int (nI i), UU, UU, UU, UU] [] Q QX) : T l D cA n0 (XW0 sg adK adV sgA smA wdA n0 bS LS xs) (mLN nn) 2048 (bk + mcm + mc9) (bn + msm + ms9) sz τ M 378 [.ref bS, .ref x, .ref (x + 144), .ref (x + 198), .int (nI i), UU, UU, UU, UU] [] Q QX := by
  refine T_aload1 dL_law_378 rfl ?_
  refine T_aload0 dL_law_379 rfl ?_
  refine T_iload4 dL_law_380 rfl ?_
  refine T_iconst (1) dL_law_382 rfl rfl ?_
  refine T_iadd dL_law_383 rfl ?_
  refine T_sld (i + 1) (nI_add i 1) (by omega) (by omega) dL_law_384 rfl ?_
  refine T_aload0 dL_law_385 rfl ?_
  refine T_iload4 dL_law_386 rfl ?_
  refine T_iconst (2) dL_law_388 rfl rfl ?_
  refine T_iadd dL_law_389 rfl ?_
  refine T_sld (i + 2) (nI_add i 2) (by omega) (by omega) dL_law_390 rfl ?_
  refine T_aload3 dL_law_391 rfl ?_
  refine T_callW (bk := bk + mcm) (bn := bn + msm) (As := [.ref x, .int (xs (i + 1)), .int (xs (i + 2)), .ref (x + 198)]) hW hX kW_stretch (by omega) rfl rfl (Nat.le_of_ble_eq_true rfl) dL_law_392 rfl ?_
  intro v9 sz9 τ9 M9 hq
  obtain ⟨k, rfl, htm, hMo⟩ := hN _ _ _ _ hq
  refine T_istore5 rfl (Nat.le_of_ble_eq_true rfl) dL_law_395 rfl ?_
  refine T_aload2 dL_law_397 rfl ?_
  refine T_aload0 dL_law_398 rfl ?_
  refine T_iload4 dL_law_399 rfl ?_
  refine T_iconst (1) dL_law_401 rfl rfl ?_
  refine T_iadd dL_law_402 rfl ?_
  refine T_sld (i + 1) (nI_add i 1) (by omega) (by omega) dL_law_403 rfl ?_
  refine T_aload0 dL_law_404 rfl ?_
  refine T_iload4 dL_law_405 rfl ?_
  refine T_iconst (2) dL_law_407 rfl rfl ?_
  refine T_iadd dL_law_408 rfl ?_
  refine T_sld (i + 2) (nI_add i 2) (by omega) (by omega) dL_law_409 rfl ?_
  refine T_cV2 (bk := bk) (bn := bn) hMo hX kL_98 (Or.inl ⟨_, _, _, _, htm, by decide, rfl⟩) (by omega) (Nat.le_of_ble_eq_true rfl) dL_law_410 rfl ?_
  rintro _ sz8 τ8 M8 ⟨w, rfl, hI, hk0, ho⟩
  have hI9 := hI
  obtain ⟨r, p, r2, p2, n8, a, b, c, hc, wc, sc, ρ, ν, π, σ, B, fa, y, hC, ⟨z, tk, dp, ω, μ, κ, hM, hfa, hS, hA, hWn, hLy⟩, hB, hRI, hPl, hPm, hto, hz1, hz2⟩ := hI9
  refine T_istore6 rfl (Nat.le_of_ble_eq_true rfl) dL_law_413 rfl ?_
  refine T_aload2 dL_law_415 rfl ?_
  refine T_cV0 (bk := bk) (bn := bn) (c_X13_thrown hX hM) hX kL_76 (Or.inl ⟨_, _, _, _, hM.t_m, by decide, rfl⟩) (by decide) (Nat.le_of_ble_eq_true rfl) dL_law_416 rfl ?_
  rintro _ _ _ _ ⟨rfl, rfl, rfl, rfl⟩
  refine T_iload5 dL_law_419 rfl ?_
  refine T_icmp_eq_t 426 dL_law_421 (by decide) (hM.thI hk0) ?_
  refine T_iload5 dL_law_426 rfl ?_
  refine T_if_ne 443 431 dL_law_428 (by decide) rfl (fun hk => ?_) (fun hk => ?_)
  · refine T_goto 1233 dL_law_443 (by decide) ?_
    exact T_ls5 (K _ _ _ hI)
  · refine T_aload3 dL_law_431 rfl ?_
    refine T_iconst (0) dL_law_432 rfl rfl ?_
    refine T_lald 0 hto rfl (by decide) (by decide) dL_law_433 rfl (ho hk) ?_
    refine T_iload6 dL_law_434 rfl ?_
    refine T_i2l dL_law_436 rfl ?_
    refine T_lcmp dL_law_437 rfl ?_
    refine T_if_eq_t 443 dL_law_438 (by decide) (lg_self _) ?_
    refine T_goto 1233 dL_law_443 (by decide) ?_
    exact T_ls5 (K _ _ _ hI)
set_option maxHeartbeats 1000000 in
theorem st_horse {l : Launch} {D : va_G} {cA : Nat → ClassId} {n0 : Nat} {sg adK adV : Nat → Nat} {sgA smA wdA bS LS : Nat} {xs : Nat → Int32} (hX : SF n0 (XW0 sg adK adV sgA smA wdA n0 bS LS xs)) {nn : String} {i : Nat} (hi : i + 6 ≤ LS) (hL : LS ≤ 3072) {sz : Nat} {τ : TY} {M : ME} {x bk bn d9 mc9 ms9 dm mcm msm : Nat} {Q QW : QT} {QX : QXT} (hW : CW l D cA n0 (XW0 sg adK adV sgA smA wdA n0 bS LS xs) mH_horse hL_horse d9 mc9 ms9 sz τ M [.ref x, .int (xs (i + 1)), .int (xs (i + 2)), .ref (x + 198)] QW) (hd9 : d9 + 1 ≤ 2048) (hdm : dm + 1 ≤ 2048) (hN : ∀ v sz1 τ1 M1, QW v sz1 τ1 M1 → ∃ k, v = some (.int k) ∧ τ1 (x + 144) = (11, 0) ∧ CT l D cA n0 (XW0 sg adK adV sgA smA wdA n0 bS LS xs) mX13_horse dm mcm msm sz1 τ1 M1 [.ref (x + 144), .int (xs (i + 1)), .int (xs (i + 2))] (DN sg x k)) (K : ∀ sz' τ' M', INV sg x sz' τ' M' → T l D cA n0 (XW0 sg adK adV sgA smA wdA n0 bS LS xs) (mLN nn) 2048 bk bn sz' τ' M' 1233 [.ref bS, .ref x, .ref (x + 144), .ref (x + 198), .int (nI i), UU, UU, UU, UU] [] Q QX) : T l D cA n0 (XW0 sg adK adV sgA smA wdA n0 bS LS xs) (mLN nn) 2048 (bk + mcm + mc9) (bn + msm + ms9) sz τ M 446 [.ref bS, .ref x, .ref (x + 144), .ref (x + 198), .int (nI i), UU, UU, UU, UU] [] Q QX := by
  refine T_aload1 dL_law_446 rfl ?_
  refine T_aload0 dL_law_447 rfl ?_
  refine T_iload4 dL_law_448 rfl ?_
  refine T_iconst (1) dL_law_450 rfl rfl ?_
  refine T_iadd dL_law_451 rfl ?_
  refine T_sld (i + 1) (nI_add i 1) (by omega) (by omega) dL_law_452 rfl ?_
  refine T_aload0 dL_law_453 rfl ?_
  refine T_iload4 dL_law_454 rfl ?_
  refine T_iconst (2) dL_law_456 rfl rfl ?_
  refine T_iadd dL_law_457 rfl ?_
  refine T_sld (i + 2) (nI_add i 2) (by omega) (by omega) dL_law_458 rfl ?_
  refine T_aload3 dL_law_459 rfl ?_
  refine T_callW (bk := bk + mcm) (bn := bn + msm) (As := [.ref x, .int (xs (i + 1)), .int (xs (i + 2)), .ref (x + 198)]) hW hX kW_horse (by omega) rfl rfl (Nat.le_of_ble_eq_true rfl) dL_law_460 rfl ?_
  intro v9 sz9 τ9 M9 hq
  obtain ⟨k, rfl, htm, hMo⟩ := hN _ _ _ _ hq
  refine T_istore5 rfl (Nat.le_of_ble_eq_true rfl) dL_law_463 rfl ?_
  refine T_aload2 dL_law_465 rfl ?_
  refine T_aload0 dL_law_466 rfl ?_
  refine T_iload4 dL_law_467 rfl ?_
  refine T_iconst (1) dL_law_469 rfl rfl ?_
  refine T_iadd dL_law_470 rfl ?_
  refine T_sld (i + 1) (nI_add i 1) (by omega) (by omega) dL_law_471 rfl ?_
  refine T_aload0 dL_law_472 rfl ?_
  refine T_iload4 dL_law_473 rfl ?_
  refine T_iconst (2) dL_law_475 rfl rfl ?_
  refine T_iadd dL_law_476 rfl ?_
  refine T_sld (i + 2) (nI_add i 2) (by omega) (by omega) dL_law_477 rfl ?_
  refine T_cV2 (bk := bk) (bn := bn) hMo hX kL_101 (Or.inl ⟨_, _, _, _, htm, by decide, rfl⟩) (by omega) (Nat.le_of_ble_eq_true rfl) dL_law_478 rfl ?_
  rintro _ sz8 τ8 M8 ⟨w, rfl, hI, hk0, ho⟩
  have hI9 := hI
  obtain ⟨r, p, r2, p2, n8, a, b, c, hc, wc, sc, ρ, ν, π, σ, B, fa, y, hC, ⟨z, tk, dp, ω, μ, κ, hM, hfa, hS, hA, hWn, hLy⟩, hB, hRI, hPl, hPm, hto, hz1, hz2⟩ := hI9
  refine T_istore6 rfl (Nat.le_of_ble_eq_true rfl) dL_law_481 rfl ?_
  refine T_aload2 dL_law_483 rfl ?_
  refine T_cV0 (bk := bk) (bn := bn) (c_X13_thrown hX hM) hX kL_76 (Or.inl ⟨_, _, _, _, hM.t_m, by decide, rfl⟩) (by decide) (Nat.le_of_ble_eq_true rfl) dL_law_484 rfl ?_
  rintro _ _ _ _ ⟨rfl, rfl, rfl, rfl⟩
  refine T_iload5 dL_law_487 rfl ?_
  refine T_icmp_eq_t 494 dL_law_489 (by decide) (hM.thI hk0) ?_
  refine T_iload5 dL_law_494 rfl ?_
  refine T_if_ne 511 499 dL_law_496 (by decide) rfl (fun hk => ?_) (fun hk => ?_)
  · refine T_goto 1233 dL_law_511 (by decide) ?_
    exact T_ls5 (K _ _ _ hI)
  · refine T_aload3 dL_law_499 rfl ?_
    refine T_iconst (0) dL_law_500 rfl rfl ?_
    refine T_lald 0 hto rfl (by decide) (by decide) dL_law_501 rfl (ho hk) ?_
    refine T_iload6 dL_law_502 rfl ?_
    refine T_i2l dL_law_504 rfl ?_
    refine T_lcmp dL_law_505 rfl ?_
    refine T_if_eq_t 511 dL_law_506 (by decide) (lg_self _) ?_
    refine T_goto 1233 dL_law_511 (by decide) ?_
    exact T_ls5 (K _ _ _ hI)
set_option maxHeartbeats 1000000 in
theorem st_log {l : Launch} {D : va_G} {cA : Nat → ClassId} {n0 : Nat} {sg adK adV : Nat → Nat} {sgA smA wdA bS LS : Nat} {xs : Nat → Int32} (hX : SF n0 (XW0 sg adK adV sgA smA wdA n0 bS LS xs)) {nn : String} {i : Nat} (hi : i + 6 ≤ LS) (hL : LS ≤ 3072) {sz : Nat} {τ : TY} {M : ME} {x bk bn d9 mc9 ms9 dm mcm msm : Nat} {Q QW : QT} {QX : QXT} (hW : CW l D cA n0 (XW0 sg adK adV sgA smA wdA n0 bS LS xs) mH_log hL_log d9 mc9 ms9 sz τ M [.ref x, .int (xs (i + 1)), .int (xs (i + 2)), .ref (x + 198)] QW) (hd9 : d9 + 1 ≤ 2048) (hdm : dm + 1 ≤ 2048) (hN : ∀ v sz1 τ1 M1, QW v sz1 τ1 M1 → ∃ k, v = some (.int k) ∧ τ1 (x + 144) = (11, 0) ∧ CT l D cA n0 (XW0 sg adK adV sgA smA wdA n0 bS LS xs) mX13_log dm mcm msm sz1 τ1 M1 [.ref (x + 144), .int (xs (i + 1)), .int (xs (i + 2))] (DN sg x k)) (K : ∀ sz' τ' M', INV sg x sz' τ' M' → T l D cA n0 (XW0 sg adK adV sgA smA wdA n0 bS LS xs) (mLN nn) 2048 bk bn sz' τ' M' 1233 [.ref bS, .ref x, .ref (x + 144), .ref (x + 198), .int (nI i), UU, UU, UU, UU] [] Q QX) : T l D cA n0 (XW0 sg adK adV sgA smA wdA n0 bS LS xs) (mLN nn) 2048 (bk + mcm + mc9) (bn + msm + ms9) sz τ M 514 [.ref bS, .ref x, .ref (x + 144), .ref (x + 198), .int (nI i), UU, UU, UU, UU] [] Q QX := by
  refine T_aload1 dL_law_514 rfl ?_
  refine T_aload0 dL_law_515 rfl ?_
  refine T_iload4 dL_law_516 rfl ?_
  refine T_iconst (1) dL_law_518 rfl rfl ?_
  refine T_iadd dL_law_519 rfl ?_
  refine T_sld (i + 1) (nI_add i 1) (by omega) (by omega) dL_law_520 rfl ?_
  refine T_aload0 dL_law_521 rfl ?_
  refine T_iload4 dL_law_522 rfl ?_
  refine T_iconst (2) dL_law_524 rfl rfl ?_
  refine T_iadd dL_law_525 rfl ?_
  refine T_sld (i + 2) (nI_add i 2) (by omega) (by omega) dL_law_526 rfl ?_
  refine T_aload3 dL_law_527 rfl ?_
  refine T_callW (bk := bk + mcm) (bn := bn + msm) (As := [.ref x, .int (xs (i + 1)), .int (xs (i + 2)), .ref (x + 198)]) hW hX kW_log (by omega) rfl rfl (Nat.le_of_ble_eq_true rfl) dL_law_528 rfl ?_
  intro v9 sz9 τ9 M9 hq
  obtain ⟨k, rfl, htm, hMo⟩ := hN _ _ _ _ hq
  refine T_istore5 rfl (Nat.le_of_ble_eq_true rfl) dL_law_531 rfl ?_
  refine T_aload2 dL_law_533 rfl ?_
  refine T_aload0 dL_law_534 rfl ?_
  refine T_iload4 dL_law_535 rfl ?_
  refine T_iconst (1) dL_law_537 rfl rfl ?_
  refine T_iadd dL_law_538 rfl ?_
  refine T_sld (i + 1) (nI_add i 1) (by omega) (by omega) dL_law_539 rfl ?_
  refine T_aload0 dL_law_540 rfl ?_
  refine T_iload4 dL_law_541 rfl ?_
  refine T_iconst (2) dL_law_543 rfl rfl ?_
  refine T_iadd dL_law_544 rfl ?_
  refine T_sld (i + 2) (nI_add i 2) (by omega) (by omega) dL_law_545 rfl ?_
  refine T_cV2 (bk := bk) (bn := bn) hMo hX kL_104 (Or.inl ⟨_, _, _, _, htm, by decide, rfl⟩) (by omega) (Nat.le_of_ble_eq_true rfl) dL_law_546 rfl ?_
  rintro _ sz8 τ8 M8 ⟨w, rfl, hI, hk0, ho⟩
  have hI9 := hI
  obtain ⟨r, p, r2, p2, n8, a, b, c, hc, wc, sc, ρ, ν, π, σ, B, fa, y, hC, ⟨z, tk, dp, ω, μ, κ, hM, hfa, hS, hA, hWn, hLy⟩, hB, hRI, hPl, hPm, hto, hz1, hz2⟩ := hI9
  refine T_istore6 rfl (Nat.le_of_ble_eq_true rfl) dL_law_549 rfl ?_
  refine T_aload2 dL_law_551 rfl ?_
  refine T_cV0 (bk := bk) (bn := bn) (c_X13_thrown hX hM) hX kL_76 (Or.inl ⟨_, _, _, _, hM.t_m, by decide, rfl⟩) (by decide) (Nat.le_of_ble_eq_true rfl) dL_law_552 rfl ?_
  rintro _ _ _ _ ⟨rfl, rfl, rfl, rfl⟩
  refine T_iload5 dL_law_555 rfl ?_
  refine T_icmp_eq_t 562 dL_law_557 (by decide) (hM.thI hk0) ?_
  refine T_iload5 dL_law_562 rfl ?_
  refine T_if_ne 579 567 dL_law_564 (by decide) rfl (fun hk => ?_) (fun hk => ?_)
  · refine T_goto 1233 dL_law_579 (by decide) ?_
    exact T_ls5 (K _ _ _ hI)
  · refine T_aload3 dL_law_567 rfl ?_
    refine T_iconst (0) dL_law_568 rfl rfl ?_
    refine T_lald 0 hto rfl (by decide) (by decide) dL_law_569 rfl (ho hk) ?_
    refine T_iload6 dL_law_570 rfl ?_
    refine T_i2l dL_law_572 rfl ?_
    refine T_lcmp dL_law_573 rfl ?_
    refine T_if_eq_t 579 dL_law_574 (by decide) (lg_self _) ?_
    refine T_goto 1233 dL_law_579 (by decide) ?_
    exact T_ls5 (K _ _ _ hI)
set_option maxHeartbeats 1000000 in
theorem st_needs {l : Launch} {D : va_G} {cA : Nat → ClassId} {n0 : Nat} {sg adK adV : Nat → Nat} {sgA smA wdA bS LS : Nat} {xs : Nat → Int32} (hX : SF n0 (XW0 sg adK adV sgA smA wdA n0 bS LS xs)) {nn : String} {i : Nat} (hi : i + 6 ≤ LS) (hL : LS ≤ 3072) {sz : Nat} {τ : TY} {M : ME} {x bk bn d9 mc9 ms9 dm mcm msm : Nat} {Q QW : QT} {QX : QXT} (hW : CW l D cA n0 (XW0 sg adK adV sgA smA wdA n0 bS LS xs) mH_needs hL_needs d9 mc9 ms9 sz τ M [.ref x, .int (xs (i + 1)), .int (xs (i + 2)), .ref (x + 198)] QW) (hd9 : d9 + 1 ≤ 2048) (hdm : dm + 1 ≤ 2048) (hN : ∀ v sz1 τ1 M1, QW v sz1 τ1 M1 → ∃ k, v = some (.int k) ∧ τ1 (x + 144) = (11, 0) ∧ CT l D cA n0 (XW0 sg adK adV sgA smA wdA n0 bS LS xs) mX13_needs dm mcm msm sz1 τ1 M1 [.ref (x + 144), .int (xs (i + 1)), .int (xs (i + 2))] (DN sg x k)) (K : ∀ sz' τ' M', INV sg x sz' τ' M' → T l D cA n0 (XW0 sg adK adV sgA smA wdA n0 bS LS xs) (mLN nn) 2048 bk bn sz' τ' M' 1233 [.ref bS, .ref x, .ref (x + 144), .ref (x + 198), .int (nI i), UU, UU, UU, UU] [] Q QX) : T l D cA n0 (XW0 sg adK adV sgA smA wdA n0 bS LS xs) (mLN nn) 2048 (bk + mcm + mc9) (bn + msm + ms9) sz τ M 582 [.ref bS, .ref x, .ref (x + 144), .ref (x + 198), .int (nI i), UU, UU, UU, UU] [] Q QX := by
  refine T_aload1 dL_law_582 rfl ?_
  refine T_aload0 dL_law_583 rfl ?_
  refine T_iload4 dL_law_584 rfl ?_
  refine T_iconst (1) dL_law_586 rfl rfl ?_
  refine T_iadd dL_law_587 rfl ?_
  refine T_sld (i + 1) (nI_add i 1) (by omega) (by omega) dL_law_588 rfl ?_
  refine T_aload0 dL_law_589 rfl ?_
  refine T_iload4 dL_law_590 rfl ?_
  refine T_iconst (2) dL_law_592 rfl rfl ?_
  refine T_iadd dL_law_593 rfl ?_
  refine T_sld (i + 2) (nI_add i 2) (by omega) (by omega) dL_law_594 rfl ?_
  refine T_aload3 dL_law_595 rfl ?_
  refine T_callW (bk := bk + mcm) (bn := bn + msm) (As := [.ref x, .int (xs (i + 1)), .int (xs (i + 2)), .ref (x + 198)]) hW hX kW_needs (by omega) rfl rfl (Nat.le_of_ble_eq_true rfl) dL_law_596 rfl ?_
  intro v9 sz9 τ9 M9 hq
  obtain ⟨k, rfl, htm, hMo⟩ := hN _ _ _ _ hq
  refine T_istore5 rfl (Nat.le_of_ble_eq_true rfl) dL_law_599 rfl ?_
  refine T_aload2 dL_law_601 rfl ?_
  refine T_aload0 dL_law_602 rfl ?_
  refine T_iload4 dL_law_603 rfl ?_
  refine T_iconst (1) dL_law_605 rfl rfl ?_
  refine T_iadd dL_law_606 rfl ?_
  refine T_sld (i + 1) (nI_add i 1) (by omega) (by omega) dL_law_607 rfl ?_
  refine T_aload0 dL_law_608 rfl ?_
  refine T_iload4 dL_law_609 rfl ?_
  refine T_iconst (2) dL_law_611 rfl rfl ?_
  refine T_iadd dL_law_612 rfl ?_
  refine T_sld (i + 2) (nI_add i 2) (by omega) (by omega) dL_law_613 rfl ?_
  refine T_cV2 (bk := bk) (bn := bn) hMo hX kL_107 (Or.inl ⟨_, _, _, _, htm, by decide, rfl⟩) (by omega) (Nat.le_of_ble_eq_true rfl) dL_law_614 rfl ?_
  rintro _ sz8 τ8 M8 ⟨w, rfl, hI, hk0, ho⟩
  have hI9 := hI
  obtain ⟨r, p, r2, p2, n8, a, b, c, hc, wc, sc, ρ, ν, π, σ, B, fa, y, hC, ⟨z, tk, dp, ω, μ, κ, hM, hfa, hS, hA, hWn, hLy⟩, hB, hRI, hPl, hPm, hto, hz1, hz2⟩ := hI9
  refine T_istore6 rfl (Nat.le_of_ble_eq_true rfl) dL_law_617 rfl ?_
  refine T_aload2 dL_law_619 rfl ?_
  refine T_cV0 (bk := bk) (bn := bn) (c_X13_thrown hX hM) hX kL_76 (Or.inl ⟨_, _, _, _, hM.t_m, by decide, rfl⟩) (by decide) (Nat.le_of_ble_eq_true rfl) dL_law_620 rfl ?_
  rintro _ _ _ _ ⟨rfl, rfl, rfl, rfl⟩
  refine T_iload5 dL_law_623 rfl ?_
  refine T_icmp_eq_t 630 dL_law_625 (by decide) (hM.thI hk0) ?_
  refine T_iload5 dL_law_630 rfl ?_
  refine T_if_ne 647 635 dL_law_632 (by decide) rfl (fun hk => ?_) (fun hk => ?_)
  · refine T_goto 1233 dL_law_647 (by decide) ?_
    exact T_ls5 (K _ _ _ hI)
  · refine T_aload3 dL_law_635 rfl ?_
    refine T_iconst (0) dL_law_636 rfl rfl ?_
    refine T_lald 0 hto rfl (by decide) (by decide) dL_law_637 rfl (ho hk) ?_
    refine T_iload6 dL_law_638 rfl ?_
    refine T_i2l dL_law_640 rfl ?_
    refine T_lcmp dL_law_641 rfl ?_
    refine T_if_eq_t 647 dL_law_642 (by decide) (lg_self _) ?_
    refine T_goto 1233 dL_law_647 (by decide) ?_
    exact T_ls5 (K _ _ _ hI)
set_option maxHeartbeats 1000000 in
theorem st_setWeather {l : Launch} {D : va_G} {cA : Nat → ClassId} {n0 : Nat} {sg adK adV : Nat → Nat} {sgA smA wdA bS LS : Nat} {xs : Nat → Int32} (hX : SF n0 (XW0 sg adK adV sgA smA wdA n0 bS LS xs)) {nn : String} {i : Nat} (hi : i + 6 ≤ LS) (hL : LS ≤ 3072) {sz : Nat} {τ : TY} {M : ME} {x bk bn d9 mc9 ms9 dm mcm msm : Nat} {Q QW : QT} {QX : QXT} (hW : CW l D cA n0 (XW0 sg adK adV sgA smA wdA n0 bS LS xs) mH_setWeather hL_setWeather d9 mc9 ms9 sz τ M [.ref x, .int (xs (i + 1)), .ref (x + 198)] QW) (hd9 : d9 + 1 ≤ 2048) (hdm : dm + 1 ≤ 2048) (hN : ∀ v sz1 τ1 M1, QW v sz1 τ1 M1 → ∃ k, v = some (.int k) ∧ τ1 (x + 144) = (11, 0) ∧ CT l D cA n0 (XW0 sg adK adV sgA smA wdA n0 bS LS xs) mX13_setWeather dm mcm msm sz1 τ1 M1 [.ref (x + 144), .int (xs (i + 1))] (DN sg x k)) (K : ∀ sz' τ' M', INV sg x sz' τ' M' → T l D cA n0 (XW0 sg adK adV sgA smA wdA n0 bS LS xs) (mLN nn) 2048 bk bn sz' τ' M' 1233 [.ref bS, .ref x, .ref (x + 144), .ref (x + 198), .int (nI i), UU, UU, UU, UU] [] Q QX) : T l D cA n0 (XW0 sg adK adV sgA smA wdA n0 bS LS xs) (mLN nn) 2048 (bk + mcm + mc9) (bn + msm + ms9) sz τ M 650 [.ref bS, .ref x, .ref (x + 144), .ref (x + 198), .int (nI i), UU, UU, UU, UU] [] Q QX := by
  refine T_aload1 dL_law_650 rfl ?_
  refine T_aload0 dL_law_651 rfl ?_
  refine T_iload4 dL_law_652 rfl ?_
  refine T_iconst (1) dL_law_654 rfl rfl ?_
  refine T_iadd dL_law_655 rfl ?_
  refine T_sld (i + 1) (nI_add i 1) (by omega) (by omega) dL_law_656 rfl ?_
  refine T_aload3 dL_law_657 rfl ?_
  refine T_callW (bk := bk + mcm) (bn := bn + msm) (As := [.ref x, .int (xs (i + 1)), .ref (x + 198)]) hW hX kW_setWeather (by omega) rfl rfl (Nat.le_of_ble_eq_true rfl) dL_law_658 rfl ?_
  intro v9 sz9 τ9 M9 hq
  obtain ⟨k, rfl, htm, hMo⟩ := hN _ _ _ _ hq
  refine T_istore5 rfl (Nat.le_of_ble_eq_true rfl) dL_law_661 rfl ?_
  refine T_aload2 dL_law_663 rfl ?_
  refine T_aload0 dL_law_664 rfl ?_
  refine T_iload4 dL_law_665 rfl ?_
  refine T_iconst (1) dL_law_667 rfl rfl ?_
  refine T_iadd dL_law_668 rfl ?_
  refine T_sld (i + 1) (nI_add i 1) (by omega) (by omega) dL_law_669 rfl ?_
  refine T_cV1 (bk := bk) (bn := bn) hMo hX kL_110 (Or.inl ⟨_, _, _, _, htm, by decide, rfl⟩) (by omega) (Nat.le_of_ble_eq_true rfl) dL_law_670 rfl ?_
  rintro _ sz8 τ8 M8 ⟨w, rfl, hI, hk0, ho⟩
  have hI9 := hI
  obtain ⟨r, p, r2, p2, n8, a, b, c, hc, wc, sc, ρ, ν, π, σ, B, fa, y, hC, ⟨z, tk, dp, ω, μ, κ, hM, hfa, hS, hA, hWn, hLy⟩, hB, hRI, hPl, hPm, hto, hz1, hz2⟩ := hI9
  refine T_istore6 rfl (Nat.le_of_ble_eq_true rfl) dL_law_673 rfl ?_
  refine T_aload2 dL_law_675 rfl ?_
  refine T_cV0 (bk := bk) (bn := bn) (c_X13_thrown hX hM) hX kL_76 (Or.inl ⟨_, _, _, _, hM.t_m, by decide, rfl⟩) (by decide) (Nat.le_of_ble_eq_true rfl) dL_law_676 rfl ?_
  rintro _ _ _ _ ⟨rfl, rfl, rfl, rfl⟩
  refine T_iload5 dL_law_679 rfl ?_
  refine T_icmp_eq_t 686 dL_law_681 (by decide) (hM.thI hk0) ?_
  refine T_iload5 dL_law_686 rfl ?_
  refine T_if_ne 703 691 dL_law_688 (by decide) rfl (fun hk => ?_) (fun hk => ?_)
  · refine T_goto 1233 dL_law_703 (by decide) ?_
    exact T_ls5 (K _ _ _ hI)
  · refine T_aload3 dL_law_691 rfl ?_
    refine T_iconst (0) dL_law_692 rfl rfl ?_
    refine T_lald 0 hto rfl (by decide) (by decide) dL_law_693 rfl (ho hk) ?_
    refine T_iload6 dL_law_694 rfl ?_
    refine T_i2l dL_law_696 rfl ?_
    refine T_lcmp dL_law_697 rfl ?_
    refine T_if_eq_t 703 dL_law_698 (by decide) (lg_self _) ?_
    refine T_goto 1233 dL_law_703 (by decide) ?_
    exact T_ls5 (K _ _ _ hI)
set_option maxHeartbeats 1000000 in
theorem st_forge {l : Launch} {D : va_G} {cA : Nat → ClassId} {n0 : Nat} {sg adK adV : Nat → Nat} {sgA smA wdA bS LS : Nat} {xs : Nat → Int32} (hX : SF n0 (XW0 sg adK adV sgA smA wdA n0 bS LS xs)) {nn : String} {i : Nat} (hi : i + 6 ≤ LS) (hL : LS ≤ 3072) {sz : Nat} {τ : TY} {M : ME} {x bk bn d9 mc9 ms9 dm mcm msm : Nat} {Q QW : QT} {QX : QXT} (hW : CW l D cA n0 (XW0 sg adK adV sgA smA wdA n0 bS LS xs) mH_forge hL_forge d9 mc9 ms9 sz τ M [.ref x, .int (xs (i + 1)), .int (xs (i + 2)), .ref (x + 198)] QW) (hd9 : d9 + 1 ≤ 2048) (hdm : dm + 1 ≤ 2048) (hN : ∀ v sz1 τ1 M1, QW v sz1 τ1 M1 → ∃ k, v = some (.int k) ∧ τ1 (x + 144) = (11, 0) ∧ CT l D cA n0 (XW0 sg adK adV sgA smA wdA n0 bS LS xs) mX13_forge dm mcm msm sz1 τ1 M1 [.ref (x + 144), .int (xs (i + 1)), .int (xs (i + 2))] (DN sg x k)) (K : ∀ sz' τ' M', INV sg x sz' τ' M' → T l D cA n0 (XW0 sg adK adV sgA smA wdA n0 bS LS xs) (mLN nn) 2048 bk bn sz' τ' M' 1233 [.ref bS, .ref x, .ref (x + 144), .ref (x + 198), .int (nI i), UU, UU, UU, UU] [] Q QX) : T l D cA n0 (XW0 sg adK adV sgA smA wdA n0 bS LS xs) (mLN nn) 2048 (bk + mcm + mc9) (bn + msm + ms9) sz τ M 706 [.ref bS, .ref x, .ref (x + 144), .ref (x + 198), .int (nI i), UU, UU, UU, UU] [] Q QX := by
  refine T_aload1 dL_law_706 rfl ?_
  refine T_aload0 dL_law_707 rfl ?_
  refine T_iload4 dL_law_708 rfl ?_
  refine T_iconst (1) dL_law_710 rfl rfl ?_
  refine T_iadd dL_law_711 rfl ?_
  refine T_sld (i + 1) (nI_add i 1) (by omega) (by omega) dL_law_712 rfl ?_
  refine T_aload0 dL_law_713 rfl ?_
  refine T_iload4 dL_law_714 rfl ?_
  refine T_iconst (2) dL_law_716 rfl rfl ?_
  refine T_iadd dL_law_717 rfl ?_
  refine T_sld (i + 2) (nI_add i 2) (by omega) (by omega) dL_law_718 rfl ?_
  refine T_aload3 dL_law_719 rfl ?_
  refine T_callW (bk := bk + mcm) (bn := bn + msm) (As := [.ref x, .int (xs (i + 1)), .int (xs (i + 2)), .ref (x + 198)]) hW hX kW_forge (by omega) rfl rfl (Nat.le_of_ble_eq_true rfl) dL_law_720 rfl ?_
  intro v9 sz9 τ9 M9 hq
  obtain ⟨k, rfl, htm, hMo⟩ := hN _ _ _ _ hq
  refine T_istore5 rfl (Nat.le_of_ble_eq_true rfl) dL_law_723 rfl ?_
  refine T_aload2 dL_law_725 rfl ?_
  refine T_aload0 dL_law_726 rfl ?_
  refine T_iload4 dL_law_727 rfl ?_
  refine T_iconst (1) dL_law_729 rfl rfl ?_
  refine T_iadd dL_law_730 rfl ?_
  refine T_sld (i + 1) (nI_add i 1) (by omega) (by omega) dL_law_731 rfl ?_
  refine T_aload0 dL_law_732 rfl ?_
  refine T_iload4 dL_law_733 rfl ?_
  refine T_iconst (2) dL_law_735 rfl rfl ?_
  refine T_iadd dL_law_736 rfl ?_
  refine T_sld (i + 2) (nI_add i 2) (by omega) (by omega) dL_law_737 rfl ?_
  refine T_cV2 (bk := bk) (bn := bn) hMo hX kL_113 (Or.inl ⟨_, _, _, _, htm, by decide, rfl⟩) (by omega) (Nat.le_of_ble_eq_true rfl) dL_law_738 rfl ?_
  rintro _ sz8 τ8 M8 ⟨w, rfl, hI, hk0, ho⟩
  have hI9 := hI
  obtain ⟨r, p, r2, p2, n8, a, b, c, hc, wc, sc, ρ, ν, π, σ, B, fa, y, hC, ⟨z, tk, dp, ω, μ, κ, hM, hfa, hS, hA, hWn, hLy⟩, hB, hRI, hPl, hPm, hto, hz1, hz2⟩ := hI9
  refine T_istore6 rfl (Nat.le_of_ble_eq_true rfl) dL_law_741 rfl ?_
  refine T_aload2 dL_law_743 rfl ?_
  refine T_cV0 (bk := bk) (bn := bn) (c_X13_thrown hX hM) hX kL_76 (Or.inl ⟨_, _, _, _, hM.t_m, by decide, rfl⟩) (by decide) (Nat.le_of_ble_eq_true rfl) dL_law_744 rfl ?_
  rintro _ _ _ _ ⟨rfl, rfl, rfl, rfl⟩
  refine T_iload5 dL_law_747 rfl ?_
  refine T_icmp_eq_t 754 dL_law_749 (by decide) (hM.thI hk0) ?_
  refine T_iload5 dL_law_754 rfl ?_
  refine T_if_ne 771 759 dL_law_756 (by decide) rfl (fun hk => ?_) (fun hk => ?_)
  · refine T_goto 1233 dL_law_771 (by decide) ?_
    exact T_ls5 (K _ _ _ hI)
  · refine T_aload3 dL_law_759 rfl ?_
    refine T_iconst (0) dL_law_760 rfl rfl ?_
    refine T_lald 0 hto rfl (by decide) (by decide) dL_law_761 rfl (ho hk) ?_
    refine T_iload6 dL_law_762 rfl ?_
    refine T_i2l dL_law_764 rfl ?_
    refine T_lcmp dL_law_765 rfl ?_
    refine T_if_eq_t 771 dL_law_766 (by decide) (lg_self _) ?_
    refine T_goto 1233 dL_law_771 (by decide) ?_
    exact T_ls5 (K _ _ _ hI)
set_option maxHeartbeats 1000000 in
theorem st_clear {l : Launch} {D : va_G} {cA : Nat → ClassId} {n0 : Nat} {sg adK adV : Nat → Nat} {sgA smA wdA bS LS : Nat} {xs : Nat → Int32} (hX : SF n0 (XW0 sg adK adV sgA smA wdA n0 bS LS xs)) {nn : String} {i : Nat} (hi : i + 6 ≤ LS) (hL : LS ≤ 3072) {sz : Nat} {τ : TY} {M : ME} {x bk bn d9 mc9 ms9 dm mcm msm : Nat} {Q QW : QT} {QX : QXT} (hW : CW l D cA n0 (XW0 sg adK adV sgA smA wdA n0 bS LS xs) mH_clear hL_clear d9 mc9 ms9 sz τ M [.ref x, .int (xs (i + 1)), .ref (x + 198)] QW) (hd9 : d9 + 1 ≤ 2048) (hdm : dm + 1 ≤ 2048) (hN : ∀ v sz1 τ1 M1, QW v sz1 τ1 M1 → ∃ k, v = some (.int k) ∧ τ1 (x + 144) = (11, 0) ∧ CT l D cA n0 (XW0 sg adK adV sgA smA wdA n0 bS LS xs) mX13_clear dm mcm msm sz1 τ1 M1 [.ref (x + 144), .int (xs (i + 1))] (DN sg x k)) (K : ∀ sz' τ' M', INV sg x sz' τ' M' → T l D cA n0 (XW0 sg adK adV sgA smA wdA n0 bS LS xs) (mLN nn) 2048 bk bn sz' τ' M' 1233 [.ref bS, .ref x, .ref (x + 144), .ref (x + 198), .int (nI i), UU, UU, UU, UU] [] Q QX) : T l D cA n0 (XW0 sg adK adV sgA smA wdA n0 bS LS xs) (mLN nn) 2048 (bk + mcm + mc9) (bn + msm + ms9) sz τ M 774 [.ref bS, .ref x, .ref (x + 144), .ref (x + 198), .int (nI i), UU, UU, UU, UU] [] Q QX := by
  refine T_aload1 dL_law_774 rfl ?_
  refine T_aload0 dL_law_775 rfl ?_
  refine T_iload4 dL_law_776 rfl ?_
  refine T_iconst (1) dL_law_778 rfl rfl ?_
  refine T_iadd dL_law_779 rfl ?_
  refine T_sld (i + 1) (nI_add i 1) (by omega) (by omega) dL_law_780 rfl ?_
  refine T_aload3 dL_law_781 rfl ?_
  refine T_callW (bk := bk + mcm) (bn := bn + msm) (As := [.ref x, .int (xs (i + 1)), .ref (x + 198)]) hW hX kW_clear (by omega) rfl rfl (Nat.le_of_ble_eq_true rfl) dL_law_782 rfl ?_
  intro v9 sz9 τ9 M9 hq
  obtain ⟨k, rfl, htm, hMo⟩ := hN _ _ _ _ hq
  refine T_istore5 rfl (Nat.le_of_ble_eq_true rfl) dL_law_785 rfl ?_
  refine T_aload2 dL_law_787 rfl ?_
  refine T_aload0 dL_law_788 rfl ?_
  refine T_iload4 dL_law_789 rfl ?_
  refine T_iconst (1) dL_law_791 rfl rfl ?_
  refine T_iadd dL_law_792 rfl ?_
  refine T_sld (i + 1) (nI_add i 1) (by omega) (by omega) dL_law_793 rfl ?_
  refine T_cV1 (bk := bk) (bn := bn) hMo hX kL_116 (Or.inl ⟨_, _, _, _, htm, by decide, rfl⟩) (by omega) (Nat.le_of_ble_eq_true rfl) dL_law_794 rfl ?_
  rintro _ sz8 τ8 M8 ⟨w, rfl, hI, hk0, ho⟩
  have hI9 := hI
  obtain ⟨r, p, r2, p2, n8, a, b, c, hc, wc, sc, ρ, ν, π, σ, B, fa, y, hC, ⟨z, tk, dp, ω, μ, κ, hM, hfa, hS, hA, hWn, hLy⟩, hB, hRI, hPl, hPm, hto, hz1, hz2⟩ := hI9
  refine T_istore6 rfl (Nat.le_of_ble_eq_true rfl) dL_law_797 rfl ?_
  refine T_aload2 dL_law_799 rfl ?_
  refine T_cV0 (bk := bk) (bn := bn) (c_X13_thrown hX hM) hX kL_76 (Or.inl ⟨_, _, _, _, hM.t_m, by decide, rfl⟩) (by decide) (Nat.le_of_ble_eq_true rfl) dL_law_800 rfl ?_
  rintro _ _ _ _ ⟨rfl, rfl, rfl, rfl⟩
  refine T_iload5 dL_law_803 rfl ?_
  refine T_icmp_eq_t 810 dL_law_805 (by decide) (hM.thI hk0) ?_
  refine T_iload5 dL_law_810 rfl ?_
  refine T_if_ne 827 815 dL_law_812 (by decide) rfl (fun hk => ?_) (fun hk => ?_)
  · refine T_goto 1233 dL_law_827 (by decide) ?_
    exact T_ls5 (K _ _ _ hI)
  · refine T_aload3 dL_law_815 rfl ?_
    refine T_iconst (0) dL_law_816 rfl rfl ?_
    refine T_lald 0 hto rfl (by decide) (by decide) dL_law_817 rfl (ho hk) ?_
    refine T_iload6 dL_law_818 rfl ?_
    refine T_i2l dL_law_820 rfl ?_
    refine T_lcmp dL_law_821 rfl ?_
    refine T_if_eq_t 827 dL_law_822 (by decide) (lg_self _) ?_
    refine T_goto 1233 dL_law_827 (by decide) ?_
    exact T_ls5 (K _ _ _ hI)
set_option maxHeartbeats 1000000 in
theorem st_pass {l : Launch} {D : va_G} {cA : Nat → ClassId} {n0 : Nat} {sg adK adV : Nat → Nat} {sgA smA wdA bS LS : Nat} {xs : Nat → Int32} (hX : SF n0 (XW0 sg adK adV sgA smA wdA n0 bS LS xs)) {nn : String} {i : Nat} (hi : i + 6 ≤ LS) (hL : LS ≤ 3072) {sz : Nat} {τ : TY} {M : ME} {x bk bn d9 mc9 ms9 dm mcm msm : Nat} {Q QW : QT} {QX : QXT} (hW : CW l D cA n0 (XW0 sg adK adV sgA smA wdA n0 bS LS xs) mH_pass hL_pass d9 mc9 ms9 sz τ M [.ref x, .int (xs (i + 1)), .ref (x + 198)] QW) (hd9 : d9 + 1 ≤ 2048) (hdm : dm + 1 ≤ 2048) (hN : ∀ v sz1 τ1 M1, QW v sz1 τ1 M1 → ∃ k, v = some (.int k) ∧ τ1 (x + 144) = (11, 0) ∧ CT l D cA n0 (XW0 sg adK adV sgA smA wdA n0 bS LS xs) mX13_pass dm mcm msm sz1 τ1 M1 [.ref (x + 144), .int (xs (i + 1))] (DN sg x k)) (K : ∀ sz' τ' M', INV sg x sz' τ' M' → T l D cA n0 (XW0 sg adK adV sgA smA wdA n0 bS LS xs) (mLN nn) 2048 bk bn sz' τ' M' 1233 [.ref bS, .ref x, .ref (x + 144), .ref (x + 198), .int (nI i), UU, UU, UU, UU] [] Q QX) : T l D cA n0 (XW0 sg adK adV sgA smA wdA n0 bS LS xs) (mLN nn) 2048 (bk + mcm + mc9) (bn + msm + ms9) sz τ M 830 [.ref bS, .ref x, .ref (x + 144), .ref (x + 198), .int (nI i), UU, UU, UU, UU] [] Q QX := by
  refine T_aload1 dL_law_830 rfl ?_
  refine T_aload0 dL_law_831 rfl ?_
  refine T_iload4 dL_law_832 rfl ?_
  refine T_iconst (1) dL_law_834 rfl rfl ?_
  refine T_iadd dL_law_835 rfl ?_
  refine T_sld (i + 1) (nI_add i 1) (by omega) (by omega) dL_law_836 rfl ?_
  refine T_aload3 dL_law_837 rfl ?_
  refine T_callW (bk := bk + mcm) (bn := bn + msm) (As := [.ref x, .int (xs (i + 1)), .ref (x + 198)]) hW hX kW_pass (by omega) rfl rfl (Nat.le_of_ble_eq_true rfl) dL_law_838 rfl ?_
  intro v9 sz9 τ9 M9 hq
  obtain ⟨k, rfl, htm, hMo⟩ := hN _ _ _ _ hq
  refine T_istore5 rfl (Nat.le_of_ble_eq_true rfl) dL_law_841 rfl ?_
  refine T_aload2 dL_law_843 rfl ?_
  refine T_aload0 dL_law_844 rfl ?_
  refine T_iload4 dL_law_845 rfl ?_
  refine T_iconst (1) dL_law_847 rfl rfl ?_
  refine T_iadd dL_law_848 rfl ?_
  refine T_sld (i + 1) (nI_add i 1) (by omega) (by omega) dL_law_849 rfl ?_
  refine T_cV1 (bk := bk) (bn := bn) hMo hX kL_119 (Or.inl ⟨_, _, _, _, htm, by decide, rfl⟩) (by omega) (Nat.le_of_ble_eq_true rfl) dL_law_850 rfl ?_
  rintro _ sz8 τ8 M8 ⟨w, rfl, hI, hk0, ho⟩
  have hI9 := hI
  obtain ⟨r, p, r2, p2, n8, a, b, c, hc, wc, sc, ρ, ν, π, σ, B, fa, y, hC, ⟨z, tk, dp, ω, μ, κ, hM, hfa, hS, hA, hWn, hLy⟩, hB, hRI, hPl, hPm, hto, hz1, hz2⟩ := hI9
  refine T_istore6 rfl (Nat.le_of_ble_eq_true rfl) dL_law_853 rfl ?_
  refine T_aload2 dL_law_855 rfl ?_
  refine T_cV0 (bk := bk) (bn := bn) (c_X13_thrown hX hM) hX kL_76 (Or.inl ⟨_, _, _, _, hM.t_m, by decide, rfl⟩) (by decide) (Nat.le_of_ble_eq_true rfl) dL_law_856 rfl ?_
  rintro _ _ _ _ ⟨rfl, rfl, rfl, rfl⟩
  refine T_iload5 dL_law_859 rfl ?_
  refine T_icmp_eq_t 866 dL_law_861 (by decide) (hM.thI hk0) ?_
  refine T_iload5 dL_law_866 rfl ?_
  refine T_if_ne 883 871 dL_law_868 (by decide) rfl (fun hk => ?_) (fun hk => ?_)
  · refine T_goto 1233 dL_law_883 (by decide) ?_
    exact T_ls5 (K _ _ _ hI)
  · refine T_aload3 dL_law_871 rfl ?_
    refine T_iconst (0) dL_law_872 rfl rfl ?_
    refine T_lald 0 hto rfl (by decide) (by decide) dL_law_873 rfl (ho hk) ?_
    refine T_iload6 dL_law_874 rfl ?_
    refine T_i2l dL_law_876 rfl ?_
    refine T_lcmp dL_law_877 rfl ?_
    refine T_if_eq_t 883 dL_law_878 (by decide) (lg_self _) ?_
    refine T_goto 1233 dL_law_883 (by decide) ?_
    exact T_ls5 (K _ _ _ hI)
set_option maxHeartbeats 1000000 in
theorem st_arrives {l : Launch} {D : va_G} {cA : Nat → ClassId} {n0 : Nat} {sg adK adV : Nat → Nat} {sgA smA wdA bS LS : Nat} {xs : Nat → Int32} (hX : SF n0 (XW0 sg adK adV sgA smA wdA n0 bS LS xs)) {nn : String} {i : Nat} (hi : i + 6 ≤ LS) (hL : LS ≤ 3072) {sz : Nat} {τ : TY} {M : ME} {x bk bn d9 mc9 ms9 dm mcm msm : Nat} {Q QW : QT} {QX : QXT} (hW : CW l D cA n0 (XW0 sg adK adV sgA smA wdA n0 bS LS xs) mH_arrives hL_arrives d9 mc9 ms9 sz τ M [.ref x, .int (xs (i + 1)), .ref (x + 198)] QW) (hd9 : d9 + 1 ≤ 2048) (hdm : dm + 1 ≤ 2048) (hN : ∀ v sz1 τ1 M1, QW v sz1 τ1 M1 → ∃ k, v = some (.int k) ∧ τ1 (x + 144) = (11, 0) ∧ CT l D cA n0 (XW0 sg adK adV sgA smA wdA n0 bS LS xs) mX13_arrives dm mcm msm sz1 τ1 M1 [.ref (x + 144), .int (xs (i + 1))] (DN sg x k)) (K : ∀ sz' τ' M', INV sg x sz' τ' M' → T l D cA n0 (XW0 sg adK adV sgA smA wdA n0 bS LS xs) (mLN nn) 2048 bk bn sz' τ' M' 1233 [.ref bS, .ref x, .ref (x + 144), .ref (x + 198), .int (nI i), UU, UU, UU, UU] [] Q QX) : T l D cA n0 (XW0 sg adK adV sgA smA wdA n0 bS LS xs) (mLN nn) 2048 (bk + mcm + mc9) (bn + msm + ms9) sz τ M 886 [.ref bS, .ref x, .ref (x + 144), .ref (x + 198), .int (nI i), UU, UU, UU, UU] [] Q QX := by
  refine T_aload1 dL_law_886 rfl ?_
  refine T_aload0 dL_law_887 rfl ?_
  refine T_iload4 dL_law_888 rfl ?_
  refine T_iconst (1) dL_law_890 rfl rfl ?_
  refine T_iadd dL_law_891 rfl ?_
  refine T_sld (i + 1) (nI_add i 1) (by omega) (by omega) dL_law_892 rfl ?_
  refine T_aload3 dL_law_893 rfl ?_
  refine T_callW (bk := bk + mcm) (bn := bn + msm) (As := [.ref x, .int (xs (i + 1)), .ref (x + 198)]) hW hX kW_arrives (by omega) rfl rfl (Nat.le_of_ble_eq_true rfl) dL_law_894 rfl ?_
  intro v9 sz9 τ9 M9 hq
  obtain ⟨k, rfl, htm, hMo⟩ := hN _ _ _ _ hq
  refine T_istore5 rfl (Nat.le_of_ble_eq_true rfl) dL_law_897 rfl ?_
  refine T_aload2 dL_law_899 rfl ?_
  refine T_aload0 dL_law_900 rfl ?_
  refine T_iload4 dL_law_901 rfl ?_
  refine T_iconst (1) dL_law_903 rfl rfl ?_
  refine T_iadd dL_law_904 rfl ?_
  refine T_sld (i + 1) (nI_add i 1) (by omega) (by omega) dL_law_905 rfl ?_
  refine T_cV1 (bk := bk) (bn := bn) hMo hX kL_122 (Or.inl ⟨_, _, _, _, htm, by decide, rfl⟩) (by omega) (Nat.le_of_ble_eq_true rfl) dL_law_906 rfl ?_
  rintro _ sz8 τ8 M8 ⟨w, rfl, hI, hk0, ho⟩
  have hI9 := hI
  obtain ⟨r, p, r2, p2, n8, a, b, c, hc, wc, sc, ρ, ν, π, σ, B, fa, y, hC, ⟨z, tk, dp, ω, μ, κ, hM, hfa, hS, hA, hWn, hLy⟩, hB, hRI, hPl, hPm, hto, hz1, hz2⟩ := hI9
  refine T_istore6 rfl (Nat.le_of_ble_eq_true rfl) dL_law_909 rfl ?_
  refine T_aload2 dL_law_911 rfl ?_
  refine T_cV0 (bk := bk) (bn := bn) (c_X13_thrown hX hM) hX kL_76 (Or.inl ⟨_, _, _, _, hM.t_m, by decide, rfl⟩) (by decide) (Nat.le_of_ble_eq_true rfl) dL_law_912 rfl ?_
  rintro _ _ _ _ ⟨rfl, rfl, rfl, rfl⟩
  refine T_iload5 dL_law_915 rfl ?_
  refine T_icmp_eq_t 922 dL_law_917 (by decide) (hM.thI hk0) ?_
  refine T_iload5 dL_law_922 rfl ?_
  refine T_if_ne 939 927 dL_law_924 (by decide) rfl (fun hk => ?_) (fun hk => ?_)
  · refine T_goto 1233 dL_law_939 (by decide) ?_
    exact T_ls5 (K _ _ _ hI)
  · refine T_aload3 dL_law_927 rfl ?_
    refine T_iconst (0) dL_law_928 rfl rfl ?_
    refine T_lald 0 hto rfl (by decide) (by decide) dL_law_929 rfl (ho hk) ?_
    refine T_iload6 dL_law_930 rfl ?_
    refine T_i2l dL_law_932 rfl ?_
    refine T_lcmp dL_law_933 rfl ?_
    refine T_if_eq_t 939 dL_law_934 (by decide) (lg_self _) ?_
    refine T_goto 1233 dL_law_939 (by decide) ?_
    exact T_ls5 (K _ _ _ hI)
set_option maxHeartbeats 1000000 in
theorem st_breaks {l : Launch} {D : va_G} {cA : Nat → ClassId} {n0 : Nat} {sg adK adV : Nat → Nat} {sgA smA wdA bS LS : Nat} {xs : Nat → Int32} (hX : SF n0 (XW0 sg adK adV sgA smA wdA n0 bS LS xs)) {nn : String} {i : Nat} (hi : i + 6 ≤ LS) (hL : LS ≤ 3072) {sz : Nat} {τ : TY} {M : ME} {x bk bn d9 mc9 ms9 dm mcm msm : Nat} {Q QW : QT} {QX : QXT} (hW : CW l D cA n0 (XW0 sg adK adV sgA smA wdA n0 bS LS xs) mH_breaks hL_breaks d9 mc9 ms9 sz τ M [.ref x, .int (xs (i + 1)), .ref (x + 198)] QW) (hd9 : d9 + 1 ≤ 2048) (hdm : dm + 1 ≤ 2048) (hN : ∀ v sz1 τ1 M1, QW v sz1 τ1 M1 → ∃ k, v = some (.int k) ∧ τ1 (x + 144) = (11, 0) ∧ CT l D cA n0 (XW0 sg adK adV sgA smA wdA n0 bS LS xs) mX13_breaks dm mcm msm sz1 τ1 M1 [.ref (x + 144), .int (xs (i + 1))] (DN sg x k)) (K : ∀ sz' τ' M', INV sg x sz' τ' M' → T l D cA n0 (XW0 sg adK adV sgA smA wdA n0 bS LS xs) (mLN nn) 2048 bk bn sz' τ' M' 1233 [.ref bS, .ref x, .ref (x + 144), .ref (x + 198), .int (nI i), UU, UU, UU, UU] [] Q QX) : T l D cA n0 (XW0 sg adK adV sgA smA wdA n0 bS LS xs) (mLN nn) 2048 (bk + mcm + mc9) (bn + msm + ms9) sz τ M 942 [.ref bS, .ref x, .ref (x + 144), .ref (x + 198), .int (nI i), UU, UU, UU, UU] [] Q QX := by
  refine T_aload1 dL_law_942 rfl ?_
  refine T_aload0 dL_law_943 rfl ?_
  refine T_iload4 dL_law_944 rfl ?_
  refine T_iconst (1) dL_law_946 rfl rfl ?_
  refine T_iadd dL_law_947 rfl ?_
  refine T_sld (i + 1) (nI_add i 1) (by omega) (by omega) dL_law_948 rfl ?_
  refine T_aload3 dL_law_949 rfl ?_
  refine T_callW (bk := bk + mcm) (bn := bn + msm) (As := [.ref x, .int (xs (i + 1)), .ref (x + 198)]) hW hX kW_breaks (by omega) rfl rfl (Nat.le_of_ble_eq_true rfl) dL_law_950 rfl ?_
  intro v9 sz9 τ9 M9 hq
  obtain ⟨k, rfl, htm, hMo⟩ := hN _ _ _ _ hq
  refine T_istore5 rfl (Nat.le_of_ble_eq_true rfl) dL_law_953 rfl ?_
  refine T_aload2 dL_law_955 rfl ?_
  refine T_aload0 dL_law_956 rfl ?_
  refine T_iload4 dL_law_957 rfl ?_
  refine T_iconst (1) dL_law_959 rfl rfl ?_
  refine T_iadd dL_law_960 rfl ?_
  refine T_sld (i + 1) (nI_add i 1) (by omega) (by omega) dL_law_961 rfl ?_
  refine T_cV1 (bk := bk) (bn := bn) hMo hX kL_125 (Or.inl ⟨_, _, _, _, htm, by decide, rfl⟩) (by omega) (Nat.le_of_ble_eq_true rfl) dL_law_962 rfl ?_
  rintro _ sz8 τ8 M8 ⟨w, rfl, hI, hk0, ho⟩
  have hI9 := hI
  obtain ⟨r, p, r2, p2, n8, a, b, c, hc, wc, sc, ρ, ν, π, σ, B, fa, y, hC, ⟨z, tk, dp, ω, μ, κ, hM, hfa, hS, hA, hWn, hLy⟩, hB, hRI, hPl, hPm, hto, hz1, hz2⟩ := hI9
  refine T_istore6 rfl (Nat.le_of_ble_eq_true rfl) dL_law_965 rfl ?_
  refine T_aload2 dL_law_967 rfl ?_
  refine T_cV0 (bk := bk) (bn := bn) (c_X13_thrown hX hM) hX kL_76 (Or.inl ⟨_, _, _, _, hM.t_m, by decide, rfl⟩) (by decide) (Nat.le_of_ble_eq_true rfl) dL_law_968 rfl ?_
  rintro _ _ _ _ ⟨rfl, rfl, rfl, rfl⟩
  refine T_iload5 dL_law_971 rfl ?_
  refine T_icmp_eq_t 978 dL_law_973 (by decide) (hM.thI hk0) ?_
  refine T_iload5 dL_law_978 rfl ?_
  refine T_if_ne 995 983 dL_law_980 (by decide) rfl (fun hk => ?_) (fun hk => ?_)
  · refine T_goto 1233 dL_law_995 (by decide) ?_
    exact T_ls5 (K _ _ _ hI)
  · refine T_aload3 dL_law_983 rfl ?_
    refine T_iconst (0) dL_law_984 rfl rfl ?_
    refine T_lald 0 hto rfl (by decide) (by decide) dL_law_985 rfl (ho hk) ?_
    refine T_iload6 dL_law_986 rfl ?_
    refine T_i2l dL_law_988 rfl ?_
    refine T_lcmp dL_law_989 rfl ?_
    refine T_if_eq_t 995 dL_law_990 (by decide) (lg_self _) ?_
    refine T_goto 1233 dL_law_995 (by decide) ?_
    exact T_ls5 (K _ _ _ hI)
set_option maxHeartbeats 1000000 in
theorem st_foresee {l : Launch} {D : va_G} {cA : Nat → ClassId} {n0 : Nat} {sg adK adV : Nat → Nat} {sgA smA wdA bS LS : Nat} {xs : Nat → Int32} (hX : SF n0 (XW0 sg adK adV sgA smA wdA n0 bS LS xs)) {nn : String} {i : Nat} (hi : i + 6 ≤ LS) (hL : LS ≤ 3072) {sz : Nat} {τ : TY} {M : ME} {x bk bn d9 mc9 ms9 dm mcm msm : Nat} {Q QW : QT} {QX : QXT} (hW : CW l D cA n0 (XW0 sg adK adV sgA smA wdA n0 bS LS xs) mH_foresee hL_foresee d9 mc9 ms9 sz τ M [.ref x, .int (xs (i + 1)), .int (xs (i + 2)), .ref (x + 198)] QW) (hd9 : d9 + 1 ≤ 2048) (hdm : dm + 1 ≤ 2048) (hN : ∀ v sz1 τ1 M1, QW v sz1 τ1 M1 → ∃ k, v = some (.int k) ∧ τ1 (x + 144) = (11, 0) ∧ CT l D cA n0 (XW0 sg adK adV sgA smA wdA n0 bS LS xs) mX13_foresee dm mcm msm sz1 τ1 M1 [.ref (x + 144), .int (xs (i + 1)), .int (xs (i + 2))] (DN sg x k)) (K : ∀ sz' τ' M', INV sg x sz' τ' M' → T l D cA n0 (XW0 sg adK adV sgA smA wdA n0 bS LS xs) (mLN nn) 2048 bk bn sz' τ' M' 1233 [.ref bS, .ref x, .ref (x + 144), .ref (x + 198), .int (nI i), UU, UU, UU, UU] [] Q QX) : T l D cA n0 (XW0 sg adK adV sgA smA wdA n0 bS LS xs) (mLN nn) 2048 (bk + mcm + mc9) (bn + msm + ms9) sz τ M 998 [.ref bS, .ref x, .ref (x + 144), .ref (x + 198), .int (nI i), UU, UU, UU, UU] [] Q QX := by
  refine T_aload1 dL_law_998 rfl ?_
  refine T_aload0 dL_law_999 rfl ?_
  refine T_iload4 dL_law_1000 rfl ?_
  refine T_iconst (1) dL_law_1002 rfl rfl ?_
  refine T_iadd dL_law_1003 rfl ?_
  refine T_sld (i + 1) (nI_add i 1) (by omega) (by omega) dL_law_1004 rfl ?_
  refine T_aload0 dL_law_1005 rfl ?_
  refine T_iload4 dL_law_1006 rfl ?_
  refine T_iconst (2) dL_law_1008 rfl rfl ?_
  refine T_iadd dL_law_1009 rfl ?_
  refine T_sld (i + 2) (nI_add i 2) (by omega) (by omega) dL_law_1010 rfl ?_
  refine T_aload3 dL_law_1011 rfl ?_
  refine T_callW (bk := bk + mcm) (bn := bn + msm) (As := [.ref x, .int (xs (i + 1)), .int (xs (i + 2)), .ref (x + 198)]) hW hX kW_foresee (by omega) rfl rfl (Nat.le_of_ble_eq_true rfl) dL_law_1012 rfl ?_
  intro v9 sz9 τ9 M9 hq
  obtain ⟨k, rfl, htm, hMo⟩ := hN _ _ _ _ hq
  refine T_istore5 rfl (Nat.le_of_ble_eq_true rfl) dL_law_1015 rfl ?_
  refine T_aload2 dL_law_1017 rfl ?_
  refine T_aload0 dL_law_1018 rfl ?_
  refine T_iload4 dL_law_1019 rfl ?_
  refine T_iconst (1) dL_law_1021 rfl rfl ?_
  refine T_iadd dL_law_1022 rfl ?_
  refine T_sld (i + 1) (nI_add i 1) (by omega) (by omega) dL_law_1023 rfl ?_
  refine T_aload0 dL_law_1024 rfl ?_
  refine T_iload4 dL_law_1025 rfl ?_
  refine T_iconst (2) dL_law_1027 rfl rfl ?_
  refine T_iadd dL_law_1028 rfl ?_
  refine T_sld (i + 2) (nI_add i 2) (by omega) (by omega) dL_law_1029 rfl ?_
  refine T_cV2 (bk := bk) (bn := bn) hMo hX kL_128 (Or.inl ⟨_, _, _, _, htm, by decide, rfl⟩) (by omega) (Nat.le_of_ble_eq_true rfl) dL_law_1030 rfl ?_
  rintro _ sz8 τ8 M8 ⟨w, rfl, hI, hk0, ho⟩
  have hI9 := hI
  obtain ⟨r, p, r2, p2, n8, a, b, c, hc, wc, sc, ρ, ν, π, σ, B, fa, y, hC, ⟨z, tk, dp, ω, μ, κ, hM, hfa, hS, hA, hWn, hLy⟩, hB, hRI, hPl, hPm, hto, hz1, hz2⟩ := hI9
  refine T_istore6 rfl (Nat.le_of_ble_eq_true rfl) dL_law_1033 rfl ?_
  refine T_aload2 dL_law_1035 rfl ?_
  refine T_cV0 (bk := bk) (bn := bn) (c_X13_thrown hX hM) hX kL_76 (Or.inl ⟨_, _, _, _, hM.t_m, by decide, rfl⟩) (by decide) (Nat.le_of_ble_eq_true rfl) dL_law_1036 rfl ?_
  rintro _ _ _ _ ⟨rfl, rfl, rfl, rfl⟩
  refine T_iload5 dL_law_1039 rfl ?_
  refine T_icmp_eq_t 1046 dL_law_1041 (by decide) (hM.thI hk0) ?_
  refine T_iload5 dL_law_1046 rfl ?_
  refine T_if_ne 1063 1051 dL_law_1048 (by decide) rfl (fun hk => ?_) (fun hk => ?_)
  · refine T_goto 1233 dL_law_1063 (by decide) ?_
    exact T_ls5 (K _ _ _ hI)
  · refine T_aload3 dL_law_1051 rfl ?_
    refine T_iconst (0) dL_law_1052 rfl rfl ?_
    refine T_lald 0 hto rfl (by decide) (by decide) dL_law_1053 rfl (ho hk) ?_
    refine T_iload6 dL_law_1054 rfl ?_
    refine T_i2l dL_law_1056 rfl ?_
    refine T_lcmp dL_law_1057 rfl ?_
    refine T_if_eq_t 1063 dL_law_1058 (by decide) (lg_self _) ?_
    refine T_goto 1233 dL_law_1063 (by decide) ?_
    exact T_ls5 (K _ _ _ hI)
set_option maxHeartbeats 1000000 in
theorem st_advise {l : Launch} {D : va_G} {cA : Nat → ClassId} {n0 : Nat} {sg adK adV : Nat → Nat} {sgA smA wdA bS LS : Nat} {xs : Nat → Int32} (hX : SF n0 (XW0 sg adK adV sgA smA wdA n0 bS LS xs)) {nn : String} {i : Nat} (hi : i + 6 ≤ LS) (hL : LS ≤ 3072) {sz : Nat} {τ : TY} {M : ME} {x bk bn d9 mc9 ms9 dm mcm msm : Nat} {Q QW : QT} {QX : QXT} (hW : CW l D cA n0 (XW0 sg adK adV sgA smA wdA n0 bS LS xs) mH_advise hL_advise d9 mc9 ms9 sz τ M [.ref x, .int (xs (i + 1)), .ref (x + 198)] QW) (hd9 : d9 + 1 ≤ 2048) (hdm : dm + 1 ≤ 2048) (hN : ∀ v sz1 τ1 M1, QW v sz1 τ1 M1 → ∃ k, v = some (.int k) ∧ τ1 (x + 144) = (11, 0) ∧ CT l D cA n0 (XW0 sg adK adV sgA smA wdA n0 bS LS xs) mX13_advise dm mcm msm sz1 τ1 M1 [.ref (x + 144), .int (xs (i + 1))] (DN sg x k)) (K : ∀ sz' τ' M', INV sg x sz' τ' M' → T l D cA n0 (XW0 sg adK adV sgA smA wdA n0 bS LS xs) (mLN nn) 2048 bk bn sz' τ' M' 1233 [.ref bS, .ref x, .ref (x + 144), .ref (x + 198), .int (nI i), UU, UU, UU, UU] [] Q QX) : T l D cA n0 (XW0 sg adK adV sgA smA wdA n0 bS LS xs) (mLN nn) 2048 (bk + mcm + mc9) (bn + msm + ms9) sz τ M 1066 [.ref bS, .ref x, .ref (x + 144), .ref (x + 198), .int (nI i), UU, UU, UU, UU] [] Q QX := by
  refine T_aload1 dL_law_1066 rfl ?_
  refine T_aload0 dL_law_1067 rfl ?_
  refine T_iload4 dL_law_1068 rfl ?_
  refine T_iconst (1) dL_law_1070 rfl rfl ?_
  refine T_iadd dL_law_1071 rfl ?_
  refine T_sld (i + 1) (nI_add i 1) (by omega) (by omega) dL_law_1072 rfl ?_
  refine T_aload3 dL_law_1073 rfl ?_
  refine T_callW (bk := bk + mcm) (bn := bn + msm) (As := [.ref x, .int (xs (i + 1)), .ref (x + 198)]) hW hX kW_advise (by omega) rfl rfl (Nat.le_of_ble_eq_true rfl) dL_law_1074 rfl ?_
  intro v9 sz9 τ9 M9 hq
  obtain ⟨k, rfl, htm, hMo⟩ := hN _ _ _ _ hq
  refine T_istore5 rfl (Nat.le_of_ble_eq_true rfl) dL_law_1077 rfl ?_
  refine T_aload2 dL_law_1079 rfl ?_
  refine T_aload0 dL_law_1080 rfl ?_
  refine T_iload4 dL_law_1081 rfl ?_
  refine T_iconst (1) dL_law_1083 rfl rfl ?_
  refine T_iadd dL_law_1084 rfl ?_
  refine T_sld (i + 1) (nI_add i 1) (by omega) (by omega) dL_law_1085 rfl ?_
  refine T_cV1 (bk := bk) (bn := bn) hMo hX kL_131 (Or.inl ⟨_, _, _, _, htm, by decide, rfl⟩) (by omega) (Nat.le_of_ble_eq_true rfl) dL_law_1086 rfl ?_
  rintro _ sz8 τ8 M8 ⟨w, rfl, hI, hk0, ho⟩
  have hI9 := hI
  obtain ⟨r, p, r2, p2, n8, a, b, c, hc, wc, sc, ρ, ν, π, σ, B, fa, y, hC, ⟨z, tk, dp, ω, μ, κ, hM, hfa, hS, hA, hWn, hLy⟩, hB, hRI, hPl, hPm, hto, hz1, hz2⟩ := hI9
  refine T_istore6 rfl (Nat.le_of_ble_eq_true rfl) dL_law_1089 rfl ?_
  refine T_aload2 dL_law_1091 rfl ?_
  refine T_cV0 (bk := bk) (bn := bn) (c_X13_thrown hX hM) hX kL_76 (Or.inl ⟨_, _, _, _, hM.t_m, by decide, rfl⟩) (by decide) (Nat.le_of_ble_eq_true rfl) dL_law_1092 rfl ?_
  rintro _ _ _ _ ⟨rfl, rfl, rfl, rfl⟩
  refine T_iload5 dL_law_1095 rfl ?_
  refine T_icmp_eq_t 1102 dL_law_1097 (by decide) (hM.thI hk0) ?_
  refine T_iload5 dL_law_1102 rfl ?_
  refine T_if_ne 1119 1107 dL_law_1104 (by decide) rfl (fun hk => ?_) (fun hk => ?_)
  · refine T_goto 1233 dL_law_1119 (by decide) ?_
    exact T_ls5 (K _ _ _ hI)
  · refine T_aload3 dL_law_1107 rfl ?_
    refine T_iconst (0) dL_law_1108 rfl rfl ?_
    refine T_lald 0 hto rfl (by decide) (by decide) dL_law_1109 rfl (ho hk) ?_
    refine T_iload6 dL_law_1110 rfl ?_
    refine T_i2l dL_law_1112 rfl ?_
    refine T_lcmp dL_law_1113 rfl ?_
    refine T_if_eq_t 1119 dL_law_1114 (by decide) (lg_self _) ?_
    refine T_goto 1233 dL_law_1119 (by decide) ?_
    exact T_ls5 (K _ _ _ hI)
set_option maxHeartbeats 1000000 in
theorem st_choose {l : Launch} {D : va_G} {cA : Nat → ClassId} {n0 : Nat} {sg adK adV : Nat → Nat} {sgA smA wdA bS LS : Nat} {xs : Nat → Int32} (hX : SF n0 (XW0 sg adK adV sgA smA wdA n0 bS LS xs)) {nn : String} {i : Nat} (hi : i + 6 ≤ LS) (hL : LS ≤ 3072) {sz : Nat} {τ : TY} {M : ME} {x bk bn d9 mc9 ms9 dm mcm msm : Nat} {Q QW : QT} {QX : QXT} (hW : CW l D cA n0 (XW0 sg adK adV sgA smA wdA n0 bS LS xs) mH_choose hL_choose d9 mc9 ms9 sz τ M [.ref x, .int (xs (i + 1)), .ref (x + 198)] QW) (hd9 : d9 + 1 ≤ 2048) (hdm : dm + 1 ≤ 2048) (hN : ∀ v sz1 τ1 M1, QW v sz1 τ1 M1 → ∃ k, v = some (.int k) ∧ τ1 (x + 144) = (11, 0) ∧ CT l D cA n0 (XW0 sg adK adV sgA smA wdA n0 bS LS xs) mX13_choose dm mcm msm sz1 τ1 M1 [.ref (x + 144), .int (xs (i + 1))] (DN sg x k)) (K : ∀ sz' τ' M', INV sg x sz' τ' M' → T l D cA n0 (XW0 sg adK adV sgA smA wdA n0 bS LS xs) (mLN nn) 2048 bk bn sz' τ' M' 1233 [.ref bS, .ref x, .ref (x + 144), .ref (x + 198), .int (nI i), UU, UU, UU, UU] [] Q QX) : T l D cA n0 (XW0 sg adK adV sgA smA wdA n0 bS LS xs) (mLN nn) 2048 (bk + mcm + mc9) (bn + msm + ms9) sz τ M 1122 [.ref bS, .ref x, .ref (x + 144), .ref (x + 198), .int (nI i), UU, UU, UU, UU] [] Q QX := by
  refine T_aload1 dL_law_1122 rfl ?_
  refine T_aload0 dL_law_1123 rfl ?_
  refine T_iload4 dL_law_1124 rfl ?_
  refine T_iconst (1) dL_law_1126 rfl rfl ?_
  refine T_iadd dL_law_1127 rfl ?_
  refine T_sld (i + 1) (nI_add i 1) (by omega) (by omega) dL_law_1128 rfl ?_
  refine T_aload3 dL_law_1129 rfl ?_
  refine T_callW (bk := bk + mcm) (bn := bn + msm) (As := [.ref x, .int (xs (i + 1)), .ref (x + 198)]) hW hX kW_choose (by omega) rfl rfl (Nat.le_of_ble_eq_true rfl) dL_law_1130 rfl ?_
  intro v9 sz9 τ9 M9 hq
  obtain ⟨k, rfl, htm, hMo⟩ := hN _ _ _ _ hq
  refine T_istore5 rfl (Nat.le_of_ble_eq_true rfl) dL_law_1133 rfl ?_
  refine T_aload2 dL_law_1135 rfl ?_
  refine T_aload0 dL_law_1136 rfl ?_
  refine T_iload4 dL_law_1137 rfl ?_
  refine T_iconst (1) dL_law_1139 rfl rfl ?_
  refine T_iadd dL_law_1140 rfl ?_
  refine T_sld (i + 1) (nI_add i 1) (by omega) (by omega) dL_law_1141 rfl ?_
  refine T_cV1 (bk := bk) (bn := bn) hMo hX kL_134 (Or.inl ⟨_, _, _, _, htm, by decide, rfl⟩) (by omega) (Nat.le_of_ble_eq_true rfl) dL_law_1142 rfl ?_
  rintro _ sz8 τ8 M8 ⟨w, rfl, hI, hk0, ho⟩
  have hI9 := hI
  obtain ⟨r, p, r2, p2, n8, a, b, c, hc, wc, sc, ρ, ν, π, σ, B, fa, y, hC, ⟨z, tk, dp, ω, μ, κ, hM, hfa, hS, hA, hWn, hLy⟩, hB, hRI, hPl, hPm, hto, hz1, hz2⟩ := hI9
  refine T_istore6 rfl (Nat.le_of_ble_eq_true rfl) dL_law_1145 rfl ?_
  refine T_aload2 dL_law_1147 rfl ?_
  refine T_cV0 (bk := bk) (bn := bn) (c_X13_thrown hX hM) hX kL_76 (Or.inl ⟨_, _, _, _, hM.t_m, by decide, rfl⟩) (by decide) (Nat.le_of_ble_eq_true rfl) dL_law_1148 rfl ?_
  rintro _ _ _ _ ⟨rfl, rfl, rfl, rfl⟩
  refine T_iload5 dL_law_1151 rfl ?_
  refine T_icmp_eq_t 1158 dL_law_1153 (by decide) (hM.thI hk0) ?_
  refine T_iload5 dL_law_1158 rfl ?_
  refine T_if_ne 1175 1163 dL_law_1160 (by decide) rfl (fun hk => ?_) (fun hk => ?_)
  · refine T_goto 1233 dL_law_1175 (by decide) ?_
    exact T_ls5 (K _ _ _ hI)
  · refine T_aload3 dL_law_1163 rfl ?_
    refine T_iconst (0) dL_law_1164 rfl rfl ?_
    refine T_lald 0 hto rfl (by decide) (by decide) dL_law_1165 rfl (ho hk) ?_
    refine T_iload6 dL_law_1166 rfl ?_
    refine T_i2l dL_law_1168 rfl ?_
    refine T_lcmp dL_law_1169 rfl ?_
    refine T_if_eq_t 1175 dL_law_1170 (by decide) (lg_self _) ?_
    refine T_goto 1233 dL_law_1175 (by decide) ?_
    exact T_ls5 (K _ _ _ hI)
