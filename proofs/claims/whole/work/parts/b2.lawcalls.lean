/-! the law's own methods: a call of the class, with what it throws told by a number -/
def LWQ (o : Nat) (Q : QT) (QX : QXT) (f : String → Int32) : QT := fun v sz τ M => (∃ w M1, Q (some (.int w)) sz τ M1 ∧ v = some (.int 0) ∧ M = up M1 o 0 (.long w.toInt64)) ∨ (∃ E sz1, QX E sz1 τ M ∧ sz1 ≤ sz ∧ v = some (.int (f E)))
theorem wcast_IS : Cond.castable "java/lang/IllegalStateException" "java/lang/IllegalStateException" ∈ GW := inGW (List.mem_of_getElem? (i := 949) (by decide +kernel)) (by decide +kernel)
theorem wcast_IA : Cond.castable "java/lang/IllegalArgumentException" "java/lang/IllegalArgumentException" ∈ GW := inGW (List.mem_of_getElem? (i := 980) (by decide +kernel)) (by decide +kernel)
theorem wcast_IO : Cond.castable "java/lang/IndexOutOfBoundsException" "java/lang/IndexOutOfBoundsException" ∈ GW := inGW (List.mem_of_getElem? (i := 832) (by decide +kernel)) (by decide +kernel)
abbrev hL_feed : List (Nat × Nat × Nat × Nat) := [(0, 16, 19, 13)]
abbrev mH_feed : MI := (yL_feed, cL_feed, 8, some .int, (0, 0, 0, 0) :: hL_feed, [])
theorem wcw_feed : Cond.codeWith yL_feed cL_feed 8 (some .int) [(0, 16, 19, 13)] ∈ GW := inGW (List.mem_of_getElem? (i := 941) (by decide +kernel)) (by decide +kernel)
theorem wst_feed : Cond.static yL_feed ∈ GW := inGW (List.mem_of_getElem? (i := 940) (by decide +kernel)) (by decide +kernel)
theorem wml_feed : Cond.methodLink RL 70 yL_feed ∈ GW := inGW (List.mem_of_getElem? (i := 939) (by decide +kernel)) (by decide +kernel)
theorem kW_feed : WW mH_feed hL_feed RL 70 7 := ⟨ki_L, wcw_feed, by decide, by decide, by decide +kernel, by decide, wml_feed, wst_feed⟩
theorem wcl_13 : Cond.classLink RL 13 "java/lang/IllegalStateException" ∈ GW := inGW (List.mem_of_getElem? (i := 942) (by decide +kernel)) (by decide +kernel)
set_option maxHeartbeats 1000000 in
theorem c_L_feed {l : Launch} {D : va_G} {cA : Nat → ClassId} {n0 : Nat} {sg adK adV : Nat → Nat} {sgA smA wdA bS LS : Nat} {xs : Nat → Int32} (hX : SF n0 (XW0 sg adK adV sgA smA wdA n0 bS LS xs)) {sz : Nat} {τ : TY} {M : ME} {x o d9 mc9 ms9 : Nat} {Q : QT} {QX : QXT} (hx : τ x = (8, 0)) (w1 w2 w3 w4 w5 : Int32) (hM : CX l D cA n0 (XW0 sg adK adV sgA smA wdA n0 bS LS xs) mX10_feed d9 mc9 ms9 sz τ M [.ref x, .int w1, .int w2, .int w3, .int w4, .int w5] Q QX) (hQ : ∀ v sz9 τ9 M9, Q v sz9 τ9 M9 → ∃ w, v = some (.int w) ∧ τ9 o = (102, 1)) (hE : ∀ E sz9 τ9 M9, QX E sz9 τ9 M9 → E = "java/lang/IllegalStateException") : CW l D cA n0 (XW0 sg adK adV sgA smA wdA n0 bS LS xs) mH_feed hL_feed (d9 + 1) mc9 ms9 sz τ M [.ref x, .int w1, .int w2, .int w3, .int w4, .int w5, .ref o] (LWQ o Q QX (fun _ => 1)) := by
  refine CW.of (ls := [.ref x, .int w1, .int w2, .int w3, .int w4, .int w5, .ref o, UU]) rfl (by decide) (Nat.le_of_ble_eq_true rfl) rfl ?_
  refine T_room (bk2 := 0 + mc9) (bn2 := 0 + ms9) (by omega) (by omega) ?_
  refine T_aload6 dL_feed_0 rfl ?_
  refine T_iconst (0) dL_feed_2 rfl rfl ?_
  refine T_aload0 dL_feed_3 rfl ?_
  refine T_iload1 dL_feed_4 rfl ?_
  refine T_iload2 dL_feed_5 rfl ?_
  refine T_iload3 dL_feed_6 rfl ?_
  refine T_iload4 dL_feed_7 rfl ?_
  refine T_iload5 dL_feed_9 rfl ?_
  refine T_callHV (bk := 0) (bn := 0) (As := [.int w1, .int w2, .int w3, .int w4, .int w5]) rfl hM hX kL_7 (Or.inl ⟨_, _, _, _, hx, by decide, rfl⟩) (Nat.le_refl _) rfl rfl (Nat.le_of_ble_eq_true rfl) dL_feed_11 rfl (fun v9 sz9 τ9 M9 hq => ?_) (fun E sz9 sz2 τ9 M9 hq hz => ?_)
  rotate_left
  · have hE9 := hE _ _ _ _ hq
    subst hE9
    refine ⟨19, ⟨[], (0, 16, 19, 13), [], "java/lang/IllegalStateException", rfl, fun z hz => absurd hz List.not_mem_nil, by decide, by decide, wcl_13, wcast_IS, rfl⟩, fun q => ?_⟩
    refine T_astore7 rfl (by decide) dL_feed_19 rfl ?_
    refine T_iconst (1) dL_feed_21 rfl rfl ?_
    refine T_iret rfl rfl dL_feed_22 ?_
    exact Or.inr ⟨_, sz9, hq, hz, rfl⟩
  obtain ⟨w, rfl, hto⟩ := hQ _ _ _ _ hq
  refine T_i2l dL_feed_14 rfl ?_
  refine T_last 0 hto rfl (by decide) (by decide) dL_feed_15 rfl ?_
  refine T_goto 23 dL_feed_16 (by decide) ?_
  refine T_iconst (0) dL_feed_23 rfl rfl ?_
  refine T_iret rfl rfl dL_feed_24 ?_
  exact Or.inl ⟨w, M9, hq, rfl, rfl⟩
abbrev hL_trim : List (Nat × Nat × Nat × Nat) := [(0, 9, 12, 19)]
abbrev mH_trim : MI := (yL_trim, cL_trim, 4, some .int, (0, 0, 0, 0) :: hL_trim, [])
theorem wcw_trim : Cond.codeWith yL_trim cL_trim 4 (some .int) [(0, 9, 12, 19)] ∈ GW := inGW (List.mem_of_getElem? (i := 969) (by decide +kernel)) (by decide +kernel)
theorem wst_trim : Cond.static yL_trim ∈ GW := inGW (List.mem_of_getElem? (i := 968) (by decide +kernel)) (by decide +kernel)
theorem wml_trim : Cond.methodLink RL 80 yL_trim ∈ GW := inGW (List.mem_of_getElem? (i := 967) (by decide +kernel)) (by decide +kernel)
theorem kW_trim : WW mH_trim hL_trim RL 80 3 := ⟨ki_L, wcw_trim, by decide, by decide, by decide +kernel, by decide, wml_trim, wst_trim⟩
theorem wcl_19 : Cond.classLink RL 19 "java/lang/IllegalArgumentException" ∈ GW := inGW (List.mem_of_getElem? (i := 970) (by decide +kernel)) (by decide +kernel)
set_option maxHeartbeats 1000000 in
theorem c_L_trim {l : Launch} {D : va_G} {cA : Nat → ClassId} {n0 : Nat} {sg adK adV : Nat → Nat} {sgA smA wdA bS LS : Nat} {xs : Nat → Int32} (hX : SF n0 (XW0 sg adK adV sgA smA wdA n0 bS LS xs)) {sz : Nat} {τ : TY} {M : ME} {x o d9 mc9 ms9 : Nat} {Q : QT} {QX : QXT} (hx : τ x = (8, 0)) (w1 : Int32) (hM : CX l D cA n0 (XW0 sg adK adV sgA smA wdA n0 bS LS xs) mX10_trim d9 mc9 ms9 sz τ M [.ref x, .int w1] Q QX) (hQ : ∀ v sz9 τ9 M9, Q v sz9 τ9 M9 → ∃ w, v = some (.int w) ∧ τ9 o = (102, 1)) (hE : ∀ E sz9 τ9 M9, QX E sz9 τ9 M9 → E = "java/lang/IllegalArgumentException") : CW l D cA n0 (XW0 sg adK adV sgA smA wdA n0 bS LS xs) mH_trim hL_trim (d9 + 1) mc9 ms9 sz τ M [.ref x, .int w1, .ref o] (LWQ o Q QX (fun _ => 1)) := by
  refine CW.of (ls := [.ref x, .int w1, .ref o, UU]) rfl (by decide) (Nat.le_of_ble_eq_true rfl) rfl ?_
  refine T_room (bk2 := 0 + mc9) (bn2 := 0 + ms9) (by omega) (by omega) ?_
  refine T_aload2 dL_trim_0 rfl ?_
  refine T_iconst (0) dL_trim_1 rfl rfl ?_
  refine T_aload0 dL_trim_2 rfl ?_
  refine T_iload1 dL_trim_3 rfl ?_
  refine T_callHV (bk := 0) (bn := 0) (As := [.int w1]) rfl hM hX kL_15 (Or.inl ⟨_, _, _, _, hx, by decide, rfl⟩) (Nat.le_refl _) rfl rfl (Nat.le_of_ble_eq_true rfl) dL_trim_4 rfl (fun v9 sz9 τ9 M9 hq => ?_) (fun E sz9 sz2 τ9 M9 hq hz => ?_)
  rotate_left
  · have hE9 := hE _ _ _ _ hq
    subst hE9
    refine ⟨12, ⟨[], (0, 9, 12, 19), [], "java/lang/IllegalArgumentException", rfl, fun z hz => absurd hz List.not_mem_nil, by decide, by decide, wcl_19, wcast_IA, rfl⟩, fun q => ?_⟩
    refine T_astore3 rfl (by decide) dL_trim_12 rfl ?_
    refine T_iconst (1) dL_trim_13 rfl rfl ?_
    refine T_iret rfl rfl dL_trim_14 ?_
    exact Or.inr ⟨_, sz9, hq, hz, rfl⟩
  obtain ⟨w, rfl, hto⟩ := hQ _ _ _ _ hq
  refine T_i2l dL_trim_7 rfl ?_
  refine T_last 0 hto rfl (by decide) (by decide) dL_trim_8 rfl ?_
  refine T_goto 15 dL_trim_9 (by decide) ?_
  refine T_iconst (0) dL_trim_15 rfl rfl ?_
  refine T_iret rfl rfl dL_trim_16 ?_
  exact Or.inl ⟨w, M9, hq, rfl, rfl⟩
abbrev hL_count : List (Nat × Nat × Nat × Nat) := [(0, 9, 12, 24)]
abbrev mH_count : MI := (yL_count, cL_count, 4, some .int, (0, 0, 0, 0) :: hL_count, [])
theorem wcw_count : Cond.codeWith yL_count cL_count 4 (some .int) [(0, 9, 12, 24)] ∈ GW := inGW (List.mem_of_getElem? (i := 996) (by decide +kernel)) (by decide +kernel)
theorem wst_count : Cond.static yL_count ∈ GW := inGW (List.mem_of_getElem? (i := 995) (by decide +kernel)) (by decide +kernel)
theorem wml_count : Cond.methodLink RL 92 yL_count ∈ GW := inGW (List.mem_of_getElem? (i := 994) (by decide +kernel)) (by decide +kernel)
theorem kW_count : WW mH_count hL_count RL 92 3 := ⟨ki_L, wcw_count, by decide, by decide, by decide +kernel, by decide, wml_count, wst_count⟩
theorem wcl_24 : Cond.classLink RL 24 "java/lang/IndexOutOfBoundsException" ∈ GW := inGW (List.mem_of_getElem? (i := 997) (by decide +kernel)) (by decide +kernel)
set_option maxHeartbeats 1000000 in
theorem c_L_count {l : Launch} {D : va_G} {cA : Nat → ClassId} {n0 : Nat} {sg adK adV : Nat → Nat} {sgA smA wdA bS LS : Nat} {xs : Nat → Int32} (hX : SF n0 (XW0 sg adK adV sgA smA wdA n0 bS LS xs)) {sz : Nat} {τ : TY} {M : ME} {x o d9 mc9 ms9 : Nat} {Q : QT} {QX : QXT} (hx : τ x = (8, 0)) (w1 : Int32) (hM : CX l D cA n0 (XW0 sg adK adV sgA smA wdA n0 bS LS xs) mX10_count d9 mc9 ms9 sz τ M [.ref x, .int w1] Q QX) (hQ : ∀ v sz9 τ9 M9, Q v sz9 τ9 M9 → ∃ w, v = some (.int w) ∧ τ9 o = (102, 1)) (hE : ∀ E sz9 τ9 M9, QX E sz9 τ9 M9 → E = "java/lang/IndexOutOfBoundsException") : CW l D cA n0 (XW0 sg adK adV sgA smA wdA n0 bS LS xs) mH_count hL_count (d9 + 1) mc9 ms9 sz τ M [.ref x, .int w1, .ref o] (LWQ o Q QX (fun _ => 1)) := by
  refine CW.of (ls := [.ref x, .int w1, .ref o, UU]) rfl (by decide) (Nat.le_of_ble_eq_true rfl) rfl ?_
  refine T_room (bk2 := 0 + mc9) (bn2 := 0 + ms9) (by omega) (by omega) ?_
  refine T_aload2 dL_count_0 rfl ?_
  refine T_iconst (0) dL_count_1 rfl rfl ?_
  refine T_aload0 dL_count_2 rfl ?_
  refine T_iload1 dL_count_3 rfl ?_
  refine T_callHV (bk := 0) (bn := 0) (As := [.int w1]) rfl hM hX kL_21 (Or.inl ⟨_, _, _, _, hx, by decide, rfl⟩) (Nat.le_refl _) rfl rfl (Nat.le_of_ble_eq_true rfl) dL_count_4 rfl (fun v9 sz9 τ9 M9 hq => ?_) (fun E sz9 sz2 τ9 M9 hq hz => ?_)
  rotate_left
  · have hE9 := hE _ _ _ _ hq
    subst hE9
    refine ⟨12, ⟨[], (0, 9, 12, 24), [], "java/lang/IndexOutOfBoundsException", rfl, fun z hz => absurd hz List.not_mem_nil, by decide, by decide, wcl_24, wcast_IO, rfl⟩, fun q => ?_⟩
    refine T_astore3 rfl (by decide) dL_count_12 rfl ?_
    refine T_iconst (1) dL_count_13 rfl rfl ?_
    refine T_iret rfl rfl dL_count_14 ?_
    exact Or.inr ⟨_, sz9, hq, hz, rfl⟩
  obtain ⟨w, rfl, hto⟩ := hQ _ _ _ _ hq
  refine T_i2l dL_count_7 rfl ?_
  refine T_last 0 hto rfl (by decide) (by decide) dL_count_8 rfl ?_
  refine T_goto 15 dL_count_9 (by decide) ?_
  refine T_iconst (0) dL_count_15 rfl rfl ?_
  refine T_iret rfl rfl dL_count_16 ?_
  exact Or.inl ⟨w, M9, hq, rfl, rfl⟩
abbrev hL_stretch : List (Nat × Nat × Nat × Nat) := [(0, 10, 13, 24)]
abbrev mH_stretch : MI := (yL_stretch, cL_stretch, 5, some .int, (0, 0, 0, 0) :: hL_stretch, [])
theorem wcw_stretch : Cond.codeWith yL_stretch cL_stretch 5 (some .int) [(0, 10, 13, 24)] ∈ GW := inGW (List.mem_of_getElem? (i := 1001) (by decide +kernel)) (by decide +kernel)
theorem wst_stretch : Cond.static yL_stretch ∈ GW := inGW (List.mem_of_getElem? (i := 1000) (by decide +kernel)) (by decide +kernel)
theorem wml_stretch : Cond.methodLink RL 95 yL_stretch ∈ GW := inGW (List.mem_of_getElem? (i := 999) (by decide +kernel)) (by decide +kernel)
theorem kW_stretch : WW mH_stretch hL_stretch RL 95 4 := ⟨ki_L, wcw_stretch, by decide, by decide, by decide +kernel, by decide, wml_stretch, wst_stretch⟩
set_option maxHeartbeats 1000000 in
theorem c_L_stretch {l : Launch} {D : va_G} {cA : Nat → ClassId} {n0 : Nat} {sg adK adV : Nat → Nat} {sgA smA wdA bS LS : Nat} {xs : Nat → Int32} (hX : SF n0 (XW0 sg adK adV sgA smA wdA n0 bS LS xs)) {sz : Nat} {τ : TY} {M : ME} {x o d9 mc9 ms9 : Nat} {Q : QT} {QX : QXT} (hx : τ x = (8, 0)) (w1 w2 : Int32) (hM : CX l D cA n0 (XW0 sg adK adV sgA smA wdA n0 bS LS xs) mX10_stretch d9 mc9 ms9 sz τ M [.ref x, .int w1, .int w2] Q QX) (hQ : ∀ v sz9 τ9 M9, Q v sz9 τ9 M9 → ∃ w, v = some (.int w) ∧ τ9 o = (102, 1)) (hE : ∀ E sz9 τ9 M9, QX E sz9 τ9 M9 → E = "java/lang/IndexOutOfBoundsException") : CW l D cA n0 (XW0 sg adK adV sgA smA wdA n0 bS LS xs) mH_stretch hL_stretch (d9 + 1) mc9 ms9 sz τ M [.ref x, .int w1, .int w2, .ref o] (LWQ o Q QX (fun _ => 1)) := by
  refine CW.of (ls := [.ref x, .int w1, .int w2, .ref o, UU]) rfl (by decide) (Nat.le_of_ble_eq_true rfl) rfl ?_
  refine T_room (bk2 := 0 + mc9) (bn2 := 0 + ms9) (by omega) (by omega) ?_
  refine T_aload3 dL_stretch_0 rfl ?_
  refine T_iconst (0) dL_stretch_1 rfl rfl ?_
  refine T_aload0 dL_stretch_2 rfl ?_
  refine T_iload1 dL_stretch_3 rfl ?_
  refine T_iload2 dL_stretch_4 rfl ?_
  refine T_callHV (bk := 0) (bn := 0) (As := [.int w1, .int w2]) rfl hM hX kL_26 (Or.inl ⟨_, _, _, _, hx, by decide, rfl⟩) (Nat.le_refl _) rfl rfl (Nat.le_of_ble_eq_true rfl) dL_stretch_5 rfl (fun v9 sz9 τ9 M9 hq => ?_) (fun E sz9 sz2 τ9 M9 hq hz => ?_)
  rotate_left
  · have hE9 := hE _ _ _ _ hq
    subst hE9
    refine ⟨13, ⟨[], (0, 10, 13, 24), [], "java/lang/IndexOutOfBoundsException", rfl, fun z hz => absurd hz List.not_mem_nil, by decide, by decide, wcl_24, wcast_IO, rfl⟩, fun q => ?_⟩
    refine T_astore4 rfl (by decide) dL_stretch_13 rfl ?_
    refine T_iconst (1) dL_stretch_15 rfl rfl ?_
    refine T_iret rfl rfl dL_stretch_16 ?_
    exact Or.inr ⟨_, sz9, hq, hz, rfl⟩
  obtain ⟨w, rfl, hto⟩ := hQ _ _ _ _ hq
  refine T_i2l dL_stretch_8 rfl ?_
  refine T_last 0 hto rfl (by decide) (by decide) dL_stretch_9 rfl ?_
  refine T_goto 17 dL_stretch_10 (by decide) ?_
  refine T_iconst (0) dL_stretch_17 rfl rfl ?_
  refine T_iret rfl rfl dL_stretch_18 ?_
  exact Or.inl ⟨w, M9, hq, rfl, rfl⟩
abbrev hL_horse : List (Nat × Nat × Nat × Nat) := [(0, 10, 13, 24)]
abbrev mH_horse : MI := (yL_horse, cL_horse, 5, some .int, (0, 0, 0, 0) :: hL_horse, [])
theorem wcw_horse : Cond.codeWith yL_horse cL_horse 5 (some .int) [(0, 10, 13, 24)] ∈ GW := inGW (List.mem_of_getElem? (i := 1008) (by decide +kernel)) (by decide +kernel)
theorem wst_horse : Cond.static yL_horse ∈ GW := inGW (List.mem_of_getElem? (i := 1007) (by decide +kernel)) (by decide +kernel)
theorem wml_horse : Cond.methodLink RL 99 yL_horse ∈ GW := inGW (List.mem_of_getElem? (i := 1006) (by decide +kernel)) (by decide +kernel)
theorem kW_horse : WW mH_horse hL_horse RL 99 4 := ⟨ki_L, wcw_horse, by decide, by decide, by decide +kernel, by decide, wml_horse, wst_horse⟩
set_option maxHeartbeats 1000000 in
theorem c_L_horse {l : Launch} {D : va_G} {cA : Nat → ClassId} {n0 : Nat} {sg adK adV : Nat → Nat} {sgA smA wdA bS LS : Nat} {xs : Nat → Int32} (hX : SF n0 (XW0 sg adK adV sgA smA wdA n0 bS LS xs)) {sz : Nat} {τ : TY} {M : ME} {x o d9 mc9 ms9 : Nat} {Q : QT} {QX : QXT} (hx : τ x = (8, 0)) (w1 w2 : Int32) (hM : CX l D cA n0 (XW0 sg adK adV sgA smA wdA n0 bS LS xs) mX10_horse d9 mc9 ms9 sz τ M [.ref x, .int w1, .int w2] Q QX) (hQ : ∀ v sz9 τ9 M9, Q v sz9 τ9 M9 → ∃ w, v = some (.int w) ∧ τ9 o = (102, 1)) (hE : ∀ E sz9 τ9 M9, QX E sz9 τ9 M9 → E = "java/lang/IndexOutOfBoundsException") : CW l D cA n0 (XW0 sg adK adV sgA smA wdA n0 bS LS xs) mH_horse hL_horse (d9 + 1) mc9 ms9 sz τ M [.ref x, .int w1, .int w2, .ref o] (LWQ o Q QX (fun _ => 1)) := by
  refine CW.of (ls := [.ref x, .int w1, .int w2, .ref o, UU]) rfl (by decide) (Nat.le_of_ble_eq_true rfl) rfl ?_
  refine T_room (bk2 := 0 + mc9) (bn2 := 0 + ms9) (by omega) (by omega) ?_
  refine T_aload3 dL_horse_0 rfl ?_
  refine T_iconst (0) dL_horse_1 rfl rfl ?_
  refine T_aload0 dL_horse_2 rfl ?_
  refine T_iload1 dL_horse_3 rfl ?_
  refine T_iload2 dL_horse_4 rfl ?_
  refine T_callHV (bk := 0) (bn := 0) (As := [.int w1, .int w2]) rfl hM hX kL_30 (Or.inl ⟨_, _, _, _, hx, by decide, rfl⟩) (Nat.le_refl _) rfl rfl (Nat.le_of_ble_eq_true rfl) dL_horse_5 rfl (fun v9 sz9 τ9 M9 hq => ?_) (fun E sz9 sz2 τ9 M9 hq hz => ?_)
  rotate_left
  · have hE9 := hE _ _ _ _ hq
    subst hE9
    refine ⟨13, ⟨[], (0, 10, 13, 24), [], "java/lang/IndexOutOfBoundsException", rfl, fun z hz => absurd hz List.not_mem_nil, by decide, by decide, wcl_24, wcast_IO, rfl⟩, fun q => ?_⟩
    refine T_astore4 rfl (by decide) dL_horse_13 rfl ?_
    refine T_iconst (1) dL_horse_15 rfl rfl ?_
    refine T_iret rfl rfl dL_horse_16 ?_
    exact Or.inr ⟨_, sz9, hq, hz, rfl⟩
  obtain ⟨w, rfl, hto⟩ := hQ _ _ _ _ hq
  refine T_i2l dL_horse_8 rfl ?_
  refine T_last 0 hto rfl (by decide) (by decide) dL_horse_9 rfl ?_
  refine T_goto 17 dL_horse_10 (by decide) ?_
  refine T_iconst (0) dL_horse_17 rfl rfl ?_
  refine T_iret rfl rfl dL_horse_18 ?_
  exact Or.inl ⟨w, M9, hq, rfl, rfl⟩
abbrev hL_log : List (Nat × Nat × Nat × Nat) := [(0, 10, 13, 24)]
abbrev mH_log : MI := (yL_log, cL_log, 5, some .int, (0, 0, 0, 0) :: hL_log, [])
theorem wcw_log : Cond.codeWith yL_log cL_log 5 (some .int) [(0, 10, 13, 24)] ∈ GW := inGW (List.mem_of_getElem? (i := 1015) (by decide +kernel)) (by decide +kernel)
theorem wst_log : Cond.static yL_log ∈ GW := inGW (List.mem_of_getElem? (i := 1014) (by decide +kernel)) (by decide +kernel)
theorem wml_log : Cond.methodLink RL 102 yL_log ∈ GW := inGW (List.mem_of_getElem? (i := 1013) (by decide +kernel)) (by decide +kernel)
theorem kW_log : WW mH_log hL_log RL 102 4 := ⟨ki_L, wcw_log, by decide, by decide, by decide +kernel, by decide, wml_log, wst_log⟩
set_option maxHeartbeats 1000000 in
theorem c_L_log {l : Launch} {D : va_G} {cA : Nat → ClassId} {n0 : Nat} {sg adK adV : Nat → Nat} {sgA smA wdA bS LS : Nat} {xs : Nat → Int32} (hX : SF n0 (XW0 sg adK adV sgA smA wdA n0 bS LS xs)) {sz : Nat} {τ : TY} {M : ME} {x o d9 mc9 ms9 : Nat} {Q : QT} {QX : QXT} (hx : τ x = (8, 0)) (w1 w2 : Int32) (hM : CX l D cA n0 (XW0 sg adK adV sgA smA wdA n0 bS LS xs) mX10_log d9 mc9 ms9 sz τ M [.ref x, .int w1, .int w2] Q QX) (hQ : ∀ v sz9 τ9 M9, Q v sz9 τ9 M9 → ∃ w, v = some (.int w) ∧ τ9 o = (102, 1)) (hE : ∀ E sz9 τ9 M9, QX E sz9 τ9 M9 → E = "java/lang/IndexOutOfBoundsException") : CW l D cA n0 (XW0 sg adK adV sgA smA wdA n0 bS LS xs) mH_log hL_log (d9 + 1) mc9 ms9 sz τ M [.ref x, .int w1, .int w2, .ref o] (LWQ o Q QX (fun _ => 1)) := by
  refine CW.of (ls := [.ref x, .int w1, .int w2, .ref o, UU]) rfl (by decide) (Nat.le_of_ble_eq_true rfl) rfl ?_
  refine T_room (bk2 := 0 + mc9) (bn2 := 0 + ms9) (by omega) (by omega) ?_
  refine T_aload3 dL_log_0 rfl ?_
  refine T_iconst (0) dL_log_1 rfl rfl ?_
  refine T_aload0 dL_log_2 rfl ?_
  refine T_iload1 dL_log_3 rfl ?_
  refine T_iload2 dL_log_4 rfl ?_
  refine T_callHV (bk := 0) (bn := 0) (As := [.int w1, .int w2]) rfl hM hX kL_33 (Or.inl ⟨_, _, _, _, hx, by decide, rfl⟩) (Nat.le_refl _) rfl rfl (Nat.le_of_ble_eq_true rfl) dL_log_5 rfl (fun v9 sz9 τ9 M9 hq => ?_) (fun E sz9 sz2 τ9 M9 hq hz => ?_)
  rotate_left
  · have hE9 := hE _ _ _ _ hq
    subst hE9
    refine ⟨13, ⟨[], (0, 10, 13, 24), [], "java/lang/IndexOutOfBoundsException", rfl, fun z hz => absurd hz List.not_mem_nil, by decide, by decide, wcl_24, wcast_IO, rfl⟩, fun q => ?_⟩
    refine T_astore4 rfl (by decide) dL_log_13 rfl ?_
    refine T_iconst (1) dL_log_15 rfl rfl ?_
    refine T_iret rfl rfl dL_log_16 ?_
    exact Or.inr ⟨_, sz9, hq, hz, rfl⟩
  obtain ⟨w, rfl, hto⟩ := hQ _ _ _ _ hq
  refine T_i2l dL_log_8 rfl ?_
  refine T_last 0 hto rfl (by decide) (by decide) dL_log_9 rfl ?_
  refine T_goto 17 dL_log_10 (by decide) ?_
  refine T_iconst (0) dL_log_17 rfl rfl ?_
  refine T_iret rfl rfl dL_log_18 ?_
  exact Or.inl ⟨w, M9, hq, rfl, rfl⟩
abbrev hL_needs : List (Nat × Nat × Nat × Nat) := [(0, 10, 13, 24)]
abbrev mH_needs : MI := (yL_needs, cL_needs, 5, some .int, (0, 0, 0, 0) :: hL_needs, [])
theorem wcw_needs : Cond.codeWith yL_needs cL_needs 5 (some .int) [(0, 10, 13, 24)] ∈ GW := inGW (List.mem_of_getElem? (i := 1022) (by decide +kernel)) (by decide +kernel)
theorem wst_needs : Cond.static yL_needs ∈ GW := inGW (List.mem_of_getElem? (i := 1021) (by decide +kernel)) (by decide +kernel)
theorem wml_needs : Cond.methodLink RL 105 yL_needs ∈ GW := inGW (List.mem_of_getElem? (i := 1020) (by decide +kernel)) (by decide +kernel)
theorem kW_needs : WW mH_needs hL_needs RL 105 4 := ⟨ki_L, wcw_needs, by decide, by decide, by decide +kernel, by decide, wml_needs, wst_needs⟩
set_option maxHeartbeats 1000000 in
theorem c_L_needs {l : Launch} {D : va_G} {cA : Nat → ClassId} {n0 : Nat} {sg adK adV : Nat → Nat} {sgA smA wdA bS LS : Nat} {xs : Nat → Int32} (hX : SF n0 (XW0 sg adK adV sgA smA wdA n0 bS LS xs)) {sz : Nat} {τ : TY} {M : ME} {x o d9 mc9 ms9 : Nat} {Q : QT} {QX : QXT} (hx : τ x = (8, 0)) (w1 w2 : Int32) (hM : CX l D cA n0 (XW0 sg adK adV sgA smA wdA n0 bS LS xs) mX10_needs d9 mc9 ms9 sz τ M [.ref x, .int w1, .int w2] Q QX) (hQ : ∀ v sz9 τ9 M9, Q v sz9 τ9 M9 → ∃ w, v = some (.int w) ∧ τ9 o = (102, 1)) (hE : ∀ E sz9 τ9 M9, QX E sz9 τ9 M9 → E = "java/lang/IndexOutOfBoundsException") : CW l D cA n0 (XW0 sg adK adV sgA smA wdA n0 bS LS xs) mH_needs hL_needs (d9 + 1) mc9 ms9 sz τ M [.ref x, .int w1, .int w2, .ref o] (LWQ o Q QX (fun _ => 1)) := by
  refine CW.of (ls := [.ref x, .int w1, .int w2, .ref o, UU]) rfl (by decide) (Nat.le_of_ble_eq_true rfl) rfl ?_
  refine T_room (bk2 := 0 + mc9) (bn2 := 0 + ms9) (by omega) (by omega) ?_
  refine T_aload3 dL_needs_0 rfl ?_
  refine T_iconst (0) dL_needs_1 rfl rfl ?_
  refine T_aload0 dL_needs_2 rfl ?_
  refine T_iload1 dL_needs_3 rfl ?_
  refine T_iload2 dL_needs_4 rfl ?_
  refine T_callHV (bk := 0) (bn := 0) (As := [.int w1, .int w2]) rfl hM hX kL_36 (Or.inl ⟨_, _, _, _, hx, by decide, rfl⟩) (Nat.le_refl _) rfl rfl (Nat.le_of_ble_eq_true rfl) dL_needs_5 rfl (fun v9 sz9 τ9 M9 hq => ?_) (fun E sz9 sz2 τ9 M9 hq hz => ?_)
  rotate_left
  · have hE9 := hE _ _ _ _ hq
    subst hE9
    refine ⟨13, ⟨[], (0, 10, 13, 24), [], "java/lang/IndexOutOfBoundsException", rfl, fun z hz => absurd hz List.not_mem_nil, by decide, by decide, wcl_24, wcast_IO, rfl⟩, fun q => ?_⟩
    refine T_astore4 rfl (by decide) dL_needs_13 rfl ?_
    refine T_iconst (1) dL_needs_15 rfl rfl ?_
    refine T_iret rfl rfl dL_needs_16 ?_
    exact Or.inr ⟨_, sz9, hq, hz, rfl⟩
  obtain ⟨w, rfl, hto⟩ := hQ _ _ _ _ hq
  refine T_i2l dL_needs_8 rfl ?_
  refine T_last 0 hto rfl (by decide) (by decide) dL_needs_9 rfl ?_
  refine T_goto 17 dL_needs_10 (by decide) ?_
  refine T_iconst (0) dL_needs_17 rfl rfl ?_
  refine T_iret rfl rfl dL_needs_18 ?_
  exact Or.inl ⟨w, M9, hq, rfl, rfl⟩
abbrev hL_setWeather : List (Nat × Nat × Nat × Nat) := [(0, 9, 12, 19)]
abbrev mH_setWeather : MI := (yL_setWeather, cL_setWeather, 4, some .int, (0, 0, 0, 0) :: hL_setWeather, [])
theorem wcw_setWeather : Cond.codeWith yL_setWeather cL_setWeather 4 (some .int) [(0, 9, 12, 19)] ∈ GW := inGW (List.mem_of_getElem? (i := 1034) (by decide +kernel)) (by decide +kernel)
theorem wst_setWeather : Cond.static yL_setWeather ∈ GW := inGW (List.mem_of_getElem? (i := 1033) (by decide +kernel)) (by decide +kernel)
theorem wml_setWeather : Cond.methodLink RL 108 yL_setWeather ∈ GW := inGW (List.mem_of_getElem? (i := 1032) (by decide +kernel)) (by decide +kernel)
theorem kW_setWeather : WW mH_setWeather hL_setWeather RL 108 3 := ⟨ki_L, wcw_setWeather, by decide, by decide, by decide +kernel, by decide, wml_setWeather, wst_setWeather⟩
set_option maxHeartbeats 1000000 in
theorem c_L_setWeather {l : Launch} {D : va_G} {cA : Nat → ClassId} {n0 : Nat} {sg adK adV : Nat → Nat} {sgA smA wdA bS LS : Nat} {xs : Nat → Int32} (hX : SF n0 (XW0 sg adK adV sgA smA wdA n0 bS LS xs)) {sz : Nat} {τ : TY} {M : ME} {x o d9 mc9 ms9 : Nat} {Q : QT} {QX : QXT} (hx : τ x = (8, 0)) (w1 : Int32) (hM : CX l D cA n0 (XW0 sg adK adV sgA smA wdA n0 bS LS xs) mX10_setWeather d9 mc9 ms9 sz τ M [.ref x, .int w1] Q QX) (hQ : ∀ v sz9 τ9 M9, Q v sz9 τ9 M9 → ∃ w, v = some (.int w) ∧ τ9 o = (102, 1)) (hE : ∀ E sz9 τ9 M9, QX E sz9 τ9 M9 → E = "java/lang/IllegalArgumentException") : CW l D cA n0 (XW0 sg adK adV sgA smA wdA n0 bS LS xs) mH_setWeather hL_setWeather (d9 + 1) mc9 ms9 sz τ M [.ref x, .int w1, .ref o] (LWQ o Q QX (fun _ => 1)) := by
  refine CW.of (ls := [.ref x, .int w1, .ref o, UU]) rfl (by decide) (Nat.le_of_ble_eq_true rfl) rfl ?_
  refine T_room (bk2 := 0 + mc9) (bn2 := 0 + ms9) (by omega) (by omega) ?_
  refine T_aload2 dL_setWeather_0 rfl ?_
  refine T_iconst (0) dL_setWeather_1 rfl rfl ?_
  refine T_aload0 dL_setWeather_2 rfl ?_
  refine T_iload1 dL_setWeather_3 rfl ?_
  refine T_callHV (bk := 0) (bn := 0) (As := [.int w1]) rfl hM hX kL_39 (Or.inl ⟨_, _, _, _, hx, by decide, rfl⟩) (Nat.le_refl _) rfl rfl (Nat.le_of_ble_eq_true rfl) dL_setWeather_4 rfl (fun v9 sz9 τ9 M9 hq => ?_) (fun E sz9 sz2 τ9 M9 hq hz => ?_)
  rotate_left
  · have hE9 := hE _ _ _ _ hq
    subst hE9
    refine ⟨12, ⟨[], (0, 9, 12, 19), [], "java/lang/IllegalArgumentException", rfl, fun z hz => absurd hz List.not_mem_nil, by decide, by decide, wcl_19, wcast_IA, rfl⟩, fun q => ?_⟩
    refine T_astore3 rfl (by decide) dL_setWeather_12 rfl ?_
    refine T_iconst (1) dL_setWeather_13 rfl rfl ?_
    refine T_iret rfl rfl dL_setWeather_14 ?_
    exact Or.inr ⟨_, sz9, hq, hz, rfl⟩
  obtain ⟨w, rfl, hto⟩ := hQ _ _ _ _ hq
  refine T_i2l dL_setWeather_7 rfl ?_
  refine T_last 0 hto rfl (by decide) (by decide) dL_setWeather_8 rfl ?_
  refine T_goto 15 dL_setWeather_9 (by decide) ?_
  refine T_iconst (0) dL_setWeather_15 rfl rfl ?_
  refine T_iret rfl rfl dL_setWeather_16 ?_
  exact Or.inl ⟨w, M9, hq, rfl, rfl⟩
abbrev hL_forge : List (Nat × Nat × Nat × Nat) := [(0, 10, 13, 24), (0, 10, 17, 19)]
abbrev mH_forge : MI := (yL_forge, cL_forge, 5, some .int, (0, 0, 0, 0) :: hL_forge, [])
theorem wcw_forge : Cond.codeWith yL_forge cL_forge 5 (some .int) [(0, 10, 13, 24), (0, 10, 17, 19)] ∈ GW := inGW (List.mem_of_getElem? (i := 1041) (by decide +kernel)) (by decide +kernel)
theorem wst_forge : Cond.static yL_forge ∈ GW := inGW (List.mem_of_getElem? (i := 1040) (by decide +kernel)) (by decide +kernel)
theorem wml_forge : Cond.methodLink RL 111 yL_forge ∈ GW := inGW (List.mem_of_getElem? (i := 1039) (by decide +kernel)) (by decide +kernel)
theorem kW_forge : WW mH_forge hL_forge RL 111 4 := ⟨ki_L, wcw_forge, by decide, by decide, by decide +kernel, by decide, wml_forge, wst_forge⟩
set_option maxHeartbeats 1000000 in
theorem c_L_forge {l : Launch} {D : va_G} {cA : Nat → ClassId} {n0 : Nat} {sg adK adV : Nat → Nat} {sgA smA wdA bS LS : Nat} {xs : Nat → Int32} (hX : SF n0 (XW0 sg adK adV sgA smA wdA n0 bS LS xs)) {sz : Nat} {τ : TY} {M : ME} {x o d9 mc9 ms9 : Nat} {Q : QT} {QX : QXT} (hx : τ x = (8, 0)) (w1 w2 : Int32) (hM : CX l D cA n0 (XW0 sg adK adV sgA smA wdA n0 bS LS xs) mX10_forge d9 mc9 ms9 sz τ M [.ref x, .int w1, .int w2] Q QX) (hQ : ∀ v sz9 τ9 M9, Q v sz9 τ9 M9 → ∃ w, v = some (.int w) ∧ τ9 o = (102, 1)) (hE : ∀ E sz9 τ9 M9, QX E sz9 τ9 M9 → E = "java/lang/IndexOutOfBoundsException" ∨ E = "java/lang/IllegalArgumentException") : CW l D cA n0 (XW0 sg adK adV sgA smA wdA n0 bS LS xs) mH_forge hL_forge (d9 + 1) mc9 ms9 sz τ M [.ref x, .int w1, .int w2, .ref o] (LWQ o Q QX (fun E => if E = "java/lang/IndexOutOfBoundsException" then 1 else 2)) := by
  refine CW.of (ls := [.ref x, .int w1, .int w2, .ref o, UU]) rfl (by decide) (Nat.le_of_ble_eq_true rfl) rfl ?_
  refine T_room (bk2 := 0 + mc9) (bn2 := 0 + ms9) (by omega) (by omega) ?_
  refine T_aload3 dL_forge_0 rfl ?_
  refine T_iconst (0) dL_forge_1 rfl rfl ?_
  refine T_aload0 dL_forge_2 rfl ?_
  refine T_iload1 dL_forge_3 rfl ?_
  refine T_iload2 dL_forge_4 rfl ?_
  refine T_callHV (bk := 0) (bn := 0) (As := [.int w1, .int w2]) rfl hM hX kL_42 (Or.inl ⟨_, _, _, _, hx, by decide, rfl⟩) (Nat.le_refl _) rfl rfl (Nat.le_of_ble_eq_true rfl) dL_forge_5 rfl (fun v9 sz9 τ9 M9 hq => ?_) (fun E sz9 sz2 τ9 M9 hq hz => ?_)
  rotate_left
  · rcases hE _ _ _ _ hq with rfl | rfl
    ·
      refine ⟨13, ⟨[], (0, 10, 13, 24), [(0, 10, 17, 19)], "java/lang/IndexOutOfBoundsException", rfl, fun z hz => absurd hz List.not_mem_nil, by decide, by decide, wcl_24, wcast_IO, rfl⟩, fun q => ?_⟩
      refine T_astore4 rfl (by decide) dL_forge_13 rfl ?_
      refine T_iconst (1) dL_forge_15 rfl rfl ?_
      refine T_iret rfl rfl dL_forge_16 ?_
      exact Or.inr ⟨_, sz9, hq, hz, rfl⟩
    ·
      refine ⟨17, ⟨[(0, 10, 13, 24)], (0, 10, 17, 19), [], "java/lang/IllegalArgumentException", rfl, fun z hz => (by rw [List.mem_singleton.mp hz]; exact ⟨by decide, "java/lang/IndexOutOfBoundsException", wcl_24, fun U H h => h.2.2.2.2.2.2.1⟩), by decide, by decide, wcl_19, wcast_IA, rfl⟩, fun q => ?_⟩
      refine T_astore4 rfl (by decide) dL_forge_17 rfl ?_
      refine T_iconst (2) dL_forge_19 rfl rfl ?_
      refine T_iret rfl rfl dL_forge_20 ?_
      exact Or.inr ⟨_, sz9, hq, hz, rfl⟩
  obtain ⟨w, rfl, hto⟩ := hQ _ _ _ _ hq
  refine T_i2l dL_forge_8 rfl ?_
  refine T_last 0 hto rfl (by decide) (by decide) dL_forge_9 rfl ?_
  refine T_goto 21 dL_forge_10 (by decide) ?_
  refine T_iconst (0) dL_forge_21 rfl rfl ?_
  refine T_iret rfl rfl dL_forge_22 ?_
  exact Or.inl ⟨w, M9, hq, rfl, rfl⟩
abbrev hL_clear : List (Nat × Nat × Nat × Nat) := [(0, 9, 12, 24)]
abbrev mH_clear : MI := (yL_clear, cL_clear, 4, some .int, (0, 0, 0, 0) :: hL_clear, [])
theorem wcw_clear : Cond.codeWith yL_clear cL_clear 4 (some .int) [(0, 9, 12, 24)] ∈ GW := inGW (List.mem_of_getElem? (i := 1053) (by decide +kernel)) (by decide +kernel)
theorem wst_clear : Cond.static yL_clear ∈ GW := inGW (List.mem_of_getElem? (i := 1052) (by decide +kernel)) (by decide +kernel)
theorem wml_clear : Cond.methodLink RL 114 yL_clear ∈ GW := inGW (List.mem_of_getElem? (i := 1051) (by decide +kernel)) (by decide +kernel)
theorem kW_clear : WW mH_clear hL_clear RL 114 3 := ⟨ki_L, wcw_clear, by decide, by decide, by decide +kernel, by decide, wml_clear, wst_clear⟩
set_option maxHeartbeats 1000000 in
theorem c_L_clear {l : Launch} {D : va_G} {cA : Nat → ClassId} {n0 : Nat} {sg adK adV : Nat → Nat} {sgA smA wdA bS LS : Nat} {xs : Nat → Int32} (hX : SF n0 (XW0 sg adK adV sgA smA wdA n0 bS LS xs)) {sz : Nat} {τ : TY} {M : ME} {x o d9 mc9 ms9 : Nat} {Q : QT} {QX : QXT} (hx : τ x = (8, 0)) (w1 : Int32) (hM : CX l D cA n0 (XW0 sg adK adV sgA smA wdA n0 bS LS xs) mX10_clear d9 mc9 ms9 sz τ M [.ref x, .int w1] Q QX) (hQ : ∀ v sz9 τ9 M9, Q v sz9 τ9 M9 → ∃ w, v = some (.int w) ∧ τ9 o = (102, 1)) (hE : ∀ E sz9 τ9 M9, QX E sz9 τ9 M9 → E = "java/lang/IndexOutOfBoundsException") : CW l D cA n0 (XW0 sg adK adV sgA smA wdA n0 bS LS xs) mH_clear hL_clear (d9 + 1) mc9 ms9 sz τ M [.ref x, .int w1, .ref o] (LWQ o Q QX (fun _ => 1)) := by
  refine CW.of (ls := [.ref x, .int w1, .ref o, UU]) rfl (by decide) (Nat.le_of_ble_eq_true rfl) rfl ?_
  refine T_room (bk2 := 0 + mc9) (bn2 := 0 + ms9) (by omega) (by omega) ?_
  refine T_aload2 dL_clear_0 rfl ?_
  refine T_iconst (0) dL_clear_1 rfl rfl ?_
  refine T_aload0 dL_clear_2 rfl ?_
  refine T_iload1 dL_clear_3 rfl ?_
  refine T_callHV (bk := 0) (bn := 0) (As := [.int w1]) rfl hM hX kL_45 (Or.inl ⟨_, _, _, _, hx, by decide, rfl⟩) (Nat.le_refl _) rfl rfl (Nat.le_of_ble_eq_true rfl) dL_clear_4 rfl (fun v9 sz9 τ9 M9 hq => ?_) (fun E sz9 sz2 τ9 M9 hq hz => ?_)
  rotate_left
  · have hE9 := hE _ _ _ _ hq
    subst hE9
    refine ⟨12, ⟨[], (0, 9, 12, 24), [], "java/lang/IndexOutOfBoundsException", rfl, fun z hz => absurd hz List.not_mem_nil, by decide, by decide, wcl_24, wcast_IO, rfl⟩, fun q => ?_⟩
    refine T_astore3 rfl (by decide) dL_clear_12 rfl ?_
    refine T_iconst (1) dL_clear_13 rfl rfl ?_
    refine T_iret rfl rfl dL_clear_14 ?_
    exact Or.inr ⟨_, sz9, hq, hz, rfl⟩
  obtain ⟨w, rfl, hto⟩ := hQ _ _ _ _ hq
  refine T_i2l dL_clear_7 rfl ?_
  refine T_last 0 hto rfl (by decide) (by decide) dL_clear_8 rfl ?_
  refine T_goto 15 dL_clear_9 (by decide) ?_
  refine T_iconst (0) dL_clear_15 rfl rfl ?_
  refine T_iret rfl rfl dL_clear_16 ?_
  exact Or.inl ⟨w, M9, hq, rfl, rfl⟩
abbrev hL_pass : List (Nat × Nat × Nat × Nat) := [(0, 9, 12, 19)]
abbrev mH_pass : MI := (yL_pass, cL_pass, 4, some .int, (0, 0, 0, 0) :: hL_pass, [])
theorem wcw_pass : Cond.codeWith yL_pass cL_pass 4 (some .int) [(0, 9, 12, 19)] ∈ GW := inGW (List.mem_of_getElem? (i := 1065) (by decide +kernel)) (by decide +kernel)
theorem wst_pass : Cond.static yL_pass ∈ GW := inGW (List.mem_of_getElem? (i := 1064) (by decide +kernel)) (by decide +kernel)
theorem wml_pass : Cond.methodLink RL 117 yL_pass ∈ GW := inGW (List.mem_of_getElem? (i := 1063) (by decide +kernel)) (by decide +kernel)
theorem kW_pass : WW mH_pass hL_pass RL 117 3 := ⟨ki_L, wcw_pass, by decide, by decide, by decide +kernel, by decide, wml_pass, wst_pass⟩
set_option maxHeartbeats 1000000 in
theorem c_L_pass {l : Launch} {D : va_G} {cA : Nat → ClassId} {n0 : Nat} {sg adK adV : Nat → Nat} {sgA smA wdA bS LS : Nat} {xs : Nat → Int32} (hX : SF n0 (XW0 sg adK adV sgA smA wdA n0 bS LS xs)) {sz : Nat} {τ : TY} {M : ME} {x o d9 mc9 ms9 : Nat} {Q : QT} {QX : QXT} (hx : τ x = (8, 0)) (w1 : Int32) (hM : CX l D cA n0 (XW0 sg adK adV sgA smA wdA n0 bS LS xs) mX10_pass d9 mc9 ms9 sz τ M [.ref x, .int w1] Q QX) (hQ : ∀ v sz9 τ9 M9, Q v sz9 τ9 M9 → ∃ w, v = some (.int w) ∧ τ9 o = (102, 1)) (hE : ∀ E sz9 τ9 M9, QX E sz9 τ9 M9 → E = "java/lang/IllegalArgumentException") : CW l D cA n0 (XW0 sg adK adV sgA smA wdA n0 bS LS xs) mH_pass hL_pass (d9 + 1) mc9 ms9 sz τ M [.ref x, .int w1, .ref o] (LWQ o Q QX (fun _ => 1)) := by
  refine CW.of (ls := [.ref x, .int w1, .ref o, UU]) rfl (by decide) (Nat.le_of_ble_eq_true rfl) rfl ?_
  refine T_room (bk2 := 0 + mc9) (bn2 := 0 + ms9) (by omega) (by omega) ?_
  refine T_aload2 dL_pass_0 rfl ?_
  refine T_iconst (0) dL_pass_1 rfl rfl ?_
  refine T_aload0 dL_pass_2 rfl ?_
  refine T_iload1 dL_pass_3 rfl ?_
  refine T_callHV (bk := 0) (bn := 0) (As := [.int w1]) rfl hM hX kL_48 (Or.inl ⟨_, _, _, _, hx, by decide, rfl⟩) (Nat.le_refl _) rfl rfl (Nat.le_of_ble_eq_true rfl) dL_pass_4 rfl (fun v9 sz9 τ9 M9 hq => ?_) (fun E sz9 sz2 τ9 M9 hq hz => ?_)
  rotate_left
  · have hE9 := hE _ _ _ _ hq
    subst hE9
    refine ⟨12, ⟨[], (0, 9, 12, 19), [], "java/lang/IllegalArgumentException", rfl, fun z hz => absurd hz List.not_mem_nil, by decide, by decide, wcl_19, wcast_IA, rfl⟩, fun q => ?_⟩
    refine T_astore3 rfl (by decide) dL_pass_12 rfl ?_
    refine T_iconst (1) dL_pass_13 rfl rfl ?_
    refine T_iret rfl rfl dL_pass_14 ?_
    exact Or.inr ⟨_, sz9, hq, hz, rfl⟩
  obtain ⟨w, rfl, hto⟩ := hQ _ _ _ _ hq
  refine T_i2l dL_pass_7 rfl ?_
  refine T_last 0 hto rfl (by decide) (by decide) dL_pass_8 rfl ?_
  refine T_goto 15 dL_pass_9 (by decide) ?_
  refine T_iconst (0) dL_pass_15 rfl rfl ?_
  refine T_iret rfl rfl dL_pass_16 ?_
  exact Or.inl ⟨w, M9, hq, rfl, rfl⟩
abbrev hL_arrives : List (Nat × Nat × Nat × Nat) := [(0, 9, 12, 24)]
abbrev mH_arrives : MI := (yL_arrives, cL_arrives, 4, some .int, (0, 0, 0, 0) :: hL_arrives, [])
theorem wcw_arrives : Cond.codeWith yL_arrives cL_arrives 4 (some .int) [(0, 9, 12, 24)] ∈ GW := inGW (List.mem_of_getElem? (i := 1164) (by decide +kernel)) (by decide +kernel)
theorem wst_arrives : Cond.static yL_arrives ∈ GW := inGW (List.mem_of_getElem? (i := 1163) (by decide +kernel)) (by decide +kernel)
theorem wml_arrives : Cond.methodLink RL 120 yL_arrives ∈ GW := inGW (List.mem_of_getElem? (i := 1162) (by decide +kernel)) (by decide +kernel)
theorem kW_arrives : WW mH_arrives hL_arrives RL 120 3 := ⟨ki_L, wcw_arrives, by decide, by decide, by decide +kernel, by decide, wml_arrives, wst_arrives⟩
set_option maxHeartbeats 1000000 in
theorem c_L_arrives {l : Launch} {D : va_G} {cA : Nat → ClassId} {n0 : Nat} {sg adK adV : Nat → Nat} {sgA smA wdA bS LS : Nat} {xs : Nat → Int32} (hX : SF n0 (XW0 sg adK adV sgA smA wdA n0 bS LS xs)) {sz : Nat} {τ : TY} {M : ME} {x o d9 mc9 ms9 : Nat} {Q : QT} {QX : QXT} (hx : τ x = (8, 0)) (w1 : Int32) (hM : CX l D cA n0 (XW0 sg adK adV sgA smA wdA n0 bS LS xs) mX10_arrives d9 mc9 ms9 sz τ M [.ref x, .int w1] Q QX) (hQ : ∀ v sz9 τ9 M9, Q v sz9 τ9 M9 → ∃ w, v = some (.int w) ∧ τ9 o = (102, 1)) (hE : ∀ E sz9 τ9 M9, QX E sz9 τ9 M9 → E = "java/lang/IndexOutOfBoundsException") : CW l D cA n0 (XW0 sg adK adV sgA smA wdA n0 bS LS xs) mH_arrives hL_arrives (d9 + 1) mc9 ms9 sz τ M [.ref x, .int w1, .ref o] (LWQ o Q QX (fun _ => 1)) := by
  refine CW.of (ls := [.ref x, .int w1, .ref o, UU]) rfl (by decide) (Nat.le_of_ble_eq_true rfl) rfl ?_
  refine T_room (bk2 := 0 + mc9) (bn2 := 0 + ms9) (by omega) (by omega) ?_
  refine T_aload2 dL_arrives_0 rfl ?_
  refine T_iconst (0) dL_arrives_1 rfl rfl ?_
  refine T_aload0 dL_arrives_2 rfl ?_
  refine T_iload1 dL_arrives_3 rfl ?_
  refine T_callHV (bk := 0) (bn := 0) (As := [.int w1]) rfl hM hX kL_51 (Or.inl ⟨_, _, _, _, hx, by decide, rfl⟩) (Nat.le_refl _) rfl rfl (Nat.le_of_ble_eq_true rfl) dL_arrives_4 rfl (fun v9 sz9 τ9 M9 hq => ?_) (fun E sz9 sz2 τ9 M9 hq hz => ?_)
  rotate_left
  · have hE9 := hE _ _ _ _ hq
    subst hE9
    refine ⟨12, ⟨[], (0, 9, 12, 24), [], "java/lang/IndexOutOfBoundsException", rfl, fun z hz => absurd hz List.not_mem_nil, by decide, by decide, wcl_24, wcast_IO, rfl⟩, fun q => ?_⟩
    refine T_astore3 rfl (by decide) dL_arrives_12 rfl ?_
    refine T_iconst (1) dL_arrives_13 rfl rfl ?_
    refine T_iret rfl rfl dL_arrives_14 ?_
    exact Or.inr ⟨_, sz9, hq, hz, rfl⟩
  obtain ⟨w, rfl, hto⟩ := hQ _ _ _ _ hq
  refine T_i2l dL_arrives_7 rfl ?_
  refine T_last 0 hto rfl (by decide) (by decide) dL_arrives_8 rfl ?_
  refine T_goto 15 dL_arrives_9 (by decide) ?_
  refine T_iconst (0) dL_arrives_15 rfl rfl ?_
  refine T_iret rfl rfl dL_arrives_16 ?_
  exact Or.inl ⟨w, M9, hq, rfl, rfl⟩
abbrev hL_breaks : List (Nat × Nat × Nat × Nat) := [(0, 9, 12, 24)]
abbrev mH_breaks : MI := (yL_breaks, cL_breaks, 4, some .int, (0, 0, 0, 0) :: hL_breaks, [])
theorem wcw_breaks : Cond.codeWith yL_breaks cL_breaks 4 (some .int) [(0, 9, 12, 24)] ∈ GW := inGW (List.mem_of_getElem? (i := 1194) (by decide +kernel)) (by decide +kernel)
theorem wst_breaks : Cond.static yL_breaks ∈ GW := inGW (List.mem_of_getElem? (i := 1193) (by decide +kernel)) (by decide +kernel)
theorem wml_breaks : Cond.methodLink RL 123 yL_breaks ∈ GW := inGW (List.mem_of_getElem? (i := 1192) (by decide +kernel)) (by decide +kernel)
theorem kW_breaks : WW mH_breaks hL_breaks RL 123 3 := ⟨ki_L, wcw_breaks, by decide, by decide, by decide +kernel, by decide, wml_breaks, wst_breaks⟩
set_option maxHeartbeats 1000000 in
theorem c_L_breaks {l : Launch} {D : va_G} {cA : Nat → ClassId} {n0 : Nat} {sg adK adV : Nat → Nat} {sgA smA wdA bS LS : Nat} {xs : Nat → Int32} (hX : SF n0 (XW0 sg adK adV sgA smA wdA n0 bS LS xs)) {sz : Nat} {τ : TY} {M : ME} {x o d9 mc9 ms9 : Nat} {Q : QT} {QX : QXT} (hx : τ x = (8, 0)) (w1 : Int32) (hM : CX l D cA n0 (XW0 sg adK adV sgA smA wdA n0 bS LS xs) mX10_breaks d9 mc9 ms9 sz τ M [.ref x, .int w1] Q QX) (hQ : ∀ v sz9 τ9 M9, Q v sz9 τ9 M9 → ∃ w, v = some (.int w) ∧ τ9 o = (102, 1)) (hE : ∀ E sz9 τ9 M9, QX E sz9 τ9 M9 → E = "java/lang/IndexOutOfBoundsException") : CW l D cA n0 (XW0 sg adK adV sgA smA wdA n0 bS LS xs) mH_breaks hL_breaks (d9 + 1) mc9 ms9 sz τ M [.ref x, .int w1, .ref o] (LWQ o Q QX (fun _ => 1)) := by
  refine CW.of (ls := [.ref x, .int w1, .ref o, UU]) rfl (by decide) (Nat.le_of_ble_eq_true rfl) rfl ?_
  refine T_room (bk2 := 0 + mc9) (bn2 := 0 + ms9) (by omega) (by omega) ?_
  refine T_aload2 dL_breaks_0 rfl ?_
  refine T_iconst (0) dL_breaks_1 rfl rfl ?_
  refine T_aload0 dL_breaks_2 rfl ?_
  refine T_iload1 dL_breaks_3 rfl ?_
  refine T_callHV (bk := 0) (bn := 0) (As := [.int w1]) rfl hM hX kL_54 (Or.inl ⟨_, _, _, _, hx, by decide, rfl⟩) (Nat.le_refl _) rfl rfl (Nat.le_of_ble_eq_true rfl) dL_breaks_4 rfl (fun v9 sz9 τ9 M9 hq => ?_) (fun E sz9 sz2 τ9 M9 hq hz => ?_)
  rotate_left
  · have hE9 := hE _ _ _ _ hq
    subst hE9
    refine ⟨12, ⟨[], (0, 9, 12, 24), [], "java/lang/IndexOutOfBoundsException", rfl, fun z hz => absurd hz List.not_mem_nil, by decide, by decide, wcl_24, wcast_IO, rfl⟩, fun q => ?_⟩
    refine T_astore3 rfl (by decide) dL_breaks_12 rfl ?_
    refine T_iconst (1) dL_breaks_13 rfl rfl ?_
    refine T_iret rfl rfl dL_breaks_14 ?_
    exact Or.inr ⟨_, sz9, hq, hz, rfl⟩
  obtain ⟨w, rfl, hto⟩ := hQ _ _ _ _ hq
  refine T_i2l dL_breaks_7 rfl ?_
  refine T_last 0 hto rfl (by decide) (by decide) dL_breaks_8 rfl ?_
  refine T_goto 15 dL_breaks_9 (by decide) ?_
  refine T_iconst (0) dL_breaks_15 rfl rfl ?_
  refine T_iret rfl rfl dL_breaks_16 ?_
  exact Or.inl ⟨w, M9, hq, rfl, rfl⟩
abbrev hL_foresee : List (Nat × Nat × Nat × Nat) := [(0, 10, 13, 19), (0, 10, 17, 24)]
abbrev mH_foresee : MI := (yL_foresee, cL_foresee, 5, some .int, (0, 0, 0, 0) :: hL_foresee, [])
theorem wcw_foresee : Cond.codeWith yL_foresee cL_foresee 5 (some .int) [(0, 10, 13, 19), (0, 10, 17, 24)] ∈ GW := inGW (List.mem_of_getElem? (i := 1202) (by decide +kernel)) (by decide +kernel)
theorem wst_foresee : Cond.static yL_foresee ∈ GW := inGW (List.mem_of_getElem? (i := 1201) (by decide +kernel)) (by decide +kernel)
theorem wml_foresee : Cond.methodLink RL 126 yL_foresee ∈ GW := inGW (List.mem_of_getElem? (i := 1200) (by decide +kernel)) (by decide +kernel)
theorem kW_foresee : WW mH_foresee hL_foresee RL 126 4 := ⟨ki_L, wcw_foresee, by decide, by decide, by decide +kernel, by decide, wml_foresee, wst_foresee⟩
set_option maxHeartbeats 1000000 in
theorem c_L_foresee {l : Launch} {D : va_G} {cA : Nat → ClassId} {n0 : Nat} {sg adK adV : Nat → Nat} {sgA smA wdA bS LS : Nat} {xs : Nat → Int32} (hX : SF n0 (XW0 sg adK adV sgA smA wdA n0 bS LS xs)) {sz : Nat} {τ : TY} {M : ME} {x o d9 mc9 ms9 : Nat} {Q : QT} {QX : QXT} (hx : τ x = (8, 0)) (w1 w2 : Int32) (hM : CX l D cA n0 (XW0 sg adK adV sgA smA wdA n0 bS LS xs) mX10_foresee d9 mc9 ms9 sz τ M [.ref x, .int w1, .int w2] Q QX) (hQ : ∀ v sz9 τ9 M9, Q v sz9 τ9 M9 → ∃ w, v = some (.int w) ∧ τ9 o = (102, 1)) (hE : ∀ E sz9 τ9 M9, QX E sz9 τ9 M9 → E = "java/lang/IllegalArgumentException" ∨ E = "java/lang/IndexOutOfBoundsException") : CW l D cA n0 (XW0 sg adK adV sgA smA wdA n0 bS LS xs) mH_foresee hL_foresee (d9 + 1) mc9 ms9 sz τ M [.ref x, .int w1, .int w2, .ref o] (LWQ o Q QX (fun E => if E = "java/lang/IllegalArgumentException" then 1 else 2)) := by
  refine CW.of (ls := [.ref x, .int w1, .int w2, .ref o, UU]) rfl (by decide) (Nat.le_of_ble_eq_true rfl) rfl ?_
  refine T_room (bk2 := 0 + mc9) (bn2 := 0 + ms9) (by omega) (by omega) ?_
  refine T_aload3 dL_foresee_0 rfl ?_
  refine T_iconst (0) dL_foresee_1 rfl rfl ?_
  refine T_aload0 dL_foresee_2 rfl ?_
  refine T_iload1 dL_foresee_3 rfl ?_
  refine T_iload2 dL_foresee_4 rfl ?_
  refine T_callHV (bk := 0) (bn := 0) (As := [.int w1, .int w2]) rfl hM hX kL_57 (Or.inl ⟨_, _, _, _, hx, by decide, rfl⟩) (Nat.le_refl _) rfl rfl (Nat.le_of_ble_eq_true rfl) dL_foresee_5 rfl (fun v9 sz9 τ9 M9 hq => ?_) (fun E sz9 sz2 τ9 M9 hq hz => ?_)
  rotate_left
  · rcases hE _ _ _ _ hq with rfl | rfl
    ·
      refine ⟨13, ⟨[], (0, 10, 13, 19), [(0, 10, 17, 24)], "java/lang/IllegalArgumentException", rfl, fun z hz => absurd hz List.not_mem_nil, by decide, by decide, wcl_19, wcast_IA, rfl⟩, fun q => ?_⟩
      refine T_astore4 rfl (by decide) dL_foresee_13 rfl ?_
      refine T_iconst (1) dL_foresee_15 rfl rfl ?_
      refine T_iret rfl rfl dL_foresee_16 ?_
      exact Or.inr ⟨_, sz9, hq, hz, rfl⟩
    ·
      refine ⟨17, ⟨[(0, 10, 13, 19)], (0, 10, 17, 24), [], "java/lang/IndexOutOfBoundsException", rfl, fun z hz => (by rw [List.mem_singleton.mp hz]; exact ⟨by decide, "java/lang/IllegalArgumentException", wcl_19, fun U H h => h.2.2.2.2.2.2.2⟩), by decide, by decide, wcl_24, wcast_IO, rfl⟩, fun q => ?_⟩
      refine T_astore4 rfl (by decide) dL_foresee_17 rfl ?_
      refine T_iconst (2) dL_foresee_19 rfl rfl ?_
      refine T_iret rfl rfl dL_foresee_20 ?_
      exact Or.inr ⟨_, sz9, hq, hz, rfl⟩
  obtain ⟨w, rfl, hto⟩ := hQ _ _ _ _ hq
  refine T_i2l dL_foresee_8 rfl ?_
  refine T_last 0 hto rfl (by decide) (by decide) dL_foresee_9 rfl ?_
  refine T_goto 21 dL_foresee_10 (by decide) ?_
  refine T_iconst (0) dL_foresee_21 rfl rfl ?_
  refine T_iret rfl rfl dL_foresee_22 ?_
  exact Or.inl ⟨w, M9, hq, rfl, rfl⟩
abbrev hL_advise : List (Nat × Nat × Nat × Nat) := [(0, 9, 12, 19)]
abbrev mH_advise : MI := (yL_advise, cL_advise, 4, some .int, (0, 0, 0, 0) :: hL_advise, [])
theorem wcw_advise : Cond.codeWith yL_advise cL_advise 4 (some .int) [(0, 9, 12, 19)] ∈ GW := inGW (List.mem_of_getElem? (i := 1209) (by decide +kernel)) (by decide +kernel)
theorem wst_advise : Cond.static yL_advise ∈ GW := inGW (List.mem_of_getElem? (i := 1208) (by decide +kernel)) (by decide +kernel)
theorem wml_advise : Cond.methodLink RL 129 yL_advise ∈ GW := inGW (List.mem_of_getElem? (i := 1207) (by decide +kernel)) (by decide +kernel)
theorem kW_advise : WW mH_advise hL_advise RL 129 3 := ⟨ki_L, wcw_advise, by decide, by decide, by decide +kernel, by decide, wml_advise, wst_advise⟩
set_option maxHeartbeats 1000000 in
theorem c_L_advise {l : Launch} {D : va_G} {cA : Nat → ClassId} {n0 : Nat} {sg adK adV : Nat → Nat} {sgA smA wdA bS LS : Nat} {xs : Nat → Int32} (hX : SF n0 (XW0 sg adK adV sgA smA wdA n0 bS LS xs)) {sz : Nat} {τ : TY} {M : ME} {x o d9 mc9 ms9 : Nat} {Q : QT} {QX : QXT} (hx : τ x = (8, 0)) (w1 : Int32) (hM : CX l D cA n0 (XW0 sg adK adV sgA smA wdA n0 bS LS xs) mX10_advise d9 mc9 ms9 sz τ M [.ref x, .int w1] Q QX) (hQ : ∀ v sz9 τ9 M9, Q v sz9 τ9 M9 → ∃ w, v = some (.int w) ∧ τ9 o = (102, 1)) (hE : ∀ E sz9 τ9 M9, QX E sz9 τ9 M9 → E = "java/lang/IllegalArgumentException") : CW l D cA n0 (XW0 sg adK adV sgA smA wdA n0 bS LS xs) mH_advise hL_advise (d9 + 1) mc9 ms9 sz τ M [.ref x, .int w1, .ref o] (LWQ o Q QX (fun _ => 1)) := by
  refine CW.of (ls := [.ref x, .int w1, .ref o, UU]) rfl (by decide) (Nat.le_of_ble_eq_true rfl) rfl ?_
  refine T_room (bk2 := 0 + mc9) (bn2 := 0 + ms9) (by omega) (by omega) ?_
  refine T_aload2 dL_advise_0 rfl ?_
  refine T_iconst (0) dL_advise_1 rfl rfl ?_
  refine T_aload0 dL_advise_2 rfl ?_
  refine T_iload1 dL_advise_3 rfl ?_
  refine T_callHV (bk := 0) (bn := 0) (As := [.int w1]) rfl hM hX kL_60 (Or.inl ⟨_, _, _, _, hx, by decide, rfl⟩) (Nat.le_refl _) rfl rfl (Nat.le_of_ble_eq_true rfl) dL_advise_4 rfl (fun v9 sz9 τ9 M9 hq => ?_) (fun E sz9 sz2 τ9 M9 hq hz => ?_)
  rotate_left
  · have hE9 := hE _ _ _ _ hq
    subst hE9
    refine ⟨12, ⟨[], (0, 9, 12, 19), [], "java/lang/IllegalArgumentException", rfl, fun z hz => absurd hz List.not_mem_nil, by decide, by decide, wcl_19, wcast_IA, rfl⟩, fun q => ?_⟩
    refine T_astore3 rfl (by decide) dL_advise_12 rfl ?_
    refine T_iconst (1) dL_advise_13 rfl rfl ?_
    refine T_iret rfl rfl dL_advise_14 ?_
    exact Or.inr ⟨_, sz9, hq, hz, rfl⟩
  obtain ⟨w, rfl, hto⟩ := hQ _ _ _ _ hq
  refine T_i2l dL_advise_7 rfl ?_
  refine T_last 0 hto rfl (by decide) (by decide) dL_advise_8 rfl ?_
  refine T_goto 15 dL_advise_9 (by decide) ?_
  refine T_iconst (0) dL_advise_15 rfl rfl ?_
  refine T_iret rfl rfl dL_advise_16 ?_
  exact Or.inl ⟨w, M9, hq, rfl, rfl⟩
abbrev hL_choose : List (Nat × Nat × Nat × Nat) := [(0, 9, 12, 19)]
abbrev mH_choose : MI := (yL_choose, cL_choose, 4, some .int, (0, 0, 0, 0) :: hL_choose, [])
theorem wcw_choose : Cond.codeWith yL_choose cL_choose 4 (some .int) [(0, 9, 12, 19)] ∈ GW := inGW (List.mem_of_getElem? (i := 1216) (by decide +kernel)) (by decide +kernel)
theorem wst_choose : Cond.static yL_choose ∈ GW := inGW (List.mem_of_getElem? (i := 1215) (by decide +kernel)) (by decide +kernel)
theorem wml_choose : Cond.methodLink RL 132 yL_choose ∈ GW := inGW (List.mem_of_getElem? (i := 1214) (by decide +kernel)) (by decide +kernel)
theorem kW_choose : WW mH_choose hL_choose RL 132 3 := ⟨ki_L, wcw_choose, by decide, by decide, by decide +kernel, by decide, wml_choose, wst_choose⟩
set_option maxHeartbeats 1000000 in
theorem c_L_choose {l : Launch} {D : va_G} {cA : Nat → ClassId} {n0 : Nat} {sg adK adV : Nat → Nat} {sgA smA wdA bS LS : Nat} {xs : Nat → Int32} (hX : SF n0 (XW0 sg adK adV sgA smA wdA n0 bS LS xs)) {sz : Nat} {τ : TY} {M : ME} {x o d9 mc9 ms9 : Nat} {Q : QT} {QX : QXT} (hx : τ x = (8, 0)) (w1 : Int32) (hM : CX l D cA n0 (XW0 sg adK adV sgA smA wdA n0 bS LS xs) mX10_choose d9 mc9 ms9 sz τ M [.ref x, .int w1] Q QX) (hQ : ∀ v sz9 τ9 M9, Q v sz9 τ9 M9 → ∃ w, v = some (.int w) ∧ τ9 o = (102, 1)) (hE : ∀ E sz9 τ9 M9, QX E sz9 τ9 M9 → E = "java/lang/IllegalArgumentException") : CW l D cA n0 (XW0 sg adK adV sgA smA wdA n0 bS LS xs) mH_choose hL_choose (d9 + 1) mc9 ms9 sz τ M [.ref x, .int w1, .ref o] (LWQ o Q QX (fun _ => 1)) := by
  refine CW.of (ls := [.ref x, .int w1, .ref o, UU]) rfl (by decide) (Nat.le_of_ble_eq_true rfl) rfl ?_
  refine T_room (bk2 := 0 + mc9) (bn2 := 0 + ms9) (by omega) (by omega) ?_
  refine T_aload2 dL_choose_0 rfl ?_
  refine T_iconst (0) dL_choose_1 rfl rfl ?_
  refine T_aload0 dL_choose_2 rfl ?_
  refine T_iload1 dL_choose_3 rfl ?_
  refine T_callHV (bk := 0) (bn := 0) (As := [.int w1]) rfl hM hX kL_63 (Or.inl ⟨_, _, _, _, hx, by decide, rfl⟩) (Nat.le_refl _) rfl rfl (Nat.le_of_ble_eq_true rfl) dL_choose_4 rfl (fun v9 sz9 τ9 M9 hq => ?_) (fun E sz9 sz2 τ9 M9 hq hz => ?_)
  rotate_left
  · have hE9 := hE _ _ _ _ hq
    subst hE9
    refine ⟨12, ⟨[], (0, 9, 12, 19), [], "java/lang/IllegalArgumentException", rfl, fun z hz => absurd hz List.not_mem_nil, by decide, by decide, wcl_19, wcast_IA, rfl⟩, fun q => ?_⟩
    refine T_astore3 rfl (by decide) dL_choose_12 rfl ?_
    refine T_iconst (1) dL_choose_13 rfl rfl ?_
    refine T_iret rfl rfl dL_choose_14 ?_
    exact Or.inr ⟨_, sz9, hq, hz, rfl⟩
  obtain ⟨w, rfl, hto⟩ := hQ _ _ _ _ hq
  refine T_i2l dL_choose_7 rfl ?_
  refine T_last 0 hto rfl (by decide) (by decide) dL_choose_8 rfl ?_
  refine T_goto 15 dL_choose_9 (by decide) ?_
  refine T_iconst (0) dL_choose_15 rfl rfl ?_
  refine T_iret rfl rfl dL_choose_16 ?_
  exact Or.inl ⟨w, M9, hq, rfl, rfl⟩
