/-! the small methods at a place of the grammar -/
theorem skN_lt {lt nx : Nat} (h : nx < lt) : skN lt nx = nx + 1 := if_pos h
theorem K_lt {K : Nat → Nat} {lt nx k : Nat} (hK2 : K lt = 45 ∨ K lt = 46) (hn : nx ≤ lt) (hk : K nx = k) (h1 : ¬ k = 45) (h2 : ¬ k = 46) : nx < lt := Nat.lt_of_le_of_ne hn (fun e => by rw [e] at hk; omega)
theorem bk_b {bk : Int32} (h : b01 bk) : b01 (bkF bk) := by rcases h with rfl | rfl <;> exact Or.inr (by decide)


set_option maxHeartbeats 1000000 in
theorem q_take {l : Launch} {D : va_G} {cA : Nat → ClassId} {n0 : Nat} {sg adK adV : Nat → Nat} {sgA smA wdA bS LS : Nat} {xs : Nat → Int32} (hX : SF n0 (XW0 sg adK adV sgA smA wdA n0 bS LS xs)) {j r p tp ln lt : Nat} {K : Nat → Nat} {S : Nat → Int32} {V : Nat → Int64} {C : CCT} (hd : (j + 5 ≤ r ∨ r + 38 ≤ j) ∧ (j + 5 ≤ p ∨ p + 30 ≤ j) ∧ (p + 30 ≤ r ∨ r + 38 ≤ p)) (hl : lt ≤ 400) (hK : ∀ i, i ≤ lt → K i < 48) (hK2 : K lt = 45 ∨ K lt = 46) (hC : ∀ a b c ρ ν hn wn π i x, C a b c ρ ν hn wn π → C a b c ρ ν hn wn (u2 π 70 i x)) {sz : Nat} {τ : TY} {M : ME} {ez : Nat} {q : PQ} (hQ : CQ sg τ M j r p tp ln lt K S V C (ez) (q)) {k : Nat} (hk0 : k < 48) (h45 : ¬ k = 45) (h46 : ¬ k = 46) : CT l D cA n0 (XW0 sg adK adV sgA smA wdA n0 bS LS xs) mX5_take 2 0 0 sz τ M [.ref j, .ref (sg k)] (fun v' sz' τ' M' => (v' = none ∧ CQ sg τ M' j r p tp ln lt K S V C (ez) (tkQ K k q)) ∧ sz' = sz ∧ τ' = τ ∧ Fr3 j r p M M') := by
  obtain ⟨hT, nx, bk, ba, fl, fa, a, b, c, ρ, ν, hn, wn, sn, σ, π, κ, hE, hR, hP, ⟨hs1, hs2, hs3, hn0⟩, hb2, hO⟩ := hQ
  refine (c_X5_take hX hE hT hn0 hl hK hk0).wk ?_
  rintro _ _ _ M9 ⟨rfl, rfl, rfl, hE9⟩
  have hT9 := (hT.nx hE9.frame (by omega)).rf
  have hR9 := hR.nx hE9.frame (by omega)
  have hP9 := hP.nx hE9.frame (by omega)
  have hF9 : Fr3 j r p M M9 := (Fr3.rf j r p M).fr hE9.frame (by omega)
  replace hE9 := hE9.rf
  refine ⟨⟨rfl, ?_⟩, rfl, rfl, hF9⟩
  obtain ⟨g, s⟩ := q
  unfold tkN' tkB tkA at hE9
  cases g with
  | false =>
    obtain ⟨h1, h2, h3⟩ := hO.2 rfl
    have hne : ¬ K nx = k := by rw [h1]; omega
    rw [if_neg hne, if_neg hne, if_neg hne, h2, if_neg (by decide)] at hE9
    refine ⟨hT9, _, _, _, _, _, _, _, _, _, _, _, _, _, _, _, _, hE9, hR9, hP9, ⟨hs1, hs2, hs3, Nat.le_refl _⟩, Or.inr rfl, ?_⟩
    exact ⟨fun z => absurd z (by simp [tkQ]), fun _ => ⟨rfl, rfl, h3⟩⟩
  | true =>
    obtain ⟨h1, h2, h3⟩ := hO.1 rfl
    by_cases e : K nx = k
    · have hlt := K_lt hK2 hn0 e h45 h46
      rw [if_pos e, if_pos e, if_pos e, skN_lt hlt] at hE9
      refine ⟨hT9, _, _, _, _, _, _, _, _, _, _, _, _, _, _, _, _, hE9, hR9, hP9, ⟨hs1, hs2, hs3, hlt⟩, hb2, ?_⟩
      have e2 : tkQ K k (true, s) = (true, adv s 1) := by
        have h1' : nx = s.1 := h1
        unfold tkQ; rw [if_pos rfl, if_pos (by rw [← h1']; exact e)]
      rw [e2]
      exact hO.sk.ezm (Nat.le_succ _)
    · rw [if_neg e, if_neg e, if_neg e] at hE9
      refine ⟨hT9, _, _, _, _, _, _, _, _, _, _, _, _, _, _, _, _, hE9, hR9, hP9, ⟨hs1, hs2, hs3, Nat.le_refl _⟩, bk_b hb2, ?_⟩
      have e2 : tkQ K k (true, s) = (false, s) := by
        have h1' : nx = s.1 := h1
        unfold tkQ; rw [if_pos rfl, if_neg (by rw [← h1']; exact e)]
      rw [e2]
      exact hO.fail


set_option maxHeartbeats 1000000 in
theorem q_cmp {l : Launch} {D : va_G} {cA : Nat → ClassId} {n0 : Nat} {sg adK adV : Nat → Nat} {sgA smA wdA bS LS : Nat} {xs : Nat → Int32} (hX : SF n0 (XW0 sg adK adV sgA smA wdA n0 bS LS xs)) {j r p tp ln lt : Nat} {K : Nat → Nat} {S : Nat → Int32} {V : Nat → Int64} {C : CCT} (hd : (j + 5 ≤ r ∨ r + 38 ≤ j) ∧ (j + 5 ≤ p ∨ p + 30 ≤ j) ∧ (p + 30 ≤ r ∨ r + 38 ≤ p)) (hl : lt ≤ 400) (hK : ∀ i, i ≤ lt → K i < 48) (hK2 : K lt = 45 ∨ K lt = 46) (hC : ∀ a b c ρ ν hn wn π i x, C a b c ρ ν hn wn π → C a b c ρ ν hn wn (u2 π 70 i x)) {sz : Nat} {τ : TY} {M : ME} {ez : Nat} {q : PQ} (hQ : CQ sg τ M j r p tp ln lt K S V C (ez) (q)) : CT l D cA n0 (XW0 sg adK adV sgA smA wdA n0 bS LS xs) mX5_takeComparison 2 0 0 sz τ M [.ref j] (fun v' sz' τ' M' => ((∃ o, v' = some (.ref (sg o)) ∧ o < 48 ∧ (q.1 = true → o = K q.2.1)) ∧ CQ sg τ M' j r p tp ln lt K S V C (ez + 1) (tcQ K q)) ∧ sz' = sz ∧ τ' = τ ∧ Fr3 j r p M M') := by
  obtain ⟨hT, nx, bk, ba, fl, fa, a, b, c, ρ, ν, hn, wn, sn, σ, π, κ, hE, hR, hP, ⟨hs1, hs2, hs3, hn0⟩, hb2, hO⟩ := hQ
  refine (c_X5_takeComparison hX hE hT hn0 hl hK).wk ?_
  rintro _ _ _ M9 ⟨rfl, rfl, rfl, hE9⟩
  have hT9 := (hT.nx hE9.frame (by omega)).rf
  have hR9 := hR.nx hE9.frame (by omega)
  have hP9 := hP.nx hE9.frame (by omega)
  have hF9 : Fr3 j r p M M9 := (Fr3.rf j r p M).fr hE9.frame (by omega)
  replace hE9 := hE9.rf
  refine ⟨⟨⟨_, rfl, hK _ hn0, fun z => by rw [(hO.1 z).1]⟩, ?_⟩, rfl, rfl, hF9⟩
  obtain ⟨g, s⟩ := q
  cases g with
  | false =>
    obtain ⟨h1, h2, h3⟩ := hO.2 rfl
    have hne : ¬ (38 ≤ K nx ∧ K nx ≤ 42) := by rw [h1]; omega
    rw [if_neg hne, if_neg hne, if_neg hne, h2, if_neg (by decide)] at hE9
    refine ⟨hT9, _, _, _, _, _, _, _, _, _, _, _, _, _, _, _, _, hE9, hR9, hP9, ⟨hs1, hs2, hs3, Nat.le_refl _⟩, Or.inr rfl, ?_⟩
    exact ⟨fun z => absurd z (by simp [tcQ]), fun _ => ⟨rfl, rfl, h3⟩⟩
  | true =>
    obtain ⟨h1, h2, h3⟩ := hO.1 rfl
    have h1' : nx = s.1 := h1
    by_cases e : 38 ≤ K nx ∧ K nx ≤ 42
    · have hlt := K_lt hK2 hn0 rfl (fun z => by omega) (fun z => by omega)
      rw [if_pos e, if_pos e, if_pos e, skN_lt hlt] at hE9
      refine ⟨hT9, _, _, _, _, _, _, _, _, _, _, _, _, _, _, _, _, hE9, hR9, hP9, ⟨hs1, hs2, hs3, hlt⟩, hb2, ?_⟩
      have e2 : tcQ K (true, s) = (true, adv s 1) := by unfold tcQ; rw [if_pos rfl, if_pos (by rw [← h1']; exact e)]
      rw [e2]
      exact hO.sk
    · rw [if_neg e, if_neg e, if_neg e] at hE9
      refine ⟨hT9, _, _, _, _, _, _, _, _, _, _, _, _, _, _, _, _, hE9, hR9, hP9, ⟨hs1, hs2, hs3, Nat.le_refl _⟩, bk_b hb2, ?_⟩
      have e2 : tcQ K (true, s) = (false, s) := by unfold tcQ; rw [if_pos rfl, if_neg (by rw [← h1']; exact e)]
      rw [e2]
      exact hO.fail


set_option maxHeartbeats 1000000 in
theorem q_step {l : Launch} {D : va_G} {cA : Nat → ClassId} {n0 : Nat} {sg adK adV : Nat → Nat} {sgA smA wdA bS LS : Nat} {xs : Nat → Int32} (hX : SF n0 (XW0 sg adK adV sgA smA wdA n0 bS LS xs)) {j r p tp ln lt : Nat} {K : Nat → Nat} {S : Nat → Int32} {V : Nat → Int64} {C : CCT} (hd : (j + 5 ≤ r ∨ r + 38 ≤ j) ∧ (j + 5 ≤ p ∨ p + 30 ≤ j) ∧ (p + 30 ≤ r ∨ r + 38 ≤ p)) (hl : lt ≤ 400) (hK : ∀ i, i ≤ lt → K i < 48) (hK2 : K lt = 45 ∨ K lt = 46) (hC : ∀ a b c ρ ν hn wn π i x, C a b c ρ ν hn wn π → C a b c ρ ν hn wn (u2 π 70 i x)) {sz : Nat} {τ : TY} {M : ME} {ez : Nat} {q : PQ} (hQ : CQ sg τ M j r p tp ln lt K S V C (ez + 1) (q)) {o o2 : Nat} (ho : o < 48) (ho2 : q.1 = true → o = o2) (ho3 : q.1 = true → ¬ (o2 = 20 ∨ o2 = 21 ∨ o2 = 6 ∨ o2 = 3 ∨ o2 = 22)) : CT l D cA n0 (XW0 sg adK adV sgA smA wdA n0 bS LS xs) mX4_addStep 1 0 0 sz τ M [.ref p, .ref (sg o), .int 0] (fun v' sz' τ' M' => (v' = none ∧ CQ sg τ M' j r p tp ln lt K S V C (ez) (adQ q o2)) ∧ sz' = sz ∧ τ' = τ ∧ Fr3 j r p M M') := by
  obtain ⟨hT, nx, bk, ba, fl, fa, a, b, c, ρ, ν, hn, wn, sn, σ, π, κ, hE, hR, hP, ⟨hs1, hs2, hs3, hn0⟩, hb2, hO⟩ := hQ
  refine (c_X4_addStep hX hP hs3 ho 0).wk ?_
  rintro _ _ _ M9 ⟨rfl, rfl, rfl, hPa, hPb⟩
  obtain ⟨g, s⟩ := q
  cases g with
  | false =>
    obtain ⟨h1, h2, h3⟩ := hO.2 rfl
    have hCO : ∀ sn σ π, CO V S lt C ez (adQ (false, s) o2) nx bk ba fl fa a b c ρ ν hn wn sn σ π := fun _ _ _ => ⟨fun z => absurd z (by simp [adQ]), fun _ => ⟨h1, h2, h3⟩⟩
    by_cases e : sn < 400
    · have hP8 := hPa e
      have hT9 := (hT.nx hP8.frame (by omega)).rf
      have hR9 := hR.nx hP8.frame (by omega)
      have hE9 := hE.nx hP8.frame (by omega)
      have hF9 : Fr3 j r p M M9 := (Fr3.rf j r p M).fr hP8.frame (by omega)
      have hP9 := hP8.rf
      exact ⟨⟨rfl, hT9, _, _, _, _, _, _, _, _, _, _, _, _, _, _, _, _, hE9, hR9, hP9, ⟨hs1, hs2, by omega, hn0⟩, hb2, hCO _ _ _⟩, rfl, rfl, hF9⟩
    · have hP8 := hPb e
      have hT9 := (hT.nx hP8.frame (by omega)).rf
      have hR9 := hR.nx hP8.frame (by omega)
      have hE9 := hE.nx hP8.frame (by omega)
      have hF9 : Fr3 j r p M M9 := (Fr3.rf j r p M).fr hP8.frame (by omega)
      have hP9 := hP8.rf
      exact ⟨⟨rfl, hT9, _, _, _, _, _, _, _, _, _, _, _, _, _, _, _, _, hE9, hR9, hP9, ⟨hs1, hs2, hs3, hn0⟩, hb2, hCO _ _ _⟩, rfl, rfl, hF9⟩
  | true =>
    obtain rfl := ho2 rfl
    replace ho3 := ho3 rfl
    have h3 := (hO.1 rfl).2.2.1
    by_cases e : sn < 400
    · have hP8 := hPa e
      have hT9 := (hT.nx hP8.frame (by omega)).rf
      have hR9 := hR.nx hP8.frame (by omega)
      have hE9 := hE.nx hP8.frame (by omega)
      have hF9 : Fr3 j r p M M9 := (Fr3.rf j r p M).fr hP8.frame (by omega)
      have hP9 := hP8.rf
      refine ⟨⟨rfl, hT9, _, _, _, _, _, _, _, _, _, _, _, _, _, _, _, _, hE9, hR9, hP9, ⟨hs1, hs2, by omega, hn0⟩, hb2, ?_⟩, rfl, rfl, hF9⟩
      refine CO.ad hC hO (fun _ => ⟨fun z => absurd z ho3, ?_⟩)
      unfold rsF; rw [if_neg (by omega), if_neg (by omega)]
    · have hP8 := hPb e
      have hT9 := (hT.nx hP8.frame (by omega)).rf
      have hR9 := hR.nx hP8.frame (by omega)
      have hE9 := hE.nx hP8.frame (by omega)
      have hF9 : Fr3 j r p M M9 := (Fr3.rf j r p M).fr hP8.frame (by omega)
      have hP9 := hP8.rf
      refine ⟨⟨rfl, hT9, _, _, _, _, _, _, _, _, _, _, _, _, _, _, _, _, hE9, hR9, hP9, ⟨hs1, hs2, hs3, hn0⟩, hb2, ?_⟩, rfl, rfl, hF9⟩
      refine CO.adf hO (fun z => ?_)
      have h4 := ((hO.1 rfl).2.2.2.2.2 z).2.1
      have h5 : s.2.1 + (ez + 1) ≤ nx := h3
      have h6 : sn = s.2.1 := h4
      omega

