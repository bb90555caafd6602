section COV
variable {sg : Nat → Nat} {τ : TY} {M : ME} {j r p tp ln lt : Nat} {K : Nat → Nat} {V : Nat → Int64} {S : Nat → Int32} {C : CCT} {ez nx a b c hn wn sn sn' : Nat} {q : PQ} {s : PS} {bk ba fl fa : Int32} {ρ π π' : RH} {ν : NU} {σ σ' : Nat → Nat} {rl : Nat → Int32}
theorem CO.failq {ez' a' b' c' hn' wn' sn' : Nat} {ρ' π' : RH} {ν' : NU} {σ' : Nat → Nat} {fl' fa' : Int32} (h : CO V S lt C ez q nx bk ba fl fa a b c ρ ν hn wn sn σ π) : CO V S lt C ez' (false, q.2) lt (bkF bk) (if bk = 0 then S nx else ba) fl' fa' a' b' c' ρ' ν' hn' wn' sn' σ' π' := by
  obtain ⟨g, s⟩ := q
  cases g with
  | true => exact CO.fail h
  | false =>
    refine ⟨fun z => absurd z (by simp), fun _ => ?_⟩
    obtain ⟨h1, h2, h3⟩ := h.2 rfl
    exact ⟨rfl, by rw [h2]; rfl, by rw [h2, if_neg (by decide)]; exact h3⟩
theorem CO.ad2 {o : Nat} {x y : Int32} (hC : ∀ a b c ρ ν hn wn π i x, C a b c ρ ν hn wn π → C a b c ρ ν hn wn (u2 π 70 i x)) (h : CO V S lt C (ez + 1) (true, s) nx bk ba fl fa a b c ρ ν hn wn sn σ π) (hn2 : nx ≤ 400) (hs : sn < 400 → sn' = sn + 1 ∧ σ' = u1 σ sn o ∧ π' = u2 π 70 sn y) (hx : fl = 0 → nmX o x nx ∧ y = rsF V s.2.2.2.2 o x) : CO V S lt C ez (true, stp s o x) nx bk ba fl fa a b c ρ ν hn wn sn' σ' π' := by
  by_cases z : fl = 0
  · have h1 := (h.1 rfl).2.2.1
    have h2 := ((h.1 rfl).2.2.2.2.2 z).2.1
    have h3 : s.2.1 + (ez + 1) ≤ nx := h1
    have h4 : sn = s.2.1 := h2
    obtain ⟨rfl, rfl, rfl⟩ := hs (by omega)
    exact CO.ad hC h hx
  · exact CO.adf h z
theorem erF_17 {t : Nat} : erF V (uI rl t 17) t = ngE (tdR V (uI rl t 17) 2 (V t) t) := by
  unfold erF; rw [uI_s]; rw [if_neg (by decide), if_neg (by decide), if_neg (by decide), if_neg (by decide), if_neg (by decide), if_pos (by decide)]
theorem erF_18 {t : Nat} : erF V (uI rl t 18) t = ngE (tdR V (uI rl t 18) 1 (V t) t) := by
  unfold erF; rw [uI_s]; rw [if_neg (by decide), if_neg (by decide), if_neg (by decide), if_neg (by decide), if_neg (by decide), if_neg (by decide), if_pos (by decide)]
theorem CO.hrs {o : Nat} (ho : o = 20 ∨ o = 21 ∨ o = 6) (hC : ∀ a b c ρ ν hn wn π i x, C a b c ρ ν hn wn π → C a b c ρ ν hn wn (u2 π 70 i x)) (h : CO V S lt C ez (true, s) s.1 bk ba fl fa a b c ρ ν hn wn sn σ π) (hn2 : s.1 + 2 ≤ 400) (hs : sn < 400 → sn' = sn + 1 ∧ σ' = u1 σ sn o ∧ π' = u2 π 70 sn (fdF (ν 1) (V (s.1 + 1)) b)) : CO V S lt C ez (true, adv (rol (stp s o (nI (s.1 + 1))) (s.1 + 1) 17) 2) (s.1 + 2) bk ba (nfE fl (ngE (fdF (ν 1) (V (s.1 + 1)) b))) (nfA fl fa (ngE (fdF (ν 1) (V (s.1 + 1)) b)) (S (s.1 + 1))) a b c ρ ν hn wn sn' σ' π' := by
  have h1 := h.sk
  have he : fl = 0 → fdF (ν 1) (V (s.1 + 1)) b = tdR V (uI s.2.2.2.2 (s.1 + 1) 17) 2 (V (s.1 + 1)) (s.1 + 1) := fun z => by
    rw [((h1.1 rfl).2.2.2.2.2 z).1.2.1, tdR_c (uI_c (Nat.le_refl _))]; rfl
  have h2 := h1.ro (x := 17) (e := ngE (fdF (ν 1) (V (s.1 + 1)) b)) (by decide) (by decide) (by omega) (fun z => by
    show _ = erF V (uI s.2.2.2.2 (s.1 + 1) 17) (s.1 + 1)
    rw [erF_17, ← he z])
  refine CO.ad2 hC (h2.ezm (by omega)) hn2 hs (fun z => ⟨fun _ => ⟨s.1 + 1, by omega, rfl⟩, ?_⟩)
  unfold rsF; rw [if_pos ho, nI_cl (by omega)]
  exact he (nfE_z z).1
theorem CO.str {o : Nat} (ho : o = 3 ∨ o = 22) (hC : ∀ a b c ρ ν hn wn π i x, C a b c ρ ν hn wn π → C a b c ρ ν hn wn (u2 π 70 i x)) (h : CO V S lt C ez (true, s) s.1 bk ba fl fa a b c ρ ν hn wn sn σ π) (hn2 : s.1 + 2 ≤ 400) (hs : sn < 400 → sn' = sn + 1 ∧ σ' = u1 σ sn o ∧ π' = u2 π 70 sn (fdF (ν 4) (V (s.1 + 1)) a)) : CO V S lt C ez (true, adv (rol (stp s o (nI (s.1 + 1))) (s.1 + 1) 18) 2) (s.1 + 2) bk ba (nfE fl (ngE (fdF (ν 4) (V (s.1 + 1)) a))) (nfA fl fa (ngE (fdF (ν 4) (V (s.1 + 1)) a)) (S (s.1 + 1))) a b c ρ ν hn wn sn' σ' π' := by
  have h1 := h.sk
  have he : fl = 0 → fdF (ν 4) (V (s.1 + 1)) a = tdR V (uI s.2.2.2.2 (s.1 + 1) 18) 1 (V (s.1 + 1)) (s.1 + 1) := fun z => by
    rw [((h1.1 rfl).2.2.2.2.2 z).1.2.2, tdR_c (uI_c (Nat.le_refl _))]; rfl
  have h2 := h1.ro (x := 18) (e := ngE (fdF (ν 4) (V (s.1 + 1)) a)) (by decide) (by decide) (by omega) (fun z => by
    show _ = erF V (uI s.2.2.2.2 (s.1 + 1) 18) (s.1 + 1)
    rw [erF_18, ← he z])
  refine CO.ad2 hC (h2.ezm (by omega)) hn2 hs (fun z => ⟨fun _ => ⟨s.1 + 1, by omega, rfl⟩, ?_⟩)
  unfold rsF; rw [if_neg (by omega), if_pos ho, nI_cl (by omega)]
  exact he (nfE_z z).1
theorem tkQ_le {k : Nat} (z : (tkQ K k q).1 = true) : q.1 = true ∧ q.2.1 ≤ (tkQ K k q).2.1 := by
  unfold tkQ at z ⊢
  by_cases h : q.1 = true
  · rw [if_pos h] at z ⊢
    by_cases e : K q.2.1 = k
    · rw [if_pos e]; exact ⟨h, Nat.le_succ _⟩
    · rw [if_neg e] at z; exact absurd z (by simp)
  · rw [if_neg h] at z; exact absurd z h
theorem tcQ_le (z : (tcQ K q).1 = true) : q.1 = true ∧ q.2.1 ≤ (tcQ K q).2.1 := by
  unfold tcQ at z ⊢
  by_cases h : q.1 = true
  · rw [if_pos h] at z ⊢
    by_cases e : 38 ≤ K q.2.1 ∧ K q.2.1 ≤ 42
    · rw [if_pos e]; exact ⟨h, Nat.le_succ _⟩
    · rw [if_neg e] at z; exact absurd z (by simp)
  · rw [if_neg h] at z; exact absurd z h
theorem tcQ_rg (z : (tcQ K q).1 = true) : 38 ≤ K q.2.1 ∧ K q.2.1 ≤ 42 := by
  unfold tcQ at z
  by_cases h : q.1 = true
  · rw [if_pos h] at z
    by_cases e : 38 ≤ K q.2.1 ∧ K q.2.1 ≤ 42
    · exact e
    · rw [if_neg e] at z; exact absurd z (by simp)
  · rw [if_neg h] at z; exact absurd z h
end COV
set_option maxHeartbeats 1000000 in
theorem q_add {l : Launch} {D : va_G} {cA : Nat → ClassId} {n0 : Nat} {sg adK adV : Nat → Nat} {sgA smA wdA bS LS : Nat} {xs : Nat → Int32} (hX : SF n0 (XW0 sg adK adV sgA smA wdA n0 bS LS xs)) {sz : Nat} {τ : TY} {M0 M : ME} {p hn wn sn : Nat} {π : RH} {σ : Nat → Nat} {κ : Nat → Int32} (hP : PM τ M0 M p sg hn wn sn π σ κ) (hs : sn ≤ 400) {o : Nat} (ho : o < 48) (x : Int32) : CT l D cA n0 (XW0 sg adK adV sgA smA wdA n0 bS LS xs) mX4_addStep 1 0 0 sz τ M [.ref p, .ref (sg o), .int x] (fun v' sz' τ' M' => v' = none ∧ sz' = sz ∧ τ' = τ ∧ ∃ sn9 σ9 π9, (sn9 ≤ 400 ∧ (sn < 400 → sn9 = sn + 1 ∧ σ9 = u1 σ sn o ∧ π9 = u2 π 70 sn x)) ∧ PM τ M0 M' p sg hn wn sn9 π9 σ9 κ) := by
  refine (c_X4_addStep hX hP hs ho x).wk ?_
  rintro _ _ _ M9 ⟨rfl, rfl, rfl, hPa, hPb⟩
  by_cases e : sn < 400
  · exact ⟨rfl, rfl, rfl, _, _, _, ⟨by omega, fun _ => ⟨rfl, rfl, rfl⟩⟩, hPa e⟩
  · exact ⟨rfl, rfl, rfl, _, _, _, ⟨hs, fun z => absurd z e⟩, hPb e⟩
theorem sm_val : ∀ i, i < 48 → ¬ vlK i → (smV.getD i 0).toInt < 6 ∨ 19 < (smV.getD i 0).toInt := by
  intro i hi; unfold vlK; revert i; decide +kernel
section ACM
variable {l : Launch} {D : va_G} {cA : Nat → ClassId} {n0 : Nat} {XW : State → Heap → Prop} {nm : MI} {d bk bn sz : Nat} {τ : TY} {M : ME} {Q : QT} {QX : QXT} {ls st : List Value} {pc : Nat} {off : Int} {x y : Nat}
theorem T_acmp_eq_t (tgt : Nat) (hd : decode nm.cc pc = .ok (.if_acmp .eq off, 3)) (ht : (pc : Int) + off = (tgt : Int)) (h : x = y) (k : T l D cA n0 XW nm d bk bn sz τ M tgt ls st Q QX) : T l D cA n0 XW nm d bk bn sz τ M pc ls (.ref y :: .ref x :: st) Q QX := T_acmp_eq tgt (pc + 3) hd ht rfl (fun _ => k) (fun q => absurd h q)
theorem T_acmp_eq_f (tgt nxt : Nat) (hd : decode nm.cc pc = .ok (.if_acmp .eq off, 3)) (ht : (pc : Int) + off = (tgt : Int)) (hp : pc + 3 = nxt) (h : ¬ (x = y)) (k : T l D cA n0 XW nm d bk bn sz τ M nxt ls st Q QX) : T l D cA n0 XW nm d bk bn sz τ M pc ls (.ref y :: .ref x :: st) Q QX := T_acmp_eq tgt nxt hd ht hp (fun q => absurd q h) (fun _ => k)
theorem T_acmp_ne_t (tgt : Nat) (hd : decode nm.cc pc = .ok (.if_acmp .ne off, 3)) (ht : (pc : Int) + off = (tgt : Int)) (h : ¬ x = y) (k : T l D cA n0 XW nm d bk bn sz τ M tgt ls st Q QX) : T l D cA n0 XW nm d bk bn sz τ M pc ls (.ref y :: .ref x :: st) Q QX := T_acmp_ne tgt (pc + 3) hd ht rfl (fun _ => k) (fun q => absurd h q)
theorem T_acmp_ne_f (tgt nxt : Nat) (hd : decode nm.cc pc = .ok (.if_acmp .ne off, 3)) (ht : (pc : Int) + off = (tgt : Int)) (hp : pc + 3 = nxt) (h : ¬ (¬ x = y)) (k : T l D cA n0 XW nm d bk bn sz τ M nxt ls st Q QX) : T l D cA n0 XW nm d bk bn sz τ M pc ls (.ref y :: .ref x :: st) Q QX := T_acmp_ne tgt nxt hd ht hp (fun q => absurd q h) (fun _ => k)
end ACM
