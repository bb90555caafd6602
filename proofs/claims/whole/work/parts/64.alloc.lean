section SZB
variable {l : Launch} {D : va_G} {cA : Nat → ClassId} {n0 : Nat} {XW : State → Heap → Prop} {nm : MI} {d bk bn sz : Nat} {τ : TY} {M : ME} {Q : QT} {QX : QXT} {ls st : List Value} {pc : Nat}
/-- what the memory says lies below its end -/
theorem T_szb (k : (∀ q kd, τ q = kd → kd.1 ≠ 999 → n0 ≤ q ∧ q < sz) → T l D cA n0 XW nm d bk bn sz τ M pc ls st Q QX) : T l D cA n0 XW nm d bk bn sz τ M pc ls st Q QX := by
  intro p e R s m args below meth c H locs cells slots mc ms la X Y hR hS g1 g2 hL r1 r2 r3
  exact k (fun q kd h h2 => hR.lt (by rw [h]; exact h2)) p e R s m args below meth c H locs cells slots mc ms la X Y hR hS g1 g2 hL r1 r2 r3
end SZB
theorem WN.frV {τ : TY} {M M1 : ME} {m y s a b c hc wc sn q k : Nat} {v : Value} {ρ π : RH} {σ : Nat → Nat} (h : WN τ M m y s a b c hc wc sn ρ π σ) (e : M1 = up M q k v) (hd : (s ≤ q ∧ q < s + 14) ∨ ((q = m → k ≠ 11) ∧ (q < y ∨ y + 19 ≤ q))) : WN τ M1 m y s a b c hc wc sn ρ π σ := by
  obtain ⟨h0, h3, h4, h5, h6, hr, wr, cs, os, w, h7, h8⟩ := h
  exact ⟨h0, h3, by rw [e, up_ne (by omega)]; exact h4, h5, h6, hr, wr, cs, os, w, h7.fr (fun x h1 h2 => by rw [e]; exact up_a (by omega)), h8⟩
theorem WN.al {τ τ' : TY} {M M1 : ME} {m y s a b c hc wc sn : Nat} {ρ π : RH} {σ : Nat → Nat} (h : WN τ M m y s a b c hc wc sn ρ π σ) (h1 : M1 m = M m) (h2 : ∀ q, y ≤ q → q < y + 19 → M1 q = M q) (t1 : τ' m = τ m) (t2 : ∀ q, y ≤ q → q < y + 19 → τ' q = τ q) : WN τ' M1 m y s a b c hc wc sn ρ π σ := by
  obtain ⟨h0, h3, h4, h5, h6, hr, wr, cs, os, w, h7, h8⟩ := h
  exact ⟨h0, by rw [t1]; exact h3, by rw [h1]; exact h4, h5, h6, hr, wr, cs, os, w, (h7.tau t2).fr h2, h8⟩
theorem WN.hi {τ : TY} {M : ME} {m y s a b c hc wc sn n0 sz : Nat} {ρ π : RH} {σ : Nat → Nat} (h : WN τ M m y s a b c hc wc sn ρ π σ) (hz : ∀ q kd, τ q = kd → kd.1 ≠ 999 → n0 ≤ q ∧ q < sz) : m < sz ∧ y + 18 < sz := by
  obtain ⟨hr, wr, cs, os, w, h7⟩ := h.pv
  exact ⟨(hz _ _ h.t_m (by decide)).2, (hz _ _ h7.t_open (by decide)).2⟩
theorem MV.hi {τ : TY} {M0 M : ME} {m y z s1 s2 n tk dp n0 sz : Nat} {B : Nat → Nat} {ω : RH} (h : MV τ M0 M m y z s1 s2 n tk dp B ω) (hz : ∀ q kd, τ q = kd → kd.1 ≠ 999 → n0 ≤ q ∧ q < sz) : m + 6 < sz := (hz _ _ h.t_me (by decide)).2
theorem SL.hi {τ : TY} {M0 M : ME} {s m a b c n0 sz : Nat} {ρ : RH} {μ κ : Nat → Int32} (h : SL τ M0 M s a b c ρ m μ κ) (hz : ∀ q kd, τ q = kd → kd.1 ≠ 999 → n0 ≤ q ∧ q < sz) : s + 13 < sz := (hz _ _ h.t_a13 (by decide)).2
def AV (τ : TY) (M0 M : ME) (g : Nat) (w : Nat) (f : Nat → Int32) : Prop := τ (g) = (100, w) ∧ (∀ i, i < w → M (g) (i) = .int (f i)) ∧ Fr g (g + 1) M0 M
theorem AV.frame {τ : TY} {M0 M : ME} {g : Nat} {w : Nat} {f : Nat → Int32} (h : AV τ M0 M g w f) : Fr g (g + 1) M0 M := h.2.2
theorem AV.t_e {τ : TY} {M0 M : ME} {g : Nat} {w : Nat} {f : Nat → Int32} (h : AV τ M0 M g w f) : τ (g) = (100, w) := h.1
theorem AV.g_v {τ : TY} {M0 M : ME} {g : Nat} {w : Nat} {f : Nat → Int32} (h : AV τ M0 M g w f) {i : Nat} (hq : i < w) : M (g) (i) = .int (f i) := h.2.1 i hq
theorem AV.rf {τ : TY} {M0 M : ME} {g : Nat} {w : Nat} {f : Nat → Int32} (h : AV τ M0 M g w f) : AV τ M M g w f := by
  obtain ⟨x0, x1, hF⟩ := h
  refine ⟨?_, fun i hq => ?_, Fr.rf _ _ _⟩
  · exact x0
  · exact x1 i hq
theorem AV.bs {τ : TY} {M0 M : ME} {g : Nat} {w : Nat} {f : Nat → Int32} {M1 : ME} (h : AV τ M1 M g w f) (h2 : Fr g (g + 1) M0 M1) : AV τ M0 M g w f := by
  obtain ⟨x0, x1, hF⟩ := h
  refine ⟨?_, fun i hq => ?_, h2.tr hF⟩
  · exact x0
  · exact x1 i hq
theorem AV.fr {τ : TY} {M0 M : ME} {g : Nat} {w : Nat} {f : Nat → Int32} {M1 : ME} (h : AV τ M0 M g w f) (hf : ∀ q, g ≤ q → q < g + 1 → M1 q = M q) : AV τ M1 M1 g w f := by
  obtain ⟨x0, x1, hF⟩ := h
  refine ⟨?_, fun i hq => ?_, Fr.rf _ _ _⟩
  · exact x0
  · rw [hf _ (by omega) (by omega)]; exact x1 i hq
theorem AV.tau {τ : TY} {M0 M : ME} {g : Nat} {w : Nat} {f : Nat → Int32} {τ' : TY} (h : AV τ M0 M g w f) (hf : ∀ q, g ≤ q → q < g + 1 → τ' q = τ q) : AV τ' M0 M g w f := by
  obtain ⟨x0, x1, hF⟩ := h
  refine ⟨?_, fun i hq => ?_, hF⟩
  · rw [hf _ (by omega) (by omega)]; exact x0
  · exact x1 i hq
theorem AV.mv {τ : TY} {M0 M : ME} {g : Nat} {w : Nat} {f : Nat → Int32} {M1 : ME} (h : AV τ M0 M g w f) (e : M1 = M) : AV τ M0 M1 g w f := by subst e; exact h
theorem AV.frU {τ : TY} {M0 M : ME} {g : Nat} {w : Nat} {f : Nat → Int32} {M1 : ME} {q k : Nat} {v : Value} (h : AV τ M0 M g w f) (e : M1 = up M q k v) (hd : q < g ∨ g + 1 ≤ q) : AV τ M1 M1 g w f := h.fr (fun b h1 h2 => by rw [e]; exact up_a (by omega))
theorem AV.nx {τ : TY} {M0 M : ME} {g : Nat} {w : Nat} {f : Nat → Int32} {M1 : ME} {lo hi : Nat} (h : AV τ M0 M g w f) (e : Fr lo hi M M1) (hd : hi ≤ g ∨ g + 1 ≤ lo) : AV τ M1 M1 g w f := h.fr (fun b h1 h2 => e b (by omega))
theorem AV.p_v {τ : TY} {M0 M : ME} {g : Nat} {w : Nat} {f : Nat → Int32} (h : AV τ M0 M g w f) {x : Int32} {i0 : Nat} (hi0 : i0 < w) : AV τ M0 (up M (g) (i0) (.int x)) g w (uI f i0 x) := by
  obtain ⟨x0, x1, hF⟩ := h
  refine ⟨?_, fun i hq => ?_, hF.up (by omega)⟩
  · exact x0
  · by_cases e : i = i0
    · subst e; rw [up_s, uI_s]
    · rw [up_ne (by omega)]; rw [uI_i e]; exact x1 i hq
