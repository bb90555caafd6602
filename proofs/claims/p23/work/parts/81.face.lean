/-! the class itself: x, its tape x + 1; then Road x + 2, Plan x + 40, Road x + 70, Plan x + 108, Reader x + 138, Tokens x + 139 to x + 142 -/
def FV (τ : TY) (M0 M : ME) (j : Nat) (r : Nat) (p : Nat) (r2 : Nat) (p2 : Nat) (n8 : Nat) (ω : RH) : Prop := τ (j) = (8, 0) ∧ M (j) (0) = .ref (j + 1) ∧ M (j) (1) = .ref (j + 138) ∧ M (j) (2) = .int (nI n8) ∧ M (j) (3) = .int (ω 91 0) ∧ M (j) (4) = .ref r ∧ M (j) (5) = .ref p ∧ M (j) (6) = .ref r2 ∧ M (j) (7) = .ref p2 ∧ Fr j (j + 1) M0 M
theorem FV.frame {τ : TY} {M0 M : ME} {j : Nat} {r : Nat} {p : Nat} {r2 : Nat} {p2 : Nat} {n8 : Nat} {ω : RH} (h : FV τ M0 M j r p r2 p2 n8 ω) : Fr j (j + 1) M0 M := h.2.2.2.2.2.2.2.2.2
theorem FV.t_x {τ : TY} {M0 M : ME} {j : Nat} {r : Nat} {p : Nat} {r2 : Nat} {p2 : Nat} {n8 : Nat} {ω : RH} (h : FV τ M0 M j r p r2 p2 n8 ω) : τ (j) = (8, 0) := h.1
theorem FV.g_tp {τ : TY} {M0 M : ME} {j : Nat} {r : Nat} {p : Nat} {r2 : Nat} {p2 : Nat} {n8 : Nat} {ω : RH} (h : FV τ M0 M j r p r2 p2 n8 ω) : M (j) (0) = .ref (j + 1) := h.2.1
theorem FV.g_rd {τ : TY} {M0 M : ME} {j : Nat} {r : Nat} {p : Nat} {r2 : Nat} {p2 : Nat} {n8 : Nat} {ω : RH} (h : FV τ M0 M j r p r2 p2 n8 ω) : M (j) (1) = .ref (j + 138) := h.2.2.1
theorem FV.g_n {τ : TY} {M0 M : ME} {j : Nat} {r : Nat} {p : Nat} {r2 : Nat} {p2 : Nat} {n8 : Nat} {ω : RH} (h : FV τ M0 M j r p r2 p2 n8 ω) : M (j) (2) = .int (nI n8) := h.2.2.2.1
theorem FV.g_fa {τ : TY} {M0 M : ME} {j : Nat} {r : Nat} {p : Nat} {r2 : Nat} {p2 : Nat} {n8 : Nat} {ω : RH} (h : FV τ M0 M j r p r2 p2 n8 ω) : M (j) (3) = .int (ω 91 0) := h.2.2.2.2.1
theorem FV.g_r {τ : TY} {M0 M : ME} {j : Nat} {r : Nat} {p : Nat} {r2 : Nat} {p2 : Nat} {n8 : Nat} {ω : RH} (h : FV τ M0 M j r p r2 p2 n8 ω) : M (j) (4) = .ref r := h.2.2.2.2.2.1
theorem FV.g_p {τ : TY} {M0 M : ME} {j : Nat} {r : Nat} {p : Nat} {r2 : Nat} {p2 : Nat} {n8 : Nat} {ω : RH} (h : FV τ M0 M j r p r2 p2 n8 ω) : M (j) (5) = .ref p := h.2.2.2.2.2.2.1
theorem FV.g_r2 {τ : TY} {M0 M : ME} {j : Nat} {r : Nat} {p : Nat} {r2 : Nat} {p2 : Nat} {n8 : Nat} {ω : RH} (h : FV τ M0 M j r p r2 p2 n8 ω) : M (j) (6) = .ref r2 := h.2.2.2.2.2.2.2.1
theorem FV.g_p2 {τ : TY} {M0 M : ME} {j : Nat} {r : Nat} {p : Nat} {r2 : Nat} {p2 : Nat} {n8 : Nat} {ω : RH} (h : FV τ M0 M j r p r2 p2 n8 ω) : M (j) (7) = .ref p2 := h.2.2.2.2.2.2.2.2.1
theorem FV.rf {τ : TY} {M0 M : ME} {j : Nat} {r : Nat} {p : Nat} {r2 : Nat} {p2 : Nat} {n8 : Nat} {ω : RH} (h : FV τ M0 M j r p r2 p2 n8 ω) : FV τ M M j r p r2 p2 n8 ω := by
  obtain ⟨x0, x1, x2, x3, x4, x5, x6, x7, x8, hF⟩ := h
  refine ⟨?_, ?_, ?_, ?_, ?_, ?_, ?_, ?_, ?_, Fr.rf _ _ _⟩
  · exact x0
  · exact x1
  · exact x2
  · exact x3
  · exact x4
  · exact x5
  · exact x6
  · exact x7
  · exact x8
theorem FV.bs {τ : TY} {M0 M : ME} {j : Nat} {r : Nat} {p : Nat} {r2 : Nat} {p2 : Nat} {n8 : Nat} {ω : RH} {M1 : ME} (h : FV τ M1 M j r p r2 p2 n8 ω) (h2 : Fr j (j + 1) M0 M1) : FV τ M0 M j r p r2 p2 n8 ω := by
  obtain ⟨x0, x1, x2, x3, x4, x5, x6, x7, x8, hF⟩ := h
  refine ⟨?_, ?_, ?_, ?_, ?_, ?_, ?_, ?_, ?_, h2.tr hF⟩
  · exact x0
  · exact x1
  · exact x2
  · exact x3
  · exact x4
  · exact x5
  · exact x6
  · exact x7
  · exact x8
theorem FV.fr {τ : TY} {M0 M : ME} {j : Nat} {r : Nat} {p : Nat} {r2 : Nat} {p2 : Nat} {n8 : Nat} {ω : RH} {M1 : ME} (h : FV τ M0 M j r p r2 p2 n8 ω) (hf : ∀ q, j ≤ q → q < j + 1 → M1 q = M q) : FV τ M1 M1 j r p r2 p2 n8 ω := by
  obtain ⟨x0, x1, x2, x3, x4, x5, x6, x7, x8, hF⟩ := h
  refine ⟨?_, ?_, ?_, ?_, ?_, ?_, ?_, ?_, ?_, Fr.rf _ _ _⟩
  · exact x0
  · rw [hf _ (by omega) (by omega)]; exact x1
  · rw [hf _ (by omega) (by omega)]; exact x2
  · rw [hf _ (by omega) (by omega)]; exact x3
  · rw [hf _ (by omega) (by omega)]; exact x4
  · rw [hf _ (by omega) (by omega)]; exact x5
  · rw [hf _ (by omega) (by omega)]; exact x6
  · rw [hf _ (by omega) (by omega)]; exact x7
  · rw [hf _ (by omega) (by omega)]; exact x8
theorem FV.tau {τ : TY} {M0 M : ME} {j : Nat} {r : Nat} {p : Nat} {r2 : Nat} {p2 : Nat} {n8 : Nat} {ω : RH} {τ' : TY} (h : FV τ M0 M j r p r2 p2 n8 ω) (hf : ∀ q, j ≤ q → q < j + 1 → τ' q = τ q) : FV τ' M0 M j r p r2 p2 n8 ω := by
  obtain ⟨x0, x1, x2, x3, x4, x5, x6, x7, x8, hF⟩ := h
  refine ⟨?_, ?_, ?_, ?_, ?_, ?_, ?_, ?_, ?_, hF⟩
  · rw [hf _ (by omega) (by omega)]; exact x0
  · exact x1
  · exact x2
  · exact x3
  · exact x4
  · exact x5
  · exact x6
  · exact x7
  · exact x8
theorem FV.mv {τ : TY} {M0 M : ME} {j : Nat} {r : Nat} {p : Nat} {r2 : Nat} {p2 : Nat} {n8 : Nat} {ω : RH} {M1 : ME} (h : FV τ M0 M j r p r2 p2 n8 ω) (e : M1 = M) : FV τ M0 M1 j r p r2 p2 n8 ω := by subst e; exact h
theorem FV.frU {τ : TY} {M0 M : ME} {j : Nat} {r : Nat} {p : Nat} {r2 : Nat} {p2 : Nat} {n8 : Nat} {ω : RH} {M1 : ME} {q k : Nat} {v : Value} (h : FV τ M0 M j r p r2 p2 n8 ω) (e : M1 = up M q k v) (hd : q < j ∨ j + 1 ≤ q) : FV τ M1 M1 j r p r2 p2 n8 ω := h.fr (fun b h1 h2 => by rw [e]; exact up_a (by omega))
theorem FV.nx {τ : TY} {M0 M : ME} {j : Nat} {r : Nat} {p : Nat} {r2 : Nat} {p2 : Nat} {n8 : Nat} {ω : RH} {M1 : ME} {lo hi : Nat} (h : FV τ M0 M j r p r2 p2 n8 ω) (e : Fr lo hi M M1) (hd : hi ≤ j ∨ j + 1 ≤ lo) : FV τ M1 M1 j r p r2 p2 n8 ω := h.fr (fun b h1 h2 => e b (by omega))
theorem FV.p_n {τ : TY} {M0 M : ME} {j : Nat} {r : Nat} {p : Nat} {r2 : Nat} {p2 : Nat} {n8 : Nat} {ω : RH} (h : FV τ M0 M j r p r2 p2 n8 ω) {n : Nat} {x : Int32} (hx : x = nI n) : FV τ M0 (up M (j) (2) (.int x)) j r p r2 p2 n ω := by
  obtain ⟨x0, x1, x2, x3, x4, x5, x6, x7, x8, hF⟩ := h
  refine ⟨?_, ?_, ?_, ?_, ?_, ?_, ?_, ?_, ?_, hF.up (by omega)⟩
  · exact x0
  · rw [up_ne (by omega)]; exact x1
  · rw [up_ne (by omega)]; exact x2
  · rw [up_s, hx]
  · rw [up_ne (by omega)]; exact x4
  · rw [up_ne (by omega)]; exact x5
  · rw [up_ne (by omega)]; exact x6
  · rw [up_ne (by omega)]; exact x7
  · rw [up_ne (by omega)]; exact x8
theorem FV.p_fa {τ : TY} {M0 M : ME} {j : Nat} {r : Nat} {p : Nat} {r2 : Nat} {p2 : Nat} {n8 : Nat} {ω : RH} (h : FV τ M0 M j r p r2 p2 n8 ω) {x : Int32} : FV τ M0 (up M (j) (3) (.int x)) j r p r2 p2 n8 (u2 ω 91 0 x) := by
  obtain ⟨x0, x1, x2, x3, x4, x5, x6, x7, x8, hF⟩ := h
  refine ⟨?_, ?_, ?_, ?_, ?_, ?_, ?_, ?_, ?_, hF.up (by omega)⟩
  · exact x0
  · rw [up_ne (by omega)]; exact x1
  · rw [up_ne (by omega)]; exact x2
  · rw [up_ne (by omega)]; exact x3
  · rw [up_s, u2_s]
  · rw [up_ne (by omega)]; exact x5
  · rw [up_ne (by omega)]; exact x6
  · rw [up_ne (by omega)]; exact x7
  · rw [up_ne (by omega)]; exact x8
theorem FV.p_r {τ : TY} {M0 M : ME} {j : Nat} {r : Nat} {p : Nat} {r2 : Nat} {p2 : Nat} {n8 : Nat} {ω : RH} (h : FV τ M0 M j r p r2 p2 n8 ω) {v : Nat} : FV τ M0 (up M (j) (4) (.ref v)) j v p r2 p2 n8 ω := by
  obtain ⟨x0, x1, x2, x3, x4, x5, x6, x7, x8, hF⟩ := h
  refine ⟨?_, ?_, ?_, ?_, ?_, ?_, ?_, ?_, ?_, hF.up (by omega)⟩
  · exact x0
  · rw [up_ne (by omega)]; exact x1
  · rw [up_ne (by omega)]; exact x2
  · rw [up_ne (by omega)]; exact x3
  · rw [up_ne (by omega)]; exact x4
  · rw [up_s]
  · rw [up_ne (by omega)]; exact x6
  · rw [up_ne (by omega)]; exact x7
  · rw [up_ne (by omega)]; exact x8
theorem FV.p_p {τ : TY} {M0 M : ME} {j : Nat} {r : Nat} {p : Nat} {r2 : Nat} {p2 : Nat} {n8 : Nat} {ω : RH} (h : FV τ M0 M j r p r2 p2 n8 ω) {v : Nat} : FV τ M0 (up M (j) (5) (.ref v)) j r v r2 p2 n8 ω := by
  obtain ⟨x0, x1, x2, x3, x4, x5, x6, x7, x8, hF⟩ := h
  refine ⟨?_, ?_, ?_, ?_, ?_, ?_, ?_, ?_, ?_, hF.up (by omega)⟩
  · exact x0
  · rw [up_ne (by omega)]; exact x1
  · rw [up_ne (by omega)]; exact x2
  · rw [up_ne (by omega)]; exact x3
  · rw [up_ne (by omega)]; exact x4
  · rw [up_ne (by omega)]; exact x5
  · rw [up_s]
  · rw [up_ne (by omega)]; exact x7
  · rw [up_ne (by omega)]; exact x8
theorem FV.p_r2 {τ : TY} {M0 M : ME} {j : Nat} {r : Nat} {p : Nat} {r2 : Nat} {p2 : Nat} {n8 : Nat} {ω : RH} (h : FV τ M0 M j r p r2 p2 n8 ω) {v : Nat} : FV τ M0 (up M (j) (6) (.ref v)) j r p v p2 n8 ω := by
  obtain ⟨x0, x1, x2, x3, x4, x5, x6, x7, x8, hF⟩ := h
  refine ⟨?_, ?_, ?_, ?_, ?_, ?_, ?_, ?_, ?_, hF.up (by omega)⟩
  · exact x0
  · rw [up_ne (by omega)]; exact x1
  · rw [up_ne (by omega)]; exact x2
  · rw [up_ne (by omega)]; exact x3
  · rw [up_ne (by omega)]; exact x4
  · rw [up_ne (by omega)]; exact x5
  · rw [up_ne (by omega)]; exact x6
  · rw [up_s]
  · rw [up_ne (by omega)]; exact x8
theorem FV.p_p2 {τ : TY} {M0 M : ME} {j : Nat} {r : Nat} {p : Nat} {r2 : Nat} {p2 : Nat} {n8 : Nat} {ω : RH} (h : FV τ M0 M j r p r2 p2 n8 ω) {v : Nat} : FV τ M0 (up M (j) (7) (.ref v)) j r p r2 v n8 ω := by
  obtain ⟨x0, x1, x2, x3, x4, x5, x6, x7, x8, hF⟩ := h
  refine ⟨?_, ?_, ?_, ?_, ?_, ?_, ?_, ?_, ?_, hF.up (by omega)⟩
  · exact x0
  · rw [up_ne (by omega)]; exact x1
  · rw [up_ne (by omega)]; exact x2
  · rw [up_ne (by omega)]; exact x3
  · rw [up_ne (by omega)]; exact x4
  · rw [up_ne (by omega)]; exact x5
  · rw [up_ne (by omega)]; exact x6
  · rw [up_ne (by omega)]; exact x7
  · rw [up_s]

