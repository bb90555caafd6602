/-! the reader: its own picture, and what its small methods do, exactly -/
def RV (τ : TY) (M0 M : ME) (j : Nat) (r : Nat) (p : Nat) (nx : Nat) (bk : Int32) (ba : Int32) (fl : Int32) (fa : Int32) : Prop := τ (j) = (4, 0) ∧ M (j) (0) = .ref (j + 1) ∧ M (j) (1) = .ref r ∧ M (j) (2) = .ref p ∧ M (j) (3) = .int (nI nx) ∧ M (j) (4) = .int bk ∧ M (j) (5) = .int ba ∧ M (j) (6) = .int fl ∧ M (j) (7) = .int fa ∧ Fr j (j + 1) M0 M
theorem RV.frame {τ : TY} {M0 M : ME} {j : Nat} {r : Nat} {p : Nat} {nx : Nat} {bk : Int32} {ba : Int32} {fl : Int32} {fa : Int32} (h : RV τ M0 M j r p nx bk ba fl fa) : Fr j (j + 1) M0 M := h.2.2.2.2.2.2.2.2.2
theorem RV.t_j {τ : TY} {M0 M : ME} {j : Nat} {r : Nat} {p : Nat} {nx : Nat} {bk : Int32} {ba : Int32} {fl : Int32} {fa : Int32} (h : RV τ M0 M j r p nx bk ba fl fa) : τ (j) = (4, 0) := h.1
theorem RV.g_tk {τ : TY} {M0 M : ME} {j : Nat} {r : Nat} {p : Nat} {nx : Nat} {bk : Int32} {ba : Int32} {fl : Int32} {fa : Int32} (h : RV τ M0 M j r p nx bk ba fl fa) : M (j) (0) = .ref (j + 1) := h.2.1
theorem RV.g_r {τ : TY} {M0 M : ME} {j : Nat} {r : Nat} {p : Nat} {nx : Nat} {bk : Int32} {ba : Int32} {fl : Int32} {fa : Int32} (h : RV τ M0 M j r p nx bk ba fl fa) : M (j) (1) = .ref r := h.2.2.1
theorem RV.g_p {τ : TY} {M0 M : ME} {j : Nat} {r : Nat} {p : Nat} {nx : Nat} {bk : Int32} {ba : Int32} {fl : Int32} {fa : Int32} (h : RV τ M0 M j r p nx bk ba fl fa) : M (j) (2) = .ref p := h.2.2.2.1
theorem RV.g_nx {τ : TY} {M0 M : ME} {j : Nat} {r : Nat} {p : Nat} {nx : Nat} {bk : Int32} {ba : Int32} {fl : Int32} {fa : Int32} (h : RV τ M0 M j r p nx bk ba fl fa) : M (j) (3) = .int (nI nx) := h.2.2.2.2.1
theorem RV.g_bk {τ : TY} {M0 M : ME} {j : Nat} {r : Nat} {p : Nat} {nx : Nat} {bk : Int32} {ba : Int32} {fl : Int32} {fa : Int32} (h : RV τ M0 M j r p nx bk ba fl fa) : M (j) (4) = .int bk := h.2.2.2.2.2.1
theorem RV.g_ba {τ : TY} {M0 M : ME} {j : Nat} {r : Nat} {p : Nat} {nx : Nat} {bk : Int32} {ba : Int32} {fl : Int32} {fa : Int32} (h : RV τ M0 M j r p nx bk ba fl fa) : M (j) (5) = .int ba := h.2.2.2.2.2.2.1
theorem RV.g_fl {τ : TY} {M0 M : ME} {j : Nat} {r : Nat} {p : Nat} {nx : Nat} {bk : Int32} {ba : Int32} {fl : Int32} {fa : Int32} (h : RV τ M0 M j r p nx bk ba fl fa) : M (j) (6) = .int fl := h.2.2.2.2.2.2.2.1
theorem RV.g_fa {τ : TY} {M0 M : ME} {j : Nat} {r : Nat} {p : Nat} {nx : Nat} {bk : Int32} {ba : Int32} {fl : Int32} {fa : Int32} (h : RV τ M0 M j r p nx bk ba fl fa) : M (j) (7) = .int fa := h.2.2.2.2.2.2.2.2.1
theorem RV.rf {τ : TY} {M0 M : ME} {j : Nat} {r : Nat} {p : Nat} {nx : Nat} {bk : Int32} {ba : Int32} {fl : Int32} {fa : Int32} (h : RV τ M0 M j r p nx bk ba fl fa) : RV τ M M j r p nx bk ba fl fa := by
  obtain ⟨x0, x1, x2, x3, x4, x5, x6, x7, x8, hF⟩ := h
  refine ⟨?_, ?_, ?_, ?_, ?_, ?_, ?_, ?_, ?_, Fr.rf _ _ _⟩
  · exact x0
  · exact x1
  · exact x2
  · exact x3
  · exact x4
  · exact x5
  · exact x6
  · exact x7
  · exact x8
theorem RV.bs {τ : TY} {M0 M : ME} {j : Nat} {r : Nat} {p : Nat} {nx : Nat} {bk : Int32} {ba : Int32} {fl : Int32} {fa : Int32} {M1 : ME} (h : RV τ M1 M j r p nx bk ba fl fa) (h2 : Fr j (j + 1) M0 M1) : RV τ M0 M j r p nx bk ba fl fa := by
  obtain ⟨x0, x1, x2, x3, x4, x5, x6, x7, x8, hF⟩ := h
  refine ⟨?_, ?_, ?_, ?_, ?_, ?_, ?_, ?_, ?_, h2.tr hF⟩
  · exact x0
  · exact x1
  · exact x2
  · exact x3
  · exact x4
  · exact x5
  · exact x6
  · exact x7
  · exact x8
theorem RV.fr {τ : TY} {M0 M : ME} {j : Nat} {r : Nat} {p : Nat} {nx : Nat} {bk : Int32} {ba : Int32} {fl : Int32} {fa : Int32} {M1 : ME} (h : RV τ M0 M j r p nx bk ba fl fa) (hf : ∀ q, j ≤ q → q < j + 1 → M1 q = M q) : RV τ M1 M1 j r p nx bk ba fl fa := by
  obtain ⟨x0, x1, x2, x3, x4, x5, x6, x7, x8, hF⟩ := h
  refine ⟨?_, ?_, ?_, ?_, ?_, ?_, ?_, ?_, ?_, Fr.rf _ _ _⟩
  · exact x0
  · rw [hf _ (by omega) (by omega)]; exact x1
  · rw [hf _ (by omega) (by omega)]; exact x2
  · rw [hf _ (by omega) (by omega)]; exact x3
  · rw [hf _ (by omega) (by omega)]; exact x4
  · rw [hf _ (by omega) (by omega)]; exact x5
  · rw [hf _ (by omega) (by omega)]; exact x6
  · rw [hf _ (by omega) (by omega)]; exact x7
  · rw [hf _ (by omega) (by omega)]; exact x8
theorem RV.tau {τ : TY} {M0 M : ME} {j : Nat} {r : Nat} {p : Nat} {nx : Nat} {bk : Int32} {ba : Int32} {fl : Int32} {fa : Int32} {τ' : TY} (h : RV τ M0 M j r p nx bk ba fl fa) (hf : ∀ q, j ≤ q → q < j + 1 → τ' q = τ q) : RV τ' M0 M j r p nx bk ba fl fa := by
  obtain ⟨x0, x1, x2, x3, x4, x5, x6, x7, x8, hF⟩ := h
  refine ⟨?_, ?_, ?_, ?_, ?_, ?_, ?_, ?_, ?_, hF⟩
  · rw [hf _ (by omega) (by omega)]; exact x0
  · exact x1
  · exact x2
  · exact x3
  · exact x4
  · exact x5
  · exact x6
  · exact x7
  · exact x8
theorem RV.mv {τ : TY} {M0 M : ME} {j : Nat} {r : Nat} {p : Nat} {nx : Nat} {bk : Int32} {ba : Int32} {fl : Int32} {fa : Int32} {M1 : ME} (h : RV τ M0 M j r p nx bk ba fl fa) (e : M1 = M) : RV τ M0 M1 j r p nx bk ba fl fa := by subst e; exact h
theorem RV.frU {τ : TY} {M0 M : ME} {j : Nat} {r : Nat} {p : Nat} {nx : Nat} {bk : Int32} {ba : Int32} {fl : Int32} {fa : Int32} {M1 : ME} {q k : Nat} {v : Value} (h : RV τ M0 M j r p nx bk ba fl fa) (e : M1 = up M q k v) (hd : q < j ∨ j + 1 ≤ q) : RV τ M1 M1 j r p nx bk ba fl fa := h.fr (fun b h1 h2 => by rw [e]; exact up_a (by omega))
theorem RV.nx {τ : TY} {M0 M : ME} {j : Nat} {r : Nat} {p : Nat} {nx : Nat} {bk : Int32} {ba : Int32} {fl : Int32} {fa : Int32} {M1 : ME} {lo hi : Nat} (h : RV τ M0 M j r p nx bk ba fl fa) (e : Fr lo hi M M1) (hd : hi ≤ j ∨ j + 1 ≤ lo) : RV τ M1 M1 j r p nx bk ba fl fa := h.fr (fun b h1 h2 => e b (by omega))
theorem RV.p_r {τ : TY} {M0 M : ME} {j : Nat} {r : Nat} {p : Nat} {nx : Nat} {bk : Int32} {ba : Int32} {fl : Int32} {fa : Int32} (h : RV τ M0 M j r p nx bk ba fl fa) {v : Nat} : RV τ M0 (up M (j) (1) (.ref v)) j v p nx bk ba fl fa := by
  obtain ⟨x0, x1, x2, x3, x4, x5, x6, x7, x8, hF⟩ := h
  refine ⟨?_, ?_, ?_, ?_, ?_, ?_, ?_, ?_, ?_, hF.up (by omega)⟩
  · exact x0
  · rw [up_ne (by omega)]; exact x1
  · rw [up_s]
  · rw [up_ne (by omega)]; exact x3
  · rw [up_ne (by omega)]; exact x4
  · rw [up_ne (by omega)]; exact x5
  · rw [up_ne (by omega)]; exact x6
  · rw [up_ne (by omega)]; exact x7
  · rw [up_ne (by omega)]; exact x8
theorem RV.p_p {τ : TY} {M0 M : ME} {j : Nat} {r : Nat} {p : Nat} {nx : Nat} {bk : Int32} {ba : Int32} {fl : Int32} {fa : Int32} (h : RV τ M0 M j r p nx bk ba fl fa) {v : Nat} : RV τ M0 (up M (j) (2) (.ref v)) j r v nx bk ba fl fa := by
  obtain ⟨x0, x1, x2, x3, x4, x5, x6, x7, x8, hF⟩ := h
  refine ⟨?_, ?_, ?_, ?_, ?_, ?_, ?_, ?_, ?_, hF.up (by omega)⟩
  · exact x0
  · rw [up_ne (by omega)]; exact x1
  · rw [up_ne (by omega)]; exact x2
  · rw [up_s]
  · rw [up_ne (by omega)]; exact x4
  · rw [up_ne (by omega)]; exact x5
  · rw [up_ne (by omega)]; exact x6
  · rw [up_ne (by omega)]; exact x7
  · rw [up_ne (by omega)]; exact x8
theorem RV.p_nx {τ : TY} {M0 M : ME} {j : Nat} {r : Nat} {p : Nat} {nx : Nat} {bk : Int32} {ba : Int32} {fl : Int32} {fa : Int32} (h : RV τ M0 M j r p nx bk ba fl fa) {n : Nat} {x : Int32} (hx : x = nI n) : RV τ M0 (up M (j) (3) (.int x)) j r p n bk ba fl fa := by
  obtain ⟨x0, x1, x2, x3, x4, x5, x6, x7, x8, hF⟩ := h
  refine ⟨?_, ?_, ?_, ?_, ?_, ?_, ?_, ?_, ?_, hF.up (by omega)⟩
  · exact x0
  · rw [up_ne (by omega)]; exact x1
  · rw [up_ne (by omega)]; exact x2
  · rw [up_ne (by omega)]; exact x3
  · rw [up_s, hx]
  · rw [up_ne (by omega)]; exact x5
  · rw [up_ne (by omega)]; exact x6
  · rw [up_ne (by omega)]; exact x7
  · rw [up_ne (by omega)]; exact x8
theorem RV.p_bk {τ : TY} {M0 M : ME} {j : Nat} {r : Nat} {p : Nat} {nx : Nat} {bk : Int32} {ba : Int32} {fl : Int32} {fa : Int32} (h : RV τ M0 M j r p nx bk ba fl fa) {v : Int32} : RV τ M0 (up M (j) (4) (.int v)) j r p nx v ba fl fa := by
  obtain ⟨x0, x1, x2, x3, x4, x5, x6, x7, x8, hF⟩ := h
  refine ⟨?_, ?_, ?_, ?_, ?_, ?_, ?_, ?_, ?_, hF.up (by omega)⟩
  · exact x0
  · rw [up_ne (by omega)]; exact x1
  · rw [up_ne (by omega)]; exact x2
  · rw [up_ne (by omega)]; exact x3
  · rw [up_ne (by omega)]; exact x4
  · rw [up_s]
  · rw [up_ne (by omega)]; exact x6
  · rw [up_ne (by omega)]; exact x7
  · rw [up_ne (by omega)]; exact x8
theorem RV.p_ba {τ : TY} {M0 M : ME} {j : Nat} {r : Nat} {p : Nat} {nx : Nat} {bk : Int32} {ba : Int32} {fl : Int32} {fa : Int32} (h : RV τ M0 M j r p nx bk ba fl fa) {v : Int32} : RV τ M0 (up M (j) (5) (.int v)) j r p nx bk v fl fa := by
  obtain ⟨x0, x1, x2, x3, x4, x5, x6, x7, x8, hF⟩ := h
  refine ⟨?_, ?_, ?_, ?_, ?_, ?_, ?_, ?_, ?_, hF.up (by omega)⟩
  · exact x0
  · rw [up_ne (by omega)]; exact x1
  · rw [up_ne (by omega)]; exact x2
  · rw [up_ne (by omega)]; exact x3
  · rw [up_ne (by omega)]; exact x4
  · rw [up_ne (by omega)]; exact x5
  · rw [up_s]
  · rw [up_ne (by omega)]; exact x7
  · rw [up_ne (by omega)]; exact x8
theorem RV.p_fl {τ : TY} {M0 M : ME} {j : Nat} {r : Nat} {p : Nat} {nx : Nat} {bk : Int32} {ba : Int32} {fl : Int32} {fa : Int32} (h : RV τ M0 M j r p nx bk ba fl fa) {v : Int32} : RV τ M0 (up M (j) (6) (.int v)) j r p nx bk ba v fa := by
  obtain ⟨x0, x1, x2, x3, x4, x5, x6, x7, x8, hF⟩ := h
  refine ⟨?_, ?_, ?_, ?_, ?_, ?_, ?_, ?_, ?_, hF.up (by omega)⟩
  · exact x0
  · rw [up_ne (by omega)]; exact x1
  · rw [up_ne (by omega)]; exact x2
  · rw [up_ne (by omega)]; exact x3
  · rw [up_ne (by omega)]; exact x4
  · rw [up_ne (by omega)]; exact x5
  · rw [up_ne (by omega)]; exact x6
  · rw [up_s]
  · rw [up_ne (by omega)]; exact x8
theorem RV.p_fa {τ : TY} {M0 M : ME} {j : Nat} {r : Nat} {p : Nat} {nx : Nat} {bk : Int32} {ba : Int32} {fl : Int32} {fa : Int32} (h : RV τ M0 M j r p nx bk ba fl fa) {v : Int32} : RV τ M0 (up M (j) (7) (.int v)) j r p nx bk ba fl v := by
  obtain ⟨x0, x1, x2, x3, x4, x5, x6, x7, x8, hF⟩ := h
  refine ⟨?_, ?_, ?_, ?_, ?_, ?_, ?_, ?_, ?_, hF.up (by omega)⟩
  · exact x0
  · rw [up_ne (by omega)]; exact x1
  · rw [up_ne (by omega)]; exact x2
  · rw [up_ne (by omega)]; exact x3
  · rw [up_ne (by omega)]; exact x4
  · rw [up_ne (by omega)]; exact x5
  · rw [up_ne (by omega)]; exact x6
  · rw [up_ne (by omega)]; exact x7
  · rw [up_s]
def skN (lt nx : Nat) : Nat := if nx < lt then nx + 1 else nx
def tkN' (K : Nat → Nat) (lt nx k : Nat) : Nat := if K nx = k then skN lt nx else lt
def bkF (bk : Int32) : Int32 := if bk = 0 then 1 else bk
def tkB (K : Nat → Nat) (nx k : Nat) (bk : Int32) : Int32 := if K nx = k then bk else bkF bk
def tkA (K : Nat → Nat) (S : Nat → Int32) (nx k : Nat) (bk ba : Int32) : Int32 := if K nx = k then ba else if bk = 0 then S nx else ba
/-- a flaw is noted; 0 for none -/
def nfE (fl x : Int32) : Int32 := if fl = 0 then x else fl
def nfA (fl fa x s : Int32) : Int32 := if fl = 0 ∧ ¬ x = 0 then s else fa
theorem nfE_0 (fl : Int32) : nfE fl 0 = fl := by unfold nfE; split <;> simp_all
theorem nfA_0 (fl fa s : Int32) : nfA fl fa 0 s = fa := by unfold nfA; rw [if_neg (fun q => q.2 rfl)]
/-- what is noted where a name is not found; where a number is out of its range -/
def ngE (v : Int32) : Int32 := if v = -1 then 3 else 0
def rgE (v : Int64) (lo hi : Int32) : Int32 := if v < lo.toInt64 ∨ hi.toInt64 < v then 5 else 0
theorem fdF_c (f : Nat → Int64) (x : Int64) : ∀ n, fdF f x n = -1 ∨ ∃ j, j < n ∧ fdF f x n = nI j ∧ f j = x
  | 0 => Or.inl rfl
  | n + 1 => by
    rw [fdF]
    rcases fdF_c f x n with h | ⟨j, h1, h2, h3⟩
    · rw [if_pos h]
      by_cases e : f n = x
      · rw [if_pos e]; exact Or.inr ⟨n, by omega, rfl, e⟩
      · rw [if_neg e]; exact Or.inl rfl
    · by_cases e : fdF f x n = -1
      · rw [if_pos e]
        by_cases e : f n = x
        · rw [if_pos e]; exact Or.inr ⟨n, by omega, rfl, e⟩
        · rw [if_neg e]; exact Or.inl rfl
      · rw [if_neg e]; exact Or.inr ⟨j, by omega, h2, h3⟩
theorem fdF_ng {f : Nat → Int64} {x : Int64} {n : Nat} (hn : n < 2 ^ 31) (h : 0 ≤ fdF f x n) : ngE (fdF f x n) = 0 := if_neg (fun e => by rw [e] at h; exact absurd h (by decide))
theorem fdF_ng3 {f : Nat → Int64} {x : Int64} {n : Nat} (hn : n < 2 ^ 31) (h : ¬ 0 ≤ fdF f x n) : ngE (fdF f x n) = 3 := if_pos ((fdF_c f x n).resolve_right (fun ⟨j, h1, h2, _⟩ => h (by rw [h2]; exact nI_pos2 (by omega))))
set_option maxHeartbeats 1000000 in
theorem c_X5_sign {l : Launch} {D : va_G} {cA : Nat → ClassId} {n0 : Nat} {sg adK adV : Nat → Nat} {sgA smA wdA bS LS : Nat} {xs : Nat → Int32} (hX : SF n0 (XW0 sg adK adV sgA smA wdA n0 bS LS xs)) {sz : Nat} {τ : TY} {N1 N2 M : ME} {j tp ln lt r p nx : Nat} {K : Nat → Nat} {S : Nat → Int32} {V : Nat → Int64} {bk ba fl fa : Int32} (hE : RV τ N1 M j r p nx bk ba fl fa) (hT : TM τ N2 M (j + 1) sg tp ln lt K S V) (hn : nx ≤ lt) (hl : lt ≤ 400) (hK : ∀ i, i ≤ lt → K i < 48) : CT l D cA n0 (XW0 sg adK adV sgA smA wdA n0 bS LS xs) mX5_sign 1 0 0 sz τ M [.ref j] (ROq (.ref (sg (K nx))) sz τ M) := by
  refine CT.of (ls := [.ref j]) (by decide) (Nat.le_of_ble_eq_true rfl) rfl ?_
  refine T_aload0 dX5_sign_0 rfl ?_
  refine g5_12 _ rfl (hE.t_j) (hE.g_tk) dX5_sign_1 rfl ?_
  refine g5_299 _ rfl (hT.t_t) (hT.g_sa) dX5_sign_4 rfl ?_
  refine T_aload0 dX5_sign_7 rfl ?_
  refine g5_26 _ rfl (hE.t_j) (hE.g_nx) dX5_sign_8 rfl ?_
  refine T_aald 7 _ (by decide) (hT.t_sa) rfl (by omega) (by decide) dX5_sign_11 rfl (hT.g_sg (by omega)) ?_
  refine T_aret rfl dX5_sign_12 ?_
  exact ⟨rfl, rfl, rfl, rfl⟩
set_option maxHeartbeats 1000000 in
theorem c_X5_value {l : Launch} {D : va_G} {cA : Nat → ClassId} {n0 : Nat} {sg adK adV : Nat → Nat} {sgA smA wdA bS LS : Nat} {xs : Nat → Int32} (hX : SF n0 (XW0 sg adK adV sgA smA wdA n0 bS LS xs)) {sz : Nat} {τ : TY} {N1 N2 M : ME} {j tp ln lt r p nx : Nat} {K : Nat → Nat} {S : Nat → Int32} {V : Nat → Int64} {bk ba fl fa : Int32} (hE : RV τ N1 M j r p nx bk ba fl fa) (hT : TM τ N2 M (j + 1) sg tp ln lt K S V) (hn : nx ≤ lt) (hl : lt ≤ 400) (hK : ∀ i, i ≤ lt → K i < 48) : CT l D cA n0 (XW0 sg adK adV sgA smA wdA n0 bS LS xs) mX5_value 1 0 0 sz τ M [.ref j] (ROq (.long (V nx)) sz τ M) := by
  refine CT.of (ls := [.ref j]) (by decide) (Nat.le_of_ble_eq_true rfl) rfl ?_
  refine T_aload0 dX5_value_0 rfl ?_
  refine g5_12 _ rfl (hE.t_j) (hE.g_tk) dX5_value_1 rfl ?_
  refine g5_303 _ rfl (hT.t_t) (hT.g_va) dX5_value_4 rfl ?_
  refine T_aload0 dX5_value_7 rfl ?_
  refine g5_26 _ rfl (hE.t_j) (hE.g_nx) dX5_value_8 rfl ?_
  refine T_lald _ (hT.t_va) rfl (by omega) (by decide) dX5_value_11 rfl (hT.g_vl (by omega)) ?_
  refine T_lret rfl dX5_value_12 ?_
  exact ⟨rfl, rfl, rfl, rfl⟩
set_option maxHeartbeats 1000000 in
theorem c_X5_skip {l : Launch} {D : va_G} {cA : Nat → ClassId} {n0 : Nat} {sg adK adV : Nat → Nat} {sgA smA wdA bS LS : Nat} {xs : Nat → Int32} (hX : SF n0 (XW0 sg adK adV sgA smA wdA n0 bS LS xs)) {sz : Nat} {τ : TY} {N1 N2 M : ME} {j tp ln lt r p nx : Nat} {K : Nat → Nat} {S : Nat → Int32} {V : Nat → Int64} {bk ba fl fa : Int32} (hE : RV τ N1 M j r p nx bk ba fl fa) (hT : TM τ N2 M (j + 1) sg tp ln lt K S V) (hn : nx ≤ lt) (hl : lt ≤ 400) (hK : ∀ i, i ≤ lt → K i < 48) : CT l D cA n0 (XW0 sg adK adV sgA smA wdA n0 bS LS xs) mX5_skip 1 0 0 sz τ M [.ref j] (MUq none sz τ (fun M' => RV τ M M' j r p (skN lt nx) (bk) (ba) (fl) (fa))) := by
  refine CT.of (ls := [.ref j]) (by decide) (Nat.le_of_ble_eq_true rfl) rfl ?_
  have hE := hE.rf
  refine T_aload0 dX5_skip_0 rfl ?_
  refine g5_26 _ rfl (hE.t_j) (hE.g_nx) dX5_skip_1 rfl ?_
  refine T_aload0 dX5_skip_4 rfl ?_
  refine g5_12 _ rfl (hE.t_j) (hE.g_tk) dX5_skip_5 rfl ?_
  refine g5_296 _ rfl (hT.t_t) (hT.g_lt) dX5_skip_8 rfl ?_
  refine T_icmp_ge 24 14 dX5_skip_11 (by decide) rfl (fun c11 => ?_) (fun c11 => ?_)
  ·
    have c11 := le_out rfl c11
    refine T_vret rfl dX5_skip_24 ?_
    refine ⟨rfl, rfl, rfl, ?_⟩
    unfold skN
    first | (rw [if_pos c11]; exact hE) | (rw [if_neg (Nat.not_lt.mpr c11)]; exact hE)
  ·
    have c11 := lt_in rfl c11
    refine T_aload0 dX5_skip_14 rfl ?_
    refine T_dup dX5_skip_15 rfl rfl ?_
    refine g5_26 _ rfl (hE.t_j) (hE.g_nx) dX5_skip_16 rfl ?_
    refine T_iconst (1) dX5_skip_19 rfl rfl ?_
    refine T_iadd dX5_skip_20 rfl ?_
    refine p5_26 rfl (hE.t_j) dX5_skip_21 rfl ?_
    refine T_nm (fun M1 e1 => ?_)
    have hE := RV.mv (hE.p_nx (n := nx + 1) (nI_1 nx)) e1
    have hT := hT.frU e1 (by omega)
    refine T_vret rfl dX5_skip_24 ?_
    refine ⟨rfl, rfl, rfl, ?_⟩
    unfold skN
    first | (rw [if_pos c11]; exact hE) | (rw [if_neg (Nat.not_lt.mpr c11)]; exact hE)
set_option maxHeartbeats 1000000 in
theorem c_X5_fail {l : Launch} {D : va_G} {cA : Nat → ClassId} {n0 : Nat} {sg adK adV : Nat → Nat} {sgA smA wdA bS LS : Nat} {xs : Nat → Int32} (hX : SF n0 (XW0 sg adK adV sgA smA wdA n0 bS LS xs)) {sz : Nat} {τ : TY} {N1 N2 M : ME} {j tp ln lt r p nx : Nat} {K : Nat → Nat} {S : Nat → Int32} {V : Nat → Int64} {bk ba fl fa : Int32} (hE : RV τ N1 M j r p nx bk ba fl fa) (hT : TM τ N2 M (j + 1) sg tp ln lt K S V) (hn : nx ≤ lt) (hl : lt ≤ 400) (hK : ∀ i, i ≤ lt → K i < 48) : CT l D cA n0 (XW0 sg adK adV sgA smA wdA n0 bS LS xs) mX5_fail 1 0 0 sz τ M [.ref j] (MUq none sz τ (fun M' => RV τ M M' j r p (lt) (bkF bk) (if bk = 0 then S nx else ba) (fl) (fa))) := by
  refine CT.of (ls := [.ref j]) (by decide) (Nat.le_of_ble_eq_true rfl) rfl ?_
  have hE := hE.rf
  refine T_aload0 dX5_fail_0 rfl ?_
  refine g5_30 _ rfl (hE.t_j) (hE.g_bk) dX5_fail_1 rfl ?_
  refine T_if_ne 28 7 dX5_fail_4 (by decide) rfl (fun c4 => ?_) (fun c4 => ?_)
  ·
    refine T_aload0 dX5_fail_28 rfl ?_
    refine T_aload0 dX5_fail_29 rfl ?_
    refine g5_12 _ rfl (hE.t_j) (hE.g_tk) dX5_fail_30 rfl ?_
    refine g5_296 _ rfl (hT.t_t) (hT.g_lt) dX5_fail_33 rfl ?_
    refine p5_26 rfl (hE.t_j) dX5_fail_36 rfl ?_
    refine T_nm (fun M1 e1 => ?_)
    have hE := RV.mv (hE.p_nx (n := lt) rfl) e1
    have hT := hT.frU e1 (by omega)
    refine T_vret rfl dX5_fail_39 ?_
    refine ⟨rfl, rfl, rfl, ?_⟩
    unfold bkF
    first | (rw [if_neg c4, if_neg c4]; exact hE) | (rw [if_pos (Decidable.not_not.mp c4), if_pos (Decidable.not_not.mp c4)]; exact hE) | (rw [if_pos c4, if_pos c4]; exact hE)
  ·
    refine T_aload0 dX5_fail_7 rfl ?_
    refine T_iconst (1) dX5_fail_8 rfl rfl ?_
    refine p5_30 (by first | exact Or.inl rfl | exact Or.inr rfl | assumption) rfl (hE.t_j) dX5_fail_9 rfl ?_
    refine T_nm (fun M2 e2 => ?_)
    have hE := RV.mv hE.p_bk e2
    have hT := hT.frU e2 (by omega)
    refine T_aload0 dX5_fail_12 rfl ?_
    refine T_aload0 dX5_fail_13 rfl ?_
    refine g5_12 _ rfl (hE.t_j) (hE.g_tk) dX5_fail_14 rfl ?_
    refine g5_293 _ rfl (hT.t_t) (hT.g_ta) dX5_fail_17 rfl ?_
    refine T_aload0 dX5_fail_20 rfl ?_
    refine g5_26 _ rfl (hE.t_j) (hE.g_nx) dX5_fail_21 rfl ?_
    refine T_iald _ (hT.t_ta) rfl (by omega) (by decide) dX5_fail_24 rfl (hT.g_st (by omega)) ?_
    refine p5_34 rfl (hE.t_j) dX5_fail_25 rfl ?_
    refine T_nm (fun M3 e3 => ?_)
    have hE := RV.mv hE.p_ba e3
    have hT := hT.frU e3 (by omega)
    refine T_aload0 dX5_fail_28 rfl ?_
    refine T_aload0 dX5_fail_29 rfl ?_
    refine g5_12 _ rfl (hE.t_j) (hE.g_tk) dX5_fail_30 rfl ?_
    refine g5_296 _ rfl (hT.t_t) (hT.g_lt) dX5_fail_33 rfl ?_
    refine p5_26 rfl (hE.t_j) dX5_fail_36 rfl ?_
    refine T_nm (fun M4 e4 => ?_)
    have hE := RV.mv (hE.p_nx (n := lt) rfl) e4
    have hT := hT.frU e4 (by omega)
    refine T_vret rfl dX5_fail_39 ?_
    refine ⟨rfl, rfl, rfl, ?_⟩
    unfold bkF
    first | (rw [if_neg c4, if_neg c4]; exact hE) | (rw [if_pos (Decidable.not_not.mp c4), if_pos (Decidable.not_not.mp c4)]; exact hE) | (rw [if_pos c4, if_pos c4]; exact hE)
set_option maxHeartbeats 1000000 in
theorem c_X5_noteFlaw {l : Launch} {D : va_G} {cA : Nat → ClassId} {n0 : Nat} {sg adK adV : Nat → Nat} {sgA smA wdA bS LS : Nat} {xs : Nat → Int32} (hX : SF n0 (XW0 sg adK adV sgA smA wdA n0 bS LS xs)) {sz : Nat} {τ : TY} {N1 N2 M : ME} {j tp ln lt r p nx : Nat} {K : Nat → Nat} {S : Nat → Int32} {V : Nat → Int64} {bk ba fl fa : Int32} (hE : RV τ N1 M j r p nx bk ba fl fa) (hT : TM τ N2 M (j + 1) sg tp ln lt K S V) (hn : nx ≤ lt) (hl : lt ≤ 400) (hK : ∀ i, i ≤ lt → K i < 48) (x : Int32) : CT l D cA n0 (XW0 sg adK adV sgA smA wdA n0 bS LS xs) mX5_noteFlaw 1 0 0 sz τ M [.ref j, .int x] (MUq none sz τ (fun M' => RV τ M M' j r p (nx) (bk) (ba) (nfE fl x) (if fl = 0 then S nx else fa))) := by
  refine CT.of (ls := [.ref j, .int x]) (by decide) (Nat.le_of_ble_eq_true rfl) rfl ?_
  have hE := hE.rf
  refine T_aload0 dX5_noteFlaw_0 rfl ?_
  refine g5_37 _ rfl (hE.t_j) (hE.g_fl) dX5_noteFlaw_1 rfl ?_
  refine T_if_ne 28 7 dX5_noteFlaw_4 (by decide) rfl (fun c4 => ?_) (fun c4 => ?_)
  ·
    refine T_vret rfl dX5_noteFlaw_28 ?_
    refine ⟨rfl, rfl, rfl, ?_⟩
    unfold nfE
    first | (rw [if_neg c4, if_neg c4]; exact hE) | (rw [if_pos (Decidable.not_not.mp c4), if_pos (Decidable.not_not.mp c4)]; exact hE) | (rw [if_pos c4, if_pos c4]; exact hE)
  ·
    refine T_aload0 dX5_noteFlaw_7 rfl ?_
    refine T_iload1 dX5_noteFlaw_8 rfl ?_
    refine p5_37 rfl (hE.t_j) dX5_noteFlaw_9 rfl ?_
    refine T_nm (fun M1 e1 => ?_)
    have hE := RV.mv hE.p_fl e1
    have hT := hT.frU e1 (by omega)
    refine T_aload0 dX5_noteFlaw_12 rfl ?_
    refine T_aload0 dX5_noteFlaw_13 rfl ?_
    refine g5_12 _ rfl (hE.t_j) (hE.g_tk) dX5_noteFlaw_14 rfl ?_
    refine g5_293 _ rfl (hT.t_t) (hT.g_ta) dX5_noteFlaw_17 rfl ?_
    refine T_aload0 dX5_noteFlaw_20 rfl ?_
    refine g5_26 _ rfl (hE.t_j) (hE.g_nx) dX5_noteFlaw_21 rfl ?_
    refine T_iald _ (hT.t_ta) rfl (by omega) (by decide) dX5_noteFlaw_24 rfl (hT.g_st (by omega)) ?_
    refine p5_40 rfl (hE.t_j) dX5_noteFlaw_25 rfl ?_
    refine T_nm (fun M2 e2 => ?_)
    have hE := RV.mv hE.p_fa e2
    have hT := hT.frU e2 (by omega)
    refine T_vret rfl dX5_noteFlaw_28 ?_
    refine ⟨rfl, rfl, rfl, ?_⟩
    unfold nfE
    first | (rw [if_neg c4, if_neg c4]; exact hE) | (rw [if_pos (Decidable.not_not.mp c4), if_pos (Decidable.not_not.mp c4)]; exact hE) | (rw [if_pos c4, if_pos c4]; exact hE)
set_option maxHeartbeats 1000000 in
theorem c_X5_take {l : Launch} {D : va_G} {cA : Nat → ClassId} {n0 : Nat} {sg adK adV : Nat → Nat} {sgA smA wdA bS LS : Nat} {xs : Nat → Int32} (hX : SF n0 (XW0 sg adK adV sgA smA wdA n0 bS LS xs)) {sz : Nat} {τ : TY} {N1 N2 M : ME} {j tp ln lt r p nx : Nat} {K : Nat → Nat} {S : Nat → Int32} {V : Nat → Int64} {bk ba fl fa : Int32} (hE : RV τ N1 M j r p nx bk ba fl fa) (hT : TM τ N2 M (j + 1) sg tp ln lt K S V) (hn : nx ≤ lt) (hl : lt ≤ 400) (hK : ∀ i, i ≤ lt → K i < 48) {k : Nat} (hk0 : k < 48) : CT l D cA n0 (XW0 sg adK adV sgA smA wdA n0 bS LS xs) mX5_take 2 0 0 sz τ M [.ref j, .ref (sg k)] (MUq none sz τ (fun M' => RV τ M M' j r p (tkN' K lt nx k) (tkB K nx k bk) (tkA K S nx k bk ba) (fl) (fa))) := by
  refine CT.of (ls := [.ref j, .ref (sg k)]) (by decide) (Nat.le_of_ble_eq_true rfl) rfl ?_
  have hE := hE.rf
  refine T_sginj (fun hinj => ?_)
  have hk := hK nx hn
  refine T_aload0 dX5_take_0 rfl ?_
  refine T_cV0 (c_X5_sign hX hE hT hn hl hK) hX k5_51 (Or.inl ⟨_, _, _, _, (hE.t_j), by decide, rfl⟩) (by decide) (Nat.le_of_ble_eq_true rfl) dX5_take_1 rfl ?_
  rintro _ _ _ _ ⟨rfl, rfl, rfl, rfl⟩
  refine T_aload1 dX5_take_4 rfl ?_
  refine T_acmp_ne 15 8 dX5_take_5 (by decide) rfl (fun c5 => ?_) (fun c5 => ?_)
  ·
    have c5 : ¬ K nx = k := fun q => c5 (by rw [q])
    refine T_aload0 dX5_take_15 rfl ?_
    refine T_cV0 (c_X5_fail hX hE hT hn hl hK) hX k5_86 (Or.inl ⟨_, _, _, _, (hE.t_j), by decide, rfl⟩) (by decide) (Nat.le_of_ble_eq_true rfl) dX5_take_16 rfl ?_
    rintro _ _ _ M9 ⟨rfl, rfl, rfl, hE9⟩
    have hT := hT.nx hE9.frame (by omega)
    have hE := hE9.bs hE.frame
    refine T_vret rfl dX5_take_19 ?_
    refine ⟨rfl, rfl, rfl, ?_⟩
    unfold tkN' tkB tkA
    first | (rw [if_pos c5, if_pos c5, if_pos c5]; exact hE) | (rw [if_neg c5, if_neg c5, if_neg c5]; exact hE)
  ·
    have c5 : K nx = k := hinj _ _ hk hk0 (Decidable.not_not.mp c5)
    refine T_aload0 dX5_take_8 rfl ?_
    refine T_cV0 (c_X5_skip hX hE hT hn hl hK) hX k5_104 (Or.inl ⟨_, _, _, _, (hE.t_j), by decide, rfl⟩) (by decide) (Nat.le_of_ble_eq_true rfl) dX5_take_9 rfl ?_
    rintro _ _ _ M9 ⟨rfl, rfl, rfl, hE9⟩
    have hT := hT.nx hE9.frame (by omega)
    have hE := hE9.bs hE.frame
    refine T_goto 19 dX5_take_12 (by decide) ?_
    refine T_vret rfl dX5_take_19 ?_
    refine ⟨rfl, rfl, rfl, ?_⟩
    unfold tkN' tkB tkA
    first | (rw [if_pos c5, if_pos c5, if_pos c5]; exact hE) | (rw [if_neg c5, if_neg c5, if_neg c5]; exact hE)
set_option maxHeartbeats 1000000 in
theorem c_X5_tryTake {l : Launch} {D : va_G} {cA : Nat → ClassId} {n0 : Nat} {sg adK adV : Nat → Nat} {sgA smA wdA bS LS : Nat} {xs : Nat → Int32} (hX : SF n0 (XW0 sg adK adV sgA smA wdA n0 bS LS xs)) {sz : Nat} {τ : TY} {N1 N2 M : ME} {j tp ln lt r p nx : Nat} {K : Nat → Nat} {S : Nat → Int32} {V : Nat → Int64} {bk ba fl fa : Int32} (hE : RV τ N1 M j r p nx bk ba fl fa) (hT : TM τ N2 M (j + 1) sg tp ln lt K S V) (hn : nx ≤ lt) (hl : lt ≤ 400) (hK : ∀ i, i ≤ lt → K i < 48) {k : Nat} (hk0 : k < 48) : CT l D cA n0 (XW0 sg adK adV sgA smA wdA n0 bS LS xs) mX5_tryTake 2 0 0 sz τ M [.ref j, .ref (sg k)] (MUq (some (.int (if K nx = k then 1 else 0))) sz τ (fun M' => RV τ M M' j r p (if K nx = k then skN lt nx else nx) (bk) (ba) (fl) (fa))) := by
  refine CT.of (ls := [.ref j, .ref (sg k)]) (by decide) (Nat.le_of_ble_eq_true rfl) rfl ?_
  have hE := hE.rf
  refine T_sginj (fun hinj => ?_)
  have hk := hK nx hn
  refine T_aload0 dX5_tryTake_0 rfl ?_
  refine T_cV0 (c_X5_sign hX hE hT hn hl hK) hX k5_51 (Or.inl ⟨_, _, _, _, (hE.t_j), by decide, rfl⟩) (by decide) (Nat.le_of_ble_eq_true rfl) dX5_tryTake_1 rfl ?_
  rintro _ _ _ _ ⟨rfl, rfl, rfl, rfl⟩
  refine T_aload1 dX5_tryTake_4 rfl ?_
  refine T_acmp_eq 10 8 dX5_tryTake_5 (by decide) rfl (fun c5 => ?_) (fun c5 => ?_)
  ·
    have c5 : K nx = k := hinj _ _ hk hk0 c5
    refine T_aload0 dX5_tryTake_10 rfl ?_
    refine T_cV0 (c_X5_skip hX hE hT hn hl hK) hX k5_104 (Or.inl ⟨_, _, _, _, (hE.t_j), by decide, rfl⟩) (by decide) (Nat.le_of_ble_eq_true rfl) dX5_tryTake_11 rfl ?_
    rintro _ _ _ M9 ⟨rfl, rfl, rfl, hE9⟩
    have hT := hT.nx hE9.frame (by omega)
    have hE := hE9.bs hE.frame
    refine T_iconst (1) dX5_tryTake_14 rfl rfl ?_
    refine T_iret rfl rfl dX5_tryTake_15 ?_
    first | (rw [if_pos c5, if_pos c5]; exact ⟨rfl, rfl, rfl, hE⟩) | (rw [if_neg c5, if_neg c5]; exact ⟨rfl, rfl, rfl, hE⟩)
  ·
    have c5 : ¬ K nx = k := fun q => c5 (by rw [q])
    refine T_iconst (0) dX5_tryTake_8 rfl rfl ?_
    refine T_iret rfl rfl dX5_tryTake_9 ?_
    first | (rw [if_pos c5, if_pos c5]; exact ⟨rfl, rfl, rfl, hE⟩) | (rw [if_neg c5, if_neg c5]; exact ⟨rfl, rfl, rfl, hE⟩)
theorem RV.note {τ : TY} {M0 M : ME} {j r p nx : Nat} {bk ba fl fa x s : Int32} (h : RV τ M0 M j r p nx bk ba (nfE fl x) (if fl = 0 then s else fa)) (hx : ¬ x = 0) : RV τ M0 M j r p nx bk ba (nfE fl x) (nfA fl fa x s) := by
  have e : nfA fl fa x s = if fl = 0 then s else fa := by
    unfold nfA
    by_cases q : fl = 0
    · rw [if_pos ⟨q, hx⟩, if_pos q]
    · rw [if_neg (fun z => q z.1), if_neg q]
  rw [e]; exact h
theorem RV.note0 {τ : TY} {M0 M : ME} {j r p nx : Nat} {bk ba fl fa x s : Int32} (h : RV τ M0 M j r p nx bk ba fl fa) (hx : x = 0) : RV τ M0 M j r p nx bk ba (nfE fl x) (nfA fl fa x s) := by rw [hx, nfE_0, nfA_0]; exact h
set_option maxHeartbeats 1000000 in
theorem c_X5_takeName {l : Launch} {D : va_G} {cA : Nat → ClassId} {n0 : Nat} {sg adK adV : Nat → Nat} {sgA smA wdA bS LS : Nat} {xs : Nat → Int32} (hX : SF n0 (XW0 sg adK adV sgA smA wdA n0 bS LS xs)) {sz : Nat} {τ : TY} {N1 N2 M : ME} {j tp ln lt r p nx : Nat} {K : Nat → Nat} {S : Nat → Int32} {V : Nat → Int64} {bk ba fl fa : Int32} (hE : RV τ N1 M j r p nx bk ba fl fa) (hT : TM τ N2 M (j + 1) sg tp ln lt K S V) (hn : nx ≤ lt) (hl : lt ≤ 400) (hK : ∀ i, i ≤ lt → K i < 48) : CT l D cA n0 (XW0 sg adK adV sgA smA wdA n0 bS LS xs) mX5_takeName 3 0 0 sz τ M [.ref j] (MUq (some (.long (V nx))) sz τ (fun M' => RV τ M M' j r p (tkN' K lt nx 43) (tkB K nx 43 bk) (tkA K S nx 43 bk ba) (fl) (fa))) := by
  refine CT.of (ls := [.ref j, UU, UU]) (by decide) (Nat.le_of_ble_eq_true rfl) rfl ?_
  have hE := hE.rf
  refine T_aload0 dX5_takeName_0 rfl ?_
  refine T_cV0 (c_X5_value hX hE hT hn hl hK) hX k5_107 (Or.inl ⟨_, _, _, _, (hE.t_j), by decide, rfl⟩) (by decide) (Nat.le_of_ble_eq_true rfl) dX5_takeName_1 rfl ?_
  rintro _ _ _ _ ⟨rfl, rfl, rfl, rfl⟩
  refine T_lstore1 rfl (by decide) dX5_takeName_4 rfl ?_
  refine T_aload0 dX5_takeName_5 rfl ?_
  refine T_sgn (i := 43) (by decide) ks5_287 dX5_takeName_6 rfl ?_
  refine T_cV1 (c_X5_take hX hE hT hn hl hK (by decide)) hX k5_92 (Or.inl ⟨_, _, _, _, (hE.t_j), by decide, rfl⟩) (by decide) (Nat.le_of_ble_eq_true rfl) dX5_takeName_9 rfl ?_
  rintro _ _ _ M9 ⟨rfl, rfl, rfl, hE9⟩
  have hT := hT.nx hE9.frame (by omega)
  have hE := hE9.bs hE.frame
  refine T_lload1 dX5_takeName_12 rfl ?_
  refine T_lret rfl dX5_takeName_13 ?_
  exact ⟨rfl, rfl, rfl, hE⟩
set_option maxHeartbeats 1000000 in
theorem c_X5_checkNew {l : Launch} {D : va_G} {cA : Nat → ClassId} {n0 : Nat} {sg adK adV : Nat → Nat} {sgA smA wdA bS LS : Nat} {xs : Nat → Int32} (hX : SF n0 (XW0 sg adK adV sgA smA wdA n0 bS LS xs)) {sz : Nat} {τ : TY} {N1 N2 M : ME} {j tp ln lt r p nx : Nat} {K : Nat → Nat} {S : Nat → Int32} {V : Nat → Int64} {bk ba fl fa : Int32} (hE : RV τ N1 M j r p nx bk ba fl fa) (hT : TM τ N2 M (j + 1) sg tp ln lt K S V) (hn : nx ≤ lt) (hl : lt ≤ 400) (hK : ∀ i, i ≤ lt → K i < 48) {x y : Int32} (hx : b01 x) (hy : b01 y) : CT l D cA n0 (XW0 sg adK adV sgA smA wdA n0 bS LS xs) mX5_checkNew 2 0 0 sz τ M [.ref j, .int x, .int y] (MUq none sz τ (fun M' => RV τ M M' j r p (nx) (bk) (ba) (nfE fl (if x = 0 then (if y = 0 then 0 else 4) else 2)) (nfA fl fa (if x = 0 then (if y = 0 then 0 else 4) else 2) (S nx)))) := by
  refine CT.of (ls := [.ref j, .int x, .int y]) (by decide) (Nat.le_of_ble_eq_true rfl) rfl ?_
  have hE := hE.rf
  refine T_iload1 dX5_checkNew_0 rfl ?_
  refine T_if_eq 12 4 dX5_checkNew_1 (by decide) rfl (fun c1 => ?_) (fun c1 => ?_)
  ·
    refine T_iload2 dX5_checkNew_12 rfl ?_
    refine T_if_eq 21 16 dX5_checkNew_13 (by decide) rfl (fun c13 => ?_) (fun c13 => ?_)
    ·
      refine T_vret rfl dX5_checkNew_21 ?_
      refine ⟨rfl, rfl, rfl, ?_⟩
      first | (rw [if_pos c1, if_pos c13]; exact hE.note0 rfl) | (rw [if_pos c1, if_neg c13]; exact hE.note (by decide)) | (rw [if_neg c1]; exact hE.note (by decide))
    ·
      refine T_aload0 dX5_checkNew_16 rfl ?_
      refine T_iconst (4) dX5_checkNew_17 rfl rfl ?_
      refine T_cV1 (c_X5_noteFlaw hX hE hT hn hl hK _) hX k5_284 (Or.inl ⟨_, _, _, _, (hE.t_j), by decide, rfl⟩) (by decide) (Nat.le_of_ble_eq_true rfl) dX5_checkNew_18 rfl ?_
      rintro _ _ _ M9 ⟨rfl, rfl, rfl, hE9⟩
      have hT := hT.nx hE9.frame (by omega)
      have hE := hE9.bs hE.frame
      refine T_vret rfl dX5_checkNew_21 ?_
      refine ⟨rfl, rfl, rfl, ?_⟩
      first | (rw [if_pos c1, if_pos c13]; exact hE.note0 rfl) | (rw [if_pos c1, if_neg c13]; exact hE.note (by decide)) | (rw [if_neg c1]; exact hE.note (by decide))
  ·
    refine T_aload0 dX5_checkNew_4 rfl ?_
    refine T_iconst (2) dX5_checkNew_5 rfl rfl ?_
    refine T_cV1 (c_X5_noteFlaw hX hE hT hn hl hK _) hX k5_284 (Or.inl ⟨_, _, _, _, (hE.t_j), by decide, rfl⟩) (by decide) (Nat.le_of_ble_eq_true rfl) dX5_checkNew_6 rfl ?_
    rintro _ _ _ M9 ⟨rfl, rfl, rfl, hE9⟩
    have hT := hT.nx hE9.frame (by omega)
    have hE := hE9.bs hE.frame
    refine T_goto 21 dX5_checkNew_9 (by decide) ?_
    refine T_vret rfl dX5_checkNew_21 ?_
    refine ⟨rfl, rfl, rfl, ?_⟩
    first | (rw [if_pos c1, if_pos c13]; exact hE.note0 rfl) | (rw [if_pos c1, if_neg c13]; exact hE.note (by decide)) | (rw [if_neg c1]; exact hE.note (by decide))
set_option maxHeartbeats 1000000 in
theorem c_X5_goesDeeper {l : Launch} {D : va_G} {cA : Nat → ClassId} {n0 : Nat} {sg adK adV : Nat → Nat} {sgA smA wdA bS LS : Nat} {xs : Nat → Int32} (hX : SF n0 (XW0 sg adK adV sgA smA wdA n0 bS LS xs)) {sz : Nat} {τ : TY} {N1 N2 M : ME} {j tp ln lt r p nx : Nat} {K : Nat → Nat} {S : Nat → Int32} {V : Nat → Int64} {bk ba fl fa : Int32} (hE : RV τ N1 M j r p nx bk ba fl fa) (hT : TM τ N2 M (j + 1) sg tp ln lt K S V) (hn : nx ≤ lt) (hl : lt ≤ 400) (hK : ∀ i, i ≤ lt → K i < 48) {dp : Nat} (hd : dp ≤ 8) : CT l D cA n0 (XW0 sg adK adV sgA smA wdA n0 bS LS xs) mX5_goesDeeper 2 0 0 sz τ M [.ref j, .int (nI dp)] (MUq (some (.int (if dp < 8 then 1 else 0))) sz τ (fun M' => RV τ M M' j r p (if dp < 8 then skN lt nx else lt) (if dp < 8 then bk else bkF bk) (if dp < 8 then ba else if bk = 0 then S nx else ba) (fl) (fa))) := by
  refine CT.of (ls := [.ref j, .int (nI dp)]) (by decide) (Nat.le_of_ble_eq_true rfl) rfl ?_
  have hE := hE.rf
  refine T_iload1 dX5_goesDeeper_0 rfl ?_
  refine T_bipush (8) dX5_goesDeeper_1 rfl rfl ?_
  refine T_icmp_lt 12 6 dX5_goesDeeper_3 (by decide) rfl (fun c3 => ?_) (fun c3 => ?_)
  ·
    have c3 : dp < 8 := Nat.lt_of_not_le (fun q => Int32.not_le.mpr c3 ((nI_leI (a := 8) (b := dp) (by omega) (by omega)).mpr q))
    refine T_aload0 dX5_goesDeeper_12 rfl ?_
    refine T_cV0 (c_X5_skip hX hE hT hn hl hK) hX k5_104 (Or.inl ⟨_, _, _, _, (hE.t_j), by decide, rfl⟩) (by decide) (Nat.le_of_ble_eq_true rfl) dX5_goesDeeper_13 rfl ?_
    rintro _ _ _ M9 ⟨rfl, rfl, rfl, hE9⟩
    have hT := hT.nx hE9.frame (by omega)
    have hE := hE9.bs hE.frame
    refine T_iconst (1) dX5_goesDeeper_16 rfl rfl ?_
    refine T_iret rfl rfl dX5_goesDeeper_17 ?_
    first | (rw [if_pos c3, if_pos c3, if_pos c3, if_pos c3]; exact ⟨rfl, rfl, rfl, hE⟩) | (rw [if_neg c3, if_neg c3, if_neg c3, if_neg c3]; exact ⟨rfl, rfl, rfl, hE⟩)
  ·
    have c3 : ¬ dp < 8 := fun q => c3 (nI_lt (b := 8) q (by omega))
    refine T_aload0 dX5_goesDeeper_6 rfl ?_
    refine T_cV0 (c_X5_fail hX hE hT hn hl hK) hX k5_86 (Or.inl ⟨_, _, _, _, (hE.t_j), by decide, rfl⟩) (by decide) (Nat.le_of_ble_eq_true rfl) dX5_goesDeeper_7 rfl ?_
    rintro _ _ _ M9 ⟨rfl, rfl, rfl, hE9⟩
    have hT := hT.nx hE9.frame (by omega)
    have hE := hE9.bs hE.frame
    refine T_iconst (0) dX5_goesDeeper_10 rfl rfl ?_
    refine T_iret rfl rfl dX5_goesDeeper_11 ?_
    first | (rw [if_pos c3, if_pos c3, if_pos c3, if_pos c3]; exact ⟨rfl, rfl, rfl, hE⟩) | (rw [if_neg c3, if_neg c3, if_neg c3, if_neg c3]; exact ⟨rfl, rfl, rfl, hE⟩)
set_option maxHeartbeats 1000000 in
theorem c_X5_takeHorse {l : Launch} {D : va_G} {cA : Nat → ClassId} {n0 : Nat} {sg adK adV : Nat → Nat} {sgA smA wdA bS LS : Nat} {xs : Nat → Int32} (hX : SF n0 (XW0 sg adK adV sgA smA wdA n0 bS LS xs)) {sz : Nat} {τ : TY} {N1 N2 M : ME} {j tp ln lt r p nx : Nat} {K : Nat → Nat} {S : Nat → Int32} {V : Nat → Int64} {bk ba fl fa : Int32} (hE : RV τ N1 M j r p nx bk ba fl fa) (hT : TM τ N2 M (j + 1) sg tp ln lt K S V) (hn : nx ≤ lt) (hl : lt ≤ 400) (hK : ∀ i, i ≤ lt → K i < 48) {N3 : ME} {a b c : Nat} {ρ : RH} {ν : NU} (hR : LM τ N3 M r a b c ρ ν) (hd : j + 1 ≤ r ∨ r + 38 ≤ j) : CT l D cA n0 (XW0 sg adK adV sgA smA wdA n0 bS LS xs) mX5_takeHorse 3 0 0 sz τ M [.ref j] (MUq (some (.int (fdF (ν 1) (V nx) b))) sz τ (fun M' => RV τ M M' j r p (tkN' K lt nx 43) (tkB K nx 43 bk) (tkA K S nx 43 bk ba) (nfE fl (ngE (fdF (ν 1) (V nx) b))) (nfA fl fa (ngE (fdF (ν 1) (V nx) b)) (S nx)))) := by
  refine CT.of (ls := [.ref j, UU]) (by decide) (Nat.le_of_ble_eq_true rfl) rfl ?_
  have hE := hE.rf
  obtain ⟨la, lb, lc⟩ := hR.ok
  refine T_aload0 dX5_takeHorse_0 rfl ?_
  refine g5_18 _ rfl (hE.t_j) (hE.g_r) dX5_takeHorse_1 rfl ?_
  refine T_aload0 dX5_takeHorse_4 rfl ?_
  refine T_cV0 (c_X5_value hX hE hT hn hl hK) hX k5_107 (Or.inl ⟨_, _, _, _, (hE.t_j), by decide, rfl⟩) (by decide) (Nat.le_of_ble_eq_true rfl) dX5_takeHorse_5 rfl ?_
  rintro _ _ _ _ ⟨rfl, rfl, rfl, rfl⟩
  refine T_cV1 (c_X6_findHorse hX hR _) hX k5_149 (Or.inl ⟨_, _, _, _, hR.t, by decide, rfl⟩) (by decide) (Nat.le_of_ble_eq_true rfl) dX5_takeHorse_8 rfl ?_
  rintro _ _ _ _ ⟨rfl, rfl, rfl, rfl⟩
  refine T_istore1 rfl (by decide) dX5_takeHorse_11 rfl ?_
  refine T_iload1 dX5_takeHorse_12 rfl ?_
  refine T_if_ge 21 16 dX5_takeHorse_13 (by decide) rfl (fun c13 => ?_) (fun c13 => ?_)
  ·
    have hE := hE.note0 (x := ngE (fdF (ν 1) (V nx) b)) (s := S nx) (fdF_ng (by omega) (Int32.not_lt.mp (fun q => Int32.not_le.mpr q c13)))
    refine T_aload0 dX5_takeHorse_21 rfl ?_
    refine T_sgn (i := 43) (by decide) ks5_287 dX5_takeHorse_22 rfl ?_
    refine T_cV1 (c_X5_take hX hE hT hn hl hK (by decide)) hX k5_92 (Or.inl ⟨_, _, _, _, (hE.t_j), by decide, rfl⟩) (by decide) (Nat.le_of_ble_eq_true rfl) dX5_takeHorse_25 rfl ?_
    rintro _ _ _ M9 ⟨rfl, rfl, rfl, hE9⟩
    have hT := hT.nx hE9.frame (by omega)
    have hE := hE9.bs hE.frame
    refine T_iload1 dX5_takeHorse_28 rfl ?_
    refine T_iret rfl rfl dX5_takeHorse_29 ?_
    exact ⟨rfl, rfl, rfl, hE⟩
  ·
    have c13 := fdF_ng3 (f := (ν 1)) (x := V nx) (n := b) (by omega) c13
    refine T_aload0 dX5_takeHorse_16 rfl ?_
    refine T_iconst (3) dX5_takeHorse_17 rfl rfl ?_
    refine T_cV1 (c_X5_noteFlaw hX hE hT hn hl hK _) hX k5_284 (Or.inl ⟨_, _, _, _, (hE.t_j), by decide, rfl⟩) (by decide) (Nat.le_of_ble_eq_true rfl) dX5_takeHorse_18 rfl ?_
    rintro _ _ _ M9 ⟨rfl, rfl, rfl, hE9⟩
    have hT := hT.nx hE9.frame (by omega)
    have hE := hE9.bs hE.frame
    rw [← c13] at hE
    have hE := hE.note (by rw [c13]; decide)
    refine T_aload0 dX5_takeHorse_21 rfl ?_
    refine T_sgn (i := 43) (by decide) ks5_287 dX5_takeHorse_22 rfl ?_
    refine T_cV1 (c_X5_take hX hE hT hn hl hK (by decide)) hX k5_92 (Or.inl ⟨_, _, _, _, (hE.t_j), by decide, rfl⟩) (by decide) (Nat.le_of_ble_eq_true rfl) dX5_takeHorse_25 rfl ?_
    rintro _ _ _ M9 ⟨rfl, rfl, rfl, hE9⟩
    have hT := hT.nx hE9.frame (by omega)
    have hE := hE9.bs hE.frame
    refine T_iload1 dX5_takeHorse_28 rfl ?_
    refine T_iret rfl rfl dX5_takeHorse_29 ?_
    exact ⟨rfl, rfl, rfl, hE⟩
set_option maxHeartbeats 1000000 in
theorem c_X5_takeStretch {l : Launch} {D : va_G} {cA : Nat → ClassId} {n0 : Nat} {sg adK adV : Nat → Nat} {sgA smA wdA bS LS : Nat} {xs : Nat → Int32} (hX : SF n0 (XW0 sg adK adV sgA smA wdA n0 bS LS xs)) {sz : Nat} {τ : TY} {N1 N2 M : ME} {j tp ln lt r p nx : Nat} {K : Nat → Nat} {S : Nat → Int32} {V : Nat → Int64} {bk ba fl fa : Int32} (hE : RV τ N1 M j r p nx bk ba fl fa) (hT : TM τ N2 M (j + 1) sg tp ln lt K S V) (hn : nx ≤ lt) (hl : lt ≤ 400) (hK : ∀ i, i ≤ lt → K i < 48) {N3 : ME} {a b c : Nat} {ρ : RH} {ν : NU} (hR : LM τ N3 M r a b c ρ ν) (hd : j + 1 ≤ r ∨ r + 38 ≤ j) : CT l D cA n0 (XW0 sg adK adV sgA smA wdA n0 bS LS xs) mX5_takeStretch 3 0 0 sz τ M [.ref j] (MUq (some (.int (fdF (ν 4) (V nx) a))) sz τ (fun M' => RV τ M M' j r p (tkN' K lt nx 43) (tkB K nx 43 bk) (tkA K S nx 43 bk ba) (nfE fl (ngE (fdF (ν 4) (V nx) a))) (nfA fl fa (ngE (fdF (ν 4) (V nx) a)) (S nx)))) := by
  refine CT.of (ls := [.ref j, UU]) (by decide) (Nat.le_of_ble_eq_true rfl) rfl ?_
  have hE := hE.rf
  obtain ⟨la, lb, lc⟩ := hR.ok
  refine T_aload0 dX5_takeStretch_0 rfl ?_
  refine g5_18 _ rfl (hE.t_j) (hE.g_r) dX5_takeStretch_1 rfl ?_
  refine T_aload0 dX5_takeStretch_4 rfl ?_
  refine T_cV0 (c_X5_value hX hE hT hn hl hK) hX k5_107 (Or.inl ⟨_, _, _, _, (hE.t_j), by decide, rfl⟩) (by decide) (Nat.le_of_ble_eq_true rfl) dX5_takeStretch_5 rfl ?_
  rintro _ _ _ _ ⟨rfl, rfl, rfl, rfl⟩
  refine T_cV1 (c_X6_findStretch hX hR _) hX k5_111 (Or.inl ⟨_, _, _, _, hR.t, by decide, rfl⟩) (by decide) (Nat.le_of_ble_eq_true rfl) dX5_takeStretch_8 rfl ?_
  rintro _ _ _ _ ⟨rfl, rfl, rfl, rfl⟩
  refine T_istore1 rfl (by decide) dX5_takeStretch_11 rfl ?_
  refine T_iload1 dX5_takeStretch_12 rfl ?_
  refine T_if_ge 21 16 dX5_takeStretch_13 (by decide) rfl (fun c13 => ?_) (fun c13 => ?_)
  ·
    have hE := hE.note0 (x := ngE (fdF (ν 4) (V nx) a)) (s := S nx) (fdF_ng (by omega) (Int32.not_lt.mp (fun q => Int32.not_le.mpr q c13)))
    refine T_aload0 dX5_takeStretch_21 rfl ?_
    refine T_sgn (i := 43) (by decide) ks5_287 dX5_takeStretch_22 rfl ?_
    refine T_cV1 (c_X5_take hX hE hT hn hl hK (by decide)) hX k5_92 (Or.inl ⟨_, _, _, _, (hE.t_j), by decide, rfl⟩) (by decide) (Nat.le_of_ble_eq_true rfl) dX5_takeStretch_25 rfl ?_
    rintro _ _ _ M9 ⟨rfl, rfl, rfl, hE9⟩
    have hT := hT.nx hE9.frame (by omega)
    have hE := hE9.bs hE.frame
    refine T_iload1 dX5_takeStretch_28 rfl ?_
    refine T_iret rfl rfl dX5_takeStretch_29 ?_
    exact ⟨rfl, rfl, rfl, hE⟩
  ·
    have c13 := fdF_ng3 (f := (ν 4)) (x := V nx) (n := a) (by omega) c13
    refine T_aload0 dX5_takeStretch_16 rfl ?_
    refine T_iconst (3) dX5_takeStretch_17 rfl rfl ?_
    refine T_cV1 (c_X5_noteFlaw hX hE hT hn hl hK _) hX k5_284 (Or.inl ⟨_, _, _, _, (hE.t_j), by decide, rfl⟩) (by decide) (Nat.le_of_ble_eq_true rfl) dX5_takeStretch_18 rfl ?_
    rintro _ _ _ M9 ⟨rfl, rfl, rfl, hE9⟩
    have hT := hT.nx hE9.frame (by omega)
    have hE := hE9.bs hE.frame
    rw [← c13] at hE
    have hE := hE.note (by rw [c13]; decide)
    refine T_aload0 dX5_takeStretch_21 rfl ?_
    refine T_sgn (i := 43) (by decide) ks5_287 dX5_takeStretch_22 rfl ?_
    refine T_cV1 (c_X5_take hX hE hT hn hl hK (by decide)) hX k5_92 (Or.inl ⟨_, _, _, _, (hE.t_j), by decide, rfl⟩) (by decide) (Nat.le_of_ble_eq_true rfl) dX5_takeStretch_25 rfl ?_
    rintro _ _ _ M9 ⟨rfl, rfl, rfl, hE9⟩
    have hT := hT.nx hE9.frame (by omega)
    have hE := hE9.bs hE.frame
    refine T_iload1 dX5_takeStretch_28 rfl ?_
    refine T_iret rfl rfl dX5_takeStretch_29 ?_
    exact ⟨rfl, rfl, rfl, hE⟩
set_option maxHeartbeats 1000000 in
theorem c_X5_takeNumber {l : Launch} {D : va_G} {cA : Nat → ClassId} {n0 : Nat} {sg adK adV : Nat → Nat} {sgA smA wdA bS LS : Nat} {xs : Nat → Int32} (hX : SF n0 (XW0 sg adK adV sgA smA wdA n0 bS LS xs)) {sz : Nat} {τ : TY} {N1 N2 M : ME} {j tp ln lt r p nx : Nat} {K : Nat → Nat} {S : Nat → Int32} {V : Nat → Int64} {bk ba fl fa : Int32} (hE : RV τ N1 M j r p nx bk ba fl fa) (hT : TM τ N2 M (j + 1) sg tp ln lt K S V) (hn : nx ≤ lt) (hl : lt ≤ 400) (hK : ∀ i, i ≤ lt → K i < 48) (x y : Int32) : CT l D cA n0 (XW0 sg adK adV sgA smA wdA n0 bS LS xs) mX5_takeNumber 3 0 0 sz τ M [.ref j, .int x, .int y] (MUq (some (.int (V nx).toInt32)) sz τ (fun M' => RV τ M M' j r p (tkN' K lt nx 44) (tkB K nx 44 bk) (tkA K S nx 44 bk ba) (nfE fl (rgE (V nx) x y)) (nfA fl fa (rgE (V nx) x y) (S nx)))) := by
  refine CT.of (ls := [.ref j, .int x, .int y, UU, UU]) (by decide) (Nat.le_of_ble_eq_true rfl) rfl ?_
  have hE := hE.rf
  refine T_aload0 dX5_takeNumber_0 rfl ?_
  refine T_cV0 (c_X5_value hX hE hT hn hl hK) hX k5_107 (Or.inl ⟨_, _, _, _, (hE.t_j), by decide, rfl⟩) (by decide) (Nat.le_of_ble_eq_true rfl) dX5_takeNumber_1 rfl ?_
  rintro _ _ _ _ ⟨rfl, rfl, rfl, rfl⟩
  refine T_lstore3 rfl (by decide) dX5_takeNumber_4 rfl ?_
  refine T_lload3 dX5_takeNumber_5 rfl ?_
  refine T_iload1 dX5_takeNumber_6 rfl ?_
  refine T_i2l dX5_takeNumber_7 rfl ?_
  refine T_lcmp dX5_takeNumber_8 rfl ?_
  refine T_if_lt 19 12 dX5_takeNumber_9 (by decide) rfl (fun c9 => ?_) (fun c9 => ?_)
  ·
    have c9 := (lg_cmp_lt _ _).mp c9
    have cx : rgE (V nx) x y = 5 := if_pos (Or.inl c9)
    refine T_aload0 dX5_takeNumber_19 rfl ?_
    refine T_iconst (5) dX5_takeNumber_20 rfl rfl ?_
    refine T_cV1 (c_X5_noteFlaw hX hE hT hn hl hK _) hX k5_284 (Or.inl ⟨_, _, _, _, (hE.t_j), by decide, rfl⟩) (by decide) (Nat.le_of_ble_eq_true rfl) dX5_takeNumber_21 rfl ?_
    rintro _ _ _ M9 ⟨rfl, rfl, rfl, hE9⟩
    have hT := hT.nx hE9.frame (by omega)
    have hE := hE9.bs hE.frame
    rw [← cx] at hE
    have hE := hE.note (by rw [cx]; decide)
    refine T_aload0 dX5_takeNumber_24 rfl ?_
    refine T_sgn (i := 44) (by decide) ks5_290 dX5_takeNumber_25 rfl ?_
    refine T_cV1 (c_X5_take hX hE hT hn hl hK (by decide)) hX k5_92 (Or.inl ⟨_, _, _, _, (hE.t_j), by decide, rfl⟩) (by decide) (Nat.le_of_ble_eq_true rfl) dX5_takeNumber_28 rfl ?_
    rintro _ _ _ M9 ⟨rfl, rfl, rfl, hE9⟩
    have hT := hT.nx hE9.frame (by omega)
    have hE := hE9.bs hE.frame
    refine T_lload3 dX5_takeNumber_31 rfl ?_
    refine T_l2i dX5_takeNumber_32 rfl ?_
    refine T_iret rfl rfl dX5_takeNumber_33 ?_
    exact ⟨rfl, rfl, rfl, hE⟩
  ·
    have c9 : ¬ V nx < x.toInt64 := fun q => c9 ((lg_cmp_lt _ _).mpr q)
    refine T_lload3 dX5_takeNumber_12 rfl ?_
    refine T_iload2 dX5_takeNumber_13 rfl ?_
    refine T_i2l dX5_takeNumber_14 rfl ?_
    refine T_lcmp dX5_takeNumber_15 rfl ?_
    refine T_if_le 24 19 dX5_takeNumber_16 (by decide) rfl (fun c16 => ?_) (fun c16 => ?_)
    ·
      have c16 := (lg_cmp_le _ _).mp c16
      have cx : rgE (V nx) x y = 0 := if_neg (fun q => q.elim c9 (fun z => Int64.not_lt.mpr c16 z))
      have hE := hE.note0 (x := rgE (V nx) x y) (s := S nx) cx
      refine T_aload0 dX5_takeNumber_24 rfl ?_
      refine T_sgn (i := 44) (by decide) ks5_290 dX5_takeNumber_25 rfl ?_
      refine T_cV1 (c_X5_take hX hE hT hn hl hK (by decide)) hX k5_92 (Or.inl ⟨_, _, _, _, (hE.t_j), by decide, rfl⟩) (by decide) (Nat.le_of_ble_eq_true rfl) dX5_takeNumber_28 rfl ?_
      rintro _ _ _ M9 ⟨rfl, rfl, rfl, hE9⟩
      have hT := hT.nx hE9.frame (by omega)
      have hE := hE9.bs hE.frame
      refine T_lload3 dX5_takeNumber_31 rfl ?_
      refine T_l2i dX5_takeNumber_32 rfl ?_
      refine T_iret rfl rfl dX5_takeNumber_33 ?_
      exact ⟨rfl, rfl, rfl, hE⟩
    ·
      have c16 : y.toInt64 < V nx := Int64.not_le.mp (fun q => c16 ((lg_cmp_le _ _).mpr q))
      have cx : rgE (V nx) x y = 5 := if_pos (Or.inr c16)
      refine T_aload0 dX5_takeNumber_19 rfl ?_
      refine T_iconst (5) dX5_takeNumber_20 rfl rfl ?_
      refine T_cV1 (c_X5_noteFlaw hX hE hT hn hl hK _) hX k5_284 (Or.inl ⟨_, _, _, _, (hE.t_j), by decide, rfl⟩) (by decide) (Nat.le_of_ble_eq_true rfl) dX5_takeNumber_21 rfl ?_
      rintro _ _ _ M9 ⟨rfl, rfl, rfl, hE9⟩
      have hT := hT.nx hE9.frame (by omega)
      have hE := hE9.bs hE.frame
      rw [← cx] at hE
      have hE := hE.note (by rw [cx]; decide)
      refine T_aload0 dX5_takeNumber_24 rfl ?_
      refine T_sgn (i := 44) (by decide) ks5_290 dX5_takeNumber_25 rfl ?_
      refine T_cV1 (c_X5_take hX hE hT hn hl hK (by decide)) hX k5_92 (Or.inl ⟨_, _, _, _, (hE.t_j), by decide, rfl⟩) (by decide) (Nat.le_of_ble_eq_true rfl) dX5_takeNumber_28 rfl ?_
      rintro _ _ _ M9 ⟨rfl, rfl, rfl, hE9⟩
      have hT := hT.nx hE9.frame (by omega)
      have hE := hE9.bs hE.frame
      refine T_lload3 dX5_takeNumber_31 rfl ?_
      refine T_l2i dX5_takeNumber_32 rfl ?_
      refine T_iret rfl rfl dX5_takeNumber_33 ?_
      exact ⟨rfl, rfl, rfl, hE⟩
theorem sm_cmp : ∀ i, i < 48 → ¬ (38 ≤ i ∧ i ≤ 42) → (smV.getD i 0).toInt < 20 ∨ 24 < (smV.getD i 0).toInt := by decide +kernel
theorem cs_5 {o : Nat} (h : 38 ≤ o ∧ o ≤ 42) : o = 38 ∨ o = 39 ∨ o = 40 ∨ o = 41 ∨ o = 42 := by omega
set_option maxHeartbeats 1000000 in
theorem c_X5_takeComparison {l : Launch} {D : va_G} {cA : Nat → ClassId} {n0 : Nat} {sg adK adV : Nat → Nat} {sgA smA wdA bS LS : Nat} {xs : Nat → Int32} (hX : SF n0 (XW0 sg adK adV sgA smA wdA n0 bS LS xs)) {sz : Nat} {τ : TY} {N1 N2 M : ME} {j tp ln lt r p nx : Nat} {K : Nat → Nat} {S : Nat → Int32} {V : Nat → Int64} {bk ba fl fa : Int32} (hE : RV τ N1 M j r p nx bk ba fl fa) (hT : TM τ N2 M (j + 1) sg tp ln lt K S V) (hn : nx ≤ lt) (hl : lt ≤ 400) (hK : ∀ i, i ≤ lt → K i < 48) : CT l D cA n0 (XW0 sg adK adV sgA smA wdA n0 bS LS xs) mX5_takeComparison 2 0 0 sz τ M [.ref j] (MUq (some (.ref (sg (K nx)))) sz τ (fun M' => RV τ M M' j r p (if 38 ≤ K nx ∧ K nx ≤ 42 then skN lt nx else lt) (if 38 ≤ K nx ∧ K nx ≤ 42 then bk else bkF bk) (if 38 ≤ K nx ∧ K nx ≤ 42 then ba else if bk = 0 then S nx else ba) (fl) (fa))) := by
  refine CT.of (ls := [.ref j, UU]) (by decide) (Nat.le_of_ble_eq_true rfl) rfl ?_
  have hE := hE.rf
  have hk := hK nx hn
  refine T_aload0 dX5_takeComparison_0 rfl ?_
  refine T_cV0 (c_X5_sign hX hE hT hn hl hK) hX k5_51 (Or.inl ⟨_, _, _, _, (hE.t_j), by decide, rfl⟩) (by decide) (Nat.le_of_ble_eq_true rfl) dX5_takeComparison_1 rfl ?_
  rintro _ _ _ _ ⟨rfl, rfl, rfl, rfl⟩
  refine T_astore1 rfl (by decide) dX5_takeComparison_4 rfl ?_
  refine T_smap ks5_61 dX5_takeComparison_5 rfl ?_
  refine T_aload1 dX5_takeComparison_8 rfl ?_
  refine T_ord (by omega) kord5_67 (by decide) (Nat.le_of_ble_eq_true rfl) dX5_takeComparison_9 rfl ?_
  refine T_smld (by omega) dX5_takeComparison_12 rfl ?_
  by_cases hq : 38 ≤ K nx ∧ K nx ≤ 42
  ·
    have h0 := hq
    replace hq := cs_5 hq
    rcases hq with hq | hq | hq | hq | hq
    ·
      refine T_tin (off := 35) 48 dX5_takeComparison_13 (by rw [hq]; decide +kernel) (by rw [hq]; decide +kernel) (by rw [hq]; decide +kernel) (by decide) ?_
      refine T_aload0 dX5_takeComparison_48 rfl ?_
      refine T_cV0 (c_X5_skip hX hE hT hn hl hK) hX k5_104 (Or.inl ⟨_, _, _, _, (hE.t_j), by decide, rfl⟩) (by decide) (Nat.le_of_ble_eq_true rfl) dX5_takeComparison_49 rfl ?_
      rintro _ _ _ M9 ⟨rfl, rfl, rfl, hE9⟩
      have hT := hT.nx hE9.frame (by omega)
      have hE := hE9.bs hE.frame
      refine T_goto 59 dX5_takeComparison_52 (by decide) ?_
      refine T_aload1 dX5_takeComparison_59 rfl ?_
      refine T_aret rfl dX5_takeComparison_60 ?_
      first | (rw [if_pos h0, if_pos h0, if_pos h0]; exact ⟨rfl, rfl, rfl, hE⟩) | (rw [if_neg h0, if_neg h0, if_neg h0]; exact ⟨rfl, rfl, rfl, hE⟩)
    ·
      refine T_tin (off := 35) 48 dX5_takeComparison_13 (by rw [hq]; decide +kernel) (by rw [hq]; decide +kernel) (by rw [hq]; decide +kernel) (by decide) ?_
      refine T_aload0 dX5_takeComparison_48 rfl ?_
      refine T_cV0 (c_X5_skip hX hE hT hn hl hK) hX k5_104 (Or.inl ⟨_, _, _, _, (hE.t_j), by decide, rfl⟩) (by decide) (Nat.le_of_ble_eq_true rfl) dX5_takeComparison_49 rfl ?_
      rintro _ _ _ M9 ⟨rfl, rfl, rfl, hE9⟩
      have hT := hT.nx hE9.frame (by omega)
      have hE := hE9.bs hE.frame
      refine T_goto 59 dX5_takeComparison_52 (by decide) ?_
      refine T_aload1 dX5_takeComparison_59 rfl ?_
      refine T_aret rfl dX5_takeComparison_60 ?_
      first | (rw [if_pos h0, if_pos h0, if_pos h0]; exact ⟨rfl, rfl, rfl, hE⟩) | (rw [if_neg h0, if_neg h0, if_neg h0]; exact ⟨rfl, rfl, rfl, hE⟩)
    ·
      refine T_tin (off := 35) 48 dX5_takeComparison_13 (by rw [hq]; decide +kernel) (by rw [hq]; decide +kernel) (by rw [hq]; decide +kernel) (by decide) ?_
      refine T_aload0 dX5_takeComparison_48 rfl ?_
      refine T_cV0 (c_X5_skip hX hE hT hn hl hK) hX k5_104 (Or.inl ⟨_, _, _, _, (hE.t_j), by decide, rfl⟩) (by decide) (Nat.le_of_ble_eq_true rfl) dX5_takeComparison_49 rfl ?_
      rintro _ _ _ M9 ⟨rfl, rfl, rfl, hE9⟩
      have hT := hT.nx hE9.frame (by omega)
      have hE := hE9.bs hE.frame
      refine T_goto 59 dX5_takeComparison_52 (by decide) ?_
      refine T_aload1 dX5_takeComparison_59 rfl ?_
      refine T_aret rfl dX5_takeComparison_60 ?_
      first | (rw [if_pos h0, if_pos h0, if_pos h0]; exact ⟨rfl, rfl, rfl, hE⟩) | (rw [if_neg h0, if_neg h0, if_neg h0]; exact ⟨rfl, rfl, rfl, hE⟩)
    ·
      refine T_tin (off := 35) 48 dX5_takeComparison_13 (by rw [hq]; decide +kernel) (by rw [hq]; decide +kernel) (by rw [hq]; decide +kernel) (by decide) ?_
      refine T_aload0 dX5_takeComparison_48 rfl ?_
      refine T_cV0 (c_X5_skip hX hE hT hn hl hK) hX k5_104 (Or.inl ⟨_, _, _, _, (hE.t_j), by decide, rfl⟩) (by decide) (Nat.le_of_ble_eq_true rfl) dX5_takeComparison_49 rfl ?_
      rintro _ _ _ M9 ⟨rfl, rfl, rfl, hE9⟩
      have hT := hT.nx hE9.frame (by omega)
      have hE := hE9.bs hE.frame
      refine T_goto 59 dX5_takeComparison_52 (by decide) ?_
      refine T_aload1 dX5_takeComparison_59 rfl ?_
      refine T_aret rfl dX5_takeComparison_60 ?_
      first | (rw [if_pos h0, if_pos h0, if_pos h0]; exact ⟨rfl, rfl, rfl, hE⟩) | (rw [if_neg h0, if_neg h0, if_neg h0]; exact ⟨rfl, rfl, rfl, hE⟩)
    ·
      refine T_tin (off := 35) 48 dX5_takeComparison_13 (by rw [hq]; decide +kernel) (by rw [hq]; decide +kernel) (by rw [hq]; decide +kernel) (by decide) ?_
      refine T_aload0 dX5_takeComparison_48 rfl ?_
      refine T_cV0 (c_X5_skip hX hE hT hn hl hK) hX k5_104 (Or.inl ⟨_, _, _, _, (hE.t_j), by decide, rfl⟩) (by decide) (Nat.le_of_ble_eq_true rfl) dX5_takeComparison_49 rfl ?_
      rintro _ _ _ M9 ⟨rfl, rfl, rfl, hE9⟩
      have hT := hT.nx hE9.frame (by omega)
      have hE := hE9.bs hE.frame
      refine T_goto 59 dX5_takeComparison_52 (by decide) ?_
      refine T_aload1 dX5_takeComparison_59 rfl ?_
      refine T_aret rfl dX5_takeComparison_60 ?_
      first | (rw [if_pos h0, if_pos h0, if_pos h0]; exact ⟨rfl, rfl, rfl, hE⟩) | (rw [if_neg h0, if_neg h0, if_neg h0]; exact ⟨rfl, rfl, rfl, hE⟩)
  ·
    have h0 := hq
    refine T_tout 55 dX5_takeComparison_13 (sm_cmp _ hk hq) (by decide) ?_
    refine T_aload0 dX5_takeComparison_55 rfl ?_
    refine T_cV0 (c_X5_fail hX hE hT hn hl hK) hX k5_86 (Or.inl ⟨_, _, _, _, (hE.t_j), by decide, rfl⟩) (by decide) (Nat.le_of_ble_eq_true rfl) dX5_takeComparison_56 rfl ?_
    rintro _ _ _ M9 ⟨rfl, rfl, rfl, hE9⟩
    have hT := hT.nx hE9.frame (by omega)
    have hE := hE9.bs hE.frame
    refine T_aload1 dX5_takeComparison_59 rfl ?_
    refine T_aret rfl dX5_takeComparison_60 ?_
    first | (rw [if_pos h0, if_pos h0, if_pos h0]; exact ⟨rfl, rfl, rfl, hE⟩) | (rw [if_neg h0, if_neg h0, if_neg h0]; exact ⟨rfl, rfl, rfl, hE⟩)
set_option maxHeartbeats 1000000 in
theorem c_X5_errorPlace {l : Launch} {D : va_G} {cA : Nat → ClassId} {n0 : Nat} {sg adK adV : Nat → Nat} {sgA smA wdA bS LS : Nat} {xs : Nat → Int32} (hX : SF n0 (XW0 sg adK adV sgA smA wdA n0 bS LS xs)) {sz : Nat} {τ : TY} {N1 N2 M : ME} {j tp ln lt r p nx : Nat} {K : Nat → Nat} {S : Nat → Int32} {V : Nat → Int64} {bk ba fl fa : Int32} (hE : RV τ N1 M j r p nx bk ba fl fa) (hT : TM τ N2 M (j + 1) sg tp ln lt K S V) : CT l D cA n0 (XW0 sg adK adV sgA smA wdA n0 bS LS xs) mX5_errorPlace 1 0 0 sz τ M [.ref j] (ROq (.int (if bk = 0 then fa else ba)) sz τ M) := by
  refine CT.of (ls := [.ref j]) (by decide) (Nat.le_of_ble_eq_true rfl) rfl ?_
  refine T_aload0 dX5_errorPlace_0 rfl ?_
  refine g5_30 _ rfl (hE.t_j) (hE.g_bk) dX5_errorPlace_1 rfl ?_
  refine T_if_eq 14 7 dX5_errorPlace_4 (by decide) rfl (fun c4 => ?_) (fun c4 => ?_)
  ·
    refine T_aload0 dX5_errorPlace_14 rfl ?_
    refine g5_40 _ rfl (hE.t_j) (hE.g_fa) dX5_errorPlace_15 rfl ?_
    refine T_iret rfl rfl dX5_errorPlace_18 ?_
    first | (rw [if_pos c4]; exact ⟨rfl, rfl, rfl, rfl⟩) | (rw [if_neg c4]; exact ⟨rfl, rfl, rfl, rfl⟩)
  ·
    refine T_aload0 dX5_errorPlace_7 rfl ?_
    refine g5_34 _ rfl (hE.t_j) (hE.g_ba) dX5_errorPlace_8 rfl ?_
    refine T_goto 18 dX5_errorPlace_11 (by decide) ?_
    refine T_iret rfl rfl dX5_errorPlace_18 ?_
    first | (rw [if_pos c4]; exact ⟨rfl, rfl, rfl, rfl⟩) | (rw [if_neg c4]; exact ⟨rfl, rfl, rfl, rfl⟩)

