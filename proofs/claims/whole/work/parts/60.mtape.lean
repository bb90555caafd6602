/-! the model itself: 7 cells from m on; its tape B; numbers ω: 80 kind 81 from 82 many 83 role 84 meant, 90 thrown 91 errorAt -/
def MV (τ : TY) (M0 M : ME) (m : Nat) (y : Nat) (z : Nat) (s1 : Nat) (s2 : Nat) (sz1 : Nat) (tk : Nat) (dp : Nat) (B : Nat → Nat) (ω : RH) : Prop := τ (m) = (11, 0) ∧ τ (m + 1) = (100, 2000) ∧ τ (m + 2) = (100, 401) ∧ τ (m + 3) = (100, 401) ∧ τ (m + 4) = (100, 401) ∧ τ (m + 5) = (100, 401) ∧ τ (m + 6) = (100, 401) ∧ M (m) (1) = .ref (m + 1) ∧ M (m) (4) = .ref (m + 2) ∧ M (m) (5) = .ref (m + 3) ∧ M (m) (6) = .ref (m + 4) ∧ M (m) (7) = .ref (m + 5) ∧ M (m) (8) = .ref (m + 6) ∧ M (m) (13) = .ref s1 ∧ M (m) (14) = .ref s2 ∧ M (m) (0) = .int (ω 90 0) ∧ M (m) (2) = .int (nI sz1) ∧ M (m) (3) = .int (ω 91 0) ∧ M (m) (9) = .int (nI tk) ∧ M (m) (10) = .int (nI dp) ∧ M (m) (11) = .ref y ∧ M (m) (12) = .ref z ∧ (∀ i, i < 2000 → M (m + 1) (i) = .int (nI (B i))) ∧ (∀ i, i < 401 → M (m + 2) (i) = .int (ω 80 i)) ∧ (∀ i, i < 401 → M (m + 3) (i) = .int (ω 81 i)) ∧ (∀ i, i < 401 → M (m + 4) (i) = .int (ω 82 i)) ∧ (∀ i, i < 401 → M (m + 5) (i) = .int (ω 83 i)) ∧ (∀ i, i < 401 → M (m + 6) (i) = .int (ω 84 i)) ∧ Fr m (m + 7) M0 M
theorem MV.frame {τ : TY} {M0 M : ME} {m : Nat} {y : Nat} {z : Nat} {s1 : Nat} {s2 : Nat} {sz1 : Nat} {tk : Nat} {dp : Nat} {B : Nat → Nat} {ω : RH} (h : MV τ M0 M m y z s1 s2 sz1 tk dp B ω) : Fr m (m + 7) M0 M := h.2.2.2.2.2.2.2.2.2.2.2.2.2.2.2.2.2.2.2.2.2.2.2.2.2.2.2.2
theorem MV.t_m {τ : TY} {M0 M : ME} {m : Nat} {y : Nat} {z : Nat} {s1 : Nat} {s2 : Nat} {sz1 : Nat} {tk : Nat} {dp : Nat} {B : Nat → Nat} {ω : RH} (h : MV τ M0 M m y z s1 s2 sz1 tk dp B ω) : τ (m) = (11, 0) := h.1
theorem MV.t_tp {τ : TY} {M0 M : ME} {m : Nat} {y : Nat} {z : Nat} {s1 : Nat} {s2 : Nat} {sz1 : Nat} {tk : Nat} {dp : Nat} {B : Nat → Nat} {ω : RH} (h : MV τ M0 M m y z s1 s2 sz1 tk dp B ω) : τ (m + 1) = (100, 2000) := h.2.1
theorem MV.t_kd {τ : TY} {M0 M : ME} {m : Nat} {y : Nat} {z : Nat} {s1 : Nat} {s2 : Nat} {sz1 : Nat} {tk : Nat} {dp : Nat} {B : Nat → Nat} {ω : RH} (h : MV τ M0 M m y z s1 s2 sz1 tk dp B ω) : τ (m + 2) = (100, 401) := h.2.2.1
theorem MV.t_fr {τ : TY} {M0 M : ME} {m : Nat} {y : Nat} {z : Nat} {s1 : Nat} {s2 : Nat} {sz1 : Nat} {tk : Nat} {dp : Nat} {B : Nat → Nat} {ω : RH} (h : MV τ M0 M m y z s1 s2 sz1 tk dp B ω) : τ (m + 3) = (100, 401) := h.2.2.2.1
theorem MV.t_mn {τ : TY} {M0 M : ME} {m : Nat} {y : Nat} {z : Nat} {s1 : Nat} {s2 : Nat} {sz1 : Nat} {tk : Nat} {dp : Nat} {B : Nat → Nat} {ω : RH} (h : MV τ M0 M m y z s1 s2 sz1 tk dp B ω) : τ (m + 4) = (100, 401) := h.2.2.2.2.1
theorem MV.t_ro {τ : TY} {M0 M : ME} {m : Nat} {y : Nat} {z : Nat} {s1 : Nat} {s2 : Nat} {sz1 : Nat} {tk : Nat} {dp : Nat} {B : Nat → Nat} {ω : RH} (h : MV τ M0 M m y z s1 s2 sz1 tk dp B ω) : τ (m + 5) = (100, 401) := h.2.2.2.2.2.1
theorem MV.t_me {τ : TY} {M0 M : ME} {m : Nat} {y : Nat} {z : Nat} {s1 : Nat} {s2 : Nat} {sz1 : Nat} {tk : Nat} {dp : Nat} {B : Nat → Nat} {ω : RH} (h : MV τ M0 M m y z s1 s2 sz1 tk dp B ω) : τ (m + 6) = (100, 401) := h.2.2.2.2.2.2.1
theorem MV.g_tp {τ : TY} {M0 M : ME} {m : Nat} {y : Nat} {z : Nat} {s1 : Nat} {s2 : Nat} {sz1 : Nat} {tk : Nat} {dp : Nat} {B : Nat → Nat} {ω : RH} (h : MV τ M0 M m y z s1 s2 sz1 tk dp B ω) : M (m) (1) = .ref (m + 1) := h.2.2.2.2.2.2.2.1
theorem MV.g_kd {τ : TY} {M0 M : ME} {m : Nat} {y : Nat} {z : Nat} {s1 : Nat} {s2 : Nat} {sz1 : Nat} {tk : Nat} {dp : Nat} {B : Nat → Nat} {ω : RH} (h : MV τ M0 M m y z s1 s2 sz1 tk dp B ω) : M (m) (4) = .ref (m + 2) := h.2.2.2.2.2.2.2.2.1
theorem MV.g_fr {τ : TY} {M0 M : ME} {m : Nat} {y : Nat} {z : Nat} {s1 : Nat} {s2 : Nat} {sz1 : Nat} {tk : Nat} {dp : Nat} {B : Nat → Nat} {ω : RH} (h : MV τ M0 M m y z s1 s2 sz1 tk dp B ω) : M (m) (5) = .ref (m + 3) := h.2.2.2.2.2.2.2.2.2.1
theorem MV.g_mn {τ : TY} {M0 M : ME} {m : Nat} {y : Nat} {z : Nat} {s1 : Nat} {s2 : Nat} {sz1 : Nat} {tk : Nat} {dp : Nat} {B : Nat → Nat} {ω : RH} (h : MV τ M0 M m y z s1 s2 sz1 tk dp B ω) : M (m) (6) = .ref (m + 4) := h.2.2.2.2.2.2.2.2.2.2.1
theorem MV.g_ro {τ : TY} {M0 M : ME} {m : Nat} {y : Nat} {z : Nat} {s1 : Nat} {s2 : Nat} {sz1 : Nat} {tk : Nat} {dp : Nat} {B : Nat → Nat} {ω : RH} (h : MV τ M0 M m y z s1 s2 sz1 tk dp B ω) : M (m) (7) = .ref (m + 5) := h.2.2.2.2.2.2.2.2.2.2.2.1
theorem MV.g_me {τ : TY} {M0 M : ME} {m : Nat} {y : Nat} {z : Nat} {s1 : Nat} {s2 : Nat} {sz1 : Nat} {tk : Nat} {dp : Nat} {B : Nat → Nat} {ω : RH} (h : MV τ M0 M m y z s1 s2 sz1 tk dp B ω) : M (m) (8) = .ref (m + 6) := h.2.2.2.2.2.2.2.2.2.2.2.2.1
theorem MV.g_s1 {τ : TY} {M0 M : ME} {m : Nat} {y : Nat} {z : Nat} {s1 : Nat} {s2 : Nat} {sz1 : Nat} {tk : Nat} {dp : Nat} {B : Nat → Nat} {ω : RH} (h : MV τ M0 M m y z s1 s2 sz1 tk dp B ω) : M (m) (13) = .ref s1 := h.2.2.2.2.2.2.2.2.2.2.2.2.2.1
theorem MV.g_s2 {τ : TY} {M0 M : ME} {m : Nat} {y : Nat} {z : Nat} {s1 : Nat} {s2 : Nat} {sz1 : Nat} {tk : Nat} {dp : Nat} {B : Nat → Nat} {ω : RH} (h : MV τ M0 M m y z s1 s2 sz1 tk dp B ω) : M (m) (14) = .ref s2 := h.2.2.2.2.2.2.2.2.2.2.2.2.2.2.1
theorem MV.g_th {τ : TY} {M0 M : ME} {m : Nat} {y : Nat} {z : Nat} {s1 : Nat} {s2 : Nat} {sz1 : Nat} {tk : Nat} {dp : Nat} {B : Nat → Nat} {ω : RH} (h : MV τ M0 M m y z s1 s2 sz1 tk dp B ω) : M (m) (0) = .int (ω 90 0) := h.2.2.2.2.2.2.2.2.2.2.2.2.2.2.2.1
theorem MV.g_n {τ : TY} {M0 M : ME} {m : Nat} {y : Nat} {z : Nat} {s1 : Nat} {s2 : Nat} {sz1 : Nat} {tk : Nat} {dp : Nat} {B : Nat → Nat} {ω : RH} (h : MV τ M0 M m y z s1 s2 sz1 tk dp B ω) : M (m) (2) = .int (nI sz1) := h.2.2.2.2.2.2.2.2.2.2.2.2.2.2.2.2.1
theorem MV.g_ea {τ : TY} {M0 M : ME} {m : Nat} {y : Nat} {z : Nat} {s1 : Nat} {s2 : Nat} {sz1 : Nat} {tk : Nat} {dp : Nat} {B : Nat → Nat} {ω : RH} (h : MV τ M0 M m y z s1 s2 sz1 tk dp B ω) : M (m) (3) = .int (ω 91 0) := h.2.2.2.2.2.2.2.2.2.2.2.2.2.2.2.2.2.1
theorem MV.g_tk {τ : TY} {M0 M : ME} {m : Nat} {y : Nat} {z : Nat} {s1 : Nat} {s2 : Nat} {sz1 : Nat} {tk : Nat} {dp : Nat} {B : Nat → Nat} {ω : RH} (h : MV τ M0 M m y z s1 s2 sz1 tk dp B ω) : M (m) (9) = .int (nI tk) := h.2.2.2.2.2.2.2.2.2.2.2.2.2.2.2.2.2.2.1
theorem MV.g_dp {τ : TY} {M0 M : ME} {m : Nat} {y : Nat} {z : Nat} {s1 : Nat} {s2 : Nat} {sz1 : Nat} {tk : Nat} {dp : Nat} {B : Nat → Nat} {ω : RH} (h : MV τ M0 M m y z s1 s2 sz1 tk dp B ω) : M (m) (10) = .int (nI dp) := h.2.2.2.2.2.2.2.2.2.2.2.2.2.2.2.2.2.2.2.1
theorem MV.g_y {τ : TY} {M0 M : ME} {m : Nat} {y : Nat} {z : Nat} {s1 : Nat} {s2 : Nat} {sz1 : Nat} {tk : Nat} {dp : Nat} {B : Nat → Nat} {ω : RH} (h : MV τ M0 M m y z s1 s2 sz1 tk dp B ω) : M (m) (11) = .ref y := h.2.2.2.2.2.2.2.2.2.2.2.2.2.2.2.2.2.2.2.2.1
theorem MV.g_z {τ : TY} {M0 M : ME} {m : Nat} {y : Nat} {z : Nat} {s1 : Nat} {s2 : Nat} {sz1 : Nat} {tk : Nat} {dp : Nat} {B : Nat → Nat} {ω : RH} (h : MV τ M0 M m y z s1 s2 sz1 tk dp B ω) : M (m) (12) = .ref z := h.2.2.2.2.2.2.2.2.2.2.2.2.2.2.2.2.2.2.2.2.2.1
theorem MV.g_by {τ : TY} {M0 M : ME} {m : Nat} {y : Nat} {z : Nat} {s1 : Nat} {s2 : Nat} {sz1 : Nat} {tk : Nat} {dp : Nat} {B : Nat → Nat} {ω : RH} (h : MV τ M0 M m y z s1 s2 sz1 tk dp B ω) {i : Nat} (hq : i < 2000) : M (m + 1) (i) = .int (nI (B i)) := h.2.2.2.2.2.2.2.2.2.2.2.2.2.2.2.2.2.2.2.2.2.2.1 i hq
theorem MV.g_vkd {τ : TY} {M0 M : ME} {m : Nat} {y : Nat} {z : Nat} {s1 : Nat} {s2 : Nat} {sz1 : Nat} {tk : Nat} {dp : Nat} {B : Nat → Nat} {ω : RH} (h : MV τ M0 M m y z s1 s2 sz1 tk dp B ω) {i : Nat} (hq : i < 401) : M (m + 2) (i) = .int (ω 80 i) := h.2.2.2.2.2.2.2.2.2.2.2.2.2.2.2.2.2.2.2.2.2.2.2.1 i hq
theorem MV.g_vfr {τ : TY} {M0 M : ME} {m : Nat} {y : Nat} {z : Nat} {s1 : Nat} {s2 : Nat} {sz1 : Nat} {tk : Nat} {dp : Nat} {B : Nat → Nat} {ω : RH} (h : MV τ M0 M m y z s1 s2 sz1 tk dp B ω) {i : Nat} (hq : i < 401) : M (m + 3) (i) = .int (ω 81 i) := h.2.2.2.2.2.2.2.2.2.2.2.2.2.2.2.2.2.2.2.2.2.2.2.2.1 i hq
theorem MV.g_vmn {τ : TY} {M0 M : ME} {m : Nat} {y : Nat} {z : Nat} {s1 : Nat} {s2 : Nat} {sz1 : Nat} {tk : Nat} {dp : Nat} {B : Nat → Nat} {ω : RH} (h : MV τ M0 M m y z s1 s2 sz1 tk dp B ω) {i : Nat} (hq : i < 401) : M (m + 4) (i) = .int (ω 82 i) := h.2.2.2.2.2.2.2.2.2.2.2.2.2.2.2.2.2.2.2.2.2.2.2.2.2.1 i hq
theorem MV.g_vro {τ : TY} {M0 M : ME} {m : Nat} {y : Nat} {z : Nat} {s1 : Nat} {s2 : Nat} {sz1 : Nat} {tk : Nat} {dp : Nat} {B : Nat → Nat} {ω : RH} (h : MV τ M0 M m y z s1 s2 sz1 tk dp B ω) {i : Nat} (hq : i < 401) : M (m + 5) (i) = .int (ω 83 i) := h.2.2.2.2.2.2.2.2.2.2.2.2.2.2.2.2.2.2.2.2.2.2.2.2.2.2.1 i hq
theorem MV.g_vme {τ : TY} {M0 M : ME} {m : Nat} {y : Nat} {z : Nat} {s1 : Nat} {s2 : Nat} {sz1 : Nat} {tk : Nat} {dp : Nat} {B : Nat → Nat} {ω : RH} (h : MV τ M0 M m y z s1 s2 sz1 tk dp B ω) {i : Nat} (hq : i < 401) : M (m + 6) (i) = .int (ω 84 i) := h.2.2.2.2.2.2.2.2.2.2.2.2.2.2.2.2.2.2.2.2.2.2.2.2.2.2.2.1 i hq
theorem MV.rf {τ : TY} {M0 M : ME} {m : Nat} {y : Nat} {z : Nat} {s1 : Nat} {s2 : Nat} {sz1 : Nat} {tk : Nat} {dp : Nat} {B : Nat → Nat} {ω : RH} (h : MV τ M0 M m y z s1 s2 sz1 tk dp B ω) : MV τ M M m y z s1 s2 sz1 tk dp B ω := by
  obtain ⟨x0, x1, x2, x3, x4, x5, x6, x7, x8, x9, x10, x11, x12, x13, x14, x15, x16, x17, x18, x19, x20, x21, x22, x23, x24, x25, x26, x27, hF⟩ := h
  refine ⟨?_, ?_, ?_, ?_, ?_, ?_, ?_, ?_, ?_, ?_, ?_, ?_, ?_, ?_, ?_, ?_, ?_, ?_, ?_, ?_, ?_, ?_, fun i hq => ?_, fun i hq => ?_, fun i hq => ?_, fun i hq => ?_, fun i hq => ?_, fun i hq => ?_, Fr.rf _ _ _⟩
  · exact x0
  · exact x1
  · exact x2
  · exact x3
  · exact x4
  · exact x5
  · exact x6
  · exact x7
  · exact x8
  · exact x9
  · exact x10
  · exact x11
  · exact x12
  · exact x13
  · exact x14
  · exact x15
  · exact x16
  · exact x17
  · exact x18
  · exact x19
  · exact x20
  · exact x21
  · exact x22 i hq
  · exact x23 i hq
  · exact x24 i hq
  · exact x25 i hq
  · exact x26 i hq
  · exact x27 i hq
theorem MV.bs {τ : TY} {M0 M : ME} {m : Nat} {y : Nat} {z : Nat} {s1 : Nat} {s2 : Nat} {sz1 : Nat} {tk : Nat} {dp : Nat} {B : Nat → Nat} {ω : RH} {M1 : ME} (h : MV τ M1 M m y z s1 s2 sz1 tk dp B ω) (h2 : Fr m (m + 7) M0 M1) : MV τ M0 M m y z s1 s2 sz1 tk dp B ω := by
  obtain ⟨x0, x1, x2, x3, x4, x5, x6, x7, x8, x9, x10, x11, x12, x13, x14, x15, x16, x17, x18, x19, x20, x21, x22, x23, x24, x25, x26, x27, hF⟩ := h
  refine ⟨?_, ?_, ?_, ?_, ?_, ?_, ?_, ?_, ?_, ?_, ?_, ?_, ?_, ?_, ?_, ?_, ?_, ?_, ?_, ?_, ?_, ?_, fun i hq => ?_, fun i hq => ?_, fun i hq => ?_, fun i hq => ?_, fun i hq => ?_, fun i hq => ?_, h2.tr hF⟩
  · exact x0
  · exact x1
  · exact x2
  · exact x3
  · exact x4
  · exact x5
  · exact x6
  · exact x7
  · exact x8
  · exact x9
  · exact x10
  · exact x11
  · exact x12
  · exact x13
  · exact x14
  · exact x15
  · exact x16
  · exact x17
  · exact x18
  · exact x19
  · exact x20
  · exact x21
  · exact x22 i hq
  · exact x23 i hq
  · exact x24 i hq
  · exact x25 i hq
  · exact x26 i hq
  · exact x27 i hq
theorem MV.fr {τ : TY} {M0 M : ME} {m : Nat} {y : Nat} {z : Nat} {s1 : Nat} {s2 : Nat} {sz1 : Nat} {tk : Nat} {dp : Nat} {B : Nat → Nat} {ω : RH} {M1 : ME} (h : MV τ M0 M m y z s1 s2 sz1 tk dp B ω) (hf : ∀ q, m ≤ q → q < m + 7 → M1 q = M q) : MV τ M1 M1 m y z s1 s2 sz1 tk dp B ω := by
  obtain ⟨x0, x1, x2, x3, x4, x5, x6, x7, x8, x9, x10, x11, x12, x13, x14, x15, x16, x17, x18, x19, x20, x21, x22, x23, x24, x25, x26, x27, hF⟩ := h
  refine ⟨?_, ?_, ?_, ?_, ?_, ?_, ?_, ?_, ?_, ?_, ?_, ?_, ?_, ?_, ?_, ?_, ?_, ?_, ?_, ?_, ?_, ?_, fun i hq => ?_, fun i hq => ?_, fun i hq => ?_, fun i hq => ?_, fun i hq => ?_, fun i hq => ?_, Fr.rf _ _ _⟩
  · exact x0
  · exact x1
  · exact x2
  · exact x3
  · exact x4
  · exact x5
  · exact x6
  · rw [hf _ (by omega) (by omega)]; exact x7
  · rw [hf _ (by omega) (by omega)]; exact x8
  · rw [hf _ (by omega) (by omega)]; exact x9
  · rw [hf _ (by omega) (by omega)]; exact x10
  · rw [hf _ (by omega) (by omega)]; exact x11
  · rw [hf _ (by omega) (by omega)]; exact x12
  · rw [hf _ (by omega) (by omega)]; exact x13
  · rw [hf _ (by omega) (by omega)]; exact x14
  · rw [hf _ (by omega) (by omega)]; exact x15
  · rw [hf _ (by omega) (by omega)]; exact x16
  · rw [hf _ (by omega) (by omega)]; exact x17
  · rw [hf _ (by omega) (by omega)]; exact x18
  · rw [hf _ (by omega) (by omega)]; exact x19
  · rw [hf _ (by omega) (by omega)]; exact x20
  · rw [hf _ (by omega) (by omega)]; exact x21
  · rw [hf _ (by omega) (by omega)]; exact x22 i hq
  · rw [hf _ (by omega) (by omega)]; exact x23 i hq
  · rw [hf _ (by omega) (by omega)]; exact x24 i hq
  · rw [hf _ (by omega) (by omega)]; exact x25 i hq
  · rw [hf _ (by omega) (by omega)]; exact x26 i hq
  · rw [hf _ (by omega) (by omega)]; exact x27 i hq
theorem MV.tau {τ : TY} {M0 M : ME} {m : Nat} {y : Nat} {z : Nat} {s1 : Nat} {s2 : Nat} {sz1 : Nat} {tk : Nat} {dp : Nat} {B : Nat → Nat} {ω : RH} {τ' : TY} (h : MV τ M0 M m y z s1 s2 sz1 tk dp B ω) (hf : ∀ q, m ≤ q → q < m + 7 → τ' q = τ q) : MV τ' M0 M m y z s1 s2 sz1 tk dp B ω := by
  obtain ⟨x0, x1, x2, x3, x4, x5, x6, x7, x8, x9, x10, x11, x12, x13, x14, x15, x16, x17, x18, x19, x20, x21, x22, x23, x24, x25, x26, x27, hF⟩ := h
  refine ⟨?_, ?_, ?_, ?_, ?_, ?_, ?_, ?_, ?_, ?_, ?_, ?_, ?_, ?_, ?_, ?_, ?_, ?_, ?_, ?_, ?_, ?_, fun i hq => ?_, fun i hq => ?_, fun i hq => ?_, fun i hq => ?_, fun i hq => ?_, fun i hq => ?_, hF⟩
  · rw [hf _ (by omega) (by omega)]; exact x0
  · rw [hf _ (by omega) (by omega)]; exact x1
  · rw [hf _ (by omega) (by omega)]; exact x2
  · rw [hf _ (by omega) (by omega)]; exact x3
  · rw [hf _ (by omega) (by omega)]; exact x4
  · rw [hf _ (by omega) (by omega)]; exact x5
  · rw [hf _ (by omega) (by omega)]; exact x6
  · exact x7
  · exact x8
  · exact x9
  · exact x10
  · exact x11
  · exact x12
  · exact x13
  · exact x14
  · exact x15
  · exact x16
  · exact x17
  · exact x18
  · exact x19
  · exact x20
  · exact x21
  · exact x22 i hq
  · exact x23 i hq
  · exact x24 i hq
  · exact x25 i hq
  · exact x26 i hq
  · exact x27 i hq
theorem MV.mv {τ : TY} {M0 M : ME} {m : Nat} {y : Nat} {z : Nat} {s1 : Nat} {s2 : Nat} {sz1 : Nat} {tk : Nat} {dp : Nat} {B : Nat → Nat} {ω : RH} {M1 : ME} (h : MV τ M0 M m y z s1 s2 sz1 tk dp B ω) (e : M1 = M) : MV τ M0 M1 m y z s1 s2 sz1 tk dp B ω := by subst e; exact h
theorem MV.frU {τ : TY} {M0 M : ME} {m : Nat} {y : Nat} {z : Nat} {s1 : Nat} {s2 : Nat} {sz1 : Nat} {tk : Nat} {dp : Nat} {B : Nat → Nat} {ω : RH} {M1 : ME} {q k : Nat} {v : Value} (h : MV τ M0 M m y z s1 s2 sz1 tk dp B ω) (e : M1 = up M q k v) (hd : q < m ∨ m + 7 ≤ q) : MV τ M1 M1 m y z s1 s2 sz1 tk dp B ω := h.fr (fun b h1 h2 => by rw [e]; exact up_a (by omega))
theorem MV.nx {τ : TY} {M0 M : ME} {m : Nat} {y : Nat} {z : Nat} {s1 : Nat} {s2 : Nat} {sz1 : Nat} {tk : Nat} {dp : Nat} {B : Nat → Nat} {ω : RH} {M1 : ME} {lo hi : Nat} (h : MV τ M0 M m y z s1 s2 sz1 tk dp B ω) (e : Fr lo hi M M1) (hd : hi ≤ m ∨ m + 7 ≤ lo) : MV τ M1 M1 m y z s1 s2 sz1 tk dp B ω := h.fr (fun b h1 h2 => e b (by omega))
theorem MV.p_th {τ : TY} {M0 M : ME} {m : Nat} {y : Nat} {z : Nat} {s1 : Nat} {s2 : Nat} {sz1 : Nat} {tk : Nat} {dp : Nat} {B : Nat → Nat} {ω : RH} (h : MV τ M0 M m y z s1 s2 sz1 tk dp B ω) {x : Int32} : MV τ M0 (up M (m) (0) (.int x)) m y z s1 s2 sz1 tk dp B (u2 ω 90 0 x) := by
  obtain ⟨x0, x1, x2, x3, x4, x5, x6, x7, x8, x9, x10, x11, x12, x13, x14, x15, x16, x17, x18, x19, x20, x21, x22, x23, x24, x25, x26, x27, hF⟩ := h
  refine ⟨?_, ?_, ?_, ?_, ?_, ?_, ?_, ?_, ?_, ?_, ?_, ?_, ?_, ?_, ?_, ?_, ?_, ?_, ?_, ?_, ?_, ?_, fun i hq => ?_, fun i hq => ?_, fun i hq => ?_, fun i hq => ?_, fun i hq => ?_, fun i hq => ?_, hF.up (by omega)⟩
  · exact x0
  · exact x1
  · exact x2
  · exact x3
  · exact x4
  · exact x5
  · exact x6
  · rw [up_ne (by omega)]; exact x7
  · rw [up_ne (by omega)]; exact x8
  · rw [up_ne (by omega)]; exact x9
  · rw [up_ne (by omega)]; exact x10
  · rw [up_ne (by omega)]; exact x11
  · rw [up_ne (by omega)]; exact x12
  · rw [up_ne (by omega)]; exact x13
  · rw [up_ne (by omega)]; exact x14
  · rw [up_s, u2_s]
  · rw [up_ne (by omega)]; exact x16
  · rw [up_ne (by omega)]; rw [u2_f (by omega)]; exact x17
  · rw [up_ne (by omega)]; exact x18
  · rw [up_ne (by omega)]; exact x19
  · rw [up_ne (by omega)]; exact x20
  · rw [up_ne (by omega)]; exact x21
  · rw [up_ne (by omega)]; exact x22 i hq
  · rw [up_ne (by omega)]; rw [u2_f (by omega)]; exact x23 i hq
  · rw [up_ne (by omega)]; rw [u2_f (by omega)]; exact x24 i hq
  · rw [up_ne (by omega)]; rw [u2_f (by omega)]; exact x25 i hq
  · rw [up_ne (by omega)]; rw [u2_f (by omega)]; exact x26 i hq
  · rw [up_ne (by omega)]; rw [u2_f (by omega)]; exact x27 i hq
theorem MV.p_n {τ : TY} {M0 M : ME} {m : Nat} {y : Nat} {z : Nat} {s1 : Nat} {s2 : Nat} {sz1 : Nat} {tk : Nat} {dp : Nat} {B : Nat → Nat} {ω : RH} (h : MV τ M0 M m y z s1 s2 sz1 tk dp B ω) {n : Nat} {x : Int32} (hx : x = nI n) : MV τ M0 (up M (m) (2) (.int x)) m y z s1 s2 n tk dp B ω := by
  obtain ⟨x0, x1, x2, x3, x4, x5, x6, x7, x8, x9, x10, x11, x12, x13, x14, x15, x16, x17, x18, x19, x20, x21, x22, x23, x24, x25, x26, x27, hF⟩ := h
  refine ⟨?_, ?_, ?_, ?_, ?_, ?_, ?_, ?_, ?_, ?_, ?_, ?_, ?_, ?_, ?_, ?_, ?_, ?_, ?_, ?_, ?_, ?_, fun i hq => ?_, fun i hq => ?_, fun i hq => ?_, fun i hq => ?_, fun i hq => ?_, fun i hq => ?_, hF.up (by omega)⟩
  · exact x0
  · exact x1
  · exact x2
  · exact x3
  · exact x4
  · exact x5
  · exact x6
  · rw [up_ne (by omega)]; exact x7
  · rw [up_ne (by omega)]; exact x8
  · rw [up_ne (by omega)]; exact x9
  · rw [up_ne (by omega)]; exact x10
  · rw [up_ne (by omega)]; exact x11
  · rw [up_ne (by omega)]; exact x12
  · rw [up_ne (by omega)]; exact x13
  · rw [up_ne (by omega)]; exact x14
  · rw [up_ne (by omega)]; exact x15
  · rw [up_s, hx]
  · rw [up_ne (by omega)]; exact x17
  · rw [up_ne (by omega)]; exact x18
  · rw [up_ne (by omega)]; exact x19
  · rw [up_ne (by omega)]; exact x20
  · rw [up_ne (by omega)]; exact x21
  · rw [up_ne (by omega)]; exact x22 i hq
  · rw [up_ne (by omega)]; exact x23 i hq
  · rw [up_ne (by omega)]; exact x24 i hq
  · rw [up_ne (by omega)]; exact x25 i hq
  · rw [up_ne (by omega)]; exact x26 i hq
  · rw [up_ne (by omega)]; exact x27 i hq
theorem MV.p_ea {τ : TY} {M0 M : ME} {m : Nat} {y : Nat} {z : Nat} {s1 : Nat} {s2 : Nat} {sz1 : Nat} {tk : Nat} {dp : Nat} {B : Nat → Nat} {ω : RH} (h : MV τ M0 M m y z s1 s2 sz1 tk dp B ω) {x : Int32} : MV τ M0 (up M (m) (3) (.int x)) m y z s1 s2 sz1 tk dp B (u2 ω 91 0 x) := by
  obtain ⟨x0, x1, x2, x3, x4, x5, x6, x7, x8, x9, x10, x11, x12, x13, x14, x15, x16, x17, x18, x19, x20, x21, x22, x23, x24, x25, x26, x27, hF⟩ := h
  refine ⟨?_, ?_, ?_, ?_, ?_, ?_, ?_, ?_, ?_, ?_, ?_, ?_, ?_, ?_, ?_, ?_, ?_, ?_, ?_, ?_, ?_, ?_, fun i hq => ?_, fun i hq => ?_, fun i hq => ?_, fun i hq => ?_, fun i hq => ?_, fun i hq => ?_, hF.up (by omega)⟩
  · exact x0
  · exact x1
  · exact x2
  · exact x3
  · exact x4
  · exact x5
  · exact x6
  · rw [up_ne (by omega)]; exact x7
  · rw [up_ne (by omega)]; exact x8
  · rw [up_ne (by omega)]; exact x9
  · rw [up_ne (by omega)]; exact x10
  · rw [up_ne (by omega)]; exact x11
  · rw [up_ne (by omega)]; exact x12
  · rw [up_ne (by omega)]; exact x13
  · rw [up_ne (by omega)]; exact x14
  · rw [up_ne (by omega)]; rw [u2_f (by omega)]; exact x15
  · rw [up_ne (by omega)]; exact x16
  · rw [up_s, u2_s]
  · rw [up_ne (by omega)]; exact x18
  · rw [up_ne (by omega)]; exact x19
  · rw [up_ne (by omega)]; exact x20
  · rw [up_ne (by omega)]; exact x21
  · rw [up_ne (by omega)]; exact x22 i hq
  · rw [up_ne (by omega)]; rw [u2_f (by omega)]; exact x23 i hq
  · rw [up_ne (by omega)]; rw [u2_f (by omega)]; exact x24 i hq
  · rw [up_ne (by omega)]; rw [u2_f (by omega)]; exact x25 i hq
  · rw [up_ne (by omega)]; rw [u2_f (by omega)]; exact x26 i hq
  · rw [up_ne (by omega)]; rw [u2_f (by omega)]; exact x27 i hq
theorem MV.p_tk {τ : TY} {M0 M : ME} {m : Nat} {y : Nat} {z : Nat} {s1 : Nat} {s2 : Nat} {sz1 : Nat} {tk : Nat} {dp : Nat} {B : Nat → Nat} {ω : RH} (h : MV τ M0 M m y z s1 s2 sz1 tk dp B ω) {n : Nat} {x : Int32} (hx : x = nI n) : MV τ M0 (up M (m) (9) (.int x)) m y z s1 s2 sz1 n dp B ω := by
  obtain ⟨x0, x1, x2, x3, x4, x5, x6, x7, x8, x9, x10, x11, x12, x13, x14, x15, x16, x17, x18, x19, x20, x21, x22, x23, x24, x25, x26, x27, hF⟩ := h
  refine ⟨?_, ?_, ?_, ?_, ?_, ?_, ?_, ?_, ?_, ?_, ?_, ?_, ?_, ?_, ?_, ?_, ?_, ?_, ?_, ?_, ?_, ?_, fun i hq => ?_, fun i hq => ?_, fun i hq => ?_, fun i hq => ?_, fun i hq => ?_, fun i hq => ?_, hF.up (by omega)⟩
  · exact x0
  · exact x1
  · exact x2
  · exact x3
  · exact x4
  · exact x5
  · exact x6
  · rw [up_ne (by omega)]; exact x7
  · rw [up_ne (by omega)]; exact x8
  · rw [up_ne (by omega)]; exact x9
  · rw [up_ne (by omega)]; exact x10
  · rw [up_ne (by omega)]; exact x11
  · rw [up_ne (by omega)]; exact x12
  · rw [up_ne (by omega)]; exact x13
  · rw [up_ne (by omega)]; exact x14
  · rw [up_ne (by omega)]; exact x15
  · rw [up_ne (by omega)]; exact x16
  · rw [up_ne (by omega)]; exact x17
  · rw [up_s, hx]
  · rw [up_ne (by omega)]; exact x19
  · rw [up_ne (by omega)]; exact x20
  · rw [up_ne (by omega)]; exact x21
  · rw [up_ne (by omega)]; exact x22 i hq
  · rw [up_ne (by omega)]; exact x23 i hq
  · rw [up_ne (by omega)]; exact x24 i hq
  · rw [up_ne (by omega)]; exact x25 i hq
  · rw [up_ne (by omega)]; exact x26 i hq
  · rw [up_ne (by omega)]; exact x27 i hq
theorem MV.p_dp {τ : TY} {M0 M : ME} {m : Nat} {y : Nat} {z : Nat} {s1 : Nat} {s2 : Nat} {sz1 : Nat} {tk : Nat} {dp : Nat} {B : Nat → Nat} {ω : RH} (h : MV τ M0 M m y z s1 s2 sz1 tk dp B ω) {n : Nat} {x : Int32} (hx : x = nI n) : MV τ M0 (up M (m) (10) (.int x)) m y z s1 s2 sz1 tk n B ω := by
  obtain ⟨x0, x1, x2, x3, x4, x5, x6, x7, x8, x9, x10, x11, x12, x13, x14, x15, x16, x17, x18, x19, x20, x21, x22, x23, x24, x25, x26, x27, hF⟩ := h
  refine ⟨?_, ?_, ?_, ?_, ?_, ?_, ?_, ?_, ?_, ?_, ?_, ?_, ?_, ?_, ?_, ?_, ?_, ?_, ?_, ?_, ?_, ?_, fun i hq => ?_, fun i hq => ?_, fun i hq => ?_, fun i hq => ?_, fun i hq => ?_, fun i hq => ?_, hF.up (by omega)⟩
  · exact x0
  · exact x1
  · exact x2
  · exact x3
  · exact x4
  · exact x5
  · exact x6
  · rw [up_ne (by omega)]; exact x7
  · rw [up_ne (by omega)]; exact x8
  · rw [up_ne (by omega)]; exact x9
  · rw [up_ne (by omega)]; exact x10
  · rw [up_ne (by omega)]; exact x11
  · rw [up_ne (by omega)]; exact x12
  · rw [up_ne (by omega)]; exact x13
  · rw [up_ne (by omega)]; exact x14
  · rw [up_ne (by omega)]; exact x15
  · rw [up_ne (by omega)]; exact x16
  · rw [up_ne (by omega)]; exact x17
  · rw [up_ne (by omega)]; exact x18
  · rw [up_s, hx]
  · rw [up_ne (by omega)]; exact x20
  · rw [up_ne (by omega)]; exact x21
  · rw [up_ne (by omega)]; exact x22 i hq
  · rw [up_ne (by omega)]; exact x23 i hq
  · rw [up_ne (by omega)]; exact x24 i hq
  · rw [up_ne (by omega)]; exact x25 i hq
  · rw [up_ne (by omega)]; exact x26 i hq
  · rw [up_ne (by omega)]; exact x27 i hq
theorem MV.p_y {τ : TY} {M0 M : ME} {m : Nat} {y : Nat} {z : Nat} {s1 : Nat} {s2 : Nat} {sz1 : Nat} {tk : Nat} {dp : Nat} {B : Nat → Nat} {ω : RH} (h : MV τ M0 M m y z s1 s2 sz1 tk dp B ω) {x : Nat} : MV τ M0 (up M (m) (11) (.ref x)) m x z s1 s2 sz1 tk dp B ω := by
  obtain ⟨x0, x1, x2, x3, x4, x5, x6, x7, x8, x9, x10, x11, x12, x13, x14, x15, x16, x17, x18, x19, x20, x21, x22, x23, x24, x25, x26, x27, hF⟩ := h
  refine ⟨?_, ?_, ?_, ?_, ?_, ?_, ?_, ?_, ?_, ?_, ?_, ?_, ?_, ?_, ?_, ?_, ?_, ?_, ?_, ?_, ?_, ?_, fun i hq => ?_, fun i hq => ?_, fun i hq => ?_, fun i hq => ?_, fun i hq => ?_, fun i hq => ?_, hF.up (by omega)⟩
  · exact x0
  · exact x1
  · exact x2
  · exact x3
  · exact x4
  · exact x5
  · exact x6
  · rw [up_ne (by omega)]; exact x7
  · rw [up_ne (by omega)]; exact x8
  · rw [up_ne (by omega)]; exact x9
  · rw [up_ne (by omega)]; exact x10
  · rw [up_ne (by omega)]; exact x11
  · rw [up_ne (by omega)]; exact x12
  · rw [up_ne (by omega)]; exact x13
  · rw [up_ne (by omega)]; exact x14
  · rw [up_ne (by omega)]; exact x15
  · rw [up_ne (by omega)]; exact x16
  · rw [up_ne (by omega)]; exact x17
  · rw [up_ne (by omega)]; exact x18
  · rw [up_ne (by omega)]; exact x19
  · rw [up_s]
  · rw [up_ne (by omega)]; exact x21
  · rw [up_ne (by omega)]; exact x22 i hq
  · rw [up_ne (by omega)]; exact x23 i hq
  · rw [up_ne (by omega)]; exact x24 i hq
  · rw [up_ne (by omega)]; exact x25 i hq
  · rw [up_ne (by omega)]; exact x26 i hq
  · rw [up_ne (by omega)]; exact x27 i hq
theorem MV.p_z {τ : TY} {M0 M : ME} {m : Nat} {y : Nat} {z : Nat} {s1 : Nat} {s2 : Nat} {sz1 : Nat} {tk : Nat} {dp : Nat} {B : Nat → Nat} {ω : RH} (h : MV τ M0 M m y z s1 s2 sz1 tk dp B ω) {x : Nat} : MV τ M0 (up M (m) (12) (.ref x)) m y x s1 s2 sz1 tk dp B ω := by
  obtain ⟨x0, x1, x2, x3, x4, x5, x6, x7, x8, x9, x10, x11, x12, x13, x14, x15, x16, x17, x18, x19, x20, x21, x22, x23, x24, x25, x26, x27, hF⟩ := h
  refine ⟨?_, ?_, ?_, ?_, ?_, ?_, ?_, ?_, ?_, ?_, ?_, ?_, ?_, ?_, ?_, ?_, ?_, ?_, ?_, ?_, ?_, ?_, fun i hq => ?_, fun i hq => ?_, fun i hq => ?_, fun i hq => ?_, fun i hq => ?_, fun i hq => ?_, hF.up (by omega)⟩
  · exact x0
  · exact x1
  · exact x2
  · exact x3
  · exact x4
  · exact x5
  · exact x6
  · rw [up_ne (by omega)]; exact x7
  · rw [up_ne (by omega)]; exact x8
  · rw [up_ne (by omega)]; exact x9
  · rw [up_ne (by omega)]; exact x10
  · rw [up_ne (by omega)]; exact x11
  · rw [up_ne (by omega)]; exact x12
  · rw [up_ne (by omega)]; exact x13
  · rw [up_ne (by omega)]; exact x14
  · rw [up_ne (by omega)]; exact x15
  · rw [up_ne (by omega)]; exact x16
  · rw [up_ne (by omega)]; exact x17
  · rw [up_ne (by omega)]; exact x18
  · rw [up_ne (by omega)]; exact x19
  · rw [up_ne (by omega)]; exact x20
  · rw [up_s]
  · rw [up_ne (by omega)]; exact x22 i hq
  · rw [up_ne (by omega)]; exact x23 i hq
  · rw [up_ne (by omega)]; exact x24 i hq
  · rw [up_ne (by omega)]; exact x25 i hq
  · rw [up_ne (by omega)]; exact x26 i hq
  · rw [up_ne (by omega)]; exact x27 i hq
theorem MV.p_by {τ : TY} {M0 M : ME} {m : Nat} {y : Nat} {z : Nat} {s1 : Nat} {s2 : Nat} {sz1 : Nat} {tk : Nat} {dp : Nat} {B : Nat → Nat} {ω : RH} (h : MV τ M0 M m y z s1 s2 sz1 tk dp B ω) {x : Nat} {i0 : Nat} (hi0 : i0 < 2000) : MV τ M0 (up M (m + 1) (i0) (.int (nI x))) m y z s1 s2 sz1 tk dp (u1 B i0 x) ω := by
  obtain ⟨x0, x1, x2, x3, x4, x5, x6, x7, x8, x9, x10, x11, x12, x13, x14, x15, x16, x17, x18, x19, x20, x21, x22, x23, x24, x25, x26, x27, hF⟩ := h
  refine ⟨?_, ?_, ?_, ?_, ?_, ?_, ?_, ?_, ?_, ?_, ?_, ?_, ?_, ?_, ?_, ?_, ?_, ?_, ?_, ?_, ?_, ?_, fun i hq => ?_, fun i hq => ?_, fun i hq => ?_, fun i hq => ?_, fun i hq => ?_, fun i hq => ?_, hF.up (by omega)⟩
  · exact x0
  · exact x1
  · exact x2
  · exact x3
  · exact x4
  · exact x5
  · exact x6
  · rw [up_ne (by omega)]; exact x7
  · rw [up_ne (by omega)]; exact x8
  · rw [up_ne (by omega)]; exact x9
  · rw [up_ne (by omega)]; exact x10
  · rw [up_ne (by omega)]; exact x11
  · rw [up_ne (by omega)]; exact x12
  · rw [up_ne (by omega)]; exact x13
  · rw [up_ne (by omega)]; exact x14
  · rw [up_ne (by omega)]; exact x15
  · rw [up_ne (by omega)]; exact x16
  · rw [up_ne (by omega)]; exact x17
  · rw [up_ne (by omega)]; exact x18
  · rw [up_ne (by omega)]; exact x19
  · rw [up_ne (by omega)]; exact x20
  · rw [up_ne (by omega)]; exact x21
  · by_cases e : i = i0
    · subst e; rw [up_s, u1_s]
    · rw [up_ne (by omega)]; rw [u1_i e]; exact x22 i hq
  · rw [up_ne (by omega)]; exact x23 i hq
  · rw [up_ne (by omega)]; exact x24 i hq
  · rw [up_ne (by omega)]; exact x25 i hq
  · rw [up_ne (by omega)]; exact x26 i hq
  · rw [up_ne (by omega)]; exact x27 i hq
theorem MV.p_vkd {τ : TY} {M0 M : ME} {m : Nat} {y : Nat} {z : Nat} {s1 : Nat} {s2 : Nat} {sz1 : Nat} {tk : Nat} {dp : Nat} {B : Nat → Nat} {ω : RH} (h : MV τ M0 M m y z s1 s2 sz1 tk dp B ω) {x : Int32} {i0 : Nat} (hi0 : i0 < 401) : MV τ M0 (up M (m + 2) (i0) (.int x)) m y z s1 s2 sz1 tk dp B (u2 ω 80 i0 x) := by
  obtain ⟨x0, x1, x2, x3, x4, x5, x6, x7, x8, x9, x10, x11, x12, x13, x14, x15, x16, x17, x18, x19, x20, x21, x22, x23, x24, x25, x26, x27, hF⟩ := h
  refine ⟨?_, ?_, ?_, ?_, ?_, ?_, ?_, ?_, ?_, ?_, ?_, ?_, ?_, ?_, ?_, ?_, ?_, ?_, ?_, ?_, ?_, ?_, fun i hq => ?_, fun i hq => ?_, fun i hq => ?_, fun i hq => ?_, fun i hq => ?_, fun i hq => ?_, hF.up (by omega)⟩
  · exact x0
  · exact x1
  · exact x2
  · exact x3
  · exact x4
  · exact x5
  · exact x6
  · rw [up_ne (by omega)]; exact x7
  · rw [up_ne (by omega)]; exact x8
  · rw [up_ne (by omega)]; exact x9
  · rw [up_ne (by omega)]; exact x10
  · rw [up_ne (by omega)]; exact x11
  · rw [up_ne (by omega)]; exact x12
  · rw [up_ne (by omega)]; exact x13
  · rw [up_ne (by omega)]; exact x14
  · rw [up_ne (by omega)]; rw [u2_f (by omega)]; exact x15
  · rw [up_ne (by omega)]; exact x16
  · rw [up_ne (by omega)]; rw [u2_f (by omega)]; exact x17
  · rw [up_ne (by omega)]; exact x18
  · rw [up_ne (by omega)]; exact x19
  · rw [up_ne (by omega)]; exact x20
  · rw [up_ne (by omega)]; exact x21
  · rw [up_ne (by omega)]; exact x22 i hq
  · by_cases e : i = i0
    · subst e; rw [up_s, u2_s]
    · rw [up_ne (by omega)]; rw [u2_i e]; exact x23 i hq
  · rw [up_ne (by omega)]; rw [u2_f (by omega)]; exact x24 i hq
  · rw [up_ne (by omega)]; rw [u2_f (by omega)]; exact x25 i hq
  · rw [up_ne (by omega)]; rw [u2_f (by omega)]; exact x26 i hq
  · rw [up_ne (by omega)]; rw [u2_f (by omega)]; exact x27 i hq
theorem MV.p_vfr {τ : TY} {M0 M : ME} {m : Nat} {y : Nat} {z : Nat} {s1 : Nat} {s2 : Nat} {sz1 : Nat} {tk : Nat} {dp : Nat} {B : Nat → Nat} {ω : RH} (h : MV τ M0 M m y z s1 s2 sz1 tk dp B ω) {x : Int32} {i0 : Nat} (hi0 : i0 < 401) : MV τ M0 (up M (m + 3) (i0) (.int x)) m y z s1 s2 sz1 tk dp B (u2 ω 81 i0 x) := by
  obtain ⟨x0, x1, x2, x3, x4, x5, x6, x7, x8, x9, x10, x11, x12, x13, x14, x15, x16, x17, x18, x19, x20, x21, x22, x23, x24, x25, x26, x27, hF⟩ := h
  refine ⟨?_, ?_, ?_, ?_, ?_, ?_, ?_, ?_, ?_, ?_, ?_, ?_, ?_, ?_, ?_, ?_, ?_, ?_, ?_, ?_, ?_, ?_, fun i hq => ?_, fun i hq => ?_, fun i hq => ?_, fun i hq => ?_, fun i hq => ?_, fun i hq => ?_, hF.up (by omega)⟩
  · exact x0
  · exact x1
  · exact x2
  · exact x3
  · exact x4
  · exact x5
  · exact x6
  · rw [up_ne (by omega)]; exact x7
  · rw [up_ne (by omega)]; exact x8
  · rw [up_ne (by omega)]; exact x9
  · rw [up_ne (by omega)]; exact x10
  · rw [up_ne (by omega)]; exact x11
  · rw [up_ne (by omega)]; exact x12
  · rw [up_ne (by omega)]; exact x13
  · rw [up_ne (by omega)]; exact x14
  · rw [up_ne (by omega)]; rw [u2_f (by omega)]; exact x15
  · rw [up_ne (by omega)]; exact x16
  · rw [up_ne (by omega)]; rw [u2_f (by omega)]; exact x17
  · rw [up_ne (by omega)]; exact x18
  · rw [up_ne (by omega)]; exact x19
  · rw [up_ne (by omega)]; exact x20
  · rw [up_ne (by omega)]; exact x21
  · rw [up_ne (by omega)]; exact x22 i hq
  · rw [up_ne (by omega)]; rw [u2_f (by omega)]; exact x23 i hq
  · by_cases e : i = i0
    · subst e; rw [up_s, u2_s]
    · rw [up_ne (by omega)]; rw [u2_i e]; exact x24 i hq
  · rw [up_ne (by omega)]; rw [u2_f (by omega)]; exact x25 i hq
  · rw [up_ne (by omega)]; rw [u2_f (by omega)]; exact x26 i hq
  · rw [up_ne (by omega)]; rw [u2_f (by omega)]; exact x27 i hq
theorem MV.p_vmn {τ : TY} {M0 M : ME} {m : Nat} {y : Nat} {z : Nat} {s1 : Nat} {s2 : Nat} {sz1 : Nat} {tk : Nat} {dp : Nat} {B : Nat → Nat} {ω : RH} (h : MV τ M0 M m y z s1 s2 sz1 tk dp B ω) {x : Int32} {i0 : Nat} (hi0 : i0 < 401) : MV τ M0 (up M (m + 4) (i0) (.int x)) m y z s1 s2 sz1 tk dp B (u2 ω 82 i0 x) := by
  obtain ⟨x0, x1, x2, x3, x4, x5, x6, x7, x8, x9, x10, x11, x12, x13, x14, x15, x16, x17, x18, x19, x20, x21, x22, x23, x24, x25, x26, x27, hF⟩ := h
  refine ⟨?_, ?_, ?_, ?_, ?_, ?_, ?_, ?_, ?_, ?_, ?_, ?_, ?_, ?_, ?_, ?_, ?_, ?_, ?_, ?_, ?_, ?_, fun i hq => ?_, fun i hq => ?_, fun i hq => ?_, fun i hq => ?_, fun i hq => ?_, fun i hq => ?_, hF.up (by omega)⟩
  · exact x0
  · exact x1
  · exact x2
  · exact x3
  · exact x4
  · exact x5
  · exact x6
  · rw [up_ne (by omega)]; exact x7
  · rw [up_ne (by omega)]; exact x8
  · rw [up_ne (by omega)]; exact x9
  · rw [up_ne (by omega)]; exact x10
  · rw [up_ne (by omega)]; exact x11
  · rw [up_ne (by omega)]; exact x12
  · rw [up_ne (by omega)]; exact x13
  · rw [up_ne (by omega)]; exact x14
  · rw [up_ne (by omega)]; rw [u2_f (by omega)]; exact x15
  · rw [up_ne (by omega)]; exact x16
  · rw [up_ne (by omega)]; rw [u2_f (by omega)]; exact x17
  · rw [up_ne (by omega)]; exact x18
  · rw [up_ne (by omega)]; exact x19
  · rw [up_ne (by omega)]; exact x20
  · rw [up_ne (by omega)]; exact x21
  · rw [up_ne (by omega)]; exact x22 i hq
  · rw [up_ne (by omega)]; rw [u2_f (by omega)]; exact x23 i hq
  · rw [up_ne (by omega)]; rw [u2_f (by omega)]; exact x24 i hq
  · by_cases e : i = i0
    · subst e; rw [up_s, u2_s]
    · rw [up_ne (by omega)]; rw [u2_i e]; exact x25 i hq
  · rw [up_ne (by omega)]; rw [u2_f (by omega)]; exact x26 i hq
  · rw [up_ne (by omega)]; rw [u2_f (by omega)]; exact x27 i hq
theorem MV.p_vro {τ : TY} {M0 M : ME} {m : Nat} {y : Nat} {z : Nat} {s1 : Nat} {s2 : Nat} {sz1 : Nat} {tk : Nat} {dp : Nat} {B : Nat → Nat} {ω : RH} (h : MV τ M0 M m y z s1 s2 sz1 tk dp B ω) {x : Int32} {i0 : Nat} (hi0 : i0 < 401) : MV τ M0 (up M (m + 5) (i0) (.int x)) m y z s1 s2 sz1 tk dp B (u2 ω 83 i0 x) := by
  obtain ⟨x0, x1, x2, x3, x4, x5, x6, x7, x8, x9, x10, x11, x12, x13, x14, x15, x16, x17, x18, x19, x20, x21, x22, x23, x24, x25, x26, x27, hF⟩ := h
  refine ⟨?_, ?_, ?_, ?_, ?_, ?_, ?_, ?_, ?_, ?_, ?_, ?_, ?_, ?_, ?_, ?_, ?_, ?_, ?_, ?_, ?_, ?_, fun i hq => ?_, fun i hq => ?_, fun i hq => ?_, fun i hq => ?_, fun i hq => ?_, fun i hq => ?_, hF.up (by omega)⟩
  · exact x0
  · exact x1
  · exact x2
  · exact x3
  · exact x4
  · exact x5
  · exact x6
  · rw [up_ne (by omega)]; exact x7
  · rw [up_ne (by omega)]; exact x8
  · rw [up_ne (by omega)]; exact x9
  · rw [up_ne (by omega)]; exact x10
  · rw [up_ne (by omega)]; exact x11
  · rw [up_ne (by omega)]; exact x12
  · rw [up_ne (by omega)]; exact x13
  · rw [up_ne (by omega)]; exact x14
  · rw [up_ne (by omega)]; rw [u2_f (by omega)]; exact x15
  · rw [up_ne (by omega)]; exact x16
  · rw [up_ne (by omega)]; rw [u2_f (by omega)]; exact x17
  · rw [up_ne (by omega)]; exact x18
  · rw [up_ne (by omega)]; exact x19
  · rw [up_ne (by omega)]; exact x20
  · rw [up_ne (by omega)]; exact x21
  · rw [up_ne (by omega)]; exact x22 i hq
  · rw [up_ne (by omega)]; rw [u2_f (by omega)]; exact x23 i hq
  · rw [up_ne (by omega)]; rw [u2_f (by omega)]; exact x24 i hq
  · rw [up_ne (by omega)]; rw [u2_f (by omega)]; exact x25 i hq
  · by_cases e : i = i0
    · subst e; rw [up_s, u2_s]
    · rw [up_ne (by omega)]; rw [u2_i e]; exact x26 i hq
  · rw [up_ne (by omega)]; rw [u2_f (by omega)]; exact x27 i hq
theorem MV.p_vme {τ : TY} {M0 M : ME} {m : Nat} {y : Nat} {z : Nat} {s1 : Nat} {s2 : Nat} {sz1 : Nat} {tk : Nat} {dp : Nat} {B : Nat → Nat} {ω : RH} (h : MV τ M0 M m y z s1 s2 sz1 tk dp B ω) {x : Int32} {i0 : Nat} (hi0 : i0 < 401) : MV τ M0 (up M (m + 6) (i0) (.int x)) m y z s1 s2 sz1 tk dp B (u2 ω 84 i0 x) := by
  obtain ⟨x0, x1, x2, x3, x4, x5, x6, x7, x8, x9, x10, x11, x12, x13, x14, x15, x16, x17, x18, x19, x20, x21, x22, x23, x24, x25, x26, x27, hF⟩ := h
  refine ⟨?_, ?_, ?_, ?_, ?_, ?_, ?_, ?_, ?_, ?_, ?_, ?_, ?_, ?_, ?_, ?_, ?_, ?_, ?_, ?_, ?_, ?_, fun i hq => ?_, fun i hq => ?_, fun i hq => ?_, fun i hq => ?_, fun i hq => ?_, fun i hq => ?_, hF.up (by omega)⟩
  · exact x0
  · exact x1
  · exact x2
  · exact x3
  · exact x4
  · exact x5
  · exact x6
  · rw [up_ne (by omega)]; exact x7
  · rw [up_ne (by omega)]; exact x8
  · rw [up_ne (by omega)]; exact x9
  · rw [up_ne (by omega)]; exact x10
  · rw [up_ne (by omega)]; exact x11
  · rw [up_ne (by omega)]; exact x12
  · rw [up_ne (by omega)]; exact x13
  · rw [up_ne (by omega)]; exact x14
  · rw [up_ne (by omega)]; rw [u2_f (by omega)]; exact x15
  · rw [up_ne (by omega)]; exact x16
  · rw [up_ne (by omega)]; rw [u2_f (by omega)]; exact x17
  · rw [up_ne (by omega)]; exact x18
  · rw [up_ne (by omega)]; exact x19
  · rw [up_ne (by omega)]; exact x20
  · rw [up_ne (by omega)]; exact x21
  · rw [up_ne (by omega)]; exact x22 i hq
  · rw [up_ne (by omega)]; rw [u2_f (by omega)]; exact x23 i hq
  · rw [up_ne (by omega)]; rw [u2_f (by omega)]; exact x24 i hq
  · rw [up_ne (by omega)]; rw [u2_f (by omega)]; exact x25 i hq
  · rw [up_ne (by omega)]; rw [u2_f (by omega)]; exact x26 i hq
  · by_cases e : i = i0
    · subst e; rw [up_s, u2_s]
    · rw [up_ne (by omega)]; rw [u2_i e]; exact x27 i hq
/-- the byte at a place, -1 behind the end -/
def bF (B : Nat → Nat) (ln p : Nat) : Int32 := if p < ln then nI (B p) else -1
theorem bF_lt : ∀ n, n < 256 → iiF (nI n) 97 122 = if ltB n = true then 1 else 0 := by decide +kernel
theorem bF_dg : ∀ n, n < 256 → iiF (nI n) 48 57 = if dgB n = true then 1 else 0 := by decide +kernel
theorem nI_m1' {n : Nat} (h : n < 2 ^ 31) : ¬ nI n = -1 := nI_m1 h
section BF
variable {B : Nat → Nat} {ln p : Nat}
theorem bF_y (h : p < ln) : bF B ln p = nI (B p) := if_pos h
theorem bF_n (h : ¬ p < ln) : bF B ln p = -1 := if_neg h
theorem bL_1 (h8 : ∀ i, B i < 256) : iiF (bF B ln p) 97 122 = if p < ln ∧ ltB (B p) = true then 1 else 0 := by
  by_cases h : p < ln
  · rw [bF_y h, bF_lt _ (h8 p)]; simp [h]
  · rw [bF_n h, if_neg (fun q => h q.1)]; decide
theorem bD_1 (h8 : ∀ i, B i < 256) : iiF (bF B ln p) 48 57 = if p < ln ∧ dgB (B p) = true then 1 else 0 := by
  by_cases h : p < ln
  · rw [bF_y h, bF_dg _ (h8 p)]; simp [h]
  · rw [bF_n h, if_neg (fun q => h q.1)]; decide
theorem one_0 {P : Prop} {dP : Decidable P} (h : (if P then (1 : Int32) else 0) = 0) : ¬ P := fun q => by rw [if_pos q] at h; exact absurd h (by decide)
theorem one_1 {P : Prop} {dP : Decidable P} (h : ¬ (if P then (1 : Int32) else 0) = 0) : P := Decidable.byContradiction fun q => h (if_neg q)
end BF
set_option maxHeartbeats 1000000 in
theorem c_X13_byteOf {l : Launch} {D : va_G} {cA : Nat → ClassId} {n0 : Nat} {sg adK adV : Nat → Nat} {sgA smA wdA bS LS : Nat} {xs : Nat → Int32} (hX : SF n0 (XW0 sg adK adV sgA smA wdA n0 bS LS xs)) {sz : Nat} {τ : TY} {M0 M : ME} {m y z s1 s2 ln tk dp : Nat} {B : Nat → Nat} {ω : RH} (hM : MV τ M0 M m y z s1 s2 ln tk dp B ω) (hl2 : ln ≤ 2000) {p : Nat} (hp : p < 2 ^ 30) : CT l D cA n0 (XW0 sg adK adV sgA smA wdA n0 bS LS xs) mX13_byteOf 1 0 0 sz τ M [.ref m, .int (nI p)] (ROq (.int (bF B ln p)) sz τ M) := by
  refine CT.of (ls := [.ref m, .int (nI p)]) (by decide) (Nat.le_of_ble_eq_true rfl) rfl ?_
  refine T_iload1 dX13_byteOf_0 rfl ?_
  refine T_aload0 dX13_byteOf_1 rfl ?_
  refine g13_86 _ rfl (hM.t_m) (hM.g_n) dX13_byteOf_2 rfl ?_
  refine T_icmp_ge 17 8 dX13_byteOf_5 (by decide) rfl (fun c5 => ?_) (fun c5 => ?_)
  ·
    have c5 := (nI_leI (by omega) (by omega)).mp c5
    refine T_iconst (-1) dX13_byteOf_17 rfl rfl ?_
    refine T_iret rfl rfl dX13_byteOf_18 ?_
    refine ⟨congrArg (fun z => some (Value.int z)) ?_, rfl, rfl, rfl⟩
    first | exact (bF_y c5).symm | exact (bF_n (by omega)).symm
  ·
    have c5 := Nat.lt_of_not_le (fun q => c5 ((nI_leI (by omega) (by omega)).mpr q))
    refine T_aload0 dX13_byteOf_8 rfl ?_
    refine g13_9 _ rfl (hM.t_m) (hM.g_tp) dX13_byteOf_9 rfl ?_
    refine T_iload1 dX13_byteOf_12 rfl ?_
    refine T_iald _ (hM.t_tp) rfl (by omega) (by decide) dX13_byteOf_13 rfl (hM.g_by (by omega)) ?_
    refine T_goto 18 dX13_byteOf_14 (by decide) ?_
    refine T_iret rfl rfl dX13_byteOf_18 ?_
    refine ⟨congrArg (fun z => some (Value.int z)) ?_, rfl, rfl, rfl⟩
    first | exact (bF_y c5).symm | exact (bF_n (by omega)).symm
set_option maxHeartbeats 1000000 in
theorem c_X13_isLetter {l : Launch} {D : va_G} {cA : Nat → ClassId} {n0 : Nat} {sg adK adV : Nat → Nat} {sgA smA wdA bS LS : Nat} {xs : Nat → Int32} (hX : SF n0 (XW0 sg adK adV sgA smA wdA n0 bS LS xs)) {sz : Nat} {τ : TY} {M : ME} (v : Int32) : CT l D cA n0 (XW0 sg adK adV sgA smA wdA n0 bS LS xs) mX13_isLetter 1 0 0 sz τ M [.int v] (ROq (.int (iiF v 97 122)) sz τ M) := by
  refine CT.of (ls := [.int v]) (by decide) (Nat.le_of_ble_eq_true rfl) rfl ?_
  refine T_iload0 dX13_isLetter_0 rfl ?_
  refine T_bipush (97) dX13_isLetter_1 rfl rfl ?_
  refine T_icmp_lt 16 6 dX13_isLetter_3 (by decide) rfl (fun c2 => ?_) (fun c2 => ?_)
  ·
    refine T_iconst (0) dX13_isLetter_16 rfl rfl ?_
    refine T_iret rfl rfl dX13_isLetter_17 ?_
    refine ⟨congrArg (fun z => some (Value.int z)) ?_, rfl, rfl, rfl⟩
    first | (refine (if_neg ?_).symm; exact fun q => Int32.not_le.mpr c2 q.1) | (refine (if_neg ?_).symm; exact fun q => Int32.not_le.mpr c7 q.2) | (refine (if_pos ?_).symm; exact And.intro (Int32.not_lt.mp c2) (Int32.not_lt.mp c7))
  ·
    refine T_iload0 dX13_isLetter_6 rfl ?_
    refine T_bipush (122) dX13_isLetter_7 rfl rfl ?_
    refine T_icmp_gt 16 12 dX13_isLetter_9 (by decide) rfl (fun c7 => ?_) (fun c7 => ?_)
    ·
      refine T_iconst (0) dX13_isLetter_16 rfl rfl ?_
      refine T_iret rfl rfl dX13_isLetter_17 ?_
      refine ⟨congrArg (fun z => some (Value.int z)) ?_, rfl, rfl, rfl⟩
      first | (refine (if_neg ?_).symm; exact fun q => Int32.not_le.mpr c2 q.1) | (refine (if_neg ?_).symm; exact fun q => Int32.not_le.mpr c7 q.2) | (refine (if_pos ?_).symm; exact And.intro (Int32.not_lt.mp c2) (Int32.not_lt.mp c7))
    ·
      refine T_iconst (1) dX13_isLetter_12 rfl rfl ?_
      refine T_goto 17 dX13_isLetter_13 (by decide) ?_
      refine T_iret rfl rfl dX13_isLetter_17 ?_
      refine ⟨congrArg (fun z => some (Value.int z)) ?_, rfl, rfl, rfl⟩
      first | (refine (if_neg ?_).symm; exact fun q => Int32.not_le.mpr c2 q.1) | (refine (if_neg ?_).symm; exact fun q => Int32.not_le.mpr c7 q.2) | (refine (if_pos ?_).symm; exact And.intro (Int32.not_lt.mp c2) (Int32.not_lt.mp c7))
set_option maxHeartbeats 1000000 in
theorem c_X13_isDigit {l : Launch} {D : va_G} {cA : Nat → ClassId} {n0 : Nat} {sg adK adV : Nat → Nat} {sgA smA wdA bS LS : Nat} {xs : Nat → Int32} (hX : SF n0 (XW0 sg adK adV sgA smA wdA n0 bS LS xs)) {sz : Nat} {τ : TY} {M : ME} (v : Int32) : CT l D cA n0 (XW0 sg adK adV sgA smA wdA n0 bS LS xs) mX13_isDigit 1 0 0 sz τ M [.int v] (ROq (.int (iiF v 48 57)) sz τ M) := by
  refine CT.of (ls := [.int v]) (by decide) (Nat.le_of_ble_eq_true rfl) rfl ?_
  refine T_iload0 dX13_isDigit_0 rfl ?_
  refine T_bipush (48) dX13_isDigit_1 rfl rfl ?_
  refine T_icmp_lt 16 6 dX13_isDigit_3 (by decide) rfl (fun c2 => ?_) (fun c2 => ?_)
  ·
    refine T_iconst (0) dX13_isDigit_16 rfl rfl ?_
    refine T_iret rfl rfl dX13_isDigit_17 ?_
    refine ⟨congrArg (fun z => some (Value.int z)) ?_, rfl, rfl, rfl⟩
    first | (refine (if_neg ?_).symm; exact fun q => Int32.not_le.mpr c2 q.1) | (refine (if_neg ?_).symm; exact fun q => Int32.not_le.mpr c7 q.2) | (refine (if_pos ?_).symm; exact And.intro (Int32.not_lt.mp c2) (Int32.not_lt.mp c7))
  ·
    refine T_iload0 dX13_isDigit_6 rfl ?_
    refine T_bipush (57) dX13_isDigit_7 rfl rfl ?_
    refine T_icmp_gt 16 12 dX13_isDigit_9 (by decide) rfl (fun c7 => ?_) (fun c7 => ?_)
    ·
      refine T_iconst (0) dX13_isDigit_16 rfl rfl ?_
      refine T_iret rfl rfl dX13_isDigit_17 ?_
      refine ⟨congrArg (fun z => some (Value.int z)) ?_, rfl, rfl, rfl⟩
      first | (refine (if_neg ?_).symm; exact fun q => Int32.not_le.mpr c2 q.1) | (refine (if_neg ?_).symm; exact fun q => Int32.not_le.mpr c7 q.2) | (refine (if_pos ?_).symm; exact And.intro (Int32.not_lt.mp c2) (Int32.not_lt.mp c7))
    ·
      refine T_iconst (1) dX13_isDigit_12 rfl rfl ?_
      refine T_goto 17 dX13_isDigit_13 (by decide) ?_
      refine T_iret rfl rfl dX13_isDigit_17 ?_
      refine ⟨congrArg (fun z => some (Value.int z)) ?_, rfl, rfl, rfl⟩
      first | (refine (if_neg ?_).symm; exact fun q => Int32.not_le.mpr c2 q.1) | (refine (if_neg ?_).symm; exact fun q => Int32.not_le.mpr c7 q.2) | (refine (if_pos ?_).symm; exact And.intro (Int32.not_lt.mp c2) (Int32.not_lt.mp c7))
def syB (b : Nat) : Bool := [40, 41, 91, 93, 59, 44, 43, 45, 42, 47, 60, 62, 61].contains b
theorem sy_ok : ∀ b, b < 128 → ((∃ j, j < 13 ∧ chF 3 j = (nI b).toInt8.toInt32) ↔ syB b = true) := by decide +kernel
theorem sy_13 : stL.getD 3 0 = 13 := by decide
theorem i2c_b : ∀ b, b < 128 → ((nI b).toUInt32 % 65536).toInt32 = nI b := by decide +kernel
set_option maxHeartbeats 1000000 in
theorem c_J1_canEncode_9a6ad {l : Launch} {D : va_G} {cA : Nat → ClassId} {n0 : Nat} {sg adK adV : Nat → Nat} {sgA smA wdA bS LS : Nat} {xs : Nat → Int32} (hX : SF n0 (XW0 sg adK adV sgA smA wdA n0 bS LS xs)) {sz : Nat} {τ : TY} {M : ME} {b : Nat} (hb : b < 128) : CT l D cA n0 (XW0 sg adK adV sgA smA wdA n0 bS LS xs) mJ1_canEncode_9a6ad 1 0 0 sz τ M [.int (nI b)] (ROq (.int (1)) sz τ M) := by
  refine CT.of (ls := [.int (nI b)]) (by decide) (Nat.le_of_ble_eq_true rfl) rfl ?_
  refine T_iload0 dJ1_canEncode_9a6ad_0 rfl ?_
  refine T_if_lt_f 15 4 dJ1_canEncode_9a6ad_1 (by decide) rfl (nI_pos (by omega)) ?_
  refine T_iload0 dJ1_canEncode_9a6ad_4 rfl ?_
  refine T_sipush (255) dJ1_canEncode_9a6ad_5 rfl rfl ?_
  refine T_icmp_gt_f 15 11 dJ1_canEncode_9a6ad_8 (by decide) rfl (fun q => absurd ((nI_leI (a := b) (b := 255) (by omega) (by omega)).mpr (by omega)) (Int32.not_le.mpr q)) ?_
  refine T_iconst (1) dJ1_canEncode_9a6ad_11 rfl rfl ?_
  refine T_goto 16 dJ1_canEncode_9a6ad_12 (by decide) ?_
  refine T_iret rfl rfl dJ1_canEncode_9a6ad_16 ?_
  exact ⟨rfl, rfl, rfl, rfl⟩
set_option maxHeartbeats 1000000 in
theorem L_J1_indexOfChar {l : Launch} {D : va_G} {cA : Nat → ClassId} {n0 : Nat} {sg adK adV : Nat → Nat} {sgA smA wdA bS LS : Nat} {xs : Nat → Int32} (hX : SF n0 (XW0 sg adK adV sgA smA wdA n0 bS LS xs)) {sz : Nat} {τ : TY} {M : ME} {b : Nat} (hb : b < 128) : ∀ (n : Nat) (k : Nat) (hk : k ≤ 13) (hq : ∀ j, j < k → ¬ chF 3 j = (nI b).toInt8.toInt32), 13 - k < n → T l D cA n0 (XW0 sg adK adV sgA smA wdA n0 bS LS xs) mJ1_indexOfChar_4cfef 1 0 0 sz τ M 7 [.ref (adV 3), .int (nI b), .int 0, .int (nI 13), .int ((nI b).toInt8.toInt32), .int (nI k)] [] (fun v' sz' τ' M' => (∃ x, v' = some (.int x) ∧ (x < 0 ↔ syB b ≠ true)) ∧ sz' = sz ∧ τ' = τ ∧ M' = M) (fun _ _ _ _ => False) := by
  intro n
  induction n with
  | zero => intros; omega
  | succ n ih =>
    intro k hk hq hn
    refine T_iload5 dJ1_indexOfChar_4cfef_7 rfl ?_
    refine T_iload3 dJ1_indexOfChar_4cfef_9 rfl ?_
    refine T_icmp_ge 31 13 dJ1_indexOfChar_4cfef_10 (by decide) rfl (fun c7 => ?_) (fun c7 => ?_)
    ·
      have c7 := (nI_leI (by omega) (by omega)).mp c7
      refine T_iconst (-1) dJ1_indexOfChar_4cfef_31 rfl rfl ?_
      refine T_iret rfl rfl dJ1_indexOfChar_4cfef_32 ?_
      exact ⟨⟨_, rfl, ⟨fun _ z => by obtain ⟨j, h1, h2⟩ := (sy_ok b hb).mpr z; exact hq j (by omega) h2, fun _ => by decide⟩⟩, rfl, rfl, rfl⟩
    ·
      have c7 := Nat.lt_of_not_le (fun q => c7 ((nI_leI (by omega) (by omega)).mpr q))
      refine T_aload0 dJ1_indexOfChar_4cfef_13 rfl ?_
      refine T_iload5 dJ1_indexOfChar_4cfef_14 rfl ?_
      refine T_tb k (fun _ _ h => (h.2.1 3 (by decide)).2.2.2.1) rfl (by rw [sy_13]; exact c7) (by rw [sy_13]; decide) rfl dJ1_indexOfChar_4cfef_16 rfl ?_
      refine T_iload4 dJ1_indexOfChar_4cfef_17 rfl ?_
      refine T_icmp_ne 25 22 dJ1_indexOfChar_4cfef_19 (by decide) rfl (fun c19 => ?_) (fun c19 => ?_)
      ·
        first | refine T_iinc5 rfl (by decide) dJ1_indexOfChar_4cfef_25 rfl (inc1 _) ?_ | refine T_iinc5 rfl (by decide) dJ1_indexOfChar_4cfef_25 rfl rfl ?_
        refine T_goto 7 dJ1_indexOfChar_4cfef_28 (by decide) ?_
        exact ih (k + 1) (by omega) (fun j hj => (Nat.lt_succ_iff_lt_or_eq.mp hj).elim (hq j) (fun e => by subst e; exact c19)) (by omega)
      ·
        refine T_iload5 dJ1_indexOfChar_4cfef_22 rfl ?_
        refine T_iret rfl rfl dJ1_indexOfChar_4cfef_24 ?_
        exact ⟨⟨_, rfl, ⟨fun q => absurd q (nI_pos (by omega)), fun q => absurd ((sy_ok b hb).mp ⟨k, c7, c19⟩) q⟩⟩, rfl, rfl, rfl⟩
set_option maxHeartbeats 1000000 in
theorem c_J1_indexOfChar_4cfef {l : Launch} {D : va_G} {cA : Nat → ClassId} {n0 : Nat} {sg adK adV : Nat → Nat} {sgA smA wdA bS LS : Nat} {xs : Nat → Int32} (hX : SF n0 (XW0 sg adK adV sgA smA wdA n0 bS LS xs)) {sz : Nat} {τ : TY} {M : ME} {b : Nat} (hb : b < 128) : CT l D cA n0 (XW0 sg adK adV sgA smA wdA n0 bS LS xs) mJ1_indexOfChar_4cfef 1 0 0 sz τ M [.ref (adV 3), .int (nI b), .int 0, .int (nI 13)] (fun v' sz' τ' M' => (∃ x, v' = some (.int x) ∧ (x < 0 ↔ syB b ≠ true)) ∧ sz' = sz ∧ τ' = τ ∧ M' = M) := by
  refine CT.of (ls := [.ref (adV 3), .int (nI b), .int 0, .int (nI 13), UU, UU]) (by decide) (Nat.le_of_ble_eq_true rfl) rfl ?_
  refine T_iload1 dJ1_indexOfChar_4cfef_0 rfl ?_
  refine T_i2b dJ1_indexOfChar_4cfef_1 rfl ?_
  refine T_istore4 rfl (by decide) dJ1_indexOfChar_4cfef_2 rfl ?_
  refine T_iload2 dJ1_indexOfChar_4cfef_4 rfl ?_
  refine T_istore5 rfl (by decide) dJ1_indexOfChar_4cfef_5 rfl ?_
  exact L_J1_indexOfChar hX hb 14 0 (Nat.zero_le _) (fun _ h => absurd h (Nat.not_lt_zero _)) (by omega)
set_option maxHeartbeats 1000000 in
theorem c_J1_indexOf_4cfef {l : Launch} {D : va_G} {cA : Nat → ClassId} {n0 : Nat} {sg adK adV : Nat → Nat} {sgA smA wdA bS LS : Nat} {xs : Nat → Int32} (hX : SF n0 (XW0 sg adK adV sgA smA wdA n0 bS LS xs)) {sz : Nat} {τ : TY} {M : ME} {b : Nat} (hb : b < 128) : CT l D cA n0 (XW0 sg adK adV sgA smA wdA n0 bS LS xs) mJ1_indexOf_4cfef 2 0 0 sz τ M [.ref (adV 3), .int (nI b), .int 0, .int (nI 13)] (fun v' sz' τ' M' => (∃ x, v' = some (.int x) ∧ (x < 0 ↔ syB b ≠ true)) ∧ sz' = sz ∧ τ' = τ ∧ M' = M) := by
  refine CT.of (ls := [.ref (adV 3), .int (nI b), .int 0, .int (nI 13)]) (by decide) (Nat.le_of_ble_eq_true rfl) rfl ?_
  refine T_iload1 dJ1_indexOf_4cfef_0 rfl ?_
  refine T_cS1 (c_J1_canEncode_9a6ad hX hb) hX kJ1_88 (by decide) (Nat.le_of_ble_eq_true rfl) dJ1_indexOf_4cfef_1 rfl ?_
  rintro _ _ _ _ ⟨rfl, rfl, rfl, rfl⟩
  refine T_if_ne_t 9 dJ1_indexOf_4cfef_4 (by decide) (by decide) ?_
  refine T_iload2 dJ1_indexOf_4cfef_9 rfl ?_
  refine T_iconst (0) dJ1_indexOf_4cfef_10 rfl rfl ?_
  refine T_max km1_92 (by decide) (Nat.le_of_ble_eq_true rfl) dJ1_indexOf_4cfef_11 rfl ?_
  refine T_istore2 rfl (by decide) dJ1_indexOf_4cfef_14 rfl ?_
  refine T_iload3 dJ1_indexOf_4cfef_15 rfl ?_
  refine T_aload0 dJ1_indexOf_4cfef_16 rfl ?_
  refine T_tlen (fun _ _ h => (h.2.1 3 (by decide)).2.2.2.1) dJ1_indexOf_4cfef_17 rfl ?_
  refine T_min km1_38 (by decide) (Nat.le_of_ble_eq_true rfl) dJ1_indexOf_4cfef_18 rfl ?_
  refine T_istore3 rfl (by decide) dJ1_indexOf_4cfef_21 rfl ?_
  refine T_iload2 dJ1_indexOf_4cfef_22 rfl ?_
  refine T_iload3 dJ1_indexOf_4cfef_23 rfl ?_
  refine T_icmp_lt_t 29 dJ1_indexOf_4cfef_24 (by decide) (by decide) ?_
  refine T_aload0 dJ1_indexOf_4cfef_29 rfl ?_
  refine T_iload1 dJ1_indexOf_4cfef_30 rfl ?_
  refine T_iload2 dJ1_indexOf_4cfef_31 rfl ?_
  refine T_iload3 dJ1_indexOf_4cfef_32 rfl ?_
  refine T_cS4 (c_J1_indexOfChar_4cfef hX hb) hX kJ1_95 (by decide) (Nat.le_of_ble_eq_true rfl) dJ1_indexOf_4cfef_33 rfl ?_
  rintro _ _ _ _ ⟨⟨x, rfl, hx⟩, rfl, rfl, rfl⟩
  refine T_iret rfl rfl dJ1_indexOf_4cfef_36 ?_
  exact ⟨⟨_, rfl, hx⟩, rfl, rfl, rfl⟩
set_option maxHeartbeats 1000000 in
theorem c_J0_indexOf_7cf53 {l : Launch} {D : va_G} {cA : Nat → ClassId} {n0 : Nat} {sg adK adV : Nat → Nat} {sgA smA wdA bS LS : Nat} {xs : Nat → Int32} (hX : SF n0 (XW0 sg adK adV sgA smA wdA n0 bS LS xs)) {sz : Nat} {τ : TY} {M : ME} {b : Nat} (hb : b < 128) : CT l D cA n0 (XW0 sg adK adV sgA smA wdA n0 bS LS xs) mJ0_indexOf_7cf53 3 0 0 sz τ M [.ref (adK 3), .int (nI b), .int 0] (fun v' sz' τ' M' => (∃ x, v' = some (.int x) ∧ (x < 0 ↔ syB b ≠ true)) ∧ sz' = sz ∧ τ' = τ ∧ M' = M) := by
  refine CT.of (ls := [.ref (adK 3), .int (nI b), .int 0]) (by decide) (Nat.le_of_ble_eq_true rfl) rfl ?_
  refine T_aload0 dJ0_indexOf_7cf53_0 rfl ?_
  refine T_cV0 (c_J0_isLatin1_aae02 hX (i := 3) (by decide)) hX kJ0_492 (Or.inr (fun _ _ h => (h.2.1 3 (by decide)).1)) (by decide) (Nat.le_of_ble_eq_true rfl) dJ0_indexOf_7cf53_1 rfl ?_
  rintro _ _ _ _ ⟨rfl, rfl, rfl, rfl⟩
  refine T_if_eq_f 23 7 dJ0_indexOf_7cf53_4 (by decide) rfl (by decide) ?_
  refine T_aload0 dJ0_indexOf_7cf53_7 rfl ?_
  refine T_getc (v := .ref (adV 3)) (fun _ _ h => (h.2.1 3 (by decide)).2.2.1) kfJ0_9 (Or.inl rfl) dJ0_indexOf_7cf53_8 rfl ?_
  refine T_iload1 dJ0_indexOf_7cf53_11 rfl ?_
  refine T_iload2 dJ0_indexOf_7cf53_12 rfl ?_
  refine T_aload0 dJ0_indexOf_7cf53_13 rfl ?_
  refine T_cV0 (c_J0_length_8abf5 hX (i := 3) (by decide)) hX kJ0_505 (Or.inr (fun _ _ h => (h.2.1 3 (by decide)).1)) (by decide) (Nat.le_of_ble_eq_true rfl) dJ0_indexOf_7cf53_14 rfl ?_
  rintro _ _ _ _ ⟨rfl, rfl, rfl, rfl⟩
  refine T_cS4 (c_J1_indexOf_4cfef hX hb) hX kJ0_637 (by decide) (Nat.le_of_ble_eq_true rfl) dJ0_indexOf_7cf53_17 rfl ?_
  rintro _ _ _ _ ⟨⟨x, rfl, hx⟩, rfl, rfl, rfl⟩
  refine T_goto 36 dJ0_indexOf_7cf53_20 (by decide) ?_
  refine T_iret rfl rfl dJ0_indexOf_7cf53_36 ?_
  exact ⟨⟨_, rfl, hx⟩, rfl, rfl, rfl⟩
set_option maxHeartbeats 1000000 in
theorem c_J0_indexOf_0f7a4 {l : Launch} {D : va_G} {cA : Nat → ClassId} {n0 : Nat} {sg adK adV : Nat → Nat} {sgA smA wdA bS LS : Nat} {xs : Nat → Int32} (hX : SF n0 (XW0 sg adK adV sgA smA wdA n0 bS LS xs)) {sz : Nat} {τ : TY} {M : ME} {b : Nat} (hb : b < 128) : CT l D cA n0 (XW0 sg adK adV sgA smA wdA n0 bS LS xs) mJ0_indexOf_0f7a4 4 0 0 sz τ M [.ref (adK 3), .int (nI b)] (fun v' sz' τ' M' => (∃ x, v' = some (.int x) ∧ (x < 0 ↔ syB b ≠ true)) ∧ sz' = sz ∧ τ' = τ ∧ M' = M) := by
  refine CT.of (ls := [.ref (adK 3), .int (nI b)]) (by decide) (Nat.le_of_ble_eq_true rfl) rfl ?_
  refine T_aload0 dJ0_indexOf_0f7a4_0 rfl ?_
  refine T_iload1 dJ0_indexOf_0f7a4_1 rfl ?_
  refine T_iconst (0) dJ0_indexOf_0f7a4_2 rfl rfl ?_
  refine T_cV2 (c_J0_indexOf_7cf53 hX hb) hX kJ0_633 (Or.inr (fun _ _ h => (h.2.1 3 (by decide)).1)) (by decide) (Nat.le_of_ble_eq_true rfl) dJ0_indexOf_0f7a4_3 rfl ?_
  rintro _ _ _ _ ⟨⟨x, rfl, hx⟩, rfl, rfl, rfl⟩
  refine T_iret rfl rfl dJ0_indexOf_0f7a4_6 ?_
  exact ⟨⟨_, rfl, hx⟩, rfl, rfl, rfl⟩
