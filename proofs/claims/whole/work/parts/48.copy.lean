section COPY
variable {l : Launch} {D : va_G} {cA : Nat → ClassId} {n0 : Nat} {XW : State → Heap → Prop} {nm : MI} {d bk bn sz : Nat} {τ : TY} {M : ME} {Q : QT} {QX : QXT} {ls st : List Value} {pc pc' idx : Nat}
/-- the first n elements of a0 laid into a -/
def cpM (M : ME) (a0 a n : Nat) : ME := fun b i => if b = a then (if i < n then .int (vI (M a0 i)) else M a i) else M b i
theorem cpM_a {M : ME} {a0 a n b : Nat} (h : b ≠ a) : cpM M a0 a n b = M b := by funext i; simp [cpM, h]
theorem cpM_s {M : ME} {a0 a n i : Nat} (h : i < n) : cpM M a0 a n a i = .int (vI (M a0 i)) := by simp [cpM, h]
theorem wcp1 : Cond.methodLink RX12 55 arraycopyName ∈ GW := inGW (List.mem_of_getElem? (i := 1439) (by decide +kernel)) (by decide +kernel)
theorem wcp2 : Cond.static arraycopyName ∈ GW := inGW (List.mem_of_getElem? (i := 1440) (by decide +kernel)) (by decide +kernel)
theorem wcp3 : Cond.native arraycopyName ∈ GW := inGW (List.mem_of_getElem? (i := 1441) (by decide +kernel)) (by decide +kernel)
theorem wcp4 : Cond.initialized "java/lang/System" ∈ GW := inGW (List.mem_of_getElem? (i := 122) (by decide +kernel)) (by decide +kernel)
theorem nfw_cp : nativeFrameWords "java/lang/System" "arraycopy" 5 ≤ 40 := by decide +kernel
theorem T_copy {a0 a n : Nat} {z0 z1 cn : Int32} (hz0 : z0 = 0) (hz1 : z1 = 0) (hcn : cn = nI n) (ha0 : τ a0 = (100, n)) (ha : τ a = (100, n)) (hn : n < 2 ^ 31) (hw : Cond.methodLink nm.y.cls idx arraycopyName ∈ GW) (hdd : 2 ≤ d) (hcat : (st.map fun v => v.category).sum ≤ 8) (hd : decode nm.cc pc = .ok (.invokestatic idx, 3)) (hp : pc + 3 = pc')
    (kk : T l D cA n0 XW nm d bk bn sz τ (cpM M a0 a n) pc' ls st Q QX) : T l D cA n0 XW nm d bk bn sz τ M pc ls (.int cn :: .int z1 :: .ref a :: .int z0 :: .ref a0 :: st) Q QX := by
  subst hp hz0 hz1 hcn
  intro p e R s m args below meth cd H locs cells slots mc ms la Z X hR hS h1 h2 hL r1 r2 r3
  obtain ⟨hx, hb, hml, -, hown, hSW, -, -, -, hdR, hlR, -⟩ := id X
  have hts := hSW.words (args := args)
  have hc0 : H[a0]? = some (vp_cell (cA 0) (n, .inl fun i => vI (M a0 i))) := hR.arr (j := 0) ha0 (by omega)
  have hc1 : H[a]? = some (vp_cell (cA 0) (n, .inl fun i => vI (M a i))) := hR.arr (j := 0) ha (by omega)
  obtain ⟨-, k0, hk0, cm0, hkk0⟩ := (hSW.1.2 0 _ (tysL_at (by omega))).1 n (fun j => .int (vI (M a0 j)))
  obtain ⟨-, k1, hk1, cm1, hkk1⟩ := (hSW.1.2 0 _ (tysL_at (by omega))).1 n (fun j => .int (vI (M a j)))
  have e0 : (0 : Int32).toNatClampNeg = 0 := by decide
  have en : (nI n).toNatClampNeg = n := nI_clamp hn
  have ent : (nI n).toInt = (n : Int) := nI_toInt hn
  have hln : la.size = nm.nL := hL.1
  intro T0 hT X0
  obtain ⟨vm', X', step⟩ := X0.arraycopy hx hown (hts _ hw) (hts _ wcp3) (hts _ wcp2) (hts _ wcp4) (src := a0) (dst := a) (cs := vp_cell (cA 0) (n, .inl fun i => vI (M a0 i))) (cd := vp_cell (cA 0) (n, .inl fun i => vI (M a i))) (srcPos := 0) (destPos := 0) (n := nI n) (by rw [hT]; exact hc0) (by rw [hT]; exact hc1)
    (fun _ h => by cases h) (fun _ h => by cases h) (fun h => by cases h) (fun h => by cases h) hk0 hk1 hkk0 hkk1 (by simp [refKind, jT]) (by decide) (by decide) (nI_pos hn)
    (by rw [ent]; show ¬ _ > ((arrV (cA 0) n (fun j => .int (vI (M a0 j)))).slots.size : Int); rw [arrV_size]; have : (0 : Int32).toInt = 0 := by decide
        omega)
    (by rw [ent]; show ¬ _ > ((arrV (cA 0) n (fun j => .int (vI (M a j)))).slots.size : Int); rw [arrV_size]; have : (0 : Int32).toInt = 0 := by decide
        omega)
    (fun vm₁ _ i hi => by
      rw [en] at hi
      have e : (vp_cell (cA 0) (n, .inl fun i => vI (M a0 i))).slots.getD ((0 : Int32).toNatClampNeg + i) .null = .int (vI (M a0 i)) := by
        show (arrV (cA 0) n (fun j => .int (vI (M a0 j)))).slots.getD _ _ = _
        rw [Array.getD_eq_getD_getElem?, arrV_read _ _ (by rw [e0]; omega), e0, Nat.zero_add]
        rfl
      refine ⟨?_, ?_⟩
      · rw [e]; rfl
      · rw [e]
        exact trivial)
    (g := F0 m pc la (.int (nI n) :: .int 0 :: .ref a :: .int 0 :: .ref a0 :: st)) rfl (by rw [hml]; exact hln) (rest := st) rfl (by rw [hb]; exact hd) (by omega) (by show 2 * 0 + _ + _ ≤ _; have := nfw_cp; omega)
  have e1 : copied (vp_cell (cA 0) (n, .inl fun i => vI (M a0 i))) (vp_cell (cA 0) (n, .inl fun i => vI (M a i))) 0 0 (nI n) = vp_cell (cA 0) (n, .inl (va_cpy (fun i => vI (M a0 i)) (fun i => vI (M a i)) (0 : Int32).toNatClampNeg (0 : Int32).toNatClampNeg (nI n).toNatClampNeg)) := va_copied (n0 := n) (n1 := n) (sp := (0 : Int32).toNatClampNeg) (dp := (0 : Int32).toNatClampNeg) (n := (nI n).toNatClampNeg) (fun z => .int z) (cA 0) (cA 0) (fun i => vI (M a0 i)) (fun i => vI (M a i)) (by rw [e0, en]; omega)
  rw [e1] at X' step
  have hl : a < H.size := (Array.getElem?_eq_some_iff.mp hc1).1
  have hheap : ((T0.setVm vm').setCell a (vp_cell (cA 0) (n, .inl (va_cpy (fun i => vI (M a0 i)) (fun i => vI (M a i)) (0 : Int32).toNatClampNeg (0 : Int32).toNatClampNeg (nI n).toNatClampNeg)))).heap = H.setIfInBounds a (vp_cell (cA 0) (n, .inl (va_cpy (fun i => vI (M a0 i)) (fun i => vI (M a i)) (0 : Int32).toNatClampNeg (0 : Int32).toNatClampNeg (nI n).toNatClampNeg))) := by rw [← hT]; rfl
  have oq : ∀ q : Nat, q ≠ a → (H.setIfInBounds a (vp_cell (cA 0) (n, .inl (va_cpy (fun i => vI (M a0 i)) (fun i => vI (M a i)) (0 : Int32).toNatClampNeg (0 : Int32).toNatClampNeg (nI n).toNatClampNeg))))[q]? = H[q]? := fun q hq => by simp [Array.getElem?_setIfInBounds, Ne.symm hq]
  have hfree : AA n0 a := (hR.2 a (by rw [ha]; simp)).1
  obtain ⟨t, a1, b1⟩ := kk p e R s m args below meth cd _ _ cells slots mc ms la Z X (hR.set (by simp) oq (fun b hb => cpM_a hb) (by rw [ha]; simp) (by
      rw [ha]
      show (H.setIfInBounds a _)[a]? = some (vp_cell (cA 0) (n, .inl fun i => vI (cpM M a0 a n a i)))
      rw [Array.getElem?_setIfInBounds_self_of_lt hl]
      congr 2
      rw [e0, en]
      have e9 : ∀ i, va_cpy (fun i => vI (M a0 i)) (fun i => vI (M a i)) 0 0 n i = vI (cpM M a0 a n a i) := fun i => by
        unfold va_cpy cpM
        by_cases hi : i < n
        · rw [if_pos ⟨Nat.zero_le _, by omega⟩, if_pos rfl, if_pos hi]
          simp [vI]
        · rw [if_neg (fun q => hi (by omega)), if_pos rfl, if_neg hi]
      rw [show va_cpy (fun i => vI (M a0 i)) (fun i => vI (M a i)) 0 0 n = fun i => vI (cpM M a0 a n a i) from funext e9])) ⟨by simp; exact hS.1, fun q g1 g2 => by
      rw [oq q (fun e => g2 (by rw [e]; exact hfree))]
      exact hS.2.1 q g1 g2, fun q hq => by
      rcases List.mem_append.mp hq with h | h
      · exact hS.2.2 q h
      · obtain ⟨z, -, hz⟩ := List.mem_map.mp h
        rw [← hz]
        exact hfree⟩ h1 h2 hL r1 r2 r3 _ hheap X'
  exact ⟨t, step t a1, b1⟩
end COPY
