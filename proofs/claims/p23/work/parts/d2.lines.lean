/-! the law's lines in pieces: words, names, numbers, signs -/
def okW (k : Nat) (x : List Nat) : Bool := (decide (1 ≤ x.length ∧ x.length ≤ 10) && (ltB (LT x 0) && !blB (LT x 0))) && ((List.range x.length).all (fun i => ldB (LT x i)) && decide (k = kwF (LT x) 0 x.length))
def okN (n : Nat) (x : List Nat) : Bool := (decide (1 ≤ x.length ∧ x.length ≤ 6) && (!ltB (LT x 0) && dgB (LT x 0) && !blB (LT x 0))) && ((List.range x.length).all (fun i => dgB (LT x i)) && decide (nN (LT x) 0 x.length = n))
def okS (k : Nat) (x : List Nat) : Bool := (decide (x.length = 1 ∨ x.length = 2) && (!ltB (LT x 0) && !dgB (LT x 0) && !blB (LT x 0))) && (decide (k = kwF (LT x) 0 x.length ∧ k ≠ 43) && (List.range 128).all (fun c => decide (c = 61) || decide (kwF (LT [LT x 0, c]) 0 2 = 43)))
theorem TOK.w {k : Nat} {x : List Nat} {hd : Option Nat} (h : okW k x = true) (hh : ∀ c, hd = some c → ldB c = false) : TOK x k (Int64.ofNat (cN (LT x) 0 x.length)) hd := by
  unfold okW at h
  simp only [Bool.and_eq_true, decide_eq_true_eq, Bool.not_eq_true', List.all_eq_true, List.mem_range] at h
  obtain ⟨⟨⟨h1, h2⟩, h3, h4⟩, h5, h6⟩ := h
  exact ⟨⟨h1, h4⟩, Or.inl ⟨⟨h3, h5⟩, h2, ⟨h6, rfl⟩, hh⟩⟩
theorem TOK.n {n : Nat} {x : List Nat} {hd : Option Nat} (h : okN n x = true) (hh : ∀ c, hd = some c → dgB c = false) : TOK x 44 (Int64.ofNat n) hd := by
  unfold okN at h
  simp only [Bool.and_eq_true, decide_eq_true_eq, Bool.not_eq_true', List.all_eq_true, List.mem_range] at h
  obtain ⟨⟨⟨h1, h2⟩, ⟨h3, h4⟩, h5⟩, h6, h7⟩ := h
  exact ⟨⟨h1, h5⟩, Or.inr (Or.inl ⟨⟨⟨h3, h4⟩, h6⟩, h2, ⟨rfl, by rw [h7]⟩, hh⟩)⟩
theorem TOK.s {k : Nat} {x : List Nat} {hd : Option Nat} (h : okS k x = true) (hh : ∀ c, hd = some c → c < 128 ∧ c ≠ 61) : TOK x k 0 hd := by
  unfold okS at h
  simp only [Bool.and_eq_true, Bool.or_eq_true, decide_eq_true_eq, Bool.not_eq_true', List.all_eq_true, List.mem_range] at h
  obtain ⟨⟨h1, ⟨h2, h3⟩, h4⟩, ⟨h5, h6⟩, h7⟩ := h
  refine ⟨⟨by omega, h4⟩, Or.inr (Or.inr ⟨⟨h2, h3⟩, ⟨h5, h6⟩, ?_⟩)⟩
  rcases h1 with h1 | h1
  · refine Or.inl ⟨h1, fun c hc => ?_⟩
    obtain ⟨g1, g2⟩ := hh c hc
    exact (h7 c g1).resolve_left g2
  · exact Or.inr h1
def nmV (c n : Nat) : Int64 := Int64.ofNat (cN (LT (c :: dgL n)) 0 (c :: dgL n).length)
def wP (k : Nat) (x w : List Nat) : Pc := (x, w, k, Int64.ofNat (cN (LT x) 0 x.length))
def nP (n : Nat) (w : List Nat) : Pc := (dgL n, w, 44, Int64.ofNat n)
def aP (c n : Nat) (w : List Nat) : Pc := (c :: dgL n, w, 43, nmV c n)
def sP (k : Nat) (x w : List Nat) : Pc := (x, w, k, 0)
theorem okA : ∀ n, n < 100 → okW 43 (115 :: dgL n) = true ∧ okW 43 (104 :: dgL n) = true ∧ okW 43 (103 :: dgL n) = true := by decide +kernel
theorem okD : ∀ n, n < 100 → okN n (dgL n) = true := by decide +kernel
theorem hdc {P : Nat → Prop} (c0 : Nat) (h : P c0) : ∀ c, some c0 = some c → P c := fun c e => Option.some.inj e ▸ h
theorem hdn {P : Nat → Prop} {n : Nat} {r : List Nat} {hd : Option Nat} (hn : n < 100) (h : ∀ c, 48 ≤ c → c ≤ 57 → P c) : ∀ c, hdO (dgL n ++ r) hd = some c → P c := fun c e => by
  unfold dgL at e
  split at e
  · exact h _ (by have := Option.some.inj e; omega) (by have := Option.some.inj e; omega)
  · exact h _ (by have := Option.some.inj e; omega) (by have := Option.some.inj e; omega)
theorem b_0 : ∀ b ∈ ([] : List Nat), blB b = true := by decide
theorem b_32 : ∀ b ∈ [32], blB b = true := by decide
theorem b_10 : ∀ b ∈ [10], blB b = true := by decide
/-- what may stand behind a sum or a test -/
def CE (c : Nat) : Prop := c = 32 ∨ c = 59
theorem CE.w {hd : Option Nat} (h : ∀ c, hd = some c → CE c) : ∀ c, hd = some c → ldB c = false := fun c e => by rcases h c e with rfl | rfl <;> rfl
theorem CE.n {hd : Option Nat} (h : ∀ c, hd = some c → CE c) : ∀ c, hd = some c → dgB c = false := fun c e => by rcases h c e with rfl | rfl <;> rfl
theorem CE.s {hd : Option Nat} (h : ∀ c, hd = some c → CE c) : ∀ c, hd = some c → c < 128 ∧ c ≠ 61 := fun c e => by rcases h c e with rfl | rfl <;> decide
theorem app1 {a : Nat} {b c : List Nat} : (a :: b) ++ c = a :: (b ++ c) := rfl
theorem ok_stretch_ : okW 0 [115, 116, 114, 101, 116, 99, 104] = true := by decide +kernel
theorem ok_long_ : okW 1 [108, 111, 110, 103] = true := by decide +kernel
theorem ok_slope_ : okW 2 [115, 108, 111, 112, 101] = true := by decide +kernel
theorem ok_frost_ : okW 3 [102, 114, 111, 115, 116] = true := by decide +kernel
theorem ok_horse_ : okW 4 [104, 111, 114, 115, 101] = true := by decide +kernel
theorem ok_pull_ : okW 5 [112, 117, 108, 108] = true := by decide +kernel
theorem ok_links_ : okW 6 [108, 105, 110, 107, 115] = true := by decide +kernel
theorem ok_iron_ : okW 7 [105, 114, 111, 110] = true := by decide +kernel
theorem ok_bell_ : okW 8 [98, 101, 108, 108] = true := by decide +kernel
theorem ok_log_ : okW 9 [108, 111, 103] = true := by decide +kernel
theorem ok_weight_ : okW 10 [119, 101, 105, 103, 104, 116] = true := by decide +kernel
theorem ok_haul_ : okW 11 [104, 97, 117, 108] = true := by decide +kernel
theorem ok_with_ : okW 12 [119, 105, 116, 104] = true := by decide +kernel
theorem ok_when_ : okW 13 [119, 104, 101, 110] = true := by decide +kernel
theorem ok_wait_ : okW 14 [119, 97, 105, 116] = true := by decide +kernel
theorem ok_at_ : okW 15 [97, 116] = true := by decide +kernel
theorem ok_hour_ : okW 16 [104, 111, 117, 114] = true := by decide +kernel
theorem ok_weather_ : okW 17 [119, 101, 97, 116, 104, 101, 114] = true := by decide +kernel
theorem ok_pile_ : okW 18 [112, 105, 108, 101] = true := by decide +kernel
theorem ok_raft_ : okW 19 [114, 97, 102, 116] = true := by decide +kernel
theorem ok_tired_ : okW 20 [116, 105, 114, 101, 100] = true := by decide +kernel
theorem ok_load_ : okW 21 [108, 111, 97, 100] = true := by decide +kernel
theorem ok_fallen_ : okW 22 [102, 97, 108, 108, 101, 110] = true := by decide +kernel
theorem ok_not_ : okW 23 [110, 111, 116] = true := by decide +kernel
theorem ok_and_ : okW 24 [97, 110, 100] = true := by decide +kernel
theorem ok_or_ : okW 25 [111, 114] = true := by decide +kernel
theorem ok_min_ : okW 26 [109, 105, 110] = true := by decide +kernel
theorem ok_max_ : okW 27 [109, 97, 120] = true := by decide +kernel
theorem os_op : okS 28 [40] = true := by decide +kernel
theorem os_cl : okS 29 [41] = true := by decide +kernel
theorem os_ot : okS 30 [91] = true := by decide +kernel
theorem os_ct : okS 31 [93] = true := by decide +kernel
theorem os_se : okS 32 [59] = true := by decide +kernel
theorem os_co : okS 33 [44] = true := by decide +kernel
theorem os_pl : okS 34 [43] = true := by decide +kernel
theorem os_mi : okS 35 [45] = true := by decide +kernel
theorem os_ti : okS 36 [42] = true := by decide +kernel
theorem os_ov : okS 37 [47] = true := by decide +kernel
theorem os_le : okS 38 [60] = true := by decide +kernel
theorem os_mo : okS 39 [62] = true := by decide +kernel
theorem os_sa : okS 40 [61] = true := by decide +kernel
theorem os_am : okS 41 [60, 61] = true := by decide +kernel
theorem os_al : okS 42 [62, 61] = true := by decide +kernel
theorem dg_c : dgL 2 = [50] ∧ dgL 9 = [57] ∧ dgL 5 = [53] ∧ dgL 10 = [49, 48] ∧ dgL 3 = [51] ∧ dgL 0 = [48] ∧ dgL 1 = [49] := by decide
def smP (kd n v nt nh : Nat) (w : List Nat) : List Pc := match kd with
  | 0 => [nP (n) w]
  | 1 => [wP 26 [109, 105, 110] [], sP 28 [40] [], wP 18 [112, 105, 108, 101] [], sP 37 [47] [], nP (2) [], sP 33 [44] [], nP (n) [], sP 29 [41] w]
  | 2 => [nP (n) [32], sP 35 [45] [32], wP 20 [116, 105, 114, 101, 100] [32], aP 104 (v % nh) w]
  | 3 => [wP 6 [108, 105, 110, 107, 115] [32], aP 104 (v % nh) [], sP 36 [42] [], nP (n) [], sP 37 [47] [], nP (9) [], sP 34 [43] [], wP 3 [102, 114, 111, 115, 116] [32], aP 115 (v % nt) w]
  | 4 => [nP (n) [], sP 34 [43] [], wP 17 [119, 101, 97, 116, 104, 101, 114] [], sP 36 [42] [], nP (5) [], sP 35 [45] [], wP 16 [104, 111, 117, 114] [], sP 37 [47] [], nP (10) w]
  | _ => [wP 27 [109, 97, 120] [], sP 28 [40] [], wP 19 [114, 97, 102, 116] [], sP 33 [44] [], nP (n) [], sP 29 [41] [], sP 35 [45] [], wP 21 [108, 111, 97, 100] [32], aP 104 (v % nh) w]
theorem smP_tx (kd n v nt nh : Nat) (w : List Nat) : ptx (smP kd n v nt nh w) = smT kd n v nt nh ++ w := by
  unfold smP smT
  split <;> simp only [ptx, wP, nP, aP, sP, List.append_assoc, List.nil_append, List.append_nil, List.cons_append, dg_c] <;> rfl
theorem smP_gd {kd n v nt nh : Nat} {w : List Nat} {hd : Option Nat} (hn : n < 99) (hv : v < 10) (hh0 : 1 ≤ nh ∧ nh ≤ 5) (ht0 : 1 ≤ nt ∧ nt ≤ 6) (hw : ∀ b ∈ w, blB b = true) (hh : ∀ c, hdO (w ++ ptx []) hd = some c → CE c) : GD (smP kd n v nt nh w) hd := by
  have m4 : v % nh < nh := Nat.mod_lt _ (by omega)
  have m3 : v % nt < nt := Nat.mod_lt _ (by omega)
  have m5 : n % nh < nh := Nat.mod_lt _ (by omega)
  have m6 : n % 20 < 20 := Nat.mod_lt _ (by decide)
  have m7 : n % 9 < 9 := Nat.mod_lt _ (by decide)
  have m8 : n % 3 < 3 := Nat.mod_lt _ (by decide)
  unfold smP
  split
  · exact ⟨⟨TOK.n (okD (n) (by omega)) (CE.n hh), hw⟩, trivial⟩
  · exact ⟨⟨TOK.w ok_min_ (hdc (P := (fun c => ldB c = false)) 40 (by decide)), b_0⟩, ⟨⟨TOK.s os_op (hdc (P := (fun c => c < 128 ∧ c ≠ 61)) 112 (by decide)), b_0⟩, ⟨⟨TOK.w ok_pile_ (hdc (P := (fun c => ldB c = false)) 47 (by decide)), b_0⟩, ⟨⟨TOK.s os_ov (hdn (P := (fun c => c < 128 ∧ c ≠ 61)) (n := 2) (by omega) (fun c h1 h2 => ⟨by omega, by omega⟩)), b_0⟩, ⟨⟨TOK.n (okD (2) (by omega)) (hdc (P := (fun c => dgB c = false)) 44 (by decide)), b_0⟩, ⟨⟨TOK.s os_co (hdn (P := (fun c => c < 128 ∧ c ≠ 61)) (n := n) (by omega) (fun c h1 h2 => ⟨by omega, by omega⟩)), b_0⟩, ⟨⟨TOK.n (okD (n) (by omega)) (hdc (P := (fun c => dgB c = false)) 41 (by decide)), b_0⟩, ⟨⟨TOK.s os_cl (CE.s hh), hw⟩, trivial⟩⟩⟩⟩⟩⟩⟩⟩
  · exact ⟨⟨TOK.n (okD (n) (by omega)) (hdc (P := (fun c => dgB c = false)) 32 (by decide)), b_32⟩, ⟨⟨TOK.s os_mi (hdc (P := (fun c => c < 128 ∧ c ≠ 61)) 32 (by decide)), b_32⟩, ⟨⟨TOK.w ok_tired_ (hdc (P := (fun c => ldB c = false)) 32 (by decide)), b_32⟩, ⟨⟨TOK.w (okA (v % nh) (by omega)).2.1 (CE.w hh), hw⟩, trivial⟩⟩⟩⟩
  · exact ⟨⟨TOK.w ok_links_ (hdc (P := (fun c => ldB c = false)) 32 (by decide)), b_32⟩, ⟨⟨TOK.w (okA (v % nh) (by omega)).2.1 (hdc (P := (fun c => ldB c = false)) 42 (by decide)), b_0⟩, ⟨⟨TOK.s os_ti (hdn (P := (fun c => c < 128 ∧ c ≠ 61)) (n := n) (by omega) (fun c h1 h2 => ⟨by omega, by omega⟩)), b_0⟩, ⟨⟨TOK.n (okD (n) (by omega)) (hdc (P := (fun c => dgB c = false)) 47 (by decide)), b_0⟩, ⟨⟨TOK.s os_ov (hdn (P := (fun c => c < 128 ∧ c ≠ 61)) (n := 9) (by omega) (fun c h1 h2 => ⟨by omega, by omega⟩)), b_0⟩, ⟨⟨TOK.n (okD (9) (by omega)) (hdc (P := (fun c => dgB c = false)) 43 (by decide)), b_0⟩, ⟨⟨TOK.s os_pl (hdc (P := (fun c => c < 128 ∧ c ≠ 61)) 102 (by decide)), b_0⟩, ⟨⟨TOK.w ok_frost_ (hdc (P := (fun c => ldB c = false)) 32 (by decide)), b_32⟩, ⟨⟨TOK.w (okA (v % nt) (by omega)).1 (CE.w hh), hw⟩, trivial⟩⟩⟩⟩⟩⟩⟩⟩⟩
  · exact ⟨⟨TOK.n (okD (n) (by omega)) (hdc (P := (fun c => dgB c = false)) 43 (by decide)), b_0⟩, ⟨⟨TOK.s os_pl (hdc (P := (fun c => c < 128 ∧ c ≠ 61)) 119 (by decide)), b_0⟩, ⟨⟨TOK.w ok_weather_ (hdc (P := (fun c => ldB c = false)) 42 (by decide)), b_0⟩, ⟨⟨TOK.s os_ti (hdn (P := (fun c => c < 128 ∧ c ≠ 61)) (n := 5) (by omega) (fun c h1 h2 => ⟨by omega, by omega⟩)), b_0⟩, ⟨⟨TOK.n (okD (5) (by omega)) (hdc (P := (fun c => dgB c = false)) 45 (by decide)), b_0⟩, ⟨⟨TOK.s os_mi (hdc (P := (fun c => c < 128 ∧ c ≠ 61)) 104 (by decide)), b_0⟩, ⟨⟨TOK.w ok_hour_ (hdc (P := (fun c => ldB c = false)) 47 (by decide)), b_0⟩, ⟨⟨TOK.s os_ov (hdn (P := (fun c => c < 128 ∧ c ≠ 61)) (n := 10) (by omega) (fun c h1 h2 => ⟨by omega, by omega⟩)), b_0⟩, ⟨⟨TOK.n (okD (10) (by omega)) (CE.n hh), hw⟩, trivial⟩⟩⟩⟩⟩⟩⟩⟩⟩
  · exact ⟨⟨TOK.w ok_max_ (hdc (P := (fun c => ldB c = false)) 40 (by decide)), b_0⟩, ⟨⟨TOK.s os_op (hdc (P := (fun c => c < 128 ∧ c ≠ 61)) 114 (by decide)), b_0⟩, ⟨⟨TOK.w ok_raft_ (hdc (P := (fun c => ldB c = false)) 44 (by decide)), b_0⟩, ⟨⟨TOK.s os_co (hdn (P := (fun c => c < 128 ∧ c ≠ 61)) (n := n) (by omega) (fun c h1 h2 => ⟨by omega, by omega⟩)), b_0⟩, ⟨⟨TOK.n (okD (n) (by omega)) (hdc (P := (fun c => dgB c = false)) 41 (by decide)), b_0⟩, ⟨⟨TOK.s os_cl (hdc (P := (fun c => c < 128 ∧ c ≠ 61)) 45 (by decide)), b_0⟩, ⟨⟨TOK.s os_mi (hdc (P := (fun c => c < 128 ∧ c ≠ 61)) 108 (by decide)), b_0⟩, ⟨⟨TOK.w ok_load_ (hdc (P := (fun c => ldB c = false)) 32 (by decide)), b_32⟩, ⟨⟨TOK.w (okA (v % nh) (by omega)).2.1 (CE.w hh), hw⟩, trivial⟩⟩⟩⟩⟩⟩⟩⟩⟩
def tsP (kd n v nt nh : Nat) (w : List Nat) : List Pc := match kd with
  | 0 => [wP 16 [104, 111, 117, 114] [], sP 39 [62] [], nP (n) w]
  | 1 => [wP 20 [116, 105, 114, 101, 100] [32], aP 104 (v % nh) [], sP 42 [62, 61] [], nP (n % 20) w]
  | 2 => [wP 18 [112, 105, 108, 101] [], sP 38 [60] [], nP (n) [], sP 36 [42] [], nP (3) [32], wP 24 [97, 110, 100] [32], wP 23 [110, 111, 116] [32], wP 19 [114, 97, 102, 116] [], sP 39 [62] [], nP (n) w]
  | 3 => [wP 22 [102, 97, 108, 108, 101, 110] [32], aP 115 (v % nt) [], sP 39 [62] [], nP (0) [32], wP 25 [111, 114] [32], wP 3 [102, 114, 111, 115, 116] [32], aP 115 (v % nt) [], sP 37 [47] [], nP (2) [], sP 36 [42] [], nP (2) [], sP 40 [61] [], wP 3 [102, 114, 111, 115, 116] [32], aP 115 (v % nt) w]
  | 4 => [wP 21 [108, 111, 97, 100] [32], aP 104 (v % nh) [], sP 39 [62] [], nP (n) w]
  | 5 => [wP 23 [110, 111, 116] [32], sP 30 [91] [], wP 6 [108, 105, 110, 107, 115] [32], aP 104 (v % nh) [], sP 38 [60] [], nP (n % 9) [32], wP 25 [111, 114] [32], wP 17 [119, 101, 97, 116, 104, 101, 114] [], sP 39 [62] [], nP (n % 3) [], sP 31 [93] w]
  | _ => [wP 27 [109, 97, 120] [], sP 28 [40] [], wP 20 [116, 105, 114, 101, 100] [32], aP 104 (v % nh) [], sP 33 [44] [], wP 21 [108, 111, 97, 100] [32], aP 104 (n % nh) [], sP 29 [41] [], sP 35 [45] [], nP (1) [32], sP 39 [62] [32], nP (n) w]
theorem tsP_tx (kd n v nt nh : Nat) (w : List Nat) : ptx (tsP kd n v nt nh w) = tsT kd n v nt nh ++ w := by
  unfold tsP tsT
  split <;> simp only [ptx, wP, nP, aP, sP, List.append_assoc, List.nil_append, List.append_nil, List.cons_append, dg_c] <;> rfl
theorem tsP_gd {kd n v nt nh : Nat} {w : List Nat} {hd : Option Nat} (hn : n < 99) (hv : v < 10) (hh0 : 1 ≤ nh ∧ nh ≤ 5) (ht0 : 1 ≤ nt ∧ nt ≤ 6) (hw : ∀ b ∈ w, blB b = true) (hh : ∀ c, hdO (w ++ ptx []) hd = some c → CE c) : GD (tsP kd n v nt nh w) hd := by
  have m4 : v % nh < nh := Nat.mod_lt _ (by omega)
  have m3 : v % nt < nt := Nat.mod_lt _ (by omega)
  have m5 : n % nh < nh := Nat.mod_lt _ (by omega)
  have m6 : n % 20 < 20 := Nat.mod_lt _ (by decide)
  have m7 : n % 9 < 9 := Nat.mod_lt _ (by decide)
  have m8 : n % 3 < 3 := Nat.mod_lt _ (by decide)
  unfold tsP
  split
  · exact ⟨⟨TOK.w ok_hour_ (hdc (P := (fun c => ldB c = false)) 62 (by decide)), b_0⟩, ⟨⟨TOK.s os_mo (hdn (P := (fun c => c < 128 ∧ c ≠ 61)) (n := n) (by omega) (fun c h1 h2 => ⟨by omega, by omega⟩)), b_0⟩, ⟨⟨TOK.n (okD (n) (by omega)) (CE.n hh), hw⟩, trivial⟩⟩⟩
  · exact ⟨⟨TOK.w ok_tired_ (hdc (P := (fun c => ldB c = false)) 32 (by decide)), b_32⟩, ⟨⟨TOK.w (okA (v % nh) (by omega)).2.1 (hdc (P := (fun c => ldB c = false)) 62 (by decide)), b_0⟩, ⟨⟨TOK.s os_al (hdn (P := (fun c => c < 128 ∧ c ≠ 61)) (n := n % 20) (by omega) (fun c h1 h2 => ⟨by omega, by omega⟩)), b_0⟩, ⟨⟨TOK.n (okD (n % 20) (by omega)) (CE.n hh), hw⟩, trivial⟩⟩⟩⟩
  · exact ⟨⟨TOK.w ok_pile_ (hdc (P := (fun c => ldB c = false)) 60 (by decide)), b_0⟩, ⟨⟨TOK.s os_le (hdn (P := (fun c => c < 128 ∧ c ≠ 61)) (n := n) (by omega) (fun c h1 h2 => ⟨by omega, by omega⟩)), b_0⟩, ⟨⟨TOK.n (okD (n) (by omega)) (hdc (P := (fun c => dgB c = false)) 42 (by decide)), b_0⟩, ⟨⟨TOK.s os_ti (hdn (P := (fun c => c < 128 ∧ c ≠ 61)) (n := 3) (by omega) (fun c h1 h2 => ⟨by omega, by omega⟩)), b_0⟩, ⟨⟨TOK.n (okD (3) (by omega)) (hdc (P := (fun c => dgB c = false)) 32 (by decide)), b_32⟩, ⟨⟨TOK.w ok_and_ (hdc (P := (fun c => ldB c = false)) 32 (by decide)), b_32⟩, ⟨⟨TOK.w ok_not_ (hdc (P := (fun c => ldB c = false)) 32 (by decide)), b_32⟩, ⟨⟨TOK.w ok_raft_ (hdc (P := (fun c => ldB c = false)) 62 (by decide)), b_0⟩, ⟨⟨TOK.s os_mo (hdn (P := (fun c => c < 128 ∧ c ≠ 61)) (n := n) (by omega) (fun c h1 h2 => ⟨by omega, by omega⟩)), b_0⟩, ⟨⟨TOK.n (okD (n) (by omega)) (CE.n hh), hw⟩, trivial⟩⟩⟩⟩⟩⟩⟩⟩⟩⟩
  · exact ⟨⟨TOK.w ok_fallen_ (hdc (P := (fun c => ldB c = false)) 32 (by decide)), b_32⟩, ⟨⟨TOK.w (okA (v % nt) (by omega)).1 (hdc (P := (fun c => ldB c = false)) 62 (by decide)), b_0⟩, ⟨⟨TOK.s os_mo (hdn (P := (fun c => c < 128 ∧ c ≠ 61)) (n := 0) (by omega) (fun c h1 h2 => ⟨by omega, by omega⟩)), b_0⟩, ⟨⟨TOK.n (okD (0) (by omega)) (hdc (P := (fun c => dgB c = false)) 32 (by decide)), b_32⟩, ⟨⟨TOK.w ok_or_ (hdc (P := (fun c => ldB c = false)) 32 (by decide)), b_32⟩, ⟨⟨TOK.w ok_frost_ (hdc (P := (fun c => ldB c = false)) 32 (by decide)), b_32⟩, ⟨⟨TOK.w (okA (v % nt) (by omega)).1 (hdc (P := (fun c => ldB c = false)) 47 (by decide)), b_0⟩, ⟨⟨TOK.s os_ov (hdn (P := (fun c => c < 128 ∧ c ≠ 61)) (n := 2) (by omega) (fun c h1 h2 => ⟨by omega, by omega⟩)), b_0⟩, ⟨⟨TOK.n (okD (2) (by omega)) (hdc (P := (fun c => dgB c = false)) 42 (by decide)), b_0⟩, ⟨⟨TOK.s os_ti (hdn (P := (fun c => c < 128 ∧ c ≠ 61)) (n := 2) (by omega) (fun c h1 h2 => ⟨by omega, by omega⟩)), b_0⟩, ⟨⟨TOK.n (okD (2) (by omega)) (hdc (P := (fun c => dgB c = false)) 61 (by decide)), b_0⟩, ⟨⟨TOK.s os_sa (hdc (P := (fun c => c < 128 ∧ c ≠ 61)) 102 (by decide)), b_0⟩, ⟨⟨TOK.w ok_frost_ (hdc (P := (fun c => ldB c = false)) 32 (by decide)), b_32⟩, ⟨⟨TOK.w (okA (v % nt) (by omega)).1 (CE.w hh), hw⟩, trivial⟩⟩⟩⟩⟩⟩⟩⟩⟩⟩⟩⟩⟩⟩
  · exact ⟨⟨TOK.w ok_load_ (hdc (P := (fun c => ldB c = false)) 32 (by decide)), b_32⟩, ⟨⟨TOK.w (okA (v % nh) (by omega)).2.1 (hdc (P := (fun c => ldB c = false)) 62 (by decide)), b_0⟩, ⟨⟨TOK.s os_mo (hdn (P := (fun c => c < 128 ∧ c ≠ 61)) (n := n) (by omega) (fun c h1 h2 => ⟨by omega, by omega⟩)), b_0⟩, ⟨⟨TOK.n (okD (n) (by omega)) (CE.n hh), hw⟩, trivial⟩⟩⟩⟩
  · exact ⟨⟨TOK.w ok_not_ (hdc (P := (fun c => ldB c = false)) 32 (by decide)), b_32⟩, ⟨⟨TOK.s os_ot (hdc (P := (fun c => c < 128 ∧ c ≠ 61)) 108 (by decide)), b_0⟩, ⟨⟨TOK.w ok_links_ (hdc (P := (fun c => ldB c = false)) 32 (by decide)), b_32⟩, ⟨⟨TOK.w (okA (v % nh) (by omega)).2.1 (hdc (P := (fun c => ldB c = false)) 60 (by decide)), b_0⟩, ⟨⟨TOK.s os_le (hdn (P := (fun c => c < 128 ∧ c ≠ 61)) (n := n % 9) (by omega) (fun c h1 h2 => ⟨by omega, by omega⟩)), b_0⟩, ⟨⟨TOK.n (okD (n % 9) (by omega)) (hdc (P := (fun c => dgB c = false)) 32 (by decide)), b_32⟩, ⟨⟨TOK.w ok_or_ (hdc (P := (fun c => ldB c = false)) 32 (by decide)), b_32⟩, ⟨⟨TOK.w ok_weather_ (hdc (P := (fun c => ldB c = false)) 62 (by decide)), b_0⟩, ⟨⟨TOK.s os_mo (hdn (P := (fun c => c < 128 ∧ c ≠ 61)) (n := n % 3) (by omega) (fun c h1 h2 => ⟨by omega, by omega⟩)), b_0⟩, ⟨⟨TOK.n (okD (n % 3) (by omega)) (hdc (P := (fun c => dgB c = false)) 93 (by decide)), b_0⟩, ⟨⟨TOK.s os_ct (CE.s hh), hw⟩, trivial⟩⟩⟩⟩⟩⟩⟩⟩⟩⟩⟩
  · exact ⟨⟨TOK.w ok_max_ (hdc (P := (fun c => ldB c = false)) 40 (by decide)), b_0⟩, ⟨⟨TOK.s os_op (hdc (P := (fun c => c < 128 ∧ c ≠ 61)) 116 (by decide)), b_0⟩, ⟨⟨TOK.w ok_tired_ (hdc (P := (fun c => ldB c = false)) 32 (by decide)), b_32⟩, ⟨⟨TOK.w (okA (v % nh) (by omega)).2.1 (hdc (P := (fun c => ldB c = false)) 44 (by decide)), b_0⟩, ⟨⟨TOK.s os_co (hdc (P := (fun c => c < 128 ∧ c ≠ 61)) 108 (by decide)), b_0⟩, ⟨⟨TOK.w ok_load_ (hdc (P := (fun c => ldB c = false)) 32 (by decide)), b_32⟩, ⟨⟨TOK.w (okA (n % nh) (by omega)).2.1 (hdc (P := (fun c => ldB c = false)) 41 (by decide)), b_0⟩, ⟨⟨TOK.s os_cl (hdc (P := (fun c => c < 128 ∧ c ≠ 61)) 45 (by decide)), b_0⟩, ⟨⟨TOK.s os_mi (hdn (P := (fun c => c < 128 ∧ c ≠ 61)) (n := 1) (by omega) (fun c h1 h2 => ⟨by omega, by omega⟩)), b_0⟩, ⟨⟨TOK.n (okD (1) (by omega)) (hdc (P := (fun c => dgB c = false)) 32 (by decide)), b_32⟩, ⟨⟨TOK.s os_mo (hdc (P := (fun c => c < 128 ∧ c ≠ 61)) 32 (by decide)), b_32⟩, ⟨⟨TOK.n (okD (n) (by omega)) (CE.n hh), hw⟩, trivial⟩⟩⟩⟩⟩⟩⟩⟩⟩⟩⟩⟩
def plT (Δ : Nat → Nat → Nat) (i : Nat) : List Pc := if Δ 2 i < 9 then [wP 0 [115, 116, 114, 101, 116, 99, 104] [32], aP 115 (i) [32], wP 1 [108, 111, 110, 103] [32], nP (Δ 1 i) [32], wP 2 [115, 108, 111, 112, 101] [32], sP 35 [45] [32], nP (9 - Δ 2 i) [32], wP 3 [102, 114, 111, 115, 116] [32], nP (Δ 3 i) [], sP 32 [59] []] else [wP 0 [115, 116, 114, 101, 116, 99, 104] [32], aP 115 (i) [32], wP 1 [108, 111, 110, 103] [32], nP (Δ 1 i) [32], wP 2 [115, 108, 111, 112, 101] [32], nP (Δ 2 i - 9) [32], wP 3 [102, 114, 111, 115, 116] [32], nP (Δ 3 i) [], sP 32 [59] []]
def plH (Δ : Nat → Nat → Nat) (i : Nat) : List Pc := if Δ 7 i = 1 then [wP 4 [104, 111, 114, 115, 101] [32], aP 104 (i) [32], wP 5 [112, 117, 108, 108] [32], nP (Δ 4 i) [32], wP 6 [108, 105, 110, 107, 115] [32], nP (Δ 5 i) [32], wP 7 [105, 114, 111, 110] [32], nP (Δ 6 i) [32], wP 8 [98, 101, 108, 108] [], sP 32 [59] [10]] else [wP 4 [104, 111, 114, 115, 101] [32], aP 104 (i) [32], wP 5 [112, 117, 108, 108] [32], nP (Δ 4 i) [32], wP 6 [108, 105, 110, 107, 115] [32], nP (Δ 5 i) [32], wP 7 [105, 114, 111, 110] [32], nP (Δ 6 i) [], sP 32 [59] []]
def plG (Δ : Nat → Nat → Nat) (i : Nat) : List Pc := [wP 9 [108, 111, 103] [32], aP 103 (i) [32], wP 10 [119, 101, 105, 103, 104, 116] [32], nP (Δ 8 i) [], sP 32 [59] []]
def plK (Δ : Nat → Nat → Nat) (i : Nat) : List Pc := [wP 11 [104, 97, 117, 108] [32], aP 104 (i % Δ 0 4) [32], wP 12 [119, 105, 116, 104] [32]] ++ (if Δ 12 i < 3 then smP (Δ 9 i) (Δ 10 i) (Δ 11 i) (Δ 0 3) (Δ 0 4) [] ++ [sP 32 [59] [10]] else smP (Δ 9 i) (Δ 10 i) (Δ 11 i) (Δ 0 3) (Δ 0 4) [32] ++ (wP 13 [119, 104, 101, 110] [32] :: (tsP (Δ 12 i - 3) (Δ 13 i) (Δ 14 i) (Δ 0 3) (Δ 0 4) [] ++ [sP 32 [59] [10]])))
def plW (Δ : Nat → Nat → Nat) (i : Nat) : List Pc := [wP 14 [119, 97, 105, 116] [32], aP 104 (Δ 15 i) [32], wP 15 [97, 116] [32], aP 115 (Δ 16 i) [32], wP 13 [119, 104, 101, 110] [32]] ++ (tsP (Δ 17 i) (Δ 18 i) (Δ 19 i) (Δ 0 3) (Δ 0 4) [] ++ [sP 32 [59] []])
theorem plT_tx (Δ : Nat → Nat → Nat) (i : Nat) : ptx (plT Δ i) = lnT Δ i := by
  unfold plT lnT
  split <;> simp only [ptx, ptx_app, smP_tx, tsP_tx, wP, nP, aP, sP, List.append_assoc, List.nil_append, List.append_nil, List.cons_append]
theorem plH_tx (Δ : Nat → Nat → Nat) (i : Nat) : ptx (plH Δ i) = lnH Δ i := by
  unfold plH lnH
  split <;> simp only [ptx, ptx_app, smP_tx, tsP_tx, wP, nP, aP, sP, List.append_assoc, List.nil_append, List.append_nil, List.cons_append]
theorem plK_tx (Δ : Nat → Nat → Nat) (i : Nat) : ptx (plK Δ i) = lnK Δ i := by
  unfold plK lnK
  split <;> simp only [ptx, ptx_app, smP_tx, tsP_tx, wP, nP, aP, sP, List.append_assoc, List.nil_append, List.append_nil, List.cons_append]
theorem plG_tx (Δ : Nat → Nat → Nat) (i : Nat) : ptx (plG Δ i) = lnG Δ i := by
  unfold plG lnG
  simp only [ptx, ptx_app, smP_tx, tsP_tx, wP, nP, aP, sP, List.append_assoc, List.nil_append, List.append_nil, List.cons_append]
theorem plW_tx (Δ : Nat → Nat → Nat) (i : Nat) : ptx (plW Δ i) = lnW Δ i := by
  unfold plW lnW
  simp only [ptx, ptx_app, smP_tx, tsP_tx, wP, nP, aP, sP, List.append_assoc, List.nil_append, List.append_nil, List.cons_append]
theorem plT_gd {Δ : Nat → Nat → Nat} (h : LDok Δ) {i : Nat} (hi : i < Δ 0 3) {hd : Option Nat} (hh : ∀ c, hd = some c → c < 128 ∧ c ≠ 61) : GD (plT Δ i) hd := by
  obtain ⟨⟨o3, o4, o5, o6, o7⟩, ⟨o8, o9, o10⟩, ⟨o11, o12, o13, o14⟩, o15, ⟨o16, o17, o18, o19, o20, o21⟩, ⟨o22, o23, o24, o25, o26⟩⟩ := h
  have b0 := o8 i
  have b1 := o9 i
  have b2 := o10 i
  have b9 : (if Δ 2 i < 9 then 9 - Δ 2 i else Δ 2 i - 9) < 100 := by split <;> omega
  unfold plT
  split
  · exact ⟨⟨TOK.w ok_stretch_ (hdc (P := (fun c => ldB c = false)) 32 (by decide)), b_32⟩, ⟨⟨TOK.w (okA (i) (by omega)).1 (hdc (P := (fun c => ldB c = false)) 32 (by decide)), b_32⟩, ⟨⟨TOK.w ok_long_ (hdc (P := (fun c => ldB c = false)) 32 (by decide)), b_32⟩, ⟨⟨TOK.n (okD (Δ 1 i) (by omega)) (hdc (P := (fun c => dgB c = false)) 32 (by decide)), b_32⟩, ⟨⟨TOK.w ok_slope_ (hdc (P := (fun c => ldB c = false)) 32 (by decide)), b_32⟩, ⟨⟨TOK.s os_mi (hdc (P := (fun c => c < 128 ∧ c ≠ 61)) 32 (by decide)), b_32⟩, ⟨⟨TOK.n (okD (9 - Δ 2 i) (by omega)) (hdc (P := (fun c => dgB c = false)) 32 (by decide)), b_32⟩, ⟨⟨TOK.w ok_frost_ (hdc (P := (fun c => ldB c = false)) 32 (by decide)), b_32⟩, ⟨⟨TOK.n (okD (Δ 3 i) (by omega)) (hdc (P := (fun c => dgB c = false)) 59 (by decide)), b_0⟩, ⟨⟨TOK.s os_se (fun c e => hh c e), b_0⟩, trivial⟩⟩⟩⟩⟩⟩⟩⟩⟩⟩
  · exact ⟨⟨TOK.w ok_stretch_ (hdc (P := (fun c => ldB c = false)) 32 (by decide)), b_32⟩, ⟨⟨TOK.w (okA (i) (by omega)).1 (hdc (P := (fun c => ldB c = false)) 32 (by decide)), b_32⟩, ⟨⟨TOK.w ok_long_ (hdc (P := (fun c => ldB c = false)) 32 (by decide)), b_32⟩, ⟨⟨TOK.n (okD (Δ 1 i) (by omega)) (hdc (P := (fun c => dgB c = false)) 32 (by decide)), b_32⟩, ⟨⟨TOK.w ok_slope_ (hdc (P := (fun c => ldB c = false)) 32 (by decide)), b_32⟩, ⟨⟨TOK.n (okD (Δ 2 i - 9) (by omega)) (hdc (P := (fun c => dgB c = false)) 32 (by decide)), b_32⟩, ⟨⟨TOK.w ok_frost_ (hdc (P := (fun c => ldB c = false)) 32 (by decide)), b_32⟩, ⟨⟨TOK.n (okD (Δ 3 i) (by omega)) (hdc (P := (fun c => dgB c = false)) 59 (by decide)), b_0⟩, ⟨⟨TOK.s os_se (fun c e => hh c e), b_0⟩, trivial⟩⟩⟩⟩⟩⟩⟩⟩⟩
theorem plH_gd {Δ : Nat → Nat → Nat} (h : LDok Δ) {i : Nat} (hi : i < Δ 0 4) {hd : Option Nat} (hh : ∀ c, hd = some c → c < 128 ∧ c ≠ 61) : GD (plH Δ i) hd := by
  obtain ⟨⟨o3, o4, o5, o6, o7⟩, ⟨o8, o9, o10⟩, ⟨o11, o12, o13, o14⟩, o15, ⟨o16, o17, o18, o19, o20, o21⟩, ⟨o22, o23, o24, o25, o26⟩⟩ := h
  have b0 := o11 i
  have b1 := o12 i
  have b2 := o13 i
  unfold plH
  split
  · exact ⟨⟨TOK.w ok_horse_ (hdc (P := (fun c => ldB c = false)) 32 (by decide)), b_32⟩, ⟨⟨TOK.w (okA (i) (by omega)).2.1 (hdc (P := (fun c => ldB c = false)) 32 (by decide)), b_32⟩, ⟨⟨TOK.w ok_pull_ (hdc (P := (fun c => ldB c = false)) 32 (by decide)), b_32⟩, ⟨⟨TOK.n (okD (Δ 4 i) (by omega)) (hdc (P := (fun c => dgB c = false)) 32 (by decide)), b_32⟩, ⟨⟨TOK.w ok_links_ (hdc (P := (fun c => ldB c = false)) 32 (by decide)), b_32⟩, ⟨⟨TOK.n (okD (Δ 5 i) (by omega)) (hdc (P := (fun c => dgB c = false)) 32 (by decide)), b_32⟩, ⟨⟨TOK.w ok_iron_ (hdc (P := (fun c => ldB c = false)) 32 (by decide)), b_32⟩, ⟨⟨TOK.n (okD (Δ 6 i) (by omega)) (hdc (P := (fun c => dgB c = false)) 32 (by decide)), b_32⟩, ⟨⟨TOK.w ok_bell_ (hdc (P := (fun c => ldB c = false)) 59 (by decide)), b_0⟩, ⟨⟨TOK.s os_se (hdc (P := (fun c => c < 128 ∧ c ≠ 61)) 10 (by decide)), b_10⟩, trivial⟩⟩⟩⟩⟩⟩⟩⟩⟩⟩
  · exact ⟨⟨TOK.w ok_horse_ (hdc (P := (fun c => ldB c = false)) 32 (by decide)), b_32⟩, ⟨⟨TOK.w (okA (i) (by omega)).2.1 (hdc (P := (fun c => ldB c = false)) 32 (by decide)), b_32⟩, ⟨⟨TOK.w ok_pull_ (hdc (P := (fun c => ldB c = false)) 32 (by decide)), b_32⟩, ⟨⟨TOK.n (okD (Δ 4 i) (by omega)) (hdc (P := (fun c => dgB c = false)) 32 (by decide)), b_32⟩, ⟨⟨TOK.w ok_links_ (hdc (P := (fun c => ldB c = false)) 32 (by decide)), b_32⟩, ⟨⟨TOK.n (okD (Δ 5 i) (by omega)) (hdc (P := (fun c => dgB c = false)) 32 (by decide)), b_32⟩, ⟨⟨TOK.w ok_iron_ (hdc (P := (fun c => ldB c = false)) 32 (by decide)), b_32⟩, ⟨⟨TOK.n (okD (Δ 6 i) (by omega)) (hdc (P := (fun c => dgB c = false)) 59 (by decide)), b_0⟩, ⟨⟨TOK.s os_se (fun c e => hh c e), b_0⟩, trivial⟩⟩⟩⟩⟩⟩⟩⟩⟩
theorem plG_gd {Δ : Nat → Nat → Nat} (h : LDok Δ) {i : Nat} (hi : i < Δ 0 5) {hd : Option Nat} (hh : ∀ c, hd = some c → c < 128 ∧ c ≠ 61) : GD (plG Δ i) hd := by
  obtain ⟨⟨o3, o4, o5, o6, o7⟩, ⟨o8, o9, o10⟩, ⟨o11, o12, o13, o14⟩, o15, ⟨o16, o17, o18, o19, o20, o21⟩, ⟨o22, o23, o24, o25, o26⟩⟩ := h
  have b0 := o15 i
  exact ⟨⟨TOK.w ok_log_ (hdc (P := (fun c => ldB c = false)) 32 (by decide)), b_32⟩, ⟨⟨TOK.w (okA (i) (by omega)).2.2 (hdc (P := (fun c => ldB c = false)) 32 (by decide)), b_32⟩, ⟨⟨TOK.w ok_weight_ (hdc (P := (fun c => ldB c = false)) 32 (by decide)), b_32⟩, ⟨⟨TOK.n (okD (Δ 8 i) (by omega)) (hdc (P := (fun c => dgB c = false)) 59 (by decide)), b_0⟩, ⟨⟨TOK.s os_se (fun c e => hh c e), b_0⟩, trivial⟩⟩⟩⟩⟩
theorem smP_hd (kd n v nt nh : Nat) (w r : List Nat) (hd : Option Nat) (hn : n < 100) : ∀ c, hdO (ptx (smP kd n v nt nh w) ++ r) hd = some c → c < 128 := by
  rw [smP_tx]
  unfold smT
  split
  all_goals first | exact hdc (P := fun c => c < 128) _ (by decide) | exact fun c e => (by
    simp only [List.nil_append, List.append_assoc] at e
    exact hdn (P := fun c => c < 128) hn (fun c h1 h2 => by omega) c e)
theorem smP_ne (kd n v nt nh : Nat) (w : List Nat) : ∃ c r, smP kd n v nt nh w = c :: r := by
  unfold smP; split <;> exact ⟨_, _, rfl⟩
theorem tsP_ne (kd n v nt nh : Nat) (w : List Nat) : ∃ c r, tsP kd n v nt nh w = c :: r := by
  unfold tsP; split <;> exact ⟨_, _, rfl⟩
theorem plK_gd {Δ : Nat → Nat → Nat} (h : LDok Δ) {i : Nat} {hd : Option Nat} : GD (plK Δ i) hd := by
  obtain ⟨⟨o3, o4, o5, o6, o7⟩, ⟨o8, o9, o10⟩, ⟨o11, o12, o13, o14⟩, o15, ⟨o16, o17, o18, o19, o20, o21⟩, ⟨o22, o23, o24, o25, o26⟩⟩ := h
  have b0 := o16 i
  have b1 := o17 i
  have b2 := o18 i
  have b3 := o19 i
  have b4 := o20 i
  have b5 := o21 i
  have m4 : i % Δ 0 4 < Δ 0 4 := Nat.mod_lt _ (by omega)
  unfold plK
  rw [GD.app]
  refine ⟨⟨⟨TOK.w ok_haul_ (hdc (P := (fun c => ldB c = false)) 32 (by decide)), b_32⟩, ⟨⟨TOK.w (okA (i % Δ 0 4) (by omega)).2.1 (hdc (P := (fun c => ldB c = false)) 32 (by decide)), b_32⟩, ⟨⟨TOK.w ok_with_ (hdc (P := fun c => ldB c = false) 32 (by decide)), b_32⟩, trivial⟩⟩⟩, ?_⟩
  split
  · rw [GD.app]
    exact ⟨smP_gd b1 b2 o4 o3 (fun x hx => by cases hx) (hdc (P := CE) 59 (Or.inr rfl)), ⟨⟨TOK.s os_se (hdc (P := (fun c => c < 128 ∧ c ≠ 61)) 10 (by decide)), b_10⟩, trivial⟩⟩
  · rw [GD.app]
    refine ⟨smP_gd b1 b2 o4 o3 (by decide) (hdc (P := CE) 32 (Or.inl rfl)), ⟨TOK.w ok_when_ (hdc (P := fun c => ldB c = false) 32 (by decide)), by decide⟩, ?_⟩
    rw [GD.app]
    exact ⟨tsP_gd (by omega) b5 o4 o3 (fun x hx => by cases hx) (hdc (P := CE) 59 (Or.inr rfl)), ⟨⟨TOK.s os_se (hdc (P := (fun c => c < 128 ∧ c ≠ 61)) 10 (by decide)), b_10⟩, trivial⟩⟩
theorem plW_gd {Δ : Nat → Nat → Nat} (h : LDok Δ) {i : Nat} {hd : Option Nat} (hh : ∀ c, hd = some c → c < 128 ∧ c ≠ 61) : GD (plW Δ i) hd := by
  obtain ⟨⟨o3, o4, o5, o6, o7⟩, ⟨o8, o9, o10⟩, ⟨o11, o12, o13, o14⟩, o15, ⟨o16, o17, o18, o19, o20, o21⟩, ⟨o22, o23, o24, o25, o26⟩⟩ := h
  have b0 := o22 i
  have b1 := o23 i
  have b2 := o24 i
  have b3 := o25 i
  have b4 := o26 i
  unfold plW
  rw [GD.app]
  refine ⟨⟨⟨TOK.w ok_wait_ (hdc (P := (fun c => ldB c = false)) 32 (by decide)), b_32⟩, ⟨⟨TOK.w (okA (Δ 15 i) (by omega)).2.1 (hdc (P := (fun c => ldB c = false)) 32 (by decide)), b_32⟩, ⟨⟨TOK.w ok_at_ (hdc (P := (fun c => ldB c = false)) 32 (by decide)), b_32⟩, ⟨⟨TOK.w (okA (Δ 16 i) (by omega)).1 (hdc (P := (fun c => ldB c = false)) 32 (by decide)), b_32⟩, ⟨⟨TOK.w ok_when_ (hdc (P := fun c => ldB c = false) 32 (by decide)), b_32⟩, trivial⟩⟩⟩⟩⟩, ?_⟩
  rw [GD.app]
  exact ⟨tsP_gd (by omega) b4 o4 o3 (fun x hx => by cases hx) (hdc (P := CE) 59 (Or.inr rfl)), ⟨⟨TOK.s os_se (fun c e => hh c e), b_0⟩, trivial⟩⟩
