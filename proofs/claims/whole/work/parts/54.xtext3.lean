theorem ixc_in (b : Int32) : ixc b = -1 ∨ vp_in (ixc b) 4 := by
  unfold ixc
  repeat' split
  all_goals first | exact Or.inl rfl | exact Or.inr (vl_in (by decide))
theorem ixs_in (x : Int32) : ixs x = -1 ∨ vp_in (ixs x) 4 := by
  unfold ixs
  repeat' split
  all_goals first | exact Or.inl rfl | exact ixc_in _
theorem rc_k {x : Int32} (h : ¬ ixs x < 0) : vp_in (ixs x) 4 := by
  rcases ixs_in x with e | e
  · rw [e] at h
    exact absurd (by decide) h
  · exact e
theorem rc_at {S : St} (h : ¬ S.1 1 < 0) (c : ¬ ixs ((((f_X6_here S : Int32)).toUInt32 % 65536).toInt32) < 0) : ¬ ((sI S 1 ((S.1 1) + 1)).1 1) < 0 := by
  rw [sI_eq]
  refine (inc_cl h (hr_lt rfl (fun e => c ?_)).2).2.1
  rw [e]
  decide
theorem rc_3 {k : Int32} (h : vp_in k 4) : (tb 2 (k : Int32).toNatClampNeg).toNatClampNeg ≤ 3 := by
  have h4 := clb h
  generalize k.toNatClampNeg = n at h4 ⊢
  have : n = 0 ∨ n = 1 ∨ n = 2 ∨ n = 3 := by omega
  rcases this with rfl | rfl | rfl | rfl <;> decide
theorem rc_b {k : Int32} {j : Nat} (h : vp_in k 4) (hj : j < (tb 2 (k : Int32).toNatClampNeg).toNatClampNeg) : vp_in ((tb 3 (k : Int32).toNatClampNeg) + (nI j)) 8 := by
  have h4 := clb h
  have h3 := rc_3 h
  generalize k.toNatClampNeg = n at h4 hj h3 ⊢
  have h5 : j = 0 ∨ j = 1 ∨ j = 2 := by omega
  have : n = 0 ∨ n = 1 ∨ n = 2 ∨ n = 3 := by omega
  rcases this with rfl | rfl | rfl | rfl <;> rcases h5 with rfl | rfl | rfl <;> exact vl_in (by decide)
theorem xk_blame {S : St} {a b : Int32} (h : ¬ S.1 1 < 0) : xk S (f_X6_blame S a b) := by
  unfold f_X6_blame
  refine ⟨?_, rfl, ?_⟩
  · rw [sI_ne (by decide), sI_ne (by decide)]; exact h
  · rw [sI_ne (by decide), sI_ne (by decide)]
theorem xk_sA1 {S : St} {f : Nat → Int32} (h : ¬ S.1 1 < 0) : xk S (sA S 1 f) := ⟨h, sA_ne (by decide), rfl⟩
theorem xk_l0n (x1 x2 x3 : Int32) (j : Nat) (u : St × Int32) (h : ¬ u.1.1 1 < 0) : xk u.1 (l0_X6_readNumber_15 x1 x2 x3 j u) := by
  unfold l0_X6_readNumber_15 l0_X6_readNumber_15_k1 l0_X6_readNumber_15_k2 l0_X6_readNumber_15_k3 l0_X6_readNumber_15_k4
  repeat' split
  all_goals first | exact xk_blame h | exact xk_sA1 h
theorem xk_lpn (x1 x2 x3 : Int32) : ∀ (k j : Nat) (u : St × Int32), ¬ u.1.1 1 < 0 → xk u.1 (lp_X6_readNumber_15 x1 x2 x3 k j u)
  | 0, j, u, h => xk_l0n x1 x2 x3 j u h
  | k + 1, j, u, h => by
    show xk u.1 (lb_X6_readNumber_15 x1 x2 x3 (lp_X6_readNumber_15 x1 x2 x3 k) j u)
    unfold lb_X6_readNumber_15 lb_X6_readNumber_15_k1 lb_X6_readNumber_15_k2 lb_X6_readNumber_15_k3 lb_X6_readNumber_15_k4
    by_cases c : (f_X6_isFigure u.1 (f_X6_here u.1)) = 0
    · rw [if_pos c]
      repeat' split
      all_goals first | exact xk_blame h | exact xk_sA1 h
    · rw [if_neg c]
      have h1 : xk u.1 (sI u.1 1 ((u.1.1 1) + 1)) := ⟨rn_step h c, rfl, sI_ne (by decide)⟩
      by_cases c2 : 4 ≤ nI j
      · rw [if_pos c2]
        exact xk_t h1 (xk_lpn x1 x2 x3 k (j + 1) ((sI u.1 1 ((u.1.1 1) + 1)), u.2) h1.1)
      · rw [if_neg c2]
        exact xk_t h1 (xk_lpn x1 x2 x3 k (j + 1) ((sI u.1 1 ((u.1.1 1) + 1)), ((u.2 * 10) + (f_X6_here u.1)) - 48) h1.1)
theorem xk_num {S : St} {a b : Int32} (h : ¬ (S.1 1) < 0) : xk S (f_X6_readNumber S a b) := by
  unfold f_X6_readNumber f_X6_readNumber_k1
  have h1 := xk_skip h
  generalize f_X6_skipBlanks S = z at h1 ⊢
  exact xk_t h1 (xk_lpn a b (z.1 1) 241 0 (z, 0) h1.1)
theorem xk_semi {S : St} (h : ¬ (S.1 1) < 0) : xk S (f_X6_readSemicolon S) := by
  unfold f_X6_readSemicolon f_X6_readSemicolon_k1 f_X6_readSemicolon_k2
  have h1 := xk_skip h
  generalize f_X6_skipBlanks S = z at h1 ⊢
  refine xk_t h1 ?_
  by_cases c : f_X6_here z = 59
  · rw [if_pos c]
    refine ⟨?_, rfl, sI_ne (by decide)⟩
    rw [sI_eq]
    exact (inc_cl h1.1 (hr_lt c (by decide)).2).2.1
  · rw [if_neg c]
    exact xk_blame h1.1
/-- the draft keeps its ranges -/
def okA (S : St) : Prop := okN S ∧ okS S
theorem inc_le {x : Int32} {n : Nat} {N : Int32} (h : vp_in x n) (hN : N = nI n) (hn : n < 2 ^ 31) : ¬ x + 1 < 0 ∧ x + 1 ≤ N := by
  have h0 : ¬ x < 0 := fun q => h (Or.inl q)
  have h1 := clb h
  have := inc_cl (x := x) (y := N) h0 (by
    rw [cl_of h, hN, Int32.lt_iff_toInt_lt, nI_toInt (by omega), nI_toInt hn]
    omega)
  exact ⟨this.2.1, this.2.2⟩
theorem okA_add {S : St} {w a b c : Int32} (h : okA S) : okA (f_X5_add S w a b c) := by
  obtain ⟨hn, hs⟩ := h
  unfold f_X5_add
  by_cases c0 : f_X5_hasRoomFor S w = 0
  · rw [if_pos c0]; exact ⟨hn, hs⟩
  · rw [if_neg c0]
    by_cases c1 : w = 100
    · rw [if_pos c1]
      have h1 := inc_le (N := 4) (rm_d hn c0 c1) rfl (by decide)
      refine ⟨⟨?_, ?_, ?_⟩, ?_, ?_, ?_⟩
      · rw [sA_1, sI_eq]; exact h1.1
      · rw [sA_1, sI_ne (by decide)]; exact hn.2.1
      · rw [sA_1, sI_ne (by decide)]; exact hn.2.2
      · rw [sA_1, sI_eq]; exact h1.2
      · rw [sA_1, sI_ne (by decide)]; exact hs.2.1
      · rw [sA_1, sI_ne (by decide)]; exact hs.2.2
    · rw [if_neg c1]
      by_cases c2 : w = 112
      · rw [if_pos c2]
        have h1 := inc_le (N := 7) (rm_p hn c0 c2) rfl (by decide)
        refine ⟨⟨?_, ?_, ?_⟩, ?_, ?_, ?_⟩
        · rw [sA_1, sA_1, sI_ne (by decide)]; exact hn.1
        · rw [sA_1, sA_1, sI_eq]; exact h1.1
        · rw [sA_1, sA_1, sI_ne (by decide)]; exact hn.2.2
        · rw [sA_1, sA_1, sI_ne (by decide)]; exact hs.1
        · rw [sA_1, sA_1, sI_eq]; exact h1.2
        · rw [sA_1, sA_1, sI_ne (by decide)]; exact hs.2.2
      · rw [if_neg c2]
        by_cases c3 : w = 115
        · rw [if_pos c3]
          refine ⟨⟨?_, ?_, ?_⟩, ?_, ?_, ?_⟩ <;> rw [sI_ne (by decide), sI_ne (by decide)]
          · exact hn.1
          · exact hn.2.1
          · exact hn.2.2
          · exact hs.1
          · exact hs.2.1
          · exact hs.2.2
        · rw [if_neg c3]
          have h1 := inc_le (N := 6) (rm_g hn c0 c1 c2 c3) rfl (by decide)
          refine ⟨⟨?_, ?_, ?_⟩, ?_, ?_, ?_⟩
          · rw [sA_1, sA_1, sA_1, sI_ne (by decide)]; exact hn.1
          · rw [sA_1, sA_1, sA_1, sI_ne (by decide)]; exact hn.2.1
          · rw [sA_1, sA_1, sA_1, sI_eq]; exact h1.1
          · rw [sA_1, sA_1, sA_1, sI_ne (by decide)]; exact hs.1
          · rw [sA_1, sA_1, sA_1, sI_ne (by decide)]; exact hs.2.1
          · rw [sA_1, sA_1, sA_1, sI_eq]; exact h1.2
def l0_X6_readClause_69_k2 (SD : St) (x2 : Int32) (x3 : Int32) (j : Nat) (u : St) (z11 : St) (z15 : St) : St × St :=
  (z11, z15)
def l0_X6_readClause_69_k1 (SD : St) (x2 : Int32) (x3 : Int32) (j : Nat) (u : St) (z11 : St) : St × St :=
  if (z11.1 2) = 0 then
    l0_X6_readClause_69_k2 SD x2 x3 j u z11 (f_X5_add SD x2 ((z11.2 1) ((0 : Int32)).toNatClampNeg) ((z11.2 1) ((1 : Int32)).toNatClampNeg) ((z11.2 1) ((2 : Int32)).toNatClampNeg))
  else
    (z11, SD)
def l0_X6_readClause_69 (SD : St) (x2 : Int32) (x3 : Int32) (j : Nat) (u : St) : St × St :=
  if (u.1 2) = 0 then
    l0_X6_readClause_69_k1 SD x2 x3 j u (f_X6_readSemicolon u)
  else
    (u, SD)
def lb_X6_readClause_69_k1 (SD : St) (x2 : Int32) (x3 : Int32) (rec : Nat → (St) → St × St) (j : Nat) (u : St) (z23 : St) : St × St :=
  rec (j + 1) z23
def lb_X6_readClause_69 (SD : St) (x2 : Int32) (x3 : Int32) (rec : Nat → (St) → St × St) (j : Nat) (u : St) : St × St :=
  if (u.1 2) = 0 then
    lb_X6_readClause_69_k1 SD x2 x3 rec j u (f_X6_readNumber u (nI j) ((tb 3 ((x3 : Int32)).toNatClampNeg) + (nI j)))
  else
    (u, SD)
def lp_X6_readClause_69 (SD : St) (x2 : Int32) (x3 : Int32) : Nat → Nat → (St) → St × St
  | 0, j, u => l0_X6_readClause_69 SD x2 x3 j u
  | k + 1, j, u => lb_X6_readClause_69 SD x2 x3 (lp_X6_readClause_69 SD x2 x3 k) j u
def f_X6_readClause_k1 (SX : St) (SD : St) (z2 : St) : St × St :=
  (z2, SD)
def f_X6_readClause_k3 (SX : St) (SD : St) (z65 : St) : St × St :=
  (z65, SD)
def f_X6_readClause_k4 (SX : St) (SD : St) (z68 : St) : St × St :=
  (z68, SD)
def f_X6_readClause_k2 (SX : St) (SD : St) (z42 : St) : St × St :=
  (z42, SD)
def f_X6_readClause (SX : St) (SD : St) : St × St :=
  if (ixs ((((f_X6_here SX : Int32)).toUInt32 % 65536).toInt32)) < 0 then
    f_X6_readClause_k1 SX SD (f_X6_blame SX 1 (SX.1 1))
  else
    if (f_X5_isTold SD) = 0 then
      if (ixs ((((f_X6_here SX : Int32)).toUInt32 % 65536).toInt32)) = 0 then
        if (f_X5_hasRoomFor SD (f_X6_here SX)) = 0 then
          f_X6_readClause_k3 SX SD (f_X6_blame SX 3 (SX.1 1))
        else
          lp_X6_readClause_69 SD (f_X6_here SX) (ixs ((((f_X6_here SX : Int32)).toUInt32 % 65536).toInt32)) ((tb 2 ((ixs ((((f_X6_here SX : Int32)).toUInt32 % 65536).toInt32) : Int32)).toNatClampNeg).toNatClampNeg) 0 (sI SX 1 ((SX.1 1) + 1))
      else
        f_X6_readClause_k4 SX SD (f_X6_blame SX 1 (SX.1 1))
    else
      if (f_X5_hasRoomFor SD (f_X6_here SX)) = 0 then
        f_X6_readClause_k2 SX SD (f_X6_blame SX 3 (SX.1 1))
      else
        lp_X6_readClause_69 SD (f_X6_here SX) (ixs ((((f_X6_here SX : Int32)).toUInt32 % 65536).toInt32)) ((tb 2 ((ixs ((((f_X6_here SX : Int32)).toUInt32 % 65536).toInt32) : Int32)).toNatClampNeg).toNatClampNeg) 0 (sI SX 1 ((SX.1 1) + 1))
theorem rc_l0 (SD : St) (x2 x3 : Int32) (j : Nat) (u : St) (hn : okA SD) (h : ¬ u.1 1 < 0) : xk u (l0_X6_readClause_69 SD x2 x3 j u).1 ∧ okA (l0_X6_readClause_69 SD x2 x3 j u).2 := by
  unfold l0_X6_readClause_69
  by_cases c : u.1 2 = 0
  · rw [if_pos c]
    unfold l0_X6_readClause_69_k1 l0_X6_readClause_69_k2
    have h1 := xk_semi h
    generalize f_X6_readSemicolon u = z at h1 ⊢
    by_cases c2 : z.1 2 = 0
    · rw [if_pos c2]
      exact ⟨h1, okA_add hn⟩
    · rw [if_neg c2]
      exact ⟨h1, hn⟩
  · rw [if_neg c]
    exact ⟨xk_rf h, hn⟩
theorem rc_lp (SD : St) (x2 x3 : Int32) (hn : okA SD) : ∀ (k j : Nat) (u : St), ¬ u.1 1 < 0 → xk u (lp_X6_readClause_69 SD x2 x3 k j u).1 ∧ okA (lp_X6_readClause_69 SD x2 x3 k j u).2
  | 0, j, u, h => rc_l0 SD x2 x3 j u hn h
  | k + 1, j, u, h => by
    show xk u (lb_X6_readClause_69 SD x2 x3 (lp_X6_readClause_69 SD x2 x3 k) j u).1 ∧ okA (lb_X6_readClause_69 SD x2 x3 (lp_X6_readClause_69 SD x2 x3 k) j u).2
    unfold lb_X6_readClause_69
    by_cases c : u.1 2 = 0
    · rw [if_pos c]
      unfold lb_X6_readClause_69_k1
      have h1 := xk_num (a := nI j) (b := ((tb 3 ((x3 : Int32)).toNatClampNeg) + (nI j))) h
      generalize f_X6_readNumber u (nI j) ((tb 3 ((x3 : Int32)).toNatClampNeg) + (nI j)) = z at h1 ⊢
      have h2 := rc_lp SD x2 x3 hn k (j + 1) z h1.1
      exact ⟨xk_t h1 h2.1, h2.2⟩
    · rw [if_neg c]
      exact ⟨xk_rf h, hn⟩
theorem rc_ok {SX SD : St} (h : ¬ SX.1 1 < 0) (hn : okA SD) : xk SX (f_X6_readClause SX SD).1 ∧ okA (f_X6_readClause SX SD).2 := by
  unfold f_X6_readClause f_X6_readClause_k1 f_X6_readClause_k2 f_X6_readClause_k3 f_X6_readClause_k4
  by_cases c1 : (ixs ((((f_X6_here SX : Int32)).toUInt32 % 65536).toInt32)) < 0
  · rw [if_pos c1]
    exact ⟨xk_blame h, hn⟩
  · rw [if_neg c1]
    have h2 : xk SX (sI SX 1 ((SX.1 1) + 1)) := ⟨rc_at h c1, rfl, sI_ne (by decide)⟩
    have h3 := fun k : Nat => rc_lp SD (f_X6_here SX) (ixs ((((f_X6_here SX : Int32)).toUInt32 % 65536).toInt32)) hn k 0 _ h2.1
    have h4 := fun k : Nat => And.intro (xk_t h2 (h3 k).1) (h3 k).2
    have h5 := fun a b : Int32 => And.intro (xk_blame (S := SX) (a := a) (b := b) h) hn
    clear h2 h3
    by_cases c2 : f_X5_isTold SD = 0
    · rw [if_pos c2]
      by_cases c3 : (ixs ((((f_X6_here SX : Int32)).toUInt32 % 65536).toInt32)) = 0
      · rw [if_pos c3]
        by_cases c4 : f_X5_hasRoomFor SD (f_X6_here SX) = 0
        · rw [if_pos c4]; exact h5 _ _
        · rw [if_neg c4]; exact h4 _
      · rw [if_neg c3]; exact h5 _ _
    · rw [if_neg c2]
      by_cases c4 : f_X5_hasRoomFor SD (f_X6_here SX) = 0
      · rw [if_pos c4]; exact h5 _ _
      · rw [if_neg c4]; exact h4 _
theorem inX6_readClause_6 : ∀ w ∈ wsX60, w ∈ wsX6_readClause := by decide +kernel
theorem hd_X6_readClause : yX6_readClause.cls = RX6 ∧ yX6_readClause.cls ≠ "java/lang/invoke/MethodHandle" ∧ yX6_readClause.cls ≠ "java/lang/invoke/VarHandle" ∧ (parseMethodDescriptor yX6_readClause.desc).map (fun d => d.parameters.length) = some 1 := by decide +kernel
set_option maxHeartbeats 4000000 in
set_option maxRecDepth 100000 in
theorem c_X6_readClause (l : Launch) (D : va_G) (cI cZ cQ : ClassId) (tt : Nat → Nat) (ak av : Nat) (rX : Nat → Nat) (rD : Nat → Nat) (SX : St) (SD : St) (ok1 : ¬ (SX.1 1) < 0) (okN : okN SD) : CvZ (Zs tt ak av) l yX6_readClause wsX6_readClause { frames := 4, cells := 0, slots := 0, locals := 91 } D (tyL cI cZ cQ) [.ref (rX 0), .ref (rD 0)] (fl [wX6 cI cZ cQ rX SX, wX5 cI cZ cQ rD SD]) (fl [wX6 cI cZ cQ rX ((f_X6_readClause SX SD).1), wX5 cI cZ cQ rD ((f_X6_readClause SX SD).2)]) := by
  refine cvz_of (cc := cX6_readClause) (nL := 5) (lv0 := [(0, .ref (rX 0)), (1, .ref (rD 0))]) (by decide) rfl (Nat.le_of_ble_eq_true rfl) rfl ?_
  intro p e s m args below meth c A X hr hZ
  refine ww_aload_n (pc := 0) X dX6_readClause_0 0 rfl rfl ?_
  refine ww_gVi (pc := 1) (rest := []) (gsN := [wX6 cI cZ cQ rX SX, wX5 cI cZ cQ rD SD]) (ci := 6) (gi := 0) (qi := 0) X (c_X6_here l D cI cZ cQ rX SX (by assumption)) gX6_readClause_X6_here rfl hd_X6_here [true, false] rfl rfl rfl rfl rfl rfl rfl rfl ⟨rfl, rfl⟩ ⟨Nat.le_of_ble_eq_true rfl, Nat.le_of_ble_eq_true rfl⟩ (Nat.le_of_ble_eq_true rfl) ⟨Nat.zero_le _, Nat.zero_le _⟩ dX6_readClause_1 ?_
  refine ww_istore_n (pc := 4) (lv' := [(2, .int (f_X6_here SX)), (0, .ref (rX 0)), (1, .ref (rD 0))]) X dX6_readClause_4 rfl (by decide) rfl ?_
  refine ww_lds (pc := 5) (q := ak) X (Zs_R hZ) dX6_readClause_5 ?_
  refine ww_iload_n (pc := 7) X dX6_readClause_7 0 rfl rfl ?_
  refine ww_i2c (pc := 8) X dX6_readClause_8 rfl ?_
  refine ww_jVi (pc := 9) (gs := [wX6 cI cZ cQ rX SX, wX5 cI cZ cQ rD SD]) (As := [.int ((((f_X6_here SX : Int32)).toUInt32 % 65536).toInt32)]) (rest := []) X (Zs_ok tt ak av) hZ (c_J0_indexOf_0f7a4 l D cI cZ cQ tt ak av ((((f_X6_here SX : Int32)).toUInt32 % 65536).toInt32)) gX6_readClause_J0_indexOf_0f7a4 rfl hd_J0_indexOf_0f7a4 (Zs_O hZ) rfl ⟨rfl, rfl⟩ ⟨Nat.le_of_ble_eq_true rfl, Nat.le_of_ble_eq_true rfl⟩ (Nat.le_of_ble_eq_true rfl) ⟨Nat.zero_le _, Nat.zero_le _⟩ dX6_readClause_9 ?_
  refine ww_istore_n (pc := 12) (lv' := [(3, .int (ixs ((((f_X6_here SX : Int32)).toUInt32 % 65536).toInt32))), (2, .int (f_X6_here SX)), (0, .ref (rX 0)), (1, .ref (rD 0))]) X dX6_readClause_12 rfl (by decide) rfl ?_
  refine ww_iload_n (pc := 13) X dX6_readClause_13 0 rfl rfl ?_
  refine ww_if_lt (pc := 14) (tgt := 28) X dX6_readClause_14 (by decide) (fun c1 => ?_) (fun c1 => ?_)
  · refine ww_aload_n (pc := 28) X dX6_readClause_28 2 rfl rfl ?_
    refine ww_iconst (pc := 29) (v := 1) X dX6_readClause_29 (by decide) ?_
    refine ww_aload_n (pc := 30) X dX6_readClause_30 2 rfl rfl ?_
    refine ww_get (pc := 31) (ci := 6) (v := .int (SX.1 1)) (C := RX6) (T := TX6) (N := 6) X inX6_readClause_6 0 rfl rfl 3 (by decide) (by decide +kernel) rfl dX6_readClause_31 ?_
    refine ww_gVv (pc := 34) (rest := []) (gsN := [wX6 cI cZ cQ rX (f_X6_blame SX 1 (SX.1 1)), wX5 cI cZ cQ rD SD]) (ci := 6) (gi := 0) (qi := 0) X (c_X6_blame l D cI cZ cQ rX SX 1 (SX.1 1)) gX6_readClause_X6_blame rfl hd_X6_blame [true, false] rfl (acons (ad6 _ _ _ _ _ _) rfl) rfl rfl rfl rfl rfl rfl ⟨rfl, rfl⟩ ⟨Nat.le_of_ble_eq_true rfl, Nat.le_of_ble_eq_true rfl⟩ (Nat.le_of_ble_eq_true rfl) ⟨Nat.zero_le _, Nat.zero_le _⟩ dX6_readClause_34 ?_
    generalize hz2 : (f_X6_blame SX 1 (SX.1 1)) = z2
    have h3 : f_X6_readClause SX SD = (z2, SD) := by unfold f_X6_readClause; try rw [if_pos c1, hz2]; try unfold f_X6_readClause_k1; first | done | rfl
    have hw4 := congrArg (fun u9 : St × St => fl [wX6 cI cZ cQ rX u9.1, wX5 cI cZ cQ rD u9.2]) h3.symm
    exact ww_vret X hr hw4 dX6_readClause_37
  · refine ww_aload_n (pc := 17) X dX6_readClause_17 3 rfl rfl ?_
    refine ww_gVi (pc := 18) (rest := []) (gsN := [wX6 cI cZ cQ rX SX, wX5 cI cZ cQ rD SD]) (ci := 5) (gi := 0) (qi := 0) X (c_X5_isTold l D cI cZ cQ rD SD) gX6_readClause_X5_isTold rfl hd_X5_isTold [false, true] rfl rfl rfl rfl rfl rfl rfl rfl ⟨rfl, rfl⟩ ⟨Nat.le_of_ble_eq_true rfl, Nat.le_of_ble_eq_true rfl⟩ (Nat.le_of_ble_eq_true rfl) ⟨Nat.zero_le _, Nat.zero_le _⟩ dX6_readClause_18 ?_
    refine ww_if_ne (pc := 21) (tgt := 38) X dX6_readClause_21 (by decide) (fun c5 => ?_) (fun c5 => ?_)
    · refine ww_aload_n (pc := 38) X dX6_readClause_38 3 rfl rfl ?_
      refine ww_iload_n (pc := 39) X dX6_readClause_39 1 rfl rfl ?_
      refine ww_gVi (pc := 40) (rest := []) (gsN := [wX6 cI cZ cQ rX SX, wX5 cI cZ cQ rD SD]) (ci := 5) (gi := 0) (qi := 0) X (c_X5_hasRoomFor l D cI cZ cQ rD SD (f_X6_here SX)) gX6_readClause_X5_hasRoomFor rfl hd_X5_hasRoomFor [false, true] rfl rfl rfl rfl rfl rfl rfl rfl ⟨rfl, rfl⟩ ⟨Nat.le_of_ble_eq_true rfl, Nat.le_of_ble_eq_true rfl⟩ (Nat.le_of_ble_eq_true rfl) ⟨Nat.zero_le _, Nat.zero_le _⟩ dX6_readClause_40 ?_
      refine ww_if_ne (pc := 43) (tgt := 56) X dX6_readClause_43 (by decide) (fun c6 => ?_) (fun c6 => ?_)
      · have hk := rc_k c1
        have ok2 := rc_at ok1 c1
        refine ww_aload_n (pc := 56) X dX6_readClause_56 2 rfl rfl ?_
        refine ww_dup (pc := 57) X dX6_readClause_57 rfl ?_
        refine ww_get (pc := 58) (ci := 6) (v := .int (SX.1 1)) (C := RX6) (T := TX6) (N := 6) X inX6_readClause_6 0 rfl rfl 3 (by decide) (by decide +kernel) rfl dX6_readClause_58 ?_
        refine ww_iconst (pc := 61) (v := 1) X dX6_readClause_61 (by decide) ?_
        refine ww_iadd (pc := 62) X dX6_readClause_62 ?_
        refine ww_put (pc := 63) (ci := 6) (v := .int ((SX.1 1) + 1)) (C := RX6) (T := TX6) (N := 6) (ws' := fl [wX6 cI cZ cQ rX (sI SX 1 ((SX.1 1) + 1)), wX5 cI cZ cQ rD SD]) X inX6_readClause_6 tyX6 tyX6_ok nmX6 0 rfl rfl 3 (by decide) (by decide +kernel) rfl rfl rfl (Nat.le_of_ble_eq_true rfl) rfl dX6_readClause_63 ?_
        refine ww_iconst (pc := 66) (v := 0) X dX6_readClause_66 (by decide) ?_
        refine ww_istore (pc := 67) (lv' := [(4, .int 0), (3, .int (ixs ((((f_X6_here SX : Int32)).toUInt32 % 65536).toInt32))), (2, .int (f_X6_here SX)), (0, .ref (rX 0)), (1, .ref (rD 0))]) X dX6_readClause_67 (by decide) rfl ?_
        have L69 : ∀ (k_69 j_69 : Nat) (u_69 : St), j_69 + k_69 = (tb 2 ((ixs ((((f_X6_here SX : Int32)).toUInt32 % 65536).toInt32) : Int32)).toNatClampNeg).toNatClampNeg → (¬ (u_69.1 1) < 0) → f_X6_readClause SX SD = lp_X6_readClause_69 SD (f_X6_here SX) (ixs ((((f_X6_here SX : Int32)).toUInt32 % 65536).toInt32)) k_69 j_69 u_69 → WW p l e (headSpec wsX6_readClause { frames := 4, cells := 0, slots := 0, locals := 91 }).room s m args below meth c 5 D A 0 0 (RQv below args s D A (fl [wX6 cI cZ cQ rX ((f_X6_readClause SX SD).1), wX5 cI cZ cQ rD ((f_X6_readClause SX SD).2)])) (fl [wX6 cI cZ cQ rX u_69, wX5 cI cZ cQ rD SD]) [(0, .ref (rX 0)), (1, .ref (rD 0)), (2, .int (f_X6_here SX)), (3, .int (ixs ((((f_X6_here SX : Int32)).toUInt32 % 65536).toInt32))), (4, .int (nI j_69))] 69 [] := by
          intro k_69
          induction k_69 with
          | zero =>
            intro j_69 u_69 hj hi hf
            have hjB : j_69 = (tb 2 ((ixs ((((f_X6_here SX : Int32)).toUInt32 % 65536).toInt32) : Int32)).toNatClampNeg).toNatClampNeg := by omega
            subst hjB
            refine ww_iload (pc := 69) X dX6_readClause_69 4 rfl ?_
            refine ww_gets (pc := 71) (v := .ref (tt 2)) X (Zs_Z2 hZ) (by decide +kernel) dX6_readClause_71 ?_
            refine ww_iload_n (pc := 74) X dX6_readClause_74 3 rfl rfl ?_
            refine ww_ti (pc := 75) (f := tb 2) X (Zs_T2 hZ) hk dX6_readClause_75 ?_
            refine ww_icmp_ge (pc := 76) (tgt := 106) X dX6_readClause_76 (by decide) (fun _ => ?_) (fun c9 => absurd (lp_ge0c (Nat.le_refl _) (cl_lt _)) c9)
            refine ww_aload_n (pc := 106) X dX6_readClause_106 0 rfl rfl ?_
            refine ww_get (pc := 107) (ci := 6) (v := .int (u_69.1 2)) (C := RX6) (T := TX6) (N := 6) X inX6_readClause_6 0 rfl rfl 4 (by decide) (by decide +kernel) rfl dX6_readClause_107 ?_
            refine ww_if_ne (pc := 110) (tgt := 117) X dX6_readClause_110 (by decide) (fun c24 => ?_) (fun c24 => ?_)
            · refine ww_aload_n (pc := 117) X dX6_readClause_117 0 rfl rfl ?_
              refine ww_get (pc := 118) (ci := 6) (v := .int (u_69.1 2)) (C := RX6) (T := TX6) (N := 6) X inX6_readClause_6 0 rfl rfl 4 (by decide) (by decide +kernel) rfl dX6_readClause_118 ?_
              refine ww_if_ne (pc := 121) (tgt := 147) X dX6_readClause_121 (by decide) (fun _ => ?_) (fun c25 => absurd c25 c24)
              have h26 : f_X6_readClause SX SD = (u_69, SD) := by rw [hf]; show l0_X6_readClause_69 SD (f_X6_here SX) (ixs ((((f_X6_here SX : Int32)).toUInt32 % 65536).toInt32)) ((tb 2 ((ixs ((((f_X6_here SX : Int32)).toUInt32 % 65536).toInt32) : Int32)).toNatClampNeg).toNatClampNeg) u_69 = _; unfold l0_X6_readClause_69; try rw [if_neg c24]; first | done | rfl
              have hw27 := congrArg (fun u9 : St × St => fl [wX6 cI cZ cQ rX u9.1, wX5 cI cZ cQ rD u9.2]) h26.symm
              exact ww_vret X hr hw27 dX6_readClause_147
            · refine ww_aload_n (pc := 113) X dX6_readClause_113 0 rfl rfl ?_
              refine ww_gVv (pc := 114) (rest := []) (gsN := [wX6 cI cZ cQ rX (f_X6_readSemicolon u_69), wX5 cI cZ cQ rD SD]) (ci := 6) (gi := 0) (qi := 0) X (c_X6_readSemicolon l D cI cZ cQ rX u_69 hi) gX6_readClause_X6_readSemicolon rfl hd_X6_readSemicolon [true, false] rfl (acons (ad6 _ _ _ _ _ _) rfl) rfl rfl rfl rfl rfl rfl ⟨rfl, rfl⟩ ⟨Nat.le_of_ble_eq_true rfl, Nat.le_of_ble_eq_true rfl⟩ (Nat.le_of_ble_eq_true rfl) ⟨Nat.zero_le _, Nat.zero_le _⟩ dX6_readClause_114 ?_
              generalize hz28 : (f_X6_readSemicolon u_69) = z28
              refine ww_aload_n (pc := 117) X dX6_readClause_117 0 rfl rfl ?_
              refine ww_get (pc := 118) (ci := 6) (v := .int (z28.1 2)) (C := RX6) (T := TX6) (N := 6) X inX6_readClause_6 0 rfl rfl 4 (by decide) (by decide +kernel) rfl dX6_readClause_118 ?_
              refine ww_if_ne (pc := 121) (tgt := 147) X dX6_readClause_121 (by decide) (fun c29 => ?_) (fun c29 => ?_)
              · have h30 : f_X6_readClause SX SD = (z28, SD) := by rw [hf]; show l0_X6_readClause_69 SD (f_X6_here SX) (ixs ((((f_X6_here SX : Int32)).toUInt32 % 65536).toInt32)) ((tb 2 ((ixs ((((f_X6_here SX : Int32)).toUInt32 % 65536).toInt32) : Int32)).toNatClampNeg).toNatClampNeg) u_69 = _; unfold l0_X6_readClause_69; try rw [if_pos c24, hz28]; try unfold l0_X6_readClause_69_k1; try rw [if_neg c29]; first | done | rfl
                have hw31 := congrArg (fun u9 : St × St => fl [wX6 cI cZ cQ rX u9.1, wX5 cI cZ cQ rD u9.2]) h30.symm
                exact ww_vret X hr hw31 dX6_readClause_147
              · refine ww_aload_n (pc := 124) X dX6_readClause_124 1 rfl rfl ?_
                refine ww_iload_n (pc := 125) X dX6_readClause_125 2 rfl rfl ?_
                refine ww_aload_n (pc := 126) X dX6_readClause_126 0 rfl rfl ?_
                refine ww_get (pc := 127) (ci := 6) (v := .ref (rX 2)) (C := RX6) (T := TX6) (N := 6) X inX6_readClause_6 0 rfl rfl 1 (by decide) (by decide +kernel) rfl dX6_readClause_127 ?_
                refine ww_iconst (pc := 130) (v := 0) X dX6_readClause_130 (by decide) ?_
                refine ww_iald (pc := 131) (f := z28.2 1) X 2 0 rfl rfl (vl_in (by decide)) dX6_readClause_131 ?_
                refine ww_aload_n (pc := 132) X dX6_readClause_132 0 rfl rfl ?_
                refine ww_get (pc := 133) (ci := 6) (v := .ref (rX 2)) (C := RX6) (T := TX6) (N := 6) X inX6_readClause_6 0 rfl rfl 1 (by decide) (by decide +kernel) rfl dX6_readClause_133 ?_
                refine ww_iconst (pc := 136) (v := 1) X dX6_readClause_136 (by decide) ?_
                refine ww_iald (pc := 137) (f := z28.2 1) X 2 0 rfl rfl (vl_in (by decide)) dX6_readClause_137 ?_
                refine ww_aload_n (pc := 138) X dX6_readClause_138 0 rfl rfl ?_
                refine ww_get (pc := 139) (ci := 6) (v := .ref (rX 2)) (C := RX6) (T := TX6) (N := 6) X inX6_readClause_6 0 rfl rfl 1 (by decide) (by decide +kernel) rfl dX6_readClause_139 ?_
                refine ww_iconst (pc := 142) (v := 2) X dX6_readClause_142 (by decide) ?_
                refine ww_iald (pc := 143) (f := z28.2 1) X 2 0 rfl rfl (vl_in (by decide)) dX6_readClause_143 ?_
                refine ww_gVv (pc := 144) (rest := []) (gsN := [wX6 cI cZ cQ rX z28, wX5 cI cZ cQ rD (f_X5_add SD (f_X6_here SX) ((z28.2 1) ((0 : Int32)).toNatClampNeg) ((z28.2 1) ((1 : Int32)).toNatClampNeg) ((z28.2 1) ((2 : Int32)).toNatClampNeg))]) (ci := 5) (gi := 0) (qi := 0) X (c_X5_add l D cI cZ cQ rD SD (f_X6_here SX) ((z28.2 1) ((0 : Int32)).toNatClampNeg) ((z28.2 1) ((1 : Int32)).toNatClampNeg) ((z28.2 1) ((2 : Int32)).toNatClampNeg) (by assumption)) gX6_readClause_X5_add rfl hd_X5_add [false, true] rfl (acons (ad5 _ _ _ _ _ _) rfl) rfl rfl rfl rfl rfl rfl ⟨rfl, rfl⟩ ⟨Nat.le_of_ble_eq_true rfl, Nat.le_of_ble_eq_true rfl⟩ (Nat.le_of_ble_eq_true rfl) ⟨Nat.zero_le _, Nat.zero_le _⟩ dX6_readClause_144 ?_
                generalize hz32 : (f_X5_add SD (f_X6_here SX) ((z28.2 1) ((0 : Int32)).toNatClampNeg) ((z28.2 1) ((1 : Int32)).toNatClampNeg) ((z28.2 1) ((2 : Int32)).toNatClampNeg)) = z32
                have h33 : f_X6_readClause SX SD = (z28, z32) := by rw [hf]; show l0_X6_readClause_69 SD (f_X6_here SX) (ixs ((((f_X6_here SX : Int32)).toUInt32 % 65536).toInt32)) ((tb 2 ((ixs ((((f_X6_here SX : Int32)).toUInt32 % 65536).toInt32) : Int32)).toNatClampNeg).toNatClampNeg) u_69 = _; unfold l0_X6_readClause_69; try rw [if_pos c24, hz28]; try unfold l0_X6_readClause_69_k1; try rw [if_pos c29, hz32]; try unfold l0_X6_readClause_69_k2; first | done | rfl
                have hw34 := congrArg (fun u9 : St × St => fl [wX6 cI cZ cQ rX u9.1, wX5 cI cZ cQ rD u9.2]) h33.symm
                exact ww_vret X hr hw34 dX6_readClause_147
          | succ k_69 ih =>
            intro j_69 u_69 hj hi hf
            have hjB : j_69 < (tb 2 ((ixs ((((f_X6_here SX : Int32)).toUInt32 % 65536).toInt32) : Int32)).toNatClampNeg).toNatClampNeg := by omega
            have h3 := rc_3 hk
            refine ww_iload (pc := 69) X dX6_readClause_69 4 rfl ?_
            refine ww_gets (pc := 71) (v := .ref (tt 2)) X (Zs_Z2 hZ) (by decide +kernel) dX6_readClause_71 ?_
            refine ww_iload_n (pc := 74) X dX6_readClause_74 3 rfl rfl ?_
            refine ww_ti (pc := 75) (f := tb 2) X (Zs_T2 hZ) hk dX6_readClause_75 ?_
            refine ww_icmp_ge (pc := 76) (tgt := 106) X dX6_readClause_76 (by decide) (fun c9 => absurd c9 (lp_ge1c hjB)) (fun _ => ?_)
            refine ww_aload_n (pc := 79) X dX6_readClause_79 0 rfl rfl ?_
            refine ww_get (pc := 80) (ci := 6) (v := .int (u_69.1 2)) (C := RX6) (T := TX6) (N := 6) X inX6_readClause_6 0 rfl rfl 4 (by decide) (by decide +kernel) rfl dX6_readClause_80 ?_
            refine ww_if_ne (pc := 83) (tgt := 106) X dX6_readClause_83 (by decide) (fun c35 => ?_) (fun c35 => ?_)
            · refine ww_aload_n (pc := 106) X dX6_readClause_106 0 rfl rfl ?_
              refine ww_get (pc := 107) (ci := 6) (v := .int (u_69.1 2)) (C := RX6) (T := TX6) (N := 6) X inX6_readClause_6 0 rfl rfl 4 (by decide) (by decide +kernel) rfl dX6_readClause_107 ?_
              refine ww_if_ne (pc := 110) (tgt := 117) X dX6_readClause_110 (by decide) (fun _ => ?_) (fun c36 => absurd c36 c35)
              refine ww_aload_n (pc := 117) X dX6_readClause_117 0 rfl rfl ?_
              refine ww_get (pc := 118) (ci := 6) (v := .int (u_69.1 2)) (C := RX6) (T := TX6) (N := 6) X inX6_readClause_6 0 rfl rfl 4 (by decide) (by decide +kernel) rfl dX6_readClause_118 ?_
              refine ww_if_ne (pc := 121) (tgt := 147) X dX6_readClause_121 (by decide) (fun _ => ?_) (fun c37 => absurd c37 c35)
              have h38 : f_X6_readClause SX SD = (u_69, SD) := by rw [hf]; show lb_X6_readClause_69 SD (f_X6_here SX) (ixs ((((f_X6_here SX : Int32)).toUInt32 % 65536).toInt32)) (lp_X6_readClause_69 SD (f_X6_here SX) (ixs ((((f_X6_here SX : Int32)).toUInt32 % 65536).toInt32)) k_69) j_69 u_69 = _; unfold lb_X6_readClause_69; try rw [if_neg c35]; first | done | rfl
              have hw39 := congrArg (fun u9 : St × St => fl [wX6 cI cZ cQ rX u9.1, wX5 cI cZ cQ rD u9.2]) h38.symm
              exact ww_vret X hr hw39 dX6_readClause_147
            · refine ww_aload_n (pc := 86) X dX6_readClause_86 0 rfl rfl ?_
              refine ww_iload (pc := 87) X dX6_readClause_87 4 rfl ?_
              refine ww_gets (pc := 89) (v := .ref (tt 3)) X (Zs_Z3 hZ) (by decide +kernel) dX6_readClause_89 ?_
              refine ww_iload_n (pc := 92) X dX6_readClause_92 3 rfl rfl ?_
              refine ww_ti (pc := 93) (f := tb 3) X (Zs_T3 hZ) hk dX6_readClause_93 ?_
              refine ww_iload (pc := 94) X dX6_readClause_94 4 rfl ?_
              refine ww_iadd (pc := 96) X dX6_readClause_96 ?_
              refine ww_zVv (pc := 97) (rest := []) (gsN := [wX6 cI cZ cQ rX (f_X6_readNumber u_69 (nI j_69) ((tb 3 ((ixs ((((f_X6_here SX : Int32)).toUInt32 % 65536).toInt32) : Int32)).toNatClampNeg) + (nI j_69))), wX5 cI cZ cQ rD SD]) (ci := 6) (gi := 0) (qi := 0) X (Zs_ok tt ak av) hZ (c_X6_readNumber l D cI cZ cQ tt ak av rX u_69 (nI j_69) ((tb 3 ((ixs ((((f_X6_here SX : Int32)).toUInt32 % 65536).toInt32) : Int32)).toNatClampNeg) + (nI j_69)) hi (vn (m := j_69) rfl (by omega) (by decide)) (rc_b hk hjB)) gX6_readClause_X6_readNumber rfl hd_X6_readNumber [true, false] rfl (acons (ad6 _ _ _ _ _ _) rfl) rfl rfl rfl rfl rfl rfl ⟨rfl, rfl⟩ ⟨Nat.le_of_ble_eq_true rfl, Nat.le_of_ble_eq_true rfl⟩ (Nat.le_of_ble_eq_true rfl) ⟨Nat.zero_le _, Nat.zero_le _⟩ dX6_readClause_97 ?_
              generalize hz40 : (f_X6_readNumber u_69 (nI j_69) ((tb 3 ((ixs ((((f_X6_here SX : Int32)).toUInt32 % 65536).toInt32) : Int32)).toNatClampNeg) + (nI j_69))) = z40
              refine ww_iinc (pc := 100) (v := (nI j_69) + 1) (lv' := [(4, .int ((nI j_69) + 1)), (0, .ref (rX 0)), (1, .ref (rD 0)), (2, .int (f_X6_here SX)), (3, .int (ixs ((((f_X6_here SX : Int32)).toUInt32 % 65536).toInt32)))]) X dX6_readClause_100 4 rfl rfl (by decide) rfl ?_
              refine ww_goto (pc := 103) (tgt := 69) X dX6_readClause_103 (by decide) ?_
              refine ww_lsub [1, 2, 3, 4, 0] rfl ?_
              have h41 : f_X6_readClause SX SD = lp_X6_readClause_69 SD (f_X6_here SX) (ixs ((((f_X6_here SX : Int32)).toUInt32 % 65536).toInt32)) k_69 (j_69 + 1) z40 := by rw [hf]; show lb_X6_readClause_69 SD (f_X6_here SX) (ixs ((((f_X6_here SX : Int32)).toUInt32 % 65536).toInt32)) (lp_X6_readClause_69 SD (f_X6_here SX) (ixs ((((f_X6_here SX : Int32)).toUInt32 % 65536).toInt32)) k_69) j_69 u_69 = _; unfold lb_X6_readClause_69; try rw [if_pos c35, hz40]; try unfold lb_X6_readClause_69_k1; first | done | rfl
              exact ww_cast rfl (congrArg (fun (i9 : Int32) => ([(0, .ref (rX 0)), (1, .ref (rD 0)), (2, .int (f_X6_here SX)), (3, .int (ixs ((((f_X6_here SX : Int32)).toUInt32 % 65536).toInt32))), (4, .int i9)] : List (Nat × Value))) (nI_1 j_69).symm) (ih (j_69 + 1) z40 (by omega) (by rw [← hz40]; exact (xk_num hi).1) h41)
        refine ww_lsub [3, 4, 2, 1, 0] rfl ?_
        exact L69 ((tb 2 ((ixs ((((f_X6_here SX : Int32)).toUInt32 % 65536).toInt32) : Int32)).toNatClampNeg).toNatClampNeg) 0 (sI SX 1 ((SX.1 1) + 1)) (by omega) ok2 (by unfold f_X6_readClause; try rw [if_neg c1, if_neg c5, if_neg c6]; first | done | rfl)
      · refine ww_aload_n (pc := 46) X dX6_readClause_46 2 rfl rfl ?_
        refine ww_iconst (pc := 47) (v := 3) X dX6_readClause_47 (by decide) ?_
        refine ww_aload_n (pc := 48) X dX6_readClause_48 2 rfl rfl ?_
        refine ww_get (pc := 49) (ci := 6) (v := .int (SX.1 1)) (C := RX6) (T := TX6) (N := 6) X inX6_readClause_6 0 rfl rfl 3 (by decide) (by decide +kernel) rfl dX6_readClause_49 ?_
        refine ww_gVv (pc := 52) (rest := []) (gsN := [wX6 cI cZ cQ rX (f_X6_blame SX 3 (SX.1 1)), wX5 cI cZ cQ rD SD]) (ci := 6) (gi := 0) (qi := 0) X (c_X6_blame l D cI cZ cQ rX SX 3 (SX.1 1)) gX6_readClause_X6_blame rfl hd_X6_blame [true, false] rfl (acons (ad6 _ _ _ _ _ _) rfl) rfl rfl rfl rfl rfl rfl ⟨rfl, rfl⟩ ⟨Nat.le_of_ble_eq_true rfl, Nat.le_of_ble_eq_true rfl⟩ (Nat.le_of_ble_eq_true rfl) ⟨Nat.zero_le _, Nat.zero_le _⟩ dX6_readClause_52 ?_
        generalize hz42 : (f_X6_blame SX 3 (SX.1 1)) = z42
        have h43 : f_X6_readClause SX SD = (z42, SD) := by unfold f_X6_readClause; try rw [if_neg c1, if_neg c5, if_pos c6, hz42]; try unfold f_X6_readClause_k2; first | done | rfl
        have hw44 := congrArg (fun u9 : St × St => fl [wX6 cI cZ cQ rX u9.1, wX5 cI cZ cQ rD u9.2]) h43.symm
        exact ww_vret X hr hw44 dX6_readClause_55
    · refine ww_iload_n (pc := 24) X dX6_readClause_24 0 rfl rfl ?_
      refine ww_if_eq (pc := 25) (tgt := 38) X dX6_readClause_25 (by decide) (fun c45 => ?_) (fun c45 => ?_)
      · refine ww_aload_n (pc := 38) X dX6_readClause_38 3 rfl rfl ?_
        refine ww_iload_n (pc := 39) X dX6_readClause_39 1 rfl rfl ?_
        refine ww_gVi (pc := 40) (rest := []) (gsN := [wX6 cI cZ cQ rX SX, wX5 cI cZ cQ rD SD]) (ci := 5) (gi := 0) (qi := 0) X (c_X5_hasRoomFor l D cI cZ cQ rD SD (f_X6_here SX)) gX6_readClause_X5_hasRoomFor rfl hd_X5_hasRoomFor [false, true] rfl rfl rfl rfl rfl rfl rfl rfl ⟨rfl, rfl⟩ ⟨Nat.le_of_ble_eq_true rfl, Nat.le_of_ble_eq_true rfl⟩ (Nat.le_of_ble_eq_true rfl) ⟨Nat.zero_le _, Nat.zero_le _⟩ dX6_readClause_40 ?_
        refine ww_if_ne (pc := 43) (tgt := 56) X dX6_readClause_43 (by decide) (fun c46 => ?_) (fun c46 => ?_)
        · have hk := rc_k c1
          have ok2 := rc_at ok1 c1
          refine ww_aload_n (pc := 56) X dX6_readClause_56 2 rfl rfl ?_
          refine ww_dup (pc := 57) X dX6_readClause_57 rfl ?_
          refine ww_get (pc := 58) (ci := 6) (v := .int (SX.1 1)) (C := RX6) (T := TX6) (N := 6) X inX6_readClause_6 0 rfl rfl 3 (by decide) (by decide +kernel) rfl dX6_readClause_58 ?_
          refine ww_iconst (pc := 61) (v := 1) X dX6_readClause_61 (by decide) ?_
          refine ww_iadd (pc := 62) X dX6_readClause_62 ?_
          refine ww_put (pc := 63) (ci := 6) (v := .int ((SX.1 1) + 1)) (C := RX6) (T := TX6) (N := 6) (ws' := fl [wX6 cI cZ cQ rX (sI SX 1 ((SX.1 1) + 1)), wX5 cI cZ cQ rD SD]) X inX6_readClause_6 tyX6 tyX6_ok nmX6 0 rfl rfl 3 (by decide) (by decide +kernel) rfl rfl rfl (Nat.le_of_ble_eq_true rfl) rfl dX6_readClause_63 ?_
          refine ww_iconst (pc := 66) (v := 0) X dX6_readClause_66 (by decide) ?_
          refine ww_istore (pc := 67) (lv' := [(4, .int 0), (3, .int (ixs ((((f_X6_here SX : Int32)).toUInt32 % 65536).toInt32))), (2, .int (f_X6_here SX)), (0, .ref (rX 0)), (1, .ref (rD 0))]) X dX6_readClause_67 (by decide) rfl ?_
          have L69 : ∀ (k_69 j_69 : Nat) (u_69 : St), j_69 + k_69 = (tb 2 ((ixs ((((f_X6_here SX : Int32)).toUInt32 % 65536).toInt32) : Int32)).toNatClampNeg).toNatClampNeg → (¬ (u_69.1 1) < 0) → f_X6_readClause SX SD = lp_X6_readClause_69 SD (f_X6_here SX) (ixs ((((f_X6_here SX : Int32)).toUInt32 % 65536).toInt32)) k_69 j_69 u_69 → WW p l e (headSpec wsX6_readClause { frames := 4, cells := 0, slots := 0, locals := 91 }).room s m args below meth c 5 D A 0 0 (RQv below args s D A (fl [wX6 cI cZ cQ rX ((f_X6_readClause SX SD).1), wX5 cI cZ cQ rD ((f_X6_readClause SX SD).2)])) (fl [wX6 cI cZ cQ rX u_69, wX5 cI cZ cQ rD SD]) [(0, .ref (rX 0)), (1, .ref (rD 0)), (2, .int (f_X6_here SX)), (3, .int (ixs ((((f_X6_here SX : Int32)).toUInt32 % 65536).toInt32))), (4, .int (nI j_69))] 69 [] := by
            intro k_69
            induction k_69 with
            | zero =>
              intro j_69 u_69 hj hi hf
              have hjB : j_69 = (tb 2 ((ixs ((((f_X6_here SX : Int32)).toUInt32 % 65536).toInt32) : Int32)).toNatClampNeg).toNatClampNeg := by omega
              subst hjB
              refine ww_iload (pc := 69) X dX6_readClause_69 4 rfl ?_
              refine ww_gets (pc := 71) (v := .ref (tt 2)) X (Zs_Z2 hZ) (by decide +kernel) dX6_readClause_71 ?_
              refine ww_iload_n (pc := 74) X dX6_readClause_74 3 rfl rfl ?_
              refine ww_ti (pc := 75) (f := tb 2) X (Zs_T2 hZ) hk dX6_readClause_75 ?_
              refine ww_icmp_ge (pc := 76) (tgt := 106) X dX6_readClause_76 (by decide) (fun _ => ?_) (fun c9 => absurd (lp_ge0c (Nat.le_refl _) (cl_lt _)) c9)
              refine ww_aload_n (pc := 106) X dX6_readClause_106 0 rfl rfl ?_
              refine ww_get (pc := 107) (ci := 6) (v := .int (u_69.1 2)) (C := RX6) (T := TX6) (N := 6) X inX6_readClause_6 0 rfl rfl 4 (by decide) (by decide +kernel) rfl dX6_readClause_107 ?_
              refine ww_if_ne (pc := 110) (tgt := 117) X dX6_readClause_110 (by decide) (fun c47 => ?_) (fun c47 => ?_)
              · refine ww_aload_n (pc := 117) X dX6_readClause_117 0 rfl rfl ?_
                refine ww_get (pc := 118) (ci := 6) (v := .int (u_69.1 2)) (C := RX6) (T := TX6) (N := 6) X inX6_readClause_6 0 rfl rfl 4 (by decide) (by decide +kernel) rfl dX6_readClause_118 ?_
                refine ww_if_ne (pc := 121) (tgt := 147) X dX6_readClause_121 (by decide) (fun _ => ?_) (fun c48 => absurd c48 c47)
                have h49 : f_X6_readClause SX SD = (u_69, SD) := by rw [hf]; show l0_X6_readClause_69 SD (f_X6_here SX) (ixs ((((f_X6_here SX : Int32)).toUInt32 % 65536).toInt32)) ((tb 2 ((ixs ((((f_X6_here SX : Int32)).toUInt32 % 65536).toInt32) : Int32)).toNatClampNeg).toNatClampNeg) u_69 = _; unfold l0_X6_readClause_69; try rw [if_neg c47]; first | done | rfl
                have hw50 := congrArg (fun u9 : St × St => fl [wX6 cI cZ cQ rX u9.1, wX5 cI cZ cQ rD u9.2]) h49.symm
                exact ww_vret X hr hw50 dX6_readClause_147
              · refine ww_aload_n (pc := 113) X dX6_readClause_113 0 rfl rfl ?_
                refine ww_gVv (pc := 114) (rest := []) (gsN := [wX6 cI cZ cQ rX (f_X6_readSemicolon u_69), wX5 cI cZ cQ rD SD]) (ci := 6) (gi := 0) (qi := 0) X (c_X6_readSemicolon l D cI cZ cQ rX u_69 hi) gX6_readClause_X6_readSemicolon rfl hd_X6_readSemicolon [true, false] rfl (acons (ad6 _ _ _ _ _ _) rfl) rfl rfl rfl rfl rfl rfl ⟨rfl, rfl⟩ ⟨Nat.le_of_ble_eq_true rfl, Nat.le_of_ble_eq_true rfl⟩ (Nat.le_of_ble_eq_true rfl) ⟨Nat.zero_le _, Nat.zero_le _⟩ dX6_readClause_114 ?_
                generalize hz51 : (f_X6_readSemicolon u_69) = z51
                refine ww_aload_n (pc := 117) X dX6_readClause_117 0 rfl rfl ?_
                refine ww_get (pc := 118) (ci := 6) (v := .int (z51.1 2)) (C := RX6) (T := TX6) (N := 6) X inX6_readClause_6 0 rfl rfl 4 (by decide) (by decide +kernel) rfl dX6_readClause_118 ?_
                refine ww_if_ne (pc := 121) (tgt := 147) X dX6_readClause_121 (by decide) (fun c52 => ?_) (fun c52 => ?_)
                · have h53 : f_X6_readClause SX SD = (z51, SD) := by rw [hf]; show l0_X6_readClause_69 SD (f_X6_here SX) (ixs ((((f_X6_here SX : Int32)).toUInt32 % 65536).toInt32)) ((tb 2 ((ixs ((((f_X6_here SX : Int32)).toUInt32 % 65536).toInt32) : Int32)).toNatClampNeg).toNatClampNeg) u_69 = _; unfold l0_X6_readClause_69; try rw [if_pos c47, hz51]; try unfold l0_X6_readClause_69_k1; try rw [if_neg c52]; first | done | rfl
                  have hw54 := congrArg (fun u9 : St × St => fl [wX6 cI cZ cQ rX u9.1, wX5 cI cZ cQ rD u9.2]) h53.symm
                  exact ww_vret X hr hw54 dX6_readClause_147
                · refine ww_aload_n (pc := 124) X dX6_readClause_124 1 rfl rfl ?_
                  refine ww_iload_n (pc := 125) X dX6_readClause_125 2 rfl rfl ?_
                  refine ww_aload_n (pc := 126) X dX6_readClause_126 0 rfl rfl ?_
                  refine ww_get (pc := 127) (ci := 6) (v := .ref (rX 2)) (C := RX6) (T := TX6) (N := 6) X inX6_readClause_6 0 rfl rfl 1 (by decide) (by decide +kernel) rfl dX6_readClause_127 ?_
                  refine ww_iconst (pc := 130) (v := 0) X dX6_readClause_130 (by decide) ?_
                  refine ww_iald (pc := 131) (f := z51.2 1) X 2 0 rfl rfl (vl_in (by decide)) dX6_readClause_131 ?_
                  refine ww_aload_n (pc := 132) X dX6_readClause_132 0 rfl rfl ?_
                  refine ww_get (pc := 133) (ci := 6) (v := .ref (rX 2)) (C := RX6) (T := TX6) (N := 6) X inX6_readClause_6 0 rfl rfl 1 (by decide) (by decide +kernel) rfl dX6_readClause_133 ?_
                  refine ww_iconst (pc := 136) (v := 1) X dX6_readClause_136 (by decide) ?_
                  refine ww_iald (pc := 137) (f := z51.2 1) X 2 0 rfl rfl (vl_in (by decide)) dX6_readClause_137 ?_
                  refine ww_aload_n (pc := 138) X dX6_readClause_138 0 rfl rfl ?_
                  refine ww_get (pc := 139) (ci := 6) (v := .ref (rX 2)) (C := RX6) (T := TX6) (N := 6) X inX6_readClause_6 0 rfl rfl 1 (by decide) (by decide +kernel) rfl dX6_readClause_139 ?_
                  refine ww_iconst (pc := 142) (v := 2) X dX6_readClause_142 (by decide) ?_
                  refine ww_iald (pc := 143) (f := z51.2 1) X 2 0 rfl rfl (vl_in (by decide)) dX6_readClause_143 ?_
                  refine ww_gVv (pc := 144) (rest := []) (gsN := [wX6 cI cZ cQ rX z51, wX5 cI cZ cQ rD (f_X5_add SD (f_X6_here SX) ((z51.2 1) ((0 : Int32)).toNatClampNeg) ((z51.2 1) ((1 : Int32)).toNatClampNeg) ((z51.2 1) ((2 : Int32)).toNatClampNeg))]) (ci := 5) (gi := 0) (qi := 0) X (c_X5_add l D cI cZ cQ rD SD (f_X6_here SX) ((z51.2 1) ((0 : Int32)).toNatClampNeg) ((z51.2 1) ((1 : Int32)).toNatClampNeg) ((z51.2 1) ((2 : Int32)).toNatClampNeg) (by assumption)) gX6_readClause_X5_add rfl hd_X5_add [false, true] rfl (acons (ad5 _ _ _ _ _ _) rfl) rfl rfl rfl rfl rfl rfl ⟨rfl, rfl⟩ ⟨Nat.le_of_ble_eq_true rfl, Nat.le_of_ble_eq_true rfl⟩ (Nat.le_of_ble_eq_true rfl) ⟨Nat.zero_le _, Nat.zero_le _⟩ dX6_readClause_144 ?_
                  generalize hz55 : (f_X5_add SD (f_X6_here SX) ((z51.2 1) ((0 : Int32)).toNatClampNeg) ((z51.2 1) ((1 : Int32)).toNatClampNeg) ((z51.2 1) ((2 : Int32)).toNatClampNeg)) = z55
                  have h56 : f_X6_readClause SX SD = (z51, z55) := by rw [hf]; show l0_X6_readClause_69 SD (f_X6_here SX) (ixs ((((f_X6_here SX : Int32)).toUInt32 % 65536).toInt32)) ((tb 2 ((ixs ((((f_X6_here SX : Int32)).toUInt32 % 65536).toInt32) : Int32)).toNatClampNeg).toNatClampNeg) u_69 = _; unfold l0_X6_readClause_69; try rw [if_pos c47, hz51]; try unfold l0_X6_readClause_69_k1; try rw [if_pos c52, hz55]; try unfold l0_X6_readClause_69_k2; first | done | rfl
                  have hw57 := congrArg (fun u9 : St × St => fl [wX6 cI cZ cQ rX u9.1, wX5 cI cZ cQ rD u9.2]) h56.symm
                  exact ww_vret X hr hw57 dX6_readClause_147
            | succ k_69 ih =>
              intro j_69 u_69 hj hi hf
              have hjB : j_69 < (tb 2 ((ixs ((((f_X6_here SX : Int32)).toUInt32 % 65536).toInt32) : Int32)).toNatClampNeg).toNatClampNeg := by omega
              have h3 := rc_3 hk
              refine ww_iload (pc := 69) X dX6_readClause_69 4 rfl ?_
              refine ww_gets (pc := 71) (v := .ref (tt 2)) X (Zs_Z2 hZ) (by decide +kernel) dX6_readClause_71 ?_
              refine ww_iload_n (pc := 74) X dX6_readClause_74 3 rfl rfl ?_
              refine ww_ti (pc := 75) (f := tb 2) X (Zs_T2 hZ) hk dX6_readClause_75 ?_
              refine ww_icmp_ge (pc := 76) (tgt := 106) X dX6_readClause_76 (by decide) (fun c9 => absurd c9 (lp_ge1c hjB)) (fun _ => ?_)
              refine ww_aload_n (pc := 79) X dX6_readClause_79 0 rfl rfl ?_
              refine ww_get (pc := 80) (ci := 6) (v := .int (u_69.1 2)) (C := RX6) (T := TX6) (N := 6) X inX6_readClause_6 0 rfl rfl 4 (by decide) (by decide +kernel) rfl dX6_readClause_80 ?_
              refine ww_if_ne (pc := 83) (tgt := 106) X dX6_readClause_83 (by decide) (fun c58 => ?_) (fun c58 => ?_)
              · refine ww_aload_n (pc := 106) X dX6_readClause_106 0 rfl rfl ?_
                refine ww_get (pc := 107) (ci := 6) (v := .int (u_69.1 2)) (C := RX6) (T := TX6) (N := 6) X inX6_readClause_6 0 rfl rfl 4 (by decide) (by decide +kernel) rfl dX6_readClause_107 ?_
                refine ww_if_ne (pc := 110) (tgt := 117) X dX6_readClause_110 (by decide) (fun _ => ?_) (fun c59 => absurd c59 c58)
                refine ww_aload_n (pc := 117) X dX6_readClause_117 0 rfl rfl ?_
                refine ww_get (pc := 118) (ci := 6) (v := .int (u_69.1 2)) (C := RX6) (T := TX6) (N := 6) X inX6_readClause_6 0 rfl rfl 4 (by decide) (by decide +kernel) rfl dX6_readClause_118 ?_
                refine ww_if_ne (pc := 121) (tgt := 147) X dX6_readClause_121 (by decide) (fun _ => ?_) (fun c60 => absurd c60 c58)
                have h61 : f_X6_readClause SX SD = (u_69, SD) := by rw [hf]; show lb_X6_readClause_69 SD (f_X6_here SX) (ixs ((((f_X6_here SX : Int32)).toUInt32 % 65536).toInt32)) (lp_X6_readClause_69 SD (f_X6_here SX) (ixs ((((f_X6_here SX : Int32)).toUInt32 % 65536).toInt32)) k_69) j_69 u_69 = _; unfold lb_X6_readClause_69; try rw [if_neg c58]; first | done | rfl
                have hw62 := congrArg (fun u9 : St × St => fl [wX6 cI cZ cQ rX u9.1, wX5 cI cZ cQ rD u9.2]) h61.symm
                exact ww_vret X hr hw62 dX6_readClause_147
              · refine ww_aload_n (pc := 86) X dX6_readClause_86 0 rfl rfl ?_
                refine ww_iload (pc := 87) X dX6_readClause_87 4 rfl ?_
                refine ww_gets (pc := 89) (v := .ref (tt 3)) X (Zs_Z3 hZ) (by decide +kernel) dX6_readClause_89 ?_
                refine ww_iload_n (pc := 92) X dX6_readClause_92 3 rfl rfl ?_
                refine ww_ti (pc := 93) (f := tb 3) X (Zs_T3 hZ) hk dX6_readClause_93 ?_
                refine ww_iload (pc := 94) X dX6_readClause_94 4 rfl ?_
                refine ww_iadd (pc := 96) X dX6_readClause_96 ?_
                refine ww_zVv (pc := 97) (rest := []) (gsN := [wX6 cI cZ cQ rX (f_X6_readNumber u_69 (nI j_69) ((tb 3 ((ixs ((((f_X6_here SX : Int32)).toUInt32 % 65536).toInt32) : Int32)).toNatClampNeg) + (nI j_69))), wX5 cI cZ cQ rD SD]) (ci := 6) (gi := 0) (qi := 0) X (Zs_ok tt ak av) hZ (c_X6_readNumber l D cI cZ cQ tt ak av rX u_69 (nI j_69) ((tb 3 ((ixs ((((f_X6_here SX : Int32)).toUInt32 % 65536).toInt32) : Int32)).toNatClampNeg) + (nI j_69)) hi (vn (m := j_69) rfl (by omega) (by decide)) (rc_b hk hjB)) gX6_readClause_X6_readNumber rfl hd_X6_readNumber [true, false] rfl (acons (ad6 _ _ _ _ _ _) rfl) rfl rfl rfl rfl rfl rfl ⟨rfl, rfl⟩ ⟨Nat.le_of_ble_eq_true rfl, Nat.le_of_ble_eq_true rfl⟩ (Nat.le_of_ble_eq_true rfl) ⟨Nat.zero_le _, Nat.zero_le _⟩ dX6_readClause_97 ?_
                generalize hz63 : (f_X6_readNumber u_69 (nI j_69) ((tb 3 ((ixs ((((f_X6_here SX : Int32)).toUInt32 % 65536).toInt32) : Int32)).toNatClampNeg) + (nI j_69))) = z63
                refine ww_iinc (pc := 100) (v := (nI j_69) + 1) (lv' := [(4, .int ((nI j_69) + 1)), (0, .ref (rX 0)), (1, .ref (rD 0)), (2, .int (f_X6_here SX)), (3, .int (ixs ((((f_X6_here SX : Int32)).toUInt32 % 65536).toInt32)))]) X dX6_readClause_100 4 rfl rfl (by decide) rfl ?_
                refine ww_goto (pc := 103) (tgt := 69) X dX6_readClause_103 (by decide) ?_
                refine ww_lsub [1, 2, 3, 4, 0] rfl ?_
                have h64 : f_X6_readClause SX SD = lp_X6_readClause_69 SD (f_X6_here SX) (ixs ((((f_X6_here SX : Int32)).toUInt32 % 65536).toInt32)) k_69 (j_69 + 1) z63 := by rw [hf]; show lb_X6_readClause_69 SD (f_X6_here SX) (ixs ((((f_X6_here SX : Int32)).toUInt32 % 65536).toInt32)) (lp_X6_readClause_69 SD (f_X6_here SX) (ixs ((((f_X6_here SX : Int32)).toUInt32 % 65536).toInt32)) k_69) j_69 u_69 = _; unfold lb_X6_readClause_69; try rw [if_pos c58, hz63]; try unfold lb_X6_readClause_69_k1; first | done | rfl
                exact ww_cast rfl (congrArg (fun (i9 : Int32) => ([(0, .ref (rX 0)), (1, .ref (rD 0)), (2, .int (f_X6_here SX)), (3, .int (ixs ((((f_X6_here SX : Int32)).toUInt32 % 65536).toInt32))), (4, .int i9)] : List (Nat × Value))) (nI_1 j_69).symm) (ih (j_69 + 1) z63 (by omega) (by rw [← hz63]; exact (xk_num hi).1) h64)
          refine ww_lsub [3, 4, 2, 1, 0] rfl ?_
          exact L69 ((tb 2 ((ixs ((((f_X6_here SX : Int32)).toUInt32 % 65536).toInt32) : Int32)).toNatClampNeg).toNatClampNeg) 0 (sI SX 1 ((SX.1 1) + 1)) (by omega) ok2 (by unfold f_X6_readClause; try rw [if_neg c1, if_pos c5, if_pos c45, if_neg c46]; first | done | rfl)
        · refine ww_aload_n (pc := 46) X dX6_readClause_46 2 rfl rfl ?_
          refine ww_iconst (pc := 47) (v := 3) X dX6_readClause_47 (by decide) ?_
          refine ww_aload_n (pc := 48) X dX6_readClause_48 2 rfl rfl ?_
          refine ww_get (pc := 49) (ci := 6) (v := .int (SX.1 1)) (C := RX6) (T := TX6) (N := 6) X inX6_readClause_6 0 rfl rfl 3 (by decide) (by decide +kernel) rfl dX6_readClause_49 ?_
          refine ww_gVv (pc := 52) (rest := []) (gsN := [wX6 cI cZ cQ rX (f_X6_blame SX 3 (SX.1 1)), wX5 cI cZ cQ rD SD]) (ci := 6) (gi := 0) (qi := 0) X (c_X6_blame l D cI cZ cQ rX SX 3 (SX.1 1)) gX6_readClause_X6_blame rfl hd_X6_blame [true, false] rfl (acons (ad6 _ _ _ _ _ _) rfl) rfl rfl rfl rfl rfl rfl ⟨rfl, rfl⟩ ⟨Nat.le_of_ble_eq_true rfl, Nat.le_of_ble_eq_true rfl⟩ (Nat.le_of_ble_eq_true rfl) ⟨Nat.zero_le _, Nat.zero_le _⟩ dX6_readClause_52 ?_
          generalize hz65 : (f_X6_blame SX 3 (SX.1 1)) = z65
          have h66 : f_X6_readClause SX SD = (z65, SD) := by unfold f_X6_readClause; try rw [if_neg c1, if_pos c5, if_pos c45, if_pos c46, hz65]; try unfold f_X6_readClause_k3; first | done | rfl
          have hw67 := congrArg (fun u9 : St × St => fl [wX6 cI cZ cQ rX u9.1, wX5 cI cZ cQ rD u9.2]) h66.symm
          exact ww_vret X hr hw67 dX6_readClause_55
      · refine ww_aload_n (pc := 28) X dX6_readClause_28 2 rfl rfl ?_
        refine ww_iconst (pc := 29) (v := 1) X dX6_readClause_29 (by decide) ?_
        refine ww_aload_n (pc := 30) X dX6_readClause_30 2 rfl rfl ?_
        refine ww_get (pc := 31) (ci := 6) (v := .int (SX.1 1)) (C := RX6) (T := TX6) (N := 6) X inX6_readClause_6 0 rfl rfl 3 (by decide) (by decide +kernel) rfl dX6_readClause_31 ?_
        refine ww_gVv (pc := 34) (rest := []) (gsN := [wX6 cI cZ cQ rX (f_X6_blame SX 1 (SX.1 1)), wX5 cI cZ cQ rD SD]) (ci := 6) (gi := 0) (qi := 0) X (c_X6_blame l D cI cZ cQ rX SX 1 (SX.1 1)) gX6_readClause_X6_blame rfl hd_X6_blame [true, false] rfl (acons (ad6 _ _ _ _ _ _) rfl) rfl rfl rfl rfl rfl rfl ⟨rfl, rfl⟩ ⟨Nat.le_of_ble_eq_true rfl, Nat.le_of_ble_eq_true rfl⟩ (Nat.le_of_ble_eq_true rfl) ⟨Nat.zero_le _, Nat.zero_le _⟩ dX6_readClause_34 ?_
        generalize hz68 : (f_X6_blame SX 1 (SX.1 1)) = z68
        have h69 : f_X6_readClause SX SD = (z68, SD) := by unfold f_X6_readClause; try rw [if_neg c1, if_pos c5, if_neg c45, hz68]; try unfold f_X6_readClause_k4; first | done | rfl
        have hw70 := congrArg (fun u9 : St × St => fl [wX6 cI cZ cQ rX u9.1, wX5 cI cZ cQ rD u9.2]) h69.symm
        exact ww_vret X hr hw70 dX6_readClause_37
