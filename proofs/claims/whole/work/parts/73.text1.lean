section TextA
variable {X D M M' : St} {x y z : Int32} {len at0 : Nat}
/-- the two readers, at one letter, with no fault yet -/
def TR (X M : St) (len at0 : Nat) : Prop := (X.1 0 = nI len ∧ M.1 0 = nI len ∧ len ≤ 240) ∧ (X.1 1 = nI at0 ∧ M.1 6 = nI at0 ∧ at0 ≤ len) ∧ (X.1 2 = 0 ∧ M.1 7 = 0 ∧ X.1 3 = -1) ∧ ∀ k : Nat, k < len → X.2 0 k = M.2 0 k ∧ ∃ n : Nat, n < 256 ∧ M.2 0 k = nI n
theorem tx_look (h : TR X M len at0) : f_X6_here X = f_X8_look M ∧ (at0 < len → f_X8_look M = M.2 0 at0) ∧ (len ≤ at0 → f_X8_look M = -1) := by
  obtain ⟨⟨a1, a2, a3⟩, ⟨b1, b2, b3⟩, -, q⟩ := h
  unfold f_X6_here f_X8_look
  rw [a1, a2, b1, b2, clI (by omega)]
  by_cases c : at0 < len
  · rw [if_neg (nI_ge c (by omega)), if_neg (show ¬ 240 ≤ nI at0 from nI_ge (b := 240) (by omega) (by omega)), if_neg (nI_ge c (by omega))]
    exact ⟨(q at0 c).1, fun _ => rfl, fun k => absurd c (by omega)⟩
  · rw [if_pos (nI_le (by omega) (by omega)), if_pos (nI_le (by omega) (by omega))]
    exact ⟨rfl, fun k => absurd k c, fun _ => rfl⟩
theorem tx_adv (h : TR X M len at0) (hl : at0 < len) : TR (sI X 1 (X.1 1 + 1)) (sI M 6 (M.1 6 + 1)) len (at0 + 1) := by
  obtain ⟨⟨a1, a2, a3⟩, ⟨b1, b2, b3⟩, ⟨c1, c2, c3⟩, q⟩ := h
  rw [b1, b2, show nI at0 + 1 = nI (at0 + 1) from addI at0 1]
  refine ⟨⟨?_, ?_, a3⟩, ⟨sI_eq, sI_eq, by omega⟩, ⟨?_, ?_, ?_⟩, q⟩
  · rw [sI_ne (by decide)]; exact a1
  · rw [sI_ne (by decide)]; exact a2
  · rw [sI_ne (by decide)]; exact c1
  · rw [sI_ne (by decide)]; exact c2
  · rw [sI_ne (by decide)]; exact c3
theorem tx_sA {k : Nat} {f : Nat → Int32} (hk : 0 ≠ k) (h : TR X M len at0) : TR X (sA M k f) len at0 := by
  obtain ⟨a, b, c, q⟩ := h
  refine ⟨a, b, c, ?_⟩
  rw [sA_ne hk]
  exact q
theorem tx_sAX {k : Nat} {f : Nat → Int32} (hk : 0 ≠ k) (h : TR X M len at0) : TR (sA X k f) M len at0 := by
  obtain ⟨a, b, c, q⟩ := h
  refine ⟨a, b, c, ?_⟩
  rw [sA_ne hk]
  exact q
theorem tx_skip1 : ∀ (k j : Nat) (X M : St) (at0 : Nat), TR X M len at0 → ∃ at' : Nat, at0 ≤ at' ∧ TR (lp_X6_skipBlanks_2 k j X) (lp_X8_skips_0 k M) len at' ∧ (lp_X6_skipBlanks_2 k j X).2 = X.2 ∧ Same [6] [] M (lp_X8_skips_0 k M)
  | 0, j, X, M, at0, h => ⟨at0, Nat.le_refl _, h, rfl, Same_rf M⟩
  | k + 1, j, X, M, at0, h => by
    show ∃ at' : Nat, at0 ≤ at' ∧ TR (lb_X6_skipBlanks_2 (lp_X6_skipBlanks_2 k) j X) (lb_X8_skips_0 (lp_X8_skips_0 k) M) len at' ∧ (lb_X6_skipBlanks_2 (lp_X6_skipBlanks_2 k) j X).2 = X.2 ∧ Same [6] [] M (lb_X8_skips_0 (lp_X8_skips_0 k) M)
    unfold lb_X6_skipBlanks_2 lb_X8_skips_0
    obtain ⟨l1, l2, l3⟩ := tx_look h
    rw [if_pos h.2.2.1.2.1, l1]
    by_cases c : f_X8_look M = 32
    · rw [if_pos c, if_pos c]
      have hl : at0 < len := by
        rcases Nat.lt_or_ge at0 len with q | q
        · exact q
        · rw [l3 q] at c
          exact absurd c (by decide)
      obtain ⟨a, a1, a2, a3, a4⟩ := tx_skip1 k (j + 1) _ _ _ (tx_adv h hl)
      exact ⟨a, by omega, a2, a3, Same_t (Same_I (List.mem_singleton.mpr rfl)) a4⟩
    · rw [if_neg c, if_neg c]
      exact ⟨at0, Nat.le_refl _, h, rfl, Same_rf M⟩
theorem tx_skip (h : TR X M len at0) : ∃ at' : Nat, at0 ≤ at' ∧ TR (f_X6_skipBlanks X) (f_X8_skips M) len at' ∧ (f_X6_skipBlanks X).2 = X.2 ∧ Same [6] [] M (f_X8_skips M) := tx_skip1 241 0 X M at0 h
theorem tx_fig : f_X6_isFigure X x = f_X8_in x 48 57 := rfl
theorem tx_fails (h : M.1 7 = 0) : f_X8_fails M x = sI M 7 x := by
  unfold f_X8_fails
  rw [if_pos h]
/-- both are at fault, alike -/
def TF (X M : St) : Prop := X.1 2 = M.1 7 ∧ ¬ M.1 7 = 0 ∧ X.1 3 = M.1 6
theorem tx_blame {a : Int32} (ha : ¬ a = 0) {v : Int32} (hv : M.1 6 = v) : TF (f_X6_blame X a v) (sI M 7 a) := by
  unfold f_X6_blame
  refine ⟨?_, ?_, ?_⟩
  · rw [sI_ne (by decide), sI_eq, sI_eq]
  · rw [sI_eq]; exact ha
  · rw [sI_eq, sI_ne (by decide)]; exact hv.symm
theorem tx_num1 {x1 x2 lo hi : Int32} {n0 : Nat} (h1 : tb 0 x2.toNatClampNeg = lo) (h2 : tb 1 x2.toNatClampNeg = hi) : ∀ (k j : Nat) (X M : St) (v : Int32), TR X M len (n0 + j) → len < n0 + j + k → (0 < j ∨ ¬ f_X8_in (f_X8_look M) 48 57 = 0) →
    Same [6, 7] [] M (lp_X8_number_42 lo hi (nI n0) k (M, v)).2 ∧ (TF (lp_X6_readNumber_15 x1 x2 (nI n0) k j (X, v)) (lp_X8_number_42 lo hi (nI n0) k (M, v)).2 ∨
      ∃ at' : Nat, n0 < at' ∧ TR (lp_X6_readNumber_15 x1 x2 (nI n0) k j (X, v)) (lp_X8_number_42 lo hi (nI n0) k (M, v)).2 len at' ∧ (lp_X6_readNumber_15 x1 x2 (nI n0) k j (X, v)).2 1 = upd (X.2 1) x1.toNatClampNeg (lp_X8_number_42 lo hi (nI n0) k (M, v)).1 ∧ ¬ (lp_X8_number_42 lo hi (nI n0) k (M, v)).1 < lo ∧ (lp_X8_number_42 lo hi (nI n0) k (M, v)).1 ≤ hi)
  | 0, j, X, M, v, h, hk, _ => by
    have := h.2.1.2.2
    omega
  | k + 1, j, X, M, v, h, hk, hj => by
    show Same [6, 7] [] M (lb_X8_number_42 lo hi (nI n0) (lp_X8_number_42 lo hi (nI n0) k) (M, v)).2 ∧ (TF (lb_X6_readNumber_15 x1 x2 (nI n0) (lp_X6_readNumber_15 x1 x2 (nI n0) k) j (X, v)) (lb_X8_number_42 lo hi (nI n0) (lp_X8_number_42 lo hi (nI n0) k) (M, v)).2 ∨
      ∃ at' : Nat, n0 < at' ∧ TR (lb_X6_readNumber_15 x1 x2 (nI n0) (lp_X6_readNumber_15 x1 x2 (nI n0) k) j (X, v)) (lb_X8_number_42 lo hi (nI n0) (lp_X8_number_42 lo hi (nI n0) k) (M, v)).2 len at' ∧ (lb_X6_readNumber_15 x1 x2 (nI n0) (lp_X6_readNumber_15 x1 x2 (nI n0) k) j (X, v)).2 1 = upd (X.2 1) x1.toNatClampNeg (lb_X8_number_42 lo hi (nI n0) (lp_X8_number_42 lo hi (nI n0) k) (M, v)).1 ∧ ¬ (lb_X8_number_42 lo hi (nI n0) (lp_X8_number_42 lo hi (nI n0) k) (M, v)).1 < lo ∧ (lb_X8_number_42 lo hi (nI n0) (lp_X8_number_42 lo hi (nI n0) k) (M, v)).1 ≤ hi)
    unfold lb_X6_readNumber_15 lb_X8_number_42
    obtain ⟨l1, l2, l3⟩ := tx_look h
    have b1 := h.2.1.1
    have b2 := h.2.1.2.1
    have b3 := h.2.1.2.2
    have b4 := h.1.2.2
    have c2 := h.2.2.1.2.1
    have m60 : (sI M 6 (nI n0)).1 7 = 0 := by rw [sI_ne (by decide)]; exact c2
    have m66 : (sI M 6 (nI n0)).1 6 = nI n0 := sI_eq
    have sF : Same [6, 7] [] M (sI (sI M 6 (nI n0)) 7 2) := Same_t (Same_I (by decide)) (Same_I (by decide))
    have sub : nI (n0 + j) - nI n0 = nI j := by rw [pk_sub (by omega), show n0 + j - n0 = j by omega]
    dsimp only
    rw [tx_fig, l1, b1, b2, sub, h1, h2]
    by_cases c : f_X8_in (f_X8_look M) 48 57 = 0
    · have hj0 : 0 < j := hj.resolve_right (fun q => q c)
      rw [if_pos c, if_pos c, if_neg (show ¬ nI (n0 + j) = nI n0 from fun q => by
        have := (inj_nI (by omega) (by omega)).mp q
        omega)]
      by_cases c4 : 4 < nI j
      · rw [if_pos c4, if_pos c4]
        unfold lb_X6_readNumber_15_k1 lb_X8_number_42_k1
        rw [tx_fails m60]
        exact ⟨sF, Or.inl (tx_blame (by decide) m66)⟩
      · rw [if_neg c4, if_neg c4]
        by_cases cl : v < lo
        · rw [if_pos cl, in_0 (Or.inl cl), if_pos rfl]
          unfold lb_X6_readNumber_15_k2 lb_X8_number_42_k2
          rw [tx_fails m60]
          exact ⟨sF, Or.inl (tx_blame (by decide) m66)⟩
        · rw [if_neg cl]
          by_cases ch : v ≤ hi
          · rw [if_pos ch, in_1 cl (Int32.not_lt.mpr ch), if_neg ne10]
            exact ⟨Same_rf M, Or.inr ⟨n0 + j, by omega, tx_sAX (by decide) h, sA_eq, cl, ch⟩⟩
          · rw [if_neg ch, in_0 (Or.inr (nle_lt ch)), if_pos rfl]
            unfold lb_X6_readNumber_15_k3 lb_X8_number_42_k2
            rw [tx_fails m60]
            exact ⟨sF, Or.inl (tx_blame (by decide) m66)⟩
    · rw [if_neg c, if_neg c]
      have hl : n0 + j < len := by
        rcases Nat.lt_or_ge (n0 + j) len with q | q
        · exact q
        · rw [l3 q] at c
          exact absurd (by decide) c
      have adv := tx_adv h hl
      rw [b1, b2] at adv
      rw [show v * 10 = 10 * v from Int32.mul_comm v 10]
      by_cases c4 : 4 ≤ nI j
      · rw [if_pos c4, if_pos c4]
        obtain ⟨s1, s2⟩ := tx_num1 h1 h2 (x1 := x1) k (j + 1) _ _ v adv (by omega) (Or.inl (by omega))
        exact ⟨Same_t (Same_I (by decide)) s1, s2⟩
      · rw [if_neg c4, if_neg c4]
        obtain ⟨s1, s2⟩ := tx_num1 h1 h2 (x1 := x1) k (j + 1) _ _ (10 * v + f_X8_look M - 48) adv (by omega) (Or.inl (by omega))
        exact ⟨Same_t (Same_I (by decide)) s1, s2⟩
/-- a number read by both -/
theorem tx_num {x1 x2 lo hi : Int32} (h1 : tb 0 x2.toNatClampNeg = lo) (h2 : tb 1 x2.toNatClampNeg = hi) (h : TR X M len at0) : Same [6, 7] [] M (f_X8_number M lo hi).2 ∧ (TF (f_X6_readNumber X x1 x2) (f_X8_number M lo hi).2 ∨
    ∃ at' : Nat, at0 < at' ∧ TR (f_X6_readNumber X x1 x2) (f_X8_number M lo hi).2 len at' ∧ (f_X6_readNumber X x1 x2).2 1 = upd (X.2 1) x1.toNatClampNeg (f_X8_number M lo hi).1 ∧ ¬ (f_X8_number M lo hi).1 < lo ∧ (f_X8_number M lo hi).1 ≤ hi) := by
  obtain ⟨a, a1, a2, a3, a4⟩ := tx_skip h
  unfold f_X6_readNumber f_X6_readNumber_k1 f_X8_number f_X8_number_k1
  rw [← a3]
  generalize f_X6_skipBlanks X = X1 at a2 a3 ⊢
  generalize f_X8_skips M = M1 at a2 a4 ⊢
  rw [if_pos a2.2.2.1.2.1, a2.2.1.1, a2.2.1.2.1]
  have w4 : Same [6, 7] [] M M1 := Same_w a4 (fun k hk => by rw [List.mem_singleton.mp hk]; decide) (fun k hk => hk)
  have b3 := a2.2.1.2.2
  have b4 := a2.1.2.2
  by_cases c : f_X8_in (f_X8_look M1) 48 57 = 0
  · rw [if_pos c]
    unfold f_X8_number_k2
    obtain ⟨l1, l2, l3⟩ := tx_look a2
    rw [tx_fails a2.2.2.1.2.1]
    show Same [6, 7] [] M (sI M1 7 1) ∧ (TF (lb_X6_readNumber_15 x1 x2 (nI a) (lp_X6_readNumber_15 x1 x2 (nI a) 240) 0 (X1, 0)) (sI M1 7 1) ∨ _)
    unfold lb_X6_readNumber_15 lb_X6_readNumber_15_k4
    dsimp only
    rw [tx_fig, l1, if_pos c, if_pos a2.2.1.1]
    exact ⟨Same_t w4 (Same_I (by decide)), Or.inl (tx_blame (by decide) (a2.2.1.2.1.trans a2.2.1.1.symm))⟩
  · rw [if_neg c]
    obtain ⟨s1, s2⟩ := tx_num1 (x1 := x1) (n0 := a) (len := len) h1 h2 241 0 X1 M1 0 a2 (by omega) (Or.inr c)
    refine ⟨Same_t w4 s1, ?_⟩
    rcases s2 with s2 | ⟨at', t1, t2⟩
    · exact Or.inl s2
    · exact Or.inr ⟨at', by omega, t2⟩
theorem tx_sem (h : TR X M len at0) : Same [6, 7] [] M (f_X8_stops M) ∧ (TF (f_X6_readSemicolon X) (f_X8_stops M) ∨ ∃ at' : Nat, at0 < at' ∧ TR (f_X6_readSemicolon X) (f_X8_stops M) len at' ∧ (f_X6_readSemicolon X).2 = X.2) := by
  obtain ⟨a, a1, a2, a3, a4⟩ := tx_skip h
  unfold f_X6_readSemicolon f_X6_readSemicolon_k1 f_X6_readSemicolon_k2 f_X8_stops f_X8_stops_k1 f_X8_stops_k2
  rw [← a3]
  generalize f_X6_skipBlanks X = X1 at a2 a3 ⊢
  generalize f_X8_skips M = M1 at a2 a4 ⊢
  obtain ⟨l1, l2, l3⟩ := tx_look a2
  have w4 : Same [6, 7] [] M M1 := Same_w a4 (fun k hk => by rw [List.mem_singleton.mp hk]; decide) (fun k hk => hk)
  rw [if_pos a2.2.2.1.2.1, l1]
  by_cases c : f_X8_look M1 = 59
  · rw [if_pos c, if_pos c]
    have hl : a < len := by
      rcases Nat.lt_or_ge a len with q | q
      · exact q
      · rw [l3 q] at c
        exact absurd c (by decide)
    exact ⟨Same_t w4 (Same_I (by decide)), Or.inr ⟨a + 1, by omega, tx_adv a2 hl, rfl⟩⟩
  · rw [if_neg c, if_neg c, tx_fails a2.2.2.1.2.1]
    exact ⟨Same_t w4 (Same_I (by decide)), Or.inl (tx_blame (by decide) (a2.2.1.2.1.trans a2.2.1.1.symm))⟩
/-- a reader at fault reads no more -/
theorem tx_skipF (h : ¬ M.1 7 = 0) : f_X8_skips M = M := by
  show lb_X8_skips_0 (lp_X8_skips_0 240) M = M
  unfold lb_X8_skips_0
  rw [if_neg h]
theorem tx_numF (h : ¬ M.1 7 = 0) : f_X8_number M x y = (0, M) := by
  unfold f_X8_number f_X8_number_k1
  rw [tx_skipF h, if_neg h]
theorem tx_semF (h : ¬ M.1 7 = 0) : f_X8_stops M = M := by
  unfold f_X8_stops f_X8_stops_k1
  rw [tx_skipF h, if_neg h]
end TextA
