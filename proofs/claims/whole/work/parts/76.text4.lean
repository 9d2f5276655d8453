section TextD
variable {X D M M' M0 : St} {x y z : Int32} {len at0 : Nat}
def mstep (u : St) : St :=
  if (f_X8_look u) = 115 then f_X8_readsLaw u
  else if u.2 5 0 = 0 then f_X8_fails u 1
  else if (f_X8_look u) = 100 then f_X8_readsDepth u
  else if (f_X8_look u) = 112 then f_X8_readsPerson u
  else if (f_X8_look u) = 103 then f_X8_readsGood u
  else f_X8_fails u 1
theorem rdm_step {rec : St → St} : lb_X8_reads_0 rec M = if M.1 7 = 0 then if f_X8_look M = -1 then M else rec (f_X8_skips (mstep M)) else M := by
  unfold lb_X8_reads_0 lb_X8_reads_0_k11 lb_X8_reads_0_k12 lb_X8_reads_0_k9 lb_X8_reads_0_k10 lb_X8_reads_0_k7 lb_X8_reads_0_k8 lb_X8_reads_0_k5 lb_X8_reads_0_k6 lb_X8_reads_0_k3 lb_X8_reads_0_k4 lb_X8_reads_0_k1 lb_X8_reads_0_k2 mstep
  rw [k0]
  by_cases c : M.1 7 = 0
  · rw [if_pos c, if_pos c]
    by_cases c1 : f_X8_look M = -1
    · rw [if_pos c1, if_pos c1]
    · rw [if_neg c1, if_neg c1]
      by_cases c2 : f_X8_look M = 115
      · rw [if_pos c2, if_pos c2]
      · rw [if_neg c2, if_neg c2]
        by_cases c3 : M.2 5 0 = 0
        · rw [if_pos c3, if_pos c3]
        · rw [if_neg c3, if_neg c3]
          by_cases c4 : f_X8_look M = 100
          · rw [if_pos c4, if_pos c4]
          · rw [if_neg c4, if_neg c4]
            by_cases c5 : f_X8_look M = 112
            · rw [if_pos c5, if_pos c5]
            · rw [if_neg c5, if_neg c5]
              by_cases c6 : f_X8_look M = 103
              · rw [if_pos c6, if_pos c6]
              · rw [if_neg c6, if_neg c6]
  · rw [if_neg c, if_neg c]
theorem rd_F (h : ¬ M.1 7 = 0) : ∀ k : Nat, lp_X8_reads_0 k M = M
  | 0 => rfl
  | k + 1 => by
    show lb_X8_reads_0 (lp_X8_reads_0 k) M = M
    rw [rdm_step, if_neg h]
theorem rc_F (h : ¬ X.1 2 = 0) : ∀ k j : Nat, lp_X6_readClauses_2 k j (X, D) = (X, D)
  | 0, j => rfl
  | k + 1, j => by
    show lb_X6_readClauses_2 (lp_X6_readClauses_2 k) j (X, D) = _
    unfold lb_X6_readClauses_2
    rw [if_neg h]
def ixN (n : Nat) : Int32 := if n = 115 then 0 else if n = 100 then 1 else if n = 112 then 2 else if n = 103 then 3 else -1
theorem ixN_v : ∀ n : Nat, n < 256 → ixs (nI n) = ixN n := by decide +kernel
theorem ixC {n : Nat} (h : n < 256) : ixs ((((nI n : Int32)).toUInt32 % 65536).toInt32) = ixN n := by
  rw [pk_char, pk_tn (by omega), show n % 65536 = n by omega, ixN_v n h]
theorem told_ (h : DSh D M) : (f_X5_isTold D = 0 ↔ M.2 5 0 = 0) ∧ (¬ M.2 5 0 = 0 → 1 ≤ (D.1 0).toInt ∧ 1 ≤ (D.1 1).toInt) := by
  have e : M.2 5 0 = D.1 0 := h.2.1.1
  unfold f_X5_isTold
  rw [e]
  rcases h.2.2.2.2.2 with ⟨a, -⟩ | a
  · rw [a, if_pos (by decide)]
    exact ⟨⟨fun _ => rfl, fun _ => rfl⟩, fun k => absurd rfl k⟩
  · have a1 : ¬ D.1 0 ≤ 0 := by rw [fa_le, show (0 : Int32).toInt = 0 from rfl]; omega
    have a2 : ¬ D.1 0 = 0 := by rw [fa_eq, show (0 : Int32).toInt = 0 from rfl]; omega
    rw [if_neg a1]
    exact ⟨⟨fun k => absurd k ne10, fun k => absurd k a2⟩, fun _ => a⟩
theorem cle_F {a : Int32} (h : TR X M len at0) (ha : ¬ a = 0) {n : Nat} : ClE M len n (f_X6_blame X a (X.1 1), D) (f_X8_fails M a) := by
  rw [tx_fails h.2.2.1.2.1]
  exact ⟨w67 (Same_I (by decide)), Or.inl (tx_blame ha (h.2.1.2.1.trans h.2.1.1.symm))⟩
theorem room_d {c : Nat} (hc : c ≤ 4) (e : D.1 2 = nI c) : (f_X5_hasRoomFor D 100 = 0) ↔ c = 4 := by
  unfold f_X5_hasRoomFor
  rw [if_pos (show (100 : Int32) = 100 from rfl), e]
  by_cases k : c = 4
  · rw [if_pos (by rw [k]; decide)]
    exact ⟨fun _ => k, fun _ => rfl⟩
  · rw [if_neg (show ¬ 4 ≤ nI c from nI_ge (b := 4) (by omega) (by omega))]
    exact ⟨fun q => absurd q ne10, fun q => absurd q k⟩
theorem room_p {c : Nat} (hc : c ≤ 7) (e : D.1 3 = nI c) : (f_X5_hasRoomFor D 112 = 0) ↔ c = 7 := by
  unfold f_X5_hasRoomFor
  rw [if_neg (show ¬ (112 : Int32) = 100 by decide), if_neg (show ¬ (112 : Int32) = 103 by decide), if_pos (show (112 : Int32) = 112 from rfl), e]
  by_cases k : c = 7
  · rw [if_pos (by rw [k]; decide)]
    exact ⟨fun _ => k, fun _ => rfl⟩
  · rw [if_neg (show ¬ 7 ≤ nI c from nI_ge (b := 7) (by omega) (by omega))]
    exact ⟨fun q => absurd q ne10, fun q => absurd q k⟩
theorem room_g {c : Nat} (hc : c ≤ 6) (e : D.1 4 = nI c) : (f_X5_hasRoomFor D 103 = 0) ↔ c = 6 := by
  unfold f_X5_hasRoomFor
  rw [if_neg (show ¬ (103 : Int32) = 100 by decide), if_pos (show (103 : Int32) = 103 from rfl), e]
  by_cases k : c = 6
  · rw [if_pos (by rw [k]; decide)]
    exact ⟨fun _ => k, fun _ => rfl⟩
  · rw [if_neg (show ¬ 6 ≤ nI c from nI_ge (b := 6) (by omega) (by omega))]
    exact ⟨fun q => absurd q ne10, fun q => absurd q k⟩
theorem room_s : f_X5_hasRoomFor D 115 = if f_X5_isTold D = 0 then 1 else 0 := by
  unfold f_X5_hasRoomFor
  rw [if_neg (show ¬ (115 : Int32) = 100 by decide), if_neg (show ¬ (115 : Int32) = 103 by decide), if_neg (show ¬ (115 : Int32) = 112 by decide), if_pos (show (115 : Int32) = 115 from rfl)]
theorem cle_step (h : TR X M len at0) (hd : DSh D M) (hl : at0 < len) : ClE M len (at0 + 1) (f_X6_readClause X D) (mstep M) := by
  obtain ⟨l1, l2, -⟩ := tx_look h
  obtain ⟨-, n, hn, en⟩ := h.2.2.2 at0 hl
  have ew : f_X8_look M = nI n := (l2 hl).trans en
  obtain ⟨t1, t2⟩ := told_ hd
  unfold f_X6_readClause mstep
  rw [l1, ew, ixC hn]
  have w_ : ∀ m : Nat, m < 256 → (nI n = nI m ↔ n = m) := fun m hm => inj_nI (by omega) (by omega)
  by_cases c115 : n = 115
  · subst c115
    rw [if_pos (show nI 115 = 115 from rfl), show ixN 115 = 0 from rfl, if_neg (show ¬ (0 : Int32) < 0 by decide)]
    by_cases ct : f_X5_isTold D = 0
    · rw [if_pos ct, if_pos (show (0 : Int32) = 0 from rfl), show (nI 115 : Int32) = 115 from rfl, room_s, if_pos ct, if_neg ne10, show (tb 2 ((0 : Int32)).toNatClampNeg).toNatClampNeg = 2 from rfl]
      exact cl_law h hd hl ct (t1.mp ct)
    · rw [if_neg ct, show (nI 115 : Int32) = 115 from rfl, room_s, if_neg ct, if_pos rfl]
      unfold f_X6_readClause_k2 f_X8_readsLaw f_X8_opens f_X8_opens_k1 f_X8_readsLaw_k1
      rw [k0, if_neg (fun q => ct (t1.mpr q)), if_pos (show (1 : Int32) = 1 from rfl)]
      dsimp only
      rw [if_pos rfl]
      exact cle_F h (by decide)
  · have n115 : ¬ nI n = 115 := fun q => c115 ((w_ 115 (by omega)).mp q)
    rw [if_neg n115]
    by_cases ct : M.2 5 0 = 0
    · rw [if_pos ct, if_pos (t1.mpr ct)]
      by_cases ci : ixN n < 0
      · rw [if_pos ci]
        exact cle_F h (by decide)
      · rw [if_neg ci, if_neg]
        · exact cle_F h (by decide)
        · unfold ixN
          rw [if_neg c115]
          split
          · decide
          · split
            · decide
            · split <;> decide
    · rw [if_neg ct, if_neg (show ¬ f_X5_isTold D = 0 from fun q => ct (t1.mp q))]
      have tt := t2 ct
      by_cases c100 : n = 100
      · subst c100
        rw [if_pos (show nI 100 = 100 from rfl), show ixN 100 = 1 from rfl, if_neg (show ¬ (1 : Int32) < 0 by decide), show (nI 100 : Int32) = 100 from rfl]
        have r := room_d (nD_le hd.1) (nDI hd.1)
        by_cases cr : nD D = 4
        · rw [if_pos (r.mpr cr)]
          unfold f_X6_readClause_k2 f_X8_readsDepth f_X8_opens f_X8_opens_k1 f_X8_readsDepth_k1
          rw [k2, show M.2 5 2 = nI (nD D) from hd.2.1.2.2.1.trans (nDI hd.1), cr, if_pos (show nI 4 = 4 from rfl)]
          dsimp only
          rw [if_pos rfl]
          exact cle_F h (by decide)
        · rw [if_neg (fun q => cr (r.mp q)), show (tb 2 ((1 : Int32)).toNatClampNeg).toNatClampNeg = 1 from rfl]
          exact cl_depth h hd hl tt (by have := nD_le hd.1; omega)
      · have n100 : ¬ nI n = 100 := fun q => c100 ((w_ 100 (by omega)).mp q)
        rw [if_neg n100]
        by_cases c112 : n = 112
        · subst c112
          rw [if_pos (show nI 112 = 112 from rfl), show ixN 112 = 2 from rfl, if_neg (show ¬ (2 : Int32) < 0 by decide), show (nI 112 : Int32) = 112 from rfl]
          have r := room_p (nP_le hd.1) (nPI hd.1)
          by_cases cr : nP D = 7
          · rw [if_pos (r.mpr cr)]
            unfold f_X6_readClause_k2 f_X8_readsPerson f_X8_opens f_X8_opens_k1 f_X8_readsPerson_k1
            rw [k3, show M.2 5 3 = nI (nP D) from hd.2.1.2.2.2.1.trans (nPI hd.1), cr, if_pos (show nI 7 = 7 from rfl)]
            dsimp only
            rw [if_pos rfl]
            exact cle_F h (by decide)
          · rw [if_neg (fun q => cr (r.mp q)), show (tb 2 ((2 : Int32)).toNatClampNeg).toNatClampNeg = 2 from rfl]
            exact cl_person h hd hl tt (by have := nP_le hd.1; omega)
        · have n112 : ¬ nI n = 112 := fun q => c112 ((w_ 112 (by omega)).mp q)
          rw [if_neg n112]
          by_cases c103 : n = 103
          · subst c103
            rw [if_pos (show nI 103 = 103 from rfl), show ixN 103 = 3 from rfl, if_neg (show ¬ (3 : Int32) < 0 by decide), show (nI 103 : Int32) = 103 from rfl]
            have r := room_g (nG_le hd.1) (nGI hd.1)
            by_cases cr : nG D = 6
            · rw [if_pos (r.mpr cr)]
              unfold f_X6_readClause_k2 f_X8_readsGood f_X8_opens f_X8_opens_k1 f_X8_readsGood_k1
              rw [k4, show M.2 5 4 = nI (nG D) from hd.2.1.2.2.2.2.trans (nGI hd.1), cr, if_pos (show nI 6 = 6 from rfl)]
              dsimp only
              rw [if_pos rfl]
              exact cle_F h (by decide)
            · rw [if_neg (fun q => cr (r.mp q)), show (tb 2 ((3 : Int32)).toNatClampNeg).toNatClampNeg = 3 from rfl]
              exact cl_good h hd hl tt (by have := nG_le hd.1; omega)
          · have n103 : ¬ nI n = 103 := fun q => c103 ((w_ 103 (by omega)).mp q)
            have ei : ixN n = -1 := by
              unfold ixN
              rw [if_neg c115, if_neg c100, if_neg c112, if_neg c103]
            rw [if_neg n103, ei, if_pos (show (-1 : Int32) < 0 by decide)]
            exact cle_F h (by decide)
/-- a text read by both -/
def RdE (M0 : St) (c : St × St) (M' : St) : Prop := Same [6, 7] [5, 6, 7, 8] M0 M' ∧ (TF c.1 M' ∨ (c.1.1 2 = 0 ∧ M'.1 7 = 0 ∧ c.1.1 3 = -1 ∧ DSh c.2 M'))
theorem ds_s6 (e : M'.2 = M.2) (h : DSh D M) : DSh D M' := by
  unfold DSh Dm at h ⊢
  unfold Sh at h ⊢
  dsimp only at h ⊢
  rw [e]
  exact h
theorem rd_loop : ∀ (k m j : Nat) (X D M : St) (at0 : Nat), TR X M len at0 → DSh D M → len < at0 + k → len < at0 + m → RdE M (lp_X6_readClauses_2 k j (X, D)) (lp_X8_reads_0 m (f_X8_skips M))
  | 0, m, j, X, D, M, at0, h, hd, h1, h2 => by
    have := h.2.1.2.2
    omega
  | k + 1, 0, j, X, D, M, at0, h, hd, h1, h2 => by
    have := h.2.1.2.2
    omega
  | k + 1, m + 1, j, X, D, M, at0, h, hd, h1, h2 => by
    show RdE M (lb_X6_readClauses_2 (lp_X6_readClauses_2 k) j (X, D)) (lb_X8_reads_0 (lp_X8_reads_0 m) (f_X8_skips M))
    obtain ⟨a, a1, a2, a3, a4⟩ := tx_skip h
    rw [rdm_step]
    unfold lb_X6_readClauses_2 lb_X6_readClauses_2_k1 lb_X6_readClauses_2_k2
    dsimp only
    rw [if_pos h.2.2.1.1]
    have s1 : Same [6, 7] [5, 6, 7, 8] M (f_X8_skips M) := Same_w a4 (fun k hk => by rw [List.mem_singleton.mp hk]; decide) (fun k hk => absurd hk List.not_mem_nil)
    have hd1 : DSh D (f_X8_skips M) := ds_s6 (same_2 a4) hd
    generalize f_X6_skipBlanks X = X1 at a2 a3 ⊢
    generalize f_X8_skips M = M1 at a2 a4 s1 hd1 ⊢
    obtain ⟨l1, l2, l3⟩ := tx_look a2
    rw [if_pos a2.2.2.1.2.1, l1]
    by_cases c : f_X8_look M1 = -1
    · rw [if_pos c, if_pos c]
      exact ⟨s1, Or.inr ⟨a2.2.2.1.1, a2.2.2.1.2.1, a2.2.2.1.2.2, hd1⟩⟩
    · rw [if_neg c, if_neg c]
      have hl : a < len := by
        rcases Nat.lt_or_ge a len with q | q
        · exact q
        · exact absurd (l3 q) c
      obtain ⟨s2, r⟩ := cle_step a2 hd1 hl
      generalize f_X6_readClause X1 D = z at r ⊢
      generalize mstep M1 = M2 at s2 r ⊢
      obtain ⟨X2, D2⟩ := z
      rcases r with r | ⟨a', r1, r2, r3⟩
      · dsimp only at r ⊢
        rw [rc_F (by rw [r.1]; exact r.2.1), tx_skipF r.2.1, rd_F r.2.1]
        exact ⟨Same_t s1 s2, Or.inl r⟩
      · dsimp only at r2 r3 ⊢
        obtain ⟨q1, q2⟩ := rd_loop k m (j + 1) X2 D2 M2 a' r2 r3 (by omega) (by omega)
        exact ⟨Same_t s1 (Same_t s2 q1), q2⟩
end TextD
