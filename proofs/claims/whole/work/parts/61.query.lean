section Query
variable {T X L F P I N B M : St} {x y : Int32} {j d p g : Nat}
theorem in_of {x a b : Int32} (h : ¬ f_X8_in x a b = 0) : ¬ x < a ∧ ¬ b < x := by
  unfold f_X8_in at h
  split at h
  · exact absurd rfl h
  · split at h
    · exact absurd rfl h
    · exact ⟨by assumption, by assumption⟩
theorem in_1 {x a b : Int32} (h : ¬ x < a) (h2 : ¬ b < x) : f_X8_in x a b = 1 := by
  unfold f_X8_in
  rw [if_neg h, if_neg h2]
theorem in_0 {x a b : Int32} (h : x < a ∨ b < x) : f_X8_in x a b = 0 := by
  unfold f_X8_in
  rcases h with h | h
  · rw [if_pos h]
  · by_cases c : x < a
    · rw [if_pos c]
    · rw [if_neg c, if_pos h]
theorem nlt_le {a b : Int32} (h : ¬ a < b) : b ≤ a := Int32.not_lt.mp h
theorem nle_lt {a b : Int32} (h : ¬ a ≤ b) : b < a := Int32.not_le.mp h
theorem q_depth (h : Sh L M) : f_X7_depth T L x = f_X8_depth M x := by
  unfold f_X7_depth f_X8_depth
  rw [eqD h]
  by_cases c : f_X5_hasDepth L x = 0
  · rw [if_pos c, if_pos c]
  · rw [if_neg c, if_neg c]
    obtain ⟨j, hj, rfl⟩ := hasD c
    have := nD_le h.1
    rw [i0 (by omega), (h.2.2.1 j hj).1]
theorem sub10 {d : Nat} (h : d < 1000) : nI (10 + d) - 10 = nI d := by
  have e : (10 : Int32).toInt = 10 := rfl
  rw [fa_eq, fb_subI, nI_toInt (by omega), nI_toInt (by omega), e]
  · omega
  · rw [nI_toInt (by omega), e]; omega
  · rw [nI_toInt (by omega), e]; omega
theorem rate_pos (h : Sh L M) (hd : d < nD L) : ¬ L.2 0 d ≤ 0 ∧ ¬ L.2 0 d = 0 := by
  have hb := (h.2.2.1 d hd).2.1
  have e0 : (0 : Int32).toInt = 0 := rfl
  rw [fa_le, fa_eq, e0]
  exact ⟨by omega, by omega⟩
theorem daysIn_ (h : Sh L M) (hd : d < nD L) : f_X5_daysIn L (nI d) x = x / L.2 0 d := by
  unfold f_X5_daysIn
  have := nD_le h.1
  rw [hasD1 h.1 hd, if_neg ne10, i0 (by omega), if_neg (rate_pos h hd).1]
theorem below_d (r : Row L (F.2 0) (M.2 9)) (hj : j < nP L) (c : ¬ M.2 9 (8 + j) < 10) : ∃ d : Nat, d < nD L ∧ M.2 9 (8 + j) = nI (10 + d) := by
  rcases (r.2.1 j hj).2.2.2.2.1 with e | e | e
  · rw [e] at c; exact absurd (by decide) c
  · rw [e] at c; exact absurd (by decide) c
  · exact e
theorem eqDays (h : Sh L M) (r : Row L (F.2 0) (M.2 9)) (hj : j < nP L) : f_X3_daysBelow L F (nI j) = f_X8_daysOf M (nI j) := by
  have h7 := nP_le h.1
  have h4 := nD_le h.1
  unfold f_X3_daysBelow f_X8_daysOf
  rw [eqB h r hj, be_ (by omega), pl_ (by omega), i22 (by omega), i8 (by omega), (r.2.1 j hj).2.1]
  by_cases c : M.2 9 (8 + j) < 10
  · rw [if_pos c, if_pos rfl, if_pos rfl]
  · rw [if_neg c, if_neg ne10, if_neg ne10]
    obtain ⟨d, hd, e⟩ := below_d r hj c
    rw [e, sub10 (by omega), daysIn_ h hd, i0 (by omega), (h.2.2.1 d hd).1, ((r.2.1 j hj).2.2.2.1 (be10 c)).1]
theorem q_person (h : Sh L M) (r : Row L (F.2 0) (M.2 9)) : f_X7_person T L F x y = f_X8_person M x y := by
  unfold f_X7_person f_X8_person
  rw [eqP h]
  by_cases c : f_X5_hasPerson L x = 0
  · rw [if_pos c, if_pos c]
  · rw [if_neg c, if_neg c]
    obtain ⟨j, hj, rfl⟩ := hasP c
    have h7 := nP_le h.1
    have q := r.2.1 j hj
    rw [eqDays h r hj, eqE h hj, ag_ (by omega), pl_ (by omega), bx_ (by omega), i0 (by omega), i1 (by omega), i8 (by omega), i15 (by omega), q.1, q.2.1, q.2.2.1]
theorem g3 {j : Nat} (h : j < 1000) {k : Nat} (hk : k < 10) : (((3 * nI j) + nI (k + 1)) - 1 : Int32).toNatClampNeg = 3 * j + k := by
  have e1 : (1 : Int32).toInt = 1 := rfl
  have e : (3 * nI j) + nI (k + 1) = nI (3 * j + (k + 1)) := nat_iadd (a := 3 * j) (b := k + 1) (nat_imul (a := 3) (b := j) rfl rfl) rfl
  rw [e]
  refine ix ?_ (by omega)
  rw [fa_eq, fb_subI, nI_toInt (by omega), nI_toInt (by omega), e1]
  · omega
  · rw [nI_toInt (by omega), e1]; omega
  · rw [nI_toInt (by omega), e1]; omega
theorem q_good (h : Sh L M) (r : Row L (F.2 0) (M.2 9)) : f_X7_good T L F x y = f_X8_good M x y := by
  unfold f_X7_good f_X8_good
  rw [eqG h]
  by_cases c : f_X5_hasGood L x = 0
  · rw [if_pos c, if_pos c]
  · rw [if_neg c, if_neg c]
    obtain ⟨j, hj, rfl⟩ := hasG c
    have h6 := nG_le h.1
    have q := h.2.2.2.2.1 j hj
    rw [wo_ (by omega), i0 (by omega), i29 (by omega), r.2.2 j hj]
    by_cases c0 : y = 0
    · subst c0
      rw [if_pos rfl, in_1 (by decide) (by decide), if_neg ne10, if_pos rfl]
    · by_cases c1 : y = 1
      · subst c1
        have e := g3 (j := j) (k := 0) (by omega) (by omega)
        have e' : ((((3 * nI j) + 1) - 1 : Int32)).toNatClampNeg = 3 * j := e
        rw [if_neg (by decide), if_pos rfl, in_1 (by decide) (by decide), if_neg ne10, if_neg (by decide), e', q.1]
      · by_cases c2 : y = 2
        · subst c2
          have e' : ((((3 * nI j) + 2) - 1 : Int32)).toNatClampNeg = 3 * j + 1 := g3 (j := j) (k := 1) (by omega) (by omega)
          rw [if_neg (by decide), if_neg (by decide), if_pos rfl, in_1 (by decide) (by decide), if_neg ne10, if_neg (by decide), e', q.2.1]
        · by_cases c3 : y = 3
          · subst c3
            have e' : ((((3 * nI j) + 3) - 1 : Int32)).toNatClampNeg = 3 * j + 2 := g3 (j := j) (k := 2) (by omega) (by omega)
            rw [if_neg (by decide), if_neg (by decide), if_neg (by decide), if_pos rfl, in_1 (by decide) (by decide), if_neg ne10, if_neg (by decide), e', q.2.2]
          · rw [if_neg c0, if_neg c1, if_neg c2, if_neg c3, in_0, if_pos rfl]
            refine Classical.byContradiction (fun k => ?_)
            rw [fa_eq] at c0 c1 c2 c3
            rw [fa_lt, fa_lt] at k
            have e0 : (0 : Int32).toInt = 0 := rfl
            have e1 : (1 : Int32).toInt = 1 := rfl
            have e2 : (2 : Int32).toInt = 2 := rfl
            have e3 : (3 : Int32).toInt = 3 := rfl
            omega
theorem q_letters (h : Sh L M) (r : Row L (F.2 0) (M.2 9)) : f_X7_letters T L F x y = f_X8_letters M x y := by
  unfold f_X7_letters f_X8_letters f_X3_years
  rw [eqD h]
  by_cases c : f_X5_hasDepth L x = 0
  · rw [if_pos c, if_pos c]
  · rw [if_neg c, if_neg c]
    obtain ⟨j, hj, rfl⟩ := hasD c
    have h4 := nD_le h.1
    rw [i0 (by omega), k0, daysIn_ h hj, r.1.1, (h.2.2.1 j hj).1]
    by_cases c1 : y < 1
    · rw [if_pos c1, in_0 (Or.inl c1), if_pos rfl]
    · rw [if_neg c1]
      by_cases c2 : y ≤ 9
      · rw [if_pos c2, in_1 c1 (Int32.not_lt.mpr c2), if_neg ne10, Int32.add_mul]
      · rw [if_neg c2, in_0 (Or.inr (nle_lt c2)), if_pos rfl]
theorem eqRua (h : Sh L M) (r : Row L (F.2 0) (M.2 9)) : f_X7_refuseUnlessAbove T L F x = if f_X8_isPerson M x = 0 then -1000000001 else if f_X8_isAbove M x = 0 then -1000000003 else 0 := by
  unfold f_X7_refuseUnlessAbove
  rw [eqP h]
  by_cases c : f_X5_hasPerson L x = 0
  · rw [if_pos c, if_pos c]
  · rw [if_neg c, if_neg c]
    obtain ⟨j, hj, rfl⟩ := hasP c
    rw [eqA h r hj]
theorem q_wouldOpen (h : Sh L M) (r : Row L (F.2 0) (M.2 9)) : f_X7_wouldOpen T L F x = f_X8_wouldOpen M x := by
  unfold f_X7_wouldOpen f_X8_wouldOpen f_X8_wouldOpen_k1
  rw [eqRua h r]
  by_cases c : f_X8_isPerson M x = 0
  · rw [if_pos c, if_pos c, if_neg (by decide)]
  · rw [if_neg c, if_neg c]
    by_cases c1 : f_X8_isAbove M x = 0
    · rw [if_pos c1, if_pos c1, if_neg (by decide)]
    · rw [if_neg c1, if_neg c1, if_pos rfl]
      rw [eqP h] at c
      obtain ⟨j, hj, rfl⟩ := hasP c
      have h7 := nP_le h.1
      have q := r.2.1 j hj
      rw [eqE h hj, ag_ (by omega), bx_ (by omega), i0 (by omega), i1 (by omega), i15 (by omega), q.1, q.2.2.1]
theorem q_yearsLeft (h : Sh L M) (r : Row L (F.2 0) (M.2 9)) : f_X7_yearsLeft T L F x = f_X8_yearsLeft M x := by
  unfold f_X7_yearsLeft f_X8_yearsLeft
  rw [eqRua h r]
  by_cases c : f_X8_isPerson M x = 0
  · rw [if_pos c, if_pos c, if_neg (by decide)]
  · rw [if_neg c, if_neg c]
    by_cases c1 : f_X8_isAbove M x = 0
    · rw [if_pos c1, if_pos c1, if_neg (by decide)]
    · rw [if_neg c1, if_neg c1, if_pos rfl]
      rw [eqP h] at c
      obtain ⟨j, hj, rfl⟩ := hasP c
      have h7 := nP_le h.1
      have q := r.2.1 j hj
      rw [eqE h hj, ag_ (by omega), i0 (by omega), i1 (by omega), q.1]
theorem or0 (u : Int32) : u ||| 0 = u := Int32.or_zero
theorem lt_who0 (h : Sh L M) (r : Row L (F.2 0) (M.2 9)) : ∀ n : Nat, n ≤ nP L → it_X3_deadOnes_4 L F 0 n = it_X8_who_4 M 0 0 n
  | 0, _ => rfl
  | n + 1, hn => by
    have h7 := nP_le h.1
    show bd_X3_deadOnes_4 L F n (it_X3_deadOnes_4 L F 0 n) = bd_X8_who_4 M 0 n (it_X8_who_4 M 0 0 n)
    rw [lt_who0 h r n (by omega)]
    unfold bd_X3_deadOnes_4 bd_X8_who_4
    rw [if_pos rfl, pl_ (by omega), i8 (by omega), (r.2.1 n (by omega)).2.1, or0]
theorem lt_who1 (h : Sh L M) (r : Row L (F.2 0) (M.2 9)) : ∀ n : Nat, n ≤ nP L → it_X3_stayersOf_5 L F 0 0 n = it_X8_who_4 M 1 0 n
  | 0, _ => rfl
  | n + 1, hn => by
    have h7 := nP_le h.1
    show bd_X3_stayersOf_5 L F 0 n (it_X3_stayersOf_5 L F 0 0 n) = bd_X8_who_4 M 1 n (it_X8_who_4 M 1 0 n)
    rw [lt_who1 h r n (by omega)]
    unfold bd_X3_stayersOf_5 bd_X8_who_4
    rw [if_neg ne10, ← eqB h r (j := n) (by omega), or0]
    by_cases c : f_X8_isBelow M (nI n) = 0
    · rw [if_pos c, if_pos c]
    · rw [if_neg c, if_neg c, if_pos rfl, i22 (by omega)]
      have c2 : ¬ M.2 9 (8 + n) < 10 := fun q => c (by rw [mbe_ (by omega), if_pos q])
      have q := (r.2.1 n (by omega)).2.2.2.1 (be10 c2)
      have e0 : (0 : Int32).toInt = 0 := rfl
      rw [if_neg]
      rw [q.1, fa_lt, e0]
      omega
theorem lt_who2 (h : Sh L M) (r : Row L (F.2 0) (M.2 9)) : ∀ n : Nat, n ≤ nP L → it_X3_stayersOf_5 L F (L.1 0) 0 n = it_X8_who_4 M 2 0 n
  | 0, _ => rfl
  | n + 1, hn => by
    have h7 := nP_le h.1
    show bd_X3_stayersOf_5 L F (L.1 0) n (it_X3_stayersOf_5 L F (L.1 0) 0 n) = bd_X8_who_4 M 2 n (it_X8_who_4 M 2 0 n)
    rw [lt_who2 h r n (by omega)]
    unfold bd_X3_stayersOf_5 bd_X8_who_4
    rw [if_neg (show ¬ (2 : Int32) = 0 by decide), ← eqB h r (j := n) (by omega), or0]
    by_cases c : f_X8_isBelow M (nI n) = 0
    · rw [if_pos c, if_pos c]
    · rw [if_neg c, if_neg c, if_neg (show ¬ (2 : Int32) = 1 by decide), i22 (by omega), k0, h.2.1.1]
      have c2 : ¬ M.2 9 (8 + n) < 10 := fun q => c (by rw [mbe_ (by omega), if_pos q])
      rw [((r.2.1 n (by omega)).2.2.2.1 (be10 c2)).1]
theorem king_ (h : Sh L M) : f_X5_kingAt L x = if f_X8_isShore M = 0 then 0 else x / L.1 1 := by
  unfold f_X5_kingAt f_X8_isShore
  have e0 : (0 : Int32).toInt = 0 := rfl
  rw [k0, h.2.1.1]
  rcases h.2.2.2.2.2 with ⟨a, b, -⟩ | ⟨a, b⟩
  · rw [a, b]
    rfl
  · have a1 : ¬ L.1 0 ≤ 0 := by rw [fa_le, e0]; omega
    have b1 : ¬ L.1 1 ≤ 0 := by rw [fa_le, e0]; omega
    rw [if_neg a1, if_neg b1, if_neg ne10]
theorem q_told (h : Sh L M) (r : Row L (F.2 0) (M.2 9)) (hX : X.1 0 = M.1 0) (hN : N.1 0 = M.1 4) (hB : B.1 0 = M.1 5) (hP : P.1 1 = M.1 2) : f_X7_told T X L F P N B x = f_X8_told M x := by
  unfold f_X7_told f_X8_told f_X3_years f_X3_deadOnes f_X3_stayersOf f_X8_who f_X3_deadOnes_k1 f_X3_stayersOf_k1 f_X8_who_k1
  rw [k0, k1, k2, k3, k4, Sh_nP h, show (L.1 3).toNatClampNeg = nP L from rfl, lt_who0 h r _ (Nat.le_refl _), lt_who1 h r _ (Nat.le_refl _), lt_who2 h r _ (Nat.le_refl _), king_ h, hX, hN, hB, hP, r.1.1, h.2.1.1, h.2.1.2.1, h.2.1.2.2.1, h.2.1.2.2.2.1, h.2.1.2.2.2.2]
theorem lt_latest (h : Sh L M) (r : Row L (F.2 0) (M.2 9)) : ∀ n : Nat, n ≤ nP L → it_X7_latest_6 T L F (-1, 0) n = it_X8_latest_6 M (-1, 0) n ∧ 0 ≤ (it_X8_latest_6 M (-1, 0) n).2
  | 0, _ => ⟨rfl, by show (0 : Int32) ≤ 0; decide⟩
  | n + 1, hn => by
    have h7 := nP_le h.1
    have ih := lt_latest h r n (by omega)
    show bd_X7_latest_6 T L F n (it_X7_latest_6 T L F (-1, 0) n) = bd_X8_latest_6 M n (it_X8_latest_6 M (-1, 0) n) ∧ 0 ≤ (bd_X8_latest_6 M n (it_X8_latest_6 M (-1, 0) n)).2
    rw [ih.1]
    have hu := ih.2
    generalize it_X8_latest_6 M (-1, 0) n = u at hu ⊢
    unfold bd_X7_latest_6 bd_X8_latest_6 bd_X7_latest_6_k1 bd_X8_latest_6_k1
    rw [← eqA h r (j := n) (by omega), eqE h (j := n) (by omega), ag_ (by omega), i0 (by omega), i1 (by omega), (r.2.1 n (by omega)).1]
    by_cases c : f_X8_isAbove M (nI n) = 0
    · rw [if_pos c, if_pos c, if_pos hu]; exact ⟨rfl, hu⟩
    · rw [if_neg c, if_neg c]
      refine ⟨rfl, ?_⟩
      by_cases c2 : L.2 2 n - M.2 9 (1 + n) ≤ u.2
      · rw [if_pos c2]; exact hu
      · rw [if_neg c2]
        have c3 := nle_lt c2
        rw [fa_le] at hu ⊢
        rw [fa_lt] at c3
        show (0 : Int32).toInt ≤ (L.2 2 n - M.2 9 (1 + n)).toInt
        omega
theorem q_latest (h : Sh L M) (r : Row L (F.2 0) (M.2 9)) : f_X7_latest T L F = f_X8_latest M := by
  unfold f_X7_latest f_X8_latest f_X7_latest_k1 f_X8_latest_k1
  rw [k3, Sh_nP h, show (L.1 3).toNatClampNeg = nP L from rfl, (lt_latest h r _ (Nat.le_refl _)).1]
theorem lt_storm : ∀ n : Nat, it_X7_storm_30 T x y 1000000000 n = it_X8_storm_30 M x y 1000000000 n
  | 0 => rfl
  | n + 1 => by
    show bd_X7_storm_30 T x y n (it_X7_storm_30 T x y 1000000000 n) = bd_X8_storm_30 M x y n (it_X8_storm_30 M x y 1000000000 n)
    rw [lt_storm n]
    rfl
theorem q_storm : f_X7_storm T x y = f_X8_storm M x y := by
  unfold f_X7_storm f_X8_storm f_X7_storm_k1 f_X8_storm_k1
  rw [lt_storm (M := M)]
  by_cases c1 : x < 0
  · rw [if_pos c1, in_0 (Or.inl c1), if_pos rfl]
  · rw [if_neg c1]
    by_cases c2 : 60 < x
    · rw [if_pos c2, in_0 (Or.inr c2), if_pos rfl]
    · rw [if_neg c2, in_1 c1 c2, if_neg ne10]
      by_cases c3 : y < 0
      · rw [if_pos c3, in_0 (Or.inl c3), if_pos rfl]
      · rw [if_neg c3]
        by_cases c4 : y ≤ 100
        · rw [if_pos c4, in_1 c3 (Int32.not_lt.mpr c4), if_neg ne10]
        · rw [if_neg c4, in_0 (Or.inr (nle_lt c4)), if_pos rfl]
theorem eqW (h : Sh L M) (hg : g < nG L) : f_X8_later M (nI g) x = f_X5_worthNextYear L (nI g) x := by
  have h6 := nG_le h.1
  have q := h.2.2.2.2.1 g hg
  unfold f_X8_later f_X5_worthNextYear f_X8_later_k1
  rw [hasG1 h.1 hg, if_neg ne10, t1 (by omega), t2 (by omega), i0 (by omega), q.2.1, q.2.2]
/-- a good's worth behind n years -/
def wth (L : St) (g : Int32) : Nat → Int32 → Int32
  | 0, u => u
  | n + 1, u => wth L g n (f_X5_worthNextYear L g u)
theorem wth_fix {g : Int32} {u : Int32} (h : f_X5_worthNextYear L g u = u) : ∀ n : Nat, wth L g n u = u
  | 0 => rfl
  | n + 1 => by
    show wth L g n (f_X5_worthNextYear L g u) = u
    rw [h]
    exact wth_fix h n
theorem wth_lp {g a b : Int32} : ∀ (k j : Nat) (u : Int32), lp_X5_worthBehind_6 L g a b k j u = wth L g k u
  | 0, j, u => rfl
  | k + 1, j, u => by
    show lb_X5_worthBehind_6 L g a b (lp_X5_worthBehind_6 L g a b k) j u = wth L g k (f_X5_worthNextYear L g u)
    unfold lb_X5_worthBehind_6
    by_cases c : f_X5_worthNextYear L g u = u
    · rw [if_pos c, c, wth_fix c]
    · rw [if_neg c, wth_lp k (j + 1)]
theorem wb_ {g u n : Int32} : f_X5_worthBehind L g u n = wth L g n.toNatClampNeg u := wth_lp _ 0 u
theorem wth_add {g : Int32} : ∀ (m n : Nat) (u : Int32), wth L g (m + n) u = wth L g n (wth L g m u)
  | 0, n, u => by rw [Nat.zero_add]; rfl
  | m + 1, n, u => by
    rw [Nat.succ_add]
    show wth L g (m + n) (f_X5_worthNextYear L g u) = _
    rw [wth_add m n]
    rfl
theorem wth_s {g : Int32} (n : Nat) (u : Int32) : wth L g (n + 1) u = f_X5_worthNextYear L g (wth L g n u) := wth_add n 1 u
theorem wi_it (h : Sh L M) (hg : g < nG L) {a b : Int32} : ∀ (n : Nat) (u : Int32), it_X8_worthIn_6 M (nI g) a b u n = wth L (nI g) n u
  | 0, u => rfl
  | n + 1, u => by
    show bd_X8_worthIn_6 M (nI g) a b n (it_X8_worthIn_6 M (nI g) a b u n) = _
    rw [wi_it h hg n u, wth_s]
    exact eqW h hg
theorem wi_ (h : Sh L M) (hg : g < nG L) {u n : Int32} : f_X8_worthIn M (nI g) u n = f_X5_worthBehind L (nI g) u n := by
  rw [wb_]
  exact wi_it h hg _ u
theorem lt_leave (h : Sh L M) (r : Row L (F.2 0) (M.2 9)) : ∀ n : Nat, n ≤ nG L → it_X7_leave_31 T L F x y (-1, -1) n = it_X8_leave_31 M x y (-1, -1) n
  | 0, _ => rfl
  | n + 1, hn => by
    have h6 := nG_le h.1
    show bd_X7_leave_31 T L F x y n (it_X7_leave_31 T L F x y (-1, -1) n) = bd_X8_leave_31 M x y n (it_X8_leave_31 M x y (-1, -1) n)
    rw [lt_leave h r n (by omega)]
    unfold bd_X7_leave_31 bd_X8_leave_31 bd_X8_leave_31_k1
    rw [wi_ h (g := n) (by omega), wo_ (by omega), i29 (by omega), r.2.2 n (by omega)]
theorem q_leave (h : Sh L M) (r : Row L (F.2 0) (M.2 9)) : f_X7_leave T L F x y = f_X8_leave M x y := by
  unfold f_X7_leave f_X8_leave f_X7_leave_k1 f_X8_leave_k1
  rw [k4, Sh_nG h, show (L.1 4).toNatClampNeg = nG L from rfl, lt_leave h r _ (Nat.le_refl _)]
  by_cases c1 : x < 0
  · rw [if_pos c1, in_0 (Or.inl c1), if_pos rfl]
  · rw [if_neg c1]
    by_cases c2 : 300 < x
    · rw [if_pos c2, in_0 (Or.inr c2), if_pos rfl]
    · rw [if_neg c2, in_1 c1 c2, if_neg ne10]
      by_cases c3 : y < 0
      · rw [if_pos c3, in_0 (Or.inl c3), if_pos rfl]
      · rw [if_neg c3]
        by_cases c4 : y ≤ 1
        · rw [if_pos c4, in_1 c3 (Int32.not_lt.mpr c4), if_neg ne10]
        · rw [if_neg c4, in_0 (Or.inr (nle_lt c4)), if_pos rfl]
theorem lt_when (h : Sh L M) (hg : g < nG L) : ∀ (k j : Nat) (u : Int32), lp_X7_when_40 T L F (nI g) y k j u = lp_X8_when_38 M (nI g) y k j u
  | 0, j, u => rfl
  | k + 1, j, u => by
    show lb_X7_when_40 T L F (nI g) y (lp_X7_when_40 T L F (nI g) y k) j u = lb_X8_when_38 M (nI g) y (lp_X8_when_38 M (nI g) y k) j u
    unfold lb_X7_when_40 lb_X8_when_38
    rw [lt_when h hg k, eqW h hg]
theorem q_when (h : Sh L M) (r : Row L (F.2 0) (M.2 9)) : f_X7_when T L F x y = f_X8_when M x y := by
  unfold f_X7_when f_X8_when
  rw [eqG h]
  by_cases c : f_X5_hasGood L x = 0
  · rw [if_pos c, if_pos c]
  · rw [if_neg c, if_neg c]
    obtain ⟨j, hj, rfl⟩ := hasG c
    have h6 := nG_le h.1
    rw [lt_when h hj, wo_ (by omega), i29 (by omega), r.2.2 j hj]
    by_cases c3 : y < 0
    · rw [if_pos c3, in_0 (Or.inl c3), if_pos rfl]
    · rw [if_neg c3]
      by_cases c4 : y ≤ 9999
      · rw [if_pos c4, in_1 c3 (Int32.not_lt.mpr c4), if_neg ne10]
      · rw [if_neg c4, in_0 (Or.inr (nle_lt c4)), if_pos rfl]
/-- the book of the two sides -/
def RB (L B M : St) : Prop := B.1 0 = M.1 5 ∧ ¬ M.1 5 < 0 ∧ M.1 5 ≤ 15 ∧ ∀ k : Nat, k < (M.1 5).toNatClampNeg → B.2 0 k = M.2 15 (2 * k) ∧ B.2 1 k = M.2 15 (2 * k + 1) ∧ ∃ p : Nat, p < nP L ∧ M.2 15 (2 * k) = nI p
theorem RB_le (b : RB L B M) : (M.1 5).toNatClampNeg ≤ 15 := cl_le b.2.2.1 rfl (by decide)
theorem lt_judge (h : Sh L M) (r : Row L (F.2 0) (M.2 9)) (b : RB L B M) : ∀ (k j : Nat), j + k = (M.1 5).toNatClampNeg → lp_X0_firstWrong_2 F B k j () = lp_X8_judge_2 M k j ()
  | 0, j, _ => rfl
  | k + 1, j, e => by
    have h7 := nP_le h.1
    have h15 := RB_le b
    show lb_X0_firstWrong_2 F B (lp_X0_firstWrong_2 F B k) j () = lb_X8_judge_2 M (lp_X8_judge_2 M k) j ()
    unfold lb_X0_firstWrong_2 lb_X8_judge_2
    obtain ⟨q1, q2, p, hp, q3⟩ := b.2.2.2 j (by omega)
    rw [lt_judge h r b k (j + 1) (by omega), i0 (by omega), d0 (by omega), d1 (by omega), q1, q2, q3, ag_ (by omega), i1 (by omega), (r.2.1 p hp).1]
    exact if_neg (nI_ge (b := 15) (by omega) (by decide))
theorem q_judge (h : Sh L M) (r : Row L (F.2 0) (M.2 9)) (b : RB L B M) : f_X7_judge T F B = f_X8_judge M := by
  unfold f_X7_judge f_X8_judge f_X0_firstWrong
  rw [b.1]
  exact lt_judge h r b _ 0 (by omega)
end Query
