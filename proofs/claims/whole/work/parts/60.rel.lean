theorem ix {x : Int32} {m : Nat} (h : x = nI m) (hm : m < 2 ^ 31) : x.toNatClampNeg = m := by rw [h]; exact nI_clamp hm
theorem i0 {j : Nat} (h : j < 1000) : ((nI j : Int32)).toNatClampNeg = j := nI_clamp (by omega)
theorem i1 {j : Nat} (h : j < 1000) : ((1 + nI j : Int32)).toNatClampNeg = 1 + j := ix (nat_iadd (a := 1) (b := j) rfl rfl) (by omega)
theorem i8 {j : Nat} (h : j < 1000) : ((8 + nI j : Int32)).toNatClampNeg = 8 + j := ix (nat_iadd (a := 8) (b := j) rfl rfl) (by omega)
theorem i15 {j : Nat} (h : j < 1000) : ((15 + nI j : Int32)).toNatClampNeg = 15 + j := ix (nat_iadd (a := 15) (b := j) rfl rfl) (by omega)
theorem i22 {j : Nat} (h : j < 1000) : ((22 + nI j : Int32)).toNatClampNeg = 22 + j := ix (nat_iadd (a := 22) (b := j) rfl rfl) (by omega)
theorem i29 {j : Nat} (h : j < 1000) : ((29 + nI j : Int32)).toNatClampNeg = 29 + j := ix (nat_iadd (a := 29) (b := j) rfl rfl) (by omega)
theorem d0 {j : Nat} (h : j < 1000) : ((2 * nI j : Int32)).toNatClampNeg = 2 * j := ix (nat_imul (a := 2) (b := j) rfl rfl) (by omega)
theorem d1 {j : Nat} (h : j < 1000) : (((2 * nI j) + 1 : Int32)).toNatClampNeg = 2 * j + 1 := ix (nat_iadd (a := 2 * j) (b := 1) (nat_imul (a := 2) (b := j) rfl rfl) rfl) (by omega)
theorem t0 {j : Nat} (h : j < 1000) : ((3 * nI j : Int32)).toNatClampNeg = 3 * j := ix (nat_imul (a := 3) (b := j) rfl rfl) (by omega)
theorem t1 {j : Nat} (h : j < 1000) : (((3 * nI j) + 1 : Int32)).toNatClampNeg = 3 * j + 1 := ix (nat_iadd (a := 3 * j) (b := 1) (nat_imul (a := 3) (b := j) rfl rfl) rfl) (by omega)
theorem t2 {j : Nat} (h : j < 1000) : (((3 * nI j) + 2 : Int32)).toNatClampNeg = 3 * j + 2 := ix (nat_iadd (a := 3 * j) (b := 2) (nat_imul (a := 3) (b := j) rfl rfl) rfl) (by omega)
theorem k0 : ((0 : Int32)).toNatClampNeg = 0 := rfl
theorem k1 : ((1 : Int32)).toNatClampNeg = 1 := rfl
theorem k2 : ((2 : Int32)).toNatClampNeg = 2 := rfl
theorem k3 : ((3 : Int32)).toNatClampNeg = 3 := rfl
theorem k4 : ((4 : Int32)).toNatClampNeg = 4 := rfl
theorem cl_int {x : Int32} (h : ¬ x < 0) : (x.toNatClampNeg : Int) = x.toInt := by
  have e := congrArg Int32.toInt (cl_eq h)
  rw [nI_toInt (cl_lt x)] at e
  exact e.symm
theorem cl_lt_cl {x n : Int32} (h0 : ¬ x < 0) (h : ¬ n ≤ x) : x.toNatClampNeg < n.toNatClampNeg := by
  have hn : ¬ n < 0 := by
    rw [fa_lt] at h0 ⊢
    rw [fa_le] at h
    omega
  have e1 := cl_int h0
  have e2 := cl_int hn
  rw [fa_le] at h
  omega
theorem in_n {x n N : Int32} (h0 : ¬ n < 0) (h1 : n ≤ N) : f_X8_in x 0 (n - 1) = if x < 0 then 0 else if n ≤ x then 0 else if N ≤ x then 0 else 1 := by
  unfold f_X8_in
  have e1 : (1 : Int32).toInt = 1 := rfl
  have e0 : (0 : Int32).toInt = 0 := rfl
  have r := fb_rng n
  rw [fa_lt, e0] at h0
  rw [fa_le] at h1
  have e : (n - 1).toInt = n.toInt - 1 := by
    rw [← e1]
    exact fb_subI (by rw [e1]; omega) (by rw [e1]; omega)
  simp only [fa_lt, fa_le, e]
  by_cases c1 : x.toInt < (0 : Int32).toInt
  · rw [if_pos c1, if_pos c1]
  · rw [if_neg c1, if_neg c1]
    by_cases c2 : n.toInt ≤ x.toInt
    · rw [if_pos c2, if_pos (by omega)]
    · rw [if_neg c2, if_neg (by omega), if_neg (by omega)]
/-- how many depths, people, goods a shore has -/
def nD (L : St) : Nat := (L.1 2).toNatClampNeg
def nP (L : St) : Nat := (L.1 3).toNatClampNeg
def nG (L : St) : Nat := (L.1 4).toNatClampNeg
/-- the shore of the two sides -/
def Sh (L M : St) : Prop :=
  okA L ∧ (M.2 1 0 = L.1 0 ∧ M.2 1 1 = L.1 1 ∧ M.2 1 2 = L.1 2 ∧ M.2 1 3 = L.1 3 ∧ M.2 1 4 = L.1 4) ∧ (∀ d : Nat, d < nD L → M.2 2 d = L.2 0 d ∧ 1 ≤ (L.2 0 d).toInt ∧ (L.2 0 d).toInt ≤ 200) ∧
  (∀ p : Nat, p < nP L → M.2 3 (2 * p) = L.2 1 p ∧ M.2 3 (2 * p + 1) = L.2 2 p ∧ 0 ≤ (L.2 1 p).toInt ∧ 1 ≤ (L.2 2 p).toInt ∧ (L.2 2 p).toInt ≤ 150) ∧
  (∀ g : Nat, g < nG L → M.2 4 (3 * g) = L.2 3 g ∧ M.2 4 (3 * g + 1) = L.2 4 g ∧ M.2 4 (3 * g + 2) = L.2 5 g) ∧
  ((L.1 0 = 0 ∧ L.1 1 = 0 ∧ L.1 2 = 0 ∧ L.1 3 = 0 ∧ L.1 4 = 0) ∨ (1 ≤ (L.1 0).toInt ∧ 1 ≤ (L.1 1).toInt))
def okPl (L : St) (p : Nat) (a w : Int32) : Prop := (w = 0 ∨ w = 1 ∨ ∃ d : Nat, d < nD L ∧ w = nI (10 + d)) ∧ (w = 1 ∨ (0 ≤ a.toInt ∧ a.toInt < (L.2 2 p).toInt))
/-- a life of the two sides: r the class's row, m the model's -/
def Row (L : St) (r m : Nat → Int32) : Prop :=
  (r 0 = m 0 ∧ 0 ≤ (m 0).toInt ∧ (m 0).toInt ≤ 90300) ∧
  (∀ p : Nat, p < nP L → r (1 + p) = m (1 + p) ∧ r (8 + p) = m (8 + p) ∧ r (15 + p) = m (15 + p) ∧ (10 ≤ (m (8 + p)).toInt → r (22 + p) = m (22 + p) ∧ 0 ≤ (m (22 + p)).toInt ∧ (m (22 + p)).toInt ≤ (m 0).toInt) ∧ okPl L p (m (1 + p)) (m (8 + p))) ∧
  (∀ g : Nat, g < nG L → r (29 + g) = m (29 + g))
theorem nD_le {L : St} (h : okA L) : nD L ≤ 4 := okS_d h.2
theorem nP_le {L : St} (h : okA L) : nP L ≤ 7 := okS_p h.2
theorem nG_le {L : St} (h : okA L) : nG L ≤ 6 := okS_g h.2
section Sides
variable {T X L F P I N B M : St} {x y : Int32} {j d p g : Nat}
theorem Sh_nP (h : Sh L M) : (M.2 1 3).toNatClampNeg = nP L := by rw [h.2.1.2.2.2.1]; rfl
theorem Sh_nG (h : Sh L M) : (M.2 1 4).toNatClampNeg = nG L := by rw [h.2.1.2.2.2.2]; rfl
theorem Sh_nD (h : Sh L M) : (M.2 1 2).toNatClampNeg = nD L := by rw [h.2.1.2.2.1]; rfl
theorem eqD (h : Sh L M) : f_X8_isDepth M x = f_X5_hasDepth L x := by
  unfold f_X8_isDepth f_X5_hasDepth
  rw [k2, h.2.1.2.2.1]
  exact in_n h.1.1.1 h.1.2.1
theorem eqP (h : Sh L M) : f_X8_isPerson M x = f_X5_hasPerson L x := by
  unfold f_X8_isPerson f_X5_hasPerson
  rw [k3, h.2.1.2.2.2.1]
  exact in_n h.1.1.2.1 h.1.2.2.1
theorem eqG (h : Sh L M) : f_X8_isGood M x = f_X5_hasGood L x := by
  unfold f_X8_isGood f_X5_hasGood
  rw [k4, h.2.1.2.2.2.2]
  exact in_n h.1.1.2.2 h.1.2.2.2
theorem eqS (h : Sh L M) : f_X8_isShore M = f_X5_isTold L := by
  unfold f_X8_isShore f_X5_isTold
  rw [k0, h.2.1.1]
theorem hasD (h : ¬ f_X5_hasDepth L x = 0) : ∃ j : Nat, j < nD L ∧ x = nI j := by
  have h7 := in_X5_hasDepth h
  unfold f_X5_hasDepth at h
  split at h
  · exact absurd rfl h
  · split at h
    · exact absurd rfl h
    · exact ⟨x.toNatClampNeg, cl_lt_cl (by assumption) (by assumption), cl_of h7⟩
theorem hasP (h : ¬ f_X5_hasPerson L x = 0) : ∃ j : Nat, j < nP L ∧ x = nI j := by
  have h7 := in_X5_hasPerson h
  unfold f_X5_hasPerson at h
  split at h
  · exact absurd rfl h
  · split at h
    · exact absurd rfl h
    · exact ⟨x.toNatClampNeg, cl_lt_cl (by assumption) (by assumption), cl_of h7⟩
theorem hasG (h : ¬ f_X5_hasGood L x = 0) : ∃ j : Nat, j < nG L ∧ x = nI j := by
  have h7 := in_X5_hasGood h
  unfold f_X5_hasGood at h
  split at h
  · exact absurd rfl h
  · split at h
    · exact absurd rfl h
    · exact ⟨x.toNatClampNeg, cl_lt_cl (by assumption) (by assumption), cl_of h7⟩
theorem has1 {n : Int32} {N j : Nat} (hj : j < n.toNatClampNeg) (hN : j < N) (hb : N < 2 ^ 31) : ¬ nI j < 0 ∧ ¬ n ≤ nI j ∧ ¬ nI N ≤ nI j := by
  refine ⟨nI_pos (by omega), fun q => ?_, nI_ge hN hb⟩
  exact lp_ge1c hj q
theorem hasD1 (h : okA L) (hj : j < nD L) : f_X5_hasDepth L (nI j) = 1 := by
  have := nD_le h
  obtain ⟨a, b, c⟩ := has1 (n := L.1 2) (N := 4) hj (by omega) (by decide)
  unfold f_X5_hasDepth
  rw [if_neg a, if_neg b]
  exact if_neg c
theorem hasP1 (h : okA L) (hj : j < nP L) : f_X5_hasPerson L (nI j) = 1 := by
  have := nP_le h
  obtain ⟨a, b, c⟩ := has1 (n := L.1 3) (N := 7) hj (by omega) (by decide)
  unfold f_X5_hasPerson
  rw [if_neg a, if_neg b]
  exact if_neg c
theorem hasG1 (h : okA L) (hj : j < nG L) : f_X5_hasGood L (nI j) = 1 := by
  have := nG_le h
  obtain ⟨a, b, c⟩ := has1 (n := L.1 4) (N := 6) hj (by omega) (by decide)
  unfold f_X5_hasGood
  rw [if_neg a, if_neg b]
  exact if_neg c
theorem isP (h : j < 7) : f_X3_isPerson (nI j) = 1 := by
  unfold f_X3_isPerson
  rw [if_neg (nI_pos (by omega))]
  exact if_neg (nI_ge (b := 7) h (by decide))
theorem isG (h : j < 6) : f_X3_isGood (nI j) = 1 := by
  unfold f_X3_isGood
  rw [if_neg (nI_pos (by omega))]
  exact if_neg (nI_ge (b := 6) h (by decide))
theorem ne10 : ¬ (1 : Int32) = 0 := by decide
theorem pl_ (h : j < 7) : f_X3_place F (nI j) = F.2 0 (8 + j) := by
  unfold f_X3_place
  rw [isP h, if_neg ne10, i8 (by omega)]
theorem ag_ (h : j < 7) : f_X3_age F (nI j) = F.2 0 (1 + j) := by
  unfold f_X3_age
  rw [isP h, if_neg ne10, i1 (by omega)]
theorem bx_ (h : j < 7) : f_X3_box F (nI j) = F.2 0 (15 + j) := by
  unfold f_X3_box
  rw [isP h, if_neg ne10, i15 (by omega)]
theorem wo_ (h : j < 6) : f_X3_worth F (nI j) = F.2 0 (29 + j) := by
  unfold f_X3_worth
  rw [isG h, if_neg ne10, i29 (by omega)]
theorem ab_ (h : j < 7) : f_X3_isAbove F (nI j) = if F.2 0 (8 + j) = 0 then 1 else 0 := by
  unfold f_X3_isAbove
  rw [pl_ h]
theorem be_ (h : j < 7) : f_X3_isBelow F (nI j) = if F.2 0 (8 + j) < 10 then 0 else 1 := by
  unfold f_X3_isBelow
  rw [pl_ h]
theorem mab_ (h : j < 7) : f_X8_isAbove M (nI j) = if M.2 9 (8 + j) = 0 then 1 else 0 := by
  unfold f_X8_isAbove
  rw [i8 (by omega)]
theorem mbe_ (h : j < 7) : f_X8_isBelow M (nI j) = if M.2 9 (8 + j) < 10 then 0 else 1 := by
  unfold f_X8_isBelow
  rw [i8 (by omega)]
theorem men_ (h : j < 7) : f_X8_end M (nI j) = M.2 3 (2 * j + 1) := by
  unfold f_X8_end
  rw [d1 (by omega)]
theorem eqA (h : Sh L M) (r : Row L (F.2 0) (M.2 9)) (hj : j < nP L) : f_X8_isAbove M (nI j) = f_X3_isAbove F (nI j) := by
  have := nP_le h.1
  rw [ab_ (by omega), mab_ (by omega), (r.2.1 j hj).2.1]
theorem eqB (h : Sh L M) (r : Row L (F.2 0) (M.2 9)) (hj : j < nP L) : f_X8_isBelow M (nI j) = f_X3_isBelow F (nI j) := by
  have := nP_le h.1
  rw [be_ (by omega), mbe_ (by omega), (r.2.1 j hj).2.1]
theorem eqE (h : Sh L M) (hj : j < nP L) : f_X8_end M (nI j) = L.2 2 j := by
  have := nP_le h.1
  rw [men_ (by omega), (h.2.2.2.1 j hj).2.1]
theorem be10 {w : Int32} (h : ¬ w < 10) : 10 ≤ w.toInt := by
  rw [fa_lt] at h
  have : (10 : Int32).toInt = 10 := rfl
  omega
end Sides
