section Meet
variable {T X L F P I N B M M' : St} {x y z : Int32} {j d p q g : Nat}
theorem natI {x : Int32} {b : Nat} (h0 : 0 ≤ x.toInt) (h1 : x.toInt < (b : Int)) : ∃ n : Nat, n < b ∧ x = nI n := by
  have a0 : ¬ x < 0 := by rw [fa_lt, show (0 : Int32).toInt = 0 from rfl]; omega
  have e := cl_int a0
  exact ⟨x.toNatClampNeg, by omega, cl_eq a0⟩
theorem off_eq {a b : Int32} (h1 : -20000 ≤ a.toInt) (h2 : a.toInt ≤ 20000) (h3 : -20000 ≤ b.toInt) (h4 : b.toInt ≤ 20000) : (if 0 ≤ a - b then a - b else 0 - (a - b)) = f_X8_off a b ∧ ∃ m : Nat, (m : Int) = (a.toInt - b.toInt).natAbs ∧ f_X8_off a b = nI m := by
  have e0 : (0 : Int32).toInt = 0 := rfl
  have e : (a - b).toInt = a.toInt - b.toInt := fb_subI (by omega) (by omega)
  have e' : (b - a).toInt = b.toInt - a.toInt := fb_subI (by omega) (by omega)
  have e2 : (0 - (a - b)).toInt = b.toInt - a.toInt := by
    rw [fb_subI (by rw [e0, e]; omega) (by rw [e0, e]; omega), e0, e]
    omega
  unfold f_X8_off
  by_cases c : a ≤ b
  · rw [if_pos c]
    rw [fa_le] at c
    have hm : b - a = nI (a.toInt - b.toInt).natAbs := by
      rw [fa_eq, e', nI_toInt (by omega)]
      omega
    refine ⟨?_, _, rfl, hm⟩
    by_cases c2 : 0 ≤ a - b
    · rw [if_pos c2]
      rw [fa_le, e0, e] at c2
      rw [fa_eq, e, e']
      omega
    · rw [if_neg c2, fa_eq, e2, e']
  · rw [if_neg c]
    rw [fa_le] at c
    have hm : a - b = nI (a.toInt - b.toInt).natAbs := by
      rw [fa_eq, e, nI_toInt (by omega)]
      omega
    refine ⟨?_, _, rfl, hm⟩
    rw [if_pos]
    rw [fa_le, e0, e]
    omega
/-- how the two sides hold what is best so far -/
def MtR (n : Nat) (u : Int32) (v : Int32 × Int32) : Prop := (u = 2147483647 ∧ v = (-1, -1)) ∨ ∃ b t : Nat, b < 10000 ∧ t < n ∧ u = nI (b * 100 + t) ∧ v = (nI t, nI b)
theorem neg1 {n : Nat} (h : n < 2 ^ 31) : ¬ nI n = -1 := by
  rw [fa_eq, nI_toInt h, show (-1 : Int32).toInt = -1 from rfl]
  omega
theorem mt_it (h : Sh L M) (r : Row L (F.2 0) (M.2 9)) (hp : p < nP L) (hq : q < nP L) (hd : d < nD L) (wp : M.2 9 (8 + p) = 0) (wq : M.2 9 (8 + q) = 0) (y1 : -199 ≤ y.toInt) (y2 : y.toInt ≤ 199) : ∀ n : Nat, n ≤ 100 → MtR n (it_X7_meet_85 T L F (nI p) (nI q) (nI d) y z 2147483647 n) (it_X8_meet_87 M (nI p) (nI q) (nI d) y z (-1, -1) n)
  | 0, _ => Or.inl ⟨rfl, rfl⟩
  | n + 1, hn => by
    have ih := mt_it h r hp hq hd wp wq y1 y2 n (by omega)
    have h7 := nP_le h.1
    have h4 := nD_le h.1
    show MtR (n + 1) (bd_X7_meet_85 T L F (nI p) (nI q) (nI d) y z n (it_X7_meet_85 T L F (nI p) (nI q) (nI d) y z 2147483647 n)) (bd_X8_meet_87 M (nI p) (nI q) (nI d) y z n (it_X8_meet_87 M (nI p) (nI q) (nI d) y z (-1, -1) n))
    generalize it_X7_meet_85 T L F (nI p) (nI q) (nI d) y z 2147483647 n = u at ih ⊢
    generalize it_X8_meet_87 M (nI p) (nI q) (nI d) y z (-1, -1) n = v at ih ⊢
    unfold bd_X7_meet_85 bd_X7_meet_85_k1 bd_X7_meet_85_k2 bd_X7_meet_85_k3 bd_X8_meet_87 bd_X8_meet_87_k1 bd_X8_meet_87_k2
    obtain ⟨a1, a2, a3, a4, a5⟩ := r.2.1 p hp
    obtain ⟨b1, b2, b3, b4, b5⟩ := r.2.1 q hq
    obtain ⟨c1, c2, c3⟩ := h.2.2.1 d hd
    have lp := (h.2.2.2.1 p hp).2.2.2
    have lq := (h.2.2.2.1 q hq).2.2.2
    rw [eqE h hp, ag_ (by omega), ag_ (by omega), i0 (by omega), i0 (by omega), i1 (by omega), i1 (by omega), a1, b1, c1]
    rw [wp] at a5
    rw [wq] at b5
    have ap := a5.2.resolve_left (by decide)
    have aq := b5.2.resolve_left (by decide)
    obtain ⟨A, hA, eA⟩ := natI (b := 150) ap.1 (by omega)
    obtain ⟨Q, hQ, eQ⟩ := natI (b := 150) aq.1 (by omega)
    obtain ⟨R, hR, eR⟩ := natI (x := L.2 0 d) (b := 201) (by omega) (by omega)
    have hmul : n * R ≤ 99 * 200 := Nat.mul_le_mul (by omega) (by omega)
    rw [eA, eQ, eR, mulI, addI]
    have keep : MtR (n + 1) u v := by
      rcases ih with ih | ⟨b, t, k1, k2, k3⟩
      · exact Or.inl ih
      · exact Or.inr ⟨b, t, k1, by omega, k3⟩
    have hv : (v.1, v.2) = v := rfl
    generalize n * R = nR at hmul ⊢
    by_cases ce : L.2 2 p ≤ nI (A + nR)
    · rw [if_pos ce, if_pos ce]
      exact keep
    · rw [if_neg ce, if_neg ce]
      rw [fa_le, nI_toInt (by omega)] at ce
      have es : (nI (A + nR) - nI Q).toInt = ((A + nR : Nat) : Int) - (Q : Int) := by
        rw [fb_subI, nI_toInt (by omega), nI_toInt (by omega)]
        · rw [nI_toInt (by omega), nI_toInt (by omega)]; omega
        · rw [nI_toInt (by omega), nI_toInt (by omega)]; omega
      obtain ⟨o1, m, o2, o3⟩ := off_eq (a := nI (A + nR) - nI Q) (b := y) (by rw [es]; omega) (by rw [es]; omega) (by omega) (by omega)
      rw [es] at o2
      rw [o1, o3, show (100 : Int32) = nI 100 from rfl, mulI, addI]
      have hm : m < 1000 := by omega
      rcases ih with ⟨k1, k2⟩ | ⟨b, t, k1, k2, k3, k4⟩
      · rw [k1, k2, if_pos (show nI (m * 100 + n) < 2147483647 from nI_lt (b := 2147483647) (by omega) (by decide)), if_pos (show ((-1 : Int32), (-1 : Int32)).1 = -1 from rfl)]
        exact Or.inr ⟨m, n, by omega, by omega, rfl, rfl⟩
      · rw [k3, k4]
        rw [if_neg (show ¬ (nI t, nI b).1 = -1 from neg1 (by omega))]
        by_cases cb : b ≤ m
        · rw [if_neg (nI_nlt (by omega) (by omega)), if_pos (show (nI t, nI b).2 ≤ nI m from nI_le cb (by omega))]
          exact Or.inr ⟨b, t, by omega, by omega, rfl, rfl⟩
        · rw [if_pos (nI_lt (by omega) (by omega)), if_neg (show ¬ (nI t, nI b).2 ≤ nI m from nI_ge (by omega) (by omega))]
          exact Or.inr ⟨m, n, by omega, by omega, rfl, rfl⟩
theorem two_ (h : Sh L M) (T : St) : f_X7_areTwoPersons T L x y = if f_X8_isPerson M x = 0 then 0 else if f_X8_isPerson M y = 0 then 0 else if x = y then 0 else 1 := by
  unfold f_X7_areTwoPersons
  rw [eqP h, eqP h]
theorem q_meet (h : Sh L M) (r : Row L (F.2 0) (M.2 9)) {x1 x2 x3 x4 x5 : Int32} : f_X7_meet T L F x1 x2 x3 x4 x5 = f_X8_meet M x1 x2 x3 x4 x5 := by
  unfold f_X7_meet f_X8_meet
  rw [two_ h, eqD h]
  by_cases c1 : f_X8_isPerson M x1 = 0
  · rw [if_pos c1, if_pos c1, if_pos rfl]
  rw [if_neg c1, if_neg c1]
  by_cases c2 : f_X8_isPerson M x2 = 0
  · rw [if_pos c2, if_pos c2, if_pos rfl]
  rw [if_neg c2, if_neg c2]
  by_cases c3 : x1 = x2
  · rw [if_pos c3, if_pos c3, if_pos rfl]
  rw [if_neg c3, if_neg c3, if_neg ne10]
  by_cases c4 : f_X5_hasDepth L x3 = 0
  · rw [if_pos c4, if_pos c4]
  rw [if_neg c4, if_neg c4]
  by_cases c5 : x4 < -199
  · rw [if_pos c5, in_0 (Or.inl c5), if_pos rfl]
  rw [if_neg c5]
  by_cases c6 : 199 < x4
  · rw [if_pos c6, in_0 (Or.inr c6), if_pos rfl]
  rw [if_neg c6, in_1 c5 c6, if_neg ne10]
  by_cases c7 : x5 < 0
  · rw [if_pos c7, in_0 (Or.inl c7), if_pos rfl]
  rw [if_neg c7]
  by_cases c8 : x5 ≤ 1
  · rw [if_pos c8, in_1 c7 (Int32.not_lt.mpr c8), if_neg ne10]
    rw [eqP h] at c1 c2
    obtain ⟨p, hp, rfl⟩ := hasP c1
    obtain ⟨q, hq, rfl⟩ := hasP c2
    obtain ⟨d, hd, rfl⟩ := hasD c4
    have h7 := nP_le h.1
    rw [eqA h r hp, eqA h r hq]
    by_cases c9 : f_X3_isAbove F (nI p) = 0
    · rw [if_pos c9, if_pos c9]
    rw [if_neg c9, if_neg c9]
    by_cases c10 : f_X3_isAbove F (nI q) = 0
    · rw [if_pos c10, if_pos c10]
    rw [if_neg c10, if_neg c10]
    rw [ab_ (by omega), (r.2.1 p hp).2.1] at c9
    rw [ab_ (by omega), (r.2.1 q hq).2.1] at c10
    have wp : M.2 9 (8 + p) = 0 := Classical.byContradiction (fun k => c9 (if_neg k))
    have wq : M.2 9 (8 + q) = 0 := Classical.byContradiction (fun k => c10 (if_neg k))
    rw [fa_lt, show (-199 : Int32).toInt = -199 from rfl] at c5
    rw [fa_lt, show (199 : Int32).toInt = 199 from rfl] at c6
    have s := mt_it (T := T) (z := x5) h r hp hq hd wp wq (y := x4) (by omega) (by omega) 100 (Nat.le_refl _)
    generalize it_X7_meet_85 T L F (nI p) (nI q) (nI d) x4 x5 2147483647 100 = u at s ⊢
    generalize it_X8_meet_87 M (nI p) (nI q) (nI d) x4 x5 (-1, -1) 100 = v at s ⊢
    unfold f_X7_meet_k1 f_X8_meet_k1
    rcases s with ⟨k1, k2⟩ | ⟨b, t, k1, k2, k3, k4⟩
    · rw [k1, k2, if_pos rfl]
      show (-1 : Int32) = if x5 = 0 then -1 else -1
      split <;> rfl
    · rw [k3, k4, if_neg (show ¬ nI (b * 100 + t) = 2147483647 from fun k => by
        have := (inj_nI (b := 2147483647) (by omega) (by decide)).mp k
        omega), show (100 : Int32) = nI 100 from rfl, pk_rem (by omega) (by decide) (by decide), pk_div (by omega) (by decide) (by decide), show (b * 100 + t) % 100 = t by omega, show (b * 100 + t) / 100 = b by omega]
  · rw [if_neg c8, in_0 (Or.inr (nle_lt c8)), if_pos rfl]
end Meet
