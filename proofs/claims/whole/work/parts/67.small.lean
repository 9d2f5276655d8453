section Small
variable {T X L F P I N B M M' : St} {x y z : Int32} {j d p g : Nat}
/-- the text of the two sides -/
def RTx (X M : St) : Prop := ∃ c : Nat, c ≤ 240 ∧ X.1 0 = nI c ∧ M.1 0 = nI c ∧ ∀ k : Nat, k < c → X.2 0 k = M.2 0 k ∧ ∃ n : Nat, n < 256 ∧ M.2 0 k = nI n
theorem RTx_s (a : M'.1 0 = M.1 0) (b : M'.2 0 = M.2 0) (h : RTx X M) : RTx X M' := by
  unfold RTx at h ⊢
  rw [a, b]
  exact h
theorem r_feed (h : RTx X M) : (f_X7_feed T X x).1 = (f_X8_feed M x).1 ∧ RTx (f_X7_feed T X x).2 (f_X8_feed M x).2 ∧ Same [0] [0] M (f_X8_feed M x).2 ∧ (f_X7_feed T X x).2.1 3 = X.1 3 := by
  have h' := h
  obtain ⟨c, hc, a, b, q⟩ := h
  unfold f_X7_feed f_X8_feed
  by_cases c1 : x < 0
  · rw [if_pos c1, in_0 (Or.inl c1), if_pos rfl]
    exact ⟨rfl, h', Same_rf M, rfl⟩
  rw [if_neg c1]
  by_cases c2 : x ≤ 255
  · rw [if_pos c2, in_1 c1 (Int32.not_lt.mpr c2), if_neg ne10, a, b]
    by_cases c3 : c = 240
    · rw [if_neg (by rw [c3]; decide), if_pos (by rw [c3]; rfl)]
      exact ⟨rfl, h', Same_rf M, rfl⟩
    · rw [if_pos (show nI c < 240 from nI_lt (b := 240) (by omega) (by omega)), if_neg (show ¬ nI c = 240 from fun k => c3 ((inj_nI (b := 240) (by omega) (by omega)).mp k))]
      unfold f_X7_feed_k1 f_X6_add
      rw [a, if_neg (show ¬ 240 ≤ nI c from nI_ge (b := 240) (by omega) (by omega)), clI (by omega), show nI c + 1 = nI (c + 1) from addI c 1]
      refine ⟨?_, ⟨c + 1, by omega, ?_, ?_, fun k hk => ?_⟩, ?_, ?_⟩
      · show (sI X 0 (nI (c + 1))).1 0 = nI (c + 1)
        exact sI_eq
      · show (sI X 0 (nI (c + 1))).1 0 = nI (c + 1)
        exact sI_eq
      · show (sI (sA M 0 (upd (M.2 0) c x)) 0 (nI (c + 1))).1 0 = nI (c + 1)
        exact sI_eq
      · show (sA (sI X 0 (nI (c + 1))) 0 (upd (X.2 0) c x)).2 0 k = (sA M 0 (upd (M.2 0) c x)).2 0 k ∧ ∃ n : Nat, n < 256 ∧ (sA M 0 (upd (M.2 0) c x)).2 0 k = nI n
        rw [sA_eq, sA_eq]
        by_cases e : k = c
        · subst e
          rw [us, us]
          have ei := cl_int c1
          rw [fa_le, show (255 : Int32).toInt = 255 from rfl] at c2
          exact ⟨rfl, x.toNatClampNeg, by omega, cl_eq c1⟩
        · rw [un e, un e]
          exact q k (by omega)
      · exact Same_t (Same_A (List.mem_singleton.mpr rfl)) (Same_I (List.mem_singleton.mpr rfl))
      · show (sI X 0 (nI (c + 1))).1 3 = X.1 3
        exact sI_ne (by decide)
  · rw [if_neg c2, in_0 (Or.inr (nle_lt c2)), if_pos rfl]
    exact ⟨rfl, h', Same_rf M, rfl⟩
/-- behind how much is a good's worth -/
def Wt (L : St) (g d t : Nat) : Int32 := wth L (nI g) (t * (L.2 0 d).toNatClampNeg) (L.2 3 g)
def Ctd (L N : St) : Prop := ∀ g d t : Nat, g < nG L → d < nD L → t < 31 → N.2 (4 + g) (31 * d + t) = Wt L g d t
/-- does a stay fit the first c of what was found -/
def fitV (L N : St) (d t k : Nat) : Int32 := if N.2 0 k = 0 then Wt L (N.2 1 k).toNatClampNeg d t else f_X5_kingAt L (nI t * L.2 0 d)
def fitB (L N : St) (c d t : Nat) : Bool := (List.range c).all (fun k => decide (fitV L N d t k = N.2 2 k))
def rowL (Q : Nat → Nat → Bool) (d : Nat) : Nat → List (Nat × Nat)
  | 0 => []
  | t + 1 => rowL Q d t ++ (if Q d t then [(d, t)] else [])
def allL (Q : Nat → Nat → Bool) : Nat → List (Nat × Nat)
  | 0 => []
  | d + 1 => allL Q d ++ rowL Q d 31
def HoC (N : St) (l : List (Nat × Nat)) : Prop := N.1 2 = nI l.length ∧ ∀ i d t : Nat, l[i]? = some (d, t) → N.2 3 i = nI (100 * d + t)
/-- what was found, the two sides -/
def RFi (L N M : St) : Prop := ∃ c : Nat, c ≤ 6 ∧ N.1 0 = nI c ∧ M.1 4 = nI c ∧ (∀ k : Nat, k < c → N.2 0 k = M.2 14 (3 * k) ∧ N.2 1 k = M.2 14 (3 * k + 1) ∧ N.2 2 k = M.2 14 (3 * k + 2) ∧ (M.2 14 (3 * k) = 0 → ∃ g : Nat, g < nG L ∧ M.2 14 (3 * k + 1) = nI g)) ∧
  (¬ N.1 1 = 0 → Ctd L N) ∧ (¬ N.1 3 = 0 → ¬ N.1 1 = 0 ∧ HoC N (allL (fitB L N c) (nD L)))
theorem RFi_s (a : M'.1 4 = M.1 4) (b : M'.2 14 = M.2 14) (h : RFi L N M) : RFi L N M' := by
  unfold RFi at h ⊢
  rw [a, b]
  exact h
theorem sAB_ne {S : St} {a b k : Nat} {f g : Nat → Int32} (h : k ≠ a) (h2 : k ≠ b) : (sA (sA S a f) b g).2 k = S.2 k := by rw [sA_ne h2, sA_ne h]
theorem q_add {c : Nat} (hc : c < 6) (h : RFi L N M) (hM : M.1 4 = nI c) (hx : x = 0 → ∃ g : Nat, g < nG L ∧ y = nI g) : (f_X1_add N x y z).1 0 = nI (c + 1) ∧ RFi L (f_X1_add N x y z) (sI (sA M 14 (upd (upd (upd (M.2 14) (3 * c) x) (3 * c + 1) y) (3 * c + 2) z)) 4 (nI (c + 1))) := by
  obtain ⟨c', hc', a, b, q, q2, q3⟩ := h
  have e : c' = c := (inj_nI (by omega) (by omega)).mp (b.symm.trans hM)
  subst e
  unfold f_X1_add
  rw [a, if_neg (show ¬ 6 ≤ nI c' from nI_ge (b := 6) hc (by omega)), clI (by omega), show nI c' + 1 = nI (c' + 1) from addI c' 1]
  have e0 : (sI (sI N 0 (nI (c' + 1))) 3 0).1 0 = nI (c' + 1) := by rw [sI_ne (by decide), sI_eq]
  refine ⟨e0, c' + 1, by omega, e0, sI_eq, fun k hk => ?_, fun n => ?_, fun n => ?_⟩
  · show (sA (sA (sA (sI (sI N 0 (nI (c' + 1))) 3 0) 0 (upd (N.2 0) c' x)) 1 (upd (N.2 1) c' y)) 2 (upd (N.2 2) c' z)).2 0 k = (sA M 14 (upd (upd (upd (M.2 14) (3 * c') x) (3 * c' + 1) y) (3 * c' + 2) z)).2 14 (3 * k) ∧ (sA (sA (sA (sI (sI N 0 (nI (c' + 1))) 3 0) 0 (upd (N.2 0) c' x)) 1 (upd (N.2 1) c' y)) 2 (upd (N.2 2) c' z)).2 1 k = (sA M 14 (upd (upd (upd (M.2 14) (3 * c') x) (3 * c' + 1) y) (3 * c' + 2) z)).2 14 (3 * k + 1) ∧ (sA (sA (sA (sI (sI N 0 (nI (c' + 1))) 3 0) 0 (upd (N.2 0) c' x)) 1 (upd (N.2 1) c' y)) 2 (upd (N.2 2) c' z)).2 2 k = (sA M 14 (upd (upd (upd (M.2 14) (3 * c') x) (3 * c' + 1) y) (3 * c' + 2) z)).2 14 (3 * k + 2) ∧ ((sA M 14 (upd (upd (upd (M.2 14) (3 * c') x) (3 * c' + 1) y) (3 * c' + 2) z)).2 14 (3 * k) = 0 → ∃ g : Nat, g < nG L ∧ (sA M 14 (upd (upd (upd (M.2 14) (3 * c') x) (3 * c' + 1) y) (3 * c' + 2) z)).2 14 (3 * k + 1) = nI g)
    rw [sAB_ne (by decide) (by decide), sA_eq, sA_ne (show (1 : Nat) ≠ 2 by decide), sA_eq, sA_eq, sA_eq]
    by_cases e : k = c'
    · subst e
      rw [us, us, us, us, un (show 3 * k ≠ 3 * k + 2 by omega), un (show 3 * k ≠ 3 * k + 1 by omega), us, un (show 3 * k + 1 ≠ 3 * k + 2 by omega), us]
      exact ⟨rfl, rfl, rfl, hx⟩
    · rw [un e, un e, un e, un (show 3 * k ≠ 3 * c' + 2 by omega), un (show 3 * k ≠ 3 * c' + 1 by omega), un (show 3 * k ≠ 3 * c' by omega), un (show 3 * k + 1 ≠ 3 * c' + 2 by omega), un (show 3 * k + 1 ≠ 3 * c' + 1 by omega), un (show 3 * k + 1 ≠ 3 * c' by omega), un (show 3 * k + 2 ≠ 3 * c' + 2 by omega), un (show 3 * k + 2 ≠ 3 * c' + 1 by omega), un (show 3 * k + 2 ≠ 3 * c' by omega)]
      exact q k (by omega)
  · have n' : ¬ N.1 1 = 0 := fun k => n (by
      show (sI (sI N 0 (nI (c' + 1))) 3 0).1 1 = 0
      rw [sI_ne (by decide), sI_ne (by decide)]
      exact k)
    intro g d t hg hd ht
    show (sA (sA (sA (sI (sI N 0 (nI (c' + 1))) 3 0) 0 (upd (N.2 0) c' x)) 1 (upd (N.2 1) c' y)) 2 (upd (N.2 2) c' z)).2 (4 + g) (31 * d + t) = _
    rw [sA_ne (by omega), sA_ne (by omega), sA_ne (by omega)]
    exact q2 n' g d t hg hd ht
  · exact absurd (show (sI (sI N 0 (nI (c' + 1))) 3 0).1 3 = 0 from sI_eq) n
theorem find6 {c : Nat} (hc : c ≤ 6) : (nI c < 6) ↔ ¬ nI c = 6 := by
  rw [show (6 : Int32) = nI 6 from rfl, nI_ltI (by omega) (by omega), inj_nI (by omega) (by omega)]
  omega
theorem q_end (h : RFi L N M) (hx : x = 0 → ∃ g : Nat, g < nG L ∧ y = nI g) {k : St → Int32 × St} (hk : k = fun w => (w.1 0, w)) : 
    (if z < 0 then ((-1000000002), N) else if z ≤ 9999 then (if N.1 0 < 6 then k (f_X1_add N x y z) else ((-1000000004), N)) else ((-1000000002), N)).1 = (if f_X8_in z 0 9999 = 0 then ((-1000000002), M) else if M.1 4 = 6 then ((-1000000004), M) else (M.1 4 + 1, (sI (sA M 14 (upd (upd (upd (M.2 14) ((3 * (M.1 4) : Int32)).toNatClampNeg x) (((3 * (M.1 4)) + 1 : Int32)).toNatClampNeg y) (((3 * (M.1 4)) + 2 : Int32)).toNatClampNeg z)) 4 (M.1 4 + 1)))).1 ∧
    RFi L (if z < 0 then ((-1000000002 : Int32), N) else if z ≤ 9999 then (if N.1 0 < 6 then k (f_X1_add N x y z) else ((-1000000004), N)) else ((-1000000002), N)).2 (if f_X8_in z 0 9999 = 0 then ((-1000000002 : Int32), M) else if M.1 4 = 6 then ((-1000000004), M) else (M.1 4 + 1, (sI (sA M 14 (upd (upd (upd (M.2 14) ((3 * (M.1 4) : Int32)).toNatClampNeg x) (((3 * (M.1 4)) + 1 : Int32)).toNatClampNeg y) (((3 * (M.1 4)) + 2 : Int32)).toNatClampNeg z)) 4 (M.1 4 + 1)))).2 ∧
    Same [4] [14] M (if f_X8_in z 0 9999 = 0 then ((-1000000002 : Int32), M) else if M.1 4 = 6 then ((-1000000004), M) else (M.1 4 + 1, (sI (sA M 14 (upd (upd (upd (M.2 14) ((3 * (M.1 4) : Int32)).toNatClampNeg x) (((3 * (M.1 4)) + 1 : Int32)).toNatClampNeg y) (((3 * (M.1 4)) + 2 : Int32)).toNatClampNeg z)) 4 (M.1 4 + 1)))).2 := by
  have h' := h
  obtain ⟨c, hc, a, b, -⟩ := h
  subst hk
  by_cases c1 : z < 0
  · rw [if_pos c1, in_0 (Or.inl c1), if_pos rfl]
    exact ⟨rfl, h', Same_rf M⟩
  rw [if_neg c1]
  by_cases c2 : z ≤ 9999
  · rw [if_pos c2, in_1 c1 (Int32.not_lt.mpr c2), if_neg ne10, a, b]
    by_cases c3 : nI c = 6
    · rw [if_pos c3, if_neg (fun k => (find6 hc).mp k c3)]
      exact ⟨rfl, h', Same_rf M⟩
    · rw [if_neg c3, if_pos ((find6 hc).mpr c3)]
      have hlt : c < 6 := by
        rcases Nat.lt_or_ge c 6 with k | k
        · exact k
        · exact absurd (by rw [show c = 6 by omega]; rfl) c3
      rw [t0 (by omega), t1 (by omega), t2 (by omega), show nI c + 1 = nI (c + 1) from addI c 1]
      obtain ⟨u1, u2⟩ := q_add (z := z) hlt h' b hx
      exact ⟨u1, u2, Same_t (Same_A (List.mem_singleton.mpr rfl)) (Same_I (List.mem_singleton.mpr rfl))⟩
  · rw [if_neg c2, in_0 (Or.inr (nle_lt c2)), if_pos rfl]
    exact ⟨rfl, h', Same_rf M⟩
theorem r_find (hs : Sh L M) (h : RFi L N M) : (f_X7_find T L N x y z).1 = (f_X8_find M x y z).1 ∧ RFi L (f_X7_find T L N x y z).2 (f_X8_find M x y z).2 ∧ Same [4] [14] M (f_X8_find M x y z).2 := by
  unfold f_X7_find f_X8_find
  rw [eqG hs]
  by_cases c0 : x = 0
  · subst c0
    rw [if_pos rfl, if_pos rfl]
    by_cases c1 : f_X5_hasGood L y = 0
    · rw [if_pos c1, if_pos c1]
      exact ⟨rfl, h, Same_rf M⟩
    · rw [if_neg c1, if_neg c1, if_neg (show ¬ (0 : Int32) < 0 by decide), if_neg (show ¬ (1 : Int32) < 0 by decide), if_neg (show ¬ (0 : Int32) = 1 by decide), in_1 (show ¬ (0 : Int32) < 0 by decide) (show ¬ (1 : Int32) < 0 by decide), if_neg ne10, if_neg (show ¬ (0 : Int32) = 1 by decide)]
      exact q_end h (fun _ => hasG c1) rfl
  · rw [if_neg c0, if_neg c0]
    by_cases c1 : x = 1
    · subst c1
      rw [if_neg (show ¬ (1 : Int32) < 0 by decide), if_neg (show ¬ (1 : Int32) < 1 by decide), if_pos (show (1 : Int32) = 1 from rfl), in_1 (show ¬ (1 : Int32) < 0 by decide) (show ¬ (1 : Int32) < 1 by decide), if_neg ne10, if_pos (show (1 : Int32) = 1 from rfl)]
      by_cases c2 : y = 0
      · rw [if_pos c2, if_pos c2]
        exact q_end h (fun e => absurd e ne10) rfl
      · rw [if_neg c2, if_neg c2]
        exact ⟨rfl, h, Same_rf M⟩
    · have q : x < 0 ∨ 1 < x := by
        rw [fa_eq] at c0 c1
        rw [fa_lt, fa_lt]
        have e0 : (0 : Int32).toInt = 0 := rfl
        have e1 : (1 : Int32).toInt = 1 := rfl
        omega
      rw [in_0 q, if_pos rfl]
      by_cases c2 : x < 0
      · rw [if_pos c2]
        exact ⟨rfl, h, Same_rf M⟩
      · rw [if_neg c2, if_pos (q.resolve_left c2)]
        exact ⟨rfl, h, Same_rf M⟩
theorem RB_s (a : M'.1 5 = M.1 5) (b : M'.2 15 = M.2 15) (h : RB L B M) : RB L B M' := by
  unfold RB at h ⊢
  rw [a, b]
  exact h
theorem r_write (hs : Sh L M) (h : RB L B M) : (f_X7_write T L B x y).1 = (f_X8_write M x y).1 ∧ RB L (f_X7_write T L B x y).2 (f_X8_write M x y).2 ∧ Same [5] [15] M (f_X8_write M x y).2 := by
  unfold f_X7_write f_X8_write
  rw [eqP hs]
  by_cases c0 : f_X5_hasPerson L x = 0
  · rw [if_pos c0, if_pos c0]
    exact ⟨rfl, h, Same_rf M⟩
  rw [if_neg c0, if_neg c0]
  by_cases c1 : y < 0
  · rw [if_pos c1, in_0 (Or.inl c1), if_pos rfl]
    exact ⟨rfl, h, Same_rf M⟩
  rw [if_neg c1]
  by_cases c2 : y ≤ 9999
  · rw [if_pos c2, in_1 c1 (Int32.not_lt.mpr c2), if_neg ne10]
    have hc := RB_le h
    have e : M.1 5 = nI (M.1 5).toNatClampNeg := cl_eq h.2.1
    have h0 := h.1
    have q := h.2.2.2
    generalize (M.1 5).toNatClampNeg = c at hc e q
    rw [h0, e]
    by_cases c3 : c = 15
    · rw [if_neg (by rw [c3]; decide), if_pos (by rw [c3]; rfl)]
      exact ⟨rfl, h, Same_rf M⟩
    · rw [if_pos (show nI c < 15 from nI_lt (b := 15) (by omega) (by omega)), if_neg (show ¬ nI c = 15 from fun k => c3 ((inj_nI (b := 15) (by omega) (by omega)).mp k))]
      unfold f_X7_write_k1 f_X0_add
      rw [h0, e, if_neg (show ¬ 15 ≤ nI c from nI_ge (b := 15) (by omega) (by omega)), clI (by omega), d0 (by omega), d1 (by omega), show nI c + 1 = nI (c + 1) from addI c 1]
      have m5 : (sI (sA M 15 (upd (upd (M.2 15) (2 * c) x) (2 * c + 1) y)) 5 (nI (c + 1))).1 5 = nI (c + 1) := sI_eq
      refine ⟨?_, ⟨?_, ?_, ?_, fun k hk => ?_⟩, ?_⟩
      · show (sI B 0 (nI (c + 1))).1 0 = nI (c + 1)
        exact sI_eq
      · show (sI B 0 (nI (c + 1))).1 0 = (sI (sA M 15 (upd (upd (M.2 15) (2 * c) x) (2 * c + 1) y)) 5 (nI (c + 1))).1 5
        rw [m5, sI_eq]
      · show ¬ (sI (sA M 15 (upd (upd (M.2 15) (2 * c) x) (2 * c + 1) y)) 5 (nI (c + 1))).1 5 < 0
        rw [m5]
        exact nI_pos (by omega)
      · show (sI (sA M 15 (upd (upd (M.2 15) (2 * c) x) (2 * c + 1) y)) 5 (nI (c + 1))).1 5 ≤ 15
        rw [m5]
        exact nI_le (b := 15) (by omega) (by omega)
      · have hk' : k < c + 1 := by
          have : k < ((sI (sA M 15 (upd (upd (M.2 15) (2 * c) x) (2 * c + 1) y)) 5 (nI (c + 1))).1 5).toNatClampNeg := hk
          rw [m5, clI (by omega)] at this
          exact this
        show (sA (sA (sI B 0 (nI (c + 1))) 0 (upd (B.2 0) c x)) 1 (upd (B.2 1) c y)).2 0 k = (sA M 15 (upd (upd (M.2 15) (2 * c) x) (2 * c + 1) y)).2 15 (2 * k) ∧ (sA (sA (sI B 0 (nI (c + 1))) 0 (upd (B.2 0) c x)) 1 (upd (B.2 1) c y)).2 1 k = (sA M 15 (upd (upd (M.2 15) (2 * c) x) (2 * c + 1) y)).2 15 (2 * k + 1) ∧ ∃ p : Nat, p < nP L ∧ (sA M 15 (upd (upd (M.2 15) (2 * c) x) (2 * c + 1) y)).2 15 (2 * k) = nI p
        rw [sA_ne (show (0 : Nat) ≠ 1 by decide), sA_eq, sA_eq, sA_eq]
        by_cases ek : k = c
        · subst ek
          rw [us, us, us, un (show 2 * k ≠ 2 * k + 1 by omega), us]
          exact ⟨rfl, rfl, hasP c0⟩
        · rw [un ek, un ek, un (show 2 * k ≠ 2 * c + 1 by omega), un (show 2 * k ≠ 2 * c by omega), un (show 2 * k + 1 ≠ 2 * c + 1 by omega), un (show 2 * k + 1 ≠ 2 * c by omega)]
          exact q k (by omega)
      · exact Same_t (Same_A (List.mem_singleton.mpr rfl)) (Same_I (List.mem_singleton.mpr rfl))
  · rw [if_neg c2, in_0 (Or.inr (nle_lt c2)), if_pos rfl]
    exact ⟨rfl, h, Same_rf M⟩
theorem RFi_0 (hc : ¬ N.1 1 = 0 → Ctd L N) (h0 : N.1 0 = 0) (h3 : N.1 3 = 0) (hM : M.1 4 = 0) : RFi L N M := ⟨0, by omega, h0, hM, fun k hk => absurd hk (Nat.not_lt_zero k), hc, fun n => absurd h3 n⟩
theorem RB_0 (h0 : B.1 0 = 0) (hM : M.1 5 = 0) : RB L B M := by
  refine ⟨by rw [h0, hM], by rw [hM]; decide, by rw [hM]; decide, fun k hk => ?_⟩
  rw [hM] at hk
  exact absurd hk (Nat.not_lt_zero k)
theorem r_tear (h : RFi L N M) (h2 : RB L B M) : (f_X7_tear T N B).1 = (f_X8_tear M).1 ∧ RFi L (f_X7_tear T N B).2.1 (f_X8_tear M).2 ∧ RB L (f_X7_tear T N B).2.2 (f_X8_tear M).2 ∧ Same [4, 5] [] M (f_X8_tear M).2 := by
  obtain ⟨c, hc, a, b, q, q2, q3⟩ := h
  unfold f_X7_tear f_X7_tear_k1 f_X7_tear_k2 f_X8_tear f_X1_empty f_X0_empty
  refine ⟨?_, RFi_0 (fun n => ?_) ?_ ?_ ?_, RB_0 sI_eq sI_eq, Same_t (Same_I (by decide)) (Same_I (by decide))⟩
  · show N.1 0 + B.1 0 = M.1 4 + M.1 5
    rw [a, b, h2.1]
  · have n' : ¬ N.1 1 = 0 := fun k => n (by rw [sI_ne (by decide), sI_ne (by decide)]; exact k)
    exact q2 n'
  · rw [sI_ne (by decide), sI_eq]
  · exact sI_eq
  · show (sI (sI M 4 0) 5 0).1 4 = 0
    rw [sI_ne (by decide), sI_eq]
theorem r_seed (t : T.1 0 = M.1 3) : (f_X7_seed T x).1 = (f_X8_seed M x).1 ∧ (f_X7_seed T x).2.1 0 = (f_X8_seed M x).2.1 3 ∧ Same [3] [] M (f_X8_seed M x).2 := by
  unfold f_X7_seed f_X8_seed
  by_cases c : 0 ≤ x
  · rw [if_pos c, if_pos c]
    refine ⟨t, ?_, Same_I (List.mem_singleton.mpr rfl)⟩
    rw [sI_eq, sI_eq]
  · rw [if_neg c, if_neg c]
    exact ⟨rfl, t, Same_rf M⟩
/-- the images of the two sides -/
def RIm (L I M : St) : Prop := ∀ i : Nat, i < 2 → I.2 1 i = M.2 13 i ∧ (¬ M.2 13 i = 0 → I.2 0 i = M.2 12 i ∧ RowB L (I.2 (2 + i)) (fun c => M.2 11 (35 * i + c)))
theorem RIm_s (a : M'.2 11 = M.2 11) (b : M'.2 12 = M.2 12) (c : M'.2 13 = M.2 13) (h : RIm L I M) : RIm L I M' := by
  unfold RIm at h ⊢
  rw [a, b, c]
  exact h
theorem RPa_0 (h : RPa L P M) {P' : St} (hP : P'.1 0 = P.1 0) (h1 : P'.1 1 = 0) (h2 : M'.1 2 = 0) : RPa L P' M' := by
  obtain ⟨n, c, hn, hc, h0, -⟩ := h
  exact ⟨n, 0, hn, by omega, by rw [hP]; exact h0, h1, h2, fun k hk => absurd hk (Nat.not_lt_zero k)⟩
theorem hasPl : f_X2_hasPlace I x = f_X8_in x 0 1 := by
  unfold f_X2_hasPlace f_X8_in
  by_cases c : x < 0
  · rw [if_pos c, if_pos c]
  · rw [if_neg c, if_neg c]
    by_cases c2 : 2 ≤ x
    · rw [if_pos c2, if_pos]
      rw [fa_le, show (2 : Int32).toInt = 2 from rfl] at c2
      rw [fa_lt, show (1 : Int32).toInt = 1 from rfl]
      omega
    · rw [if_neg c2, if_neg]
      rw [fa_le, show (2 : Int32).toInt = 2 from rfl] at c2
      rw [fa_lt, show (1 : Int32).toInt = 1 from rfl]
      omega
theorem in01 (h : ¬ f_X8_in x 0 1 = 0) : ∃ i : Nat, i < 2 ∧ x = nI i := by
  obtain ⟨a, b⟩ := in_of h
  have e := cl_int a
  rw [fa_lt, show (1 : Int32).toInt = 1 from rfl] at b
  exact ⟨x.toNatClampNeg, by omega, cl_eq a⟩
theorem kp14 {i : Nat} {u : St} (hi : i < 2) : ∀ n : Nat, n ≤ 35 → Same [] [11] u (it_X8_keep_14 (nI i) u n) ∧ (∀ k : Nat, k < n → (it_X8_keep_14 (nI i) u n).2 11 (35 * i + k) = u.2 9 k) ∧ ∀ k : Nat, (k < 35 * i ∨ 35 * i + 35 ≤ k) → (it_X8_keep_14 (nI i) u n).2 11 k = u.2 11 k
  | 0, _ => ⟨Same_rf u, fun k hk => absurd hk (Nat.not_lt_zero k), fun i _ => rfl⟩
  | n + 1, h => by
    obtain ⟨a, b, b2⟩ := kp14 (u := u) hi n (by omega)
    show Same [] [11] u (bd_X8_keep_14 (nI i) n (it_X8_keep_14 (nI i) u n)) ∧ (∀ k : Nat, k < n + 1 → (bd_X8_keep_14 (nI i) n (it_X8_keep_14 (nI i) u n)).2 11 (35 * i + k) = _) ∧ ∀ k : Nat, (k < 35 * i ∨ 35 * i + 35 ≤ k) → (bd_X8_keep_14 (nI i) n (it_X8_keep_14 (nI i) u n)).2 11 k = _
    unfold bd_X8_keep_14
    have e : ((35 * nI i : Int32) + nI n).toNatClampNeg = 35 * i + n := ix (nat_iadd (a := 35 * i) (b := n) (nat_imul (a := 35) (b := i) rfl rfl) rfl) (by omega)
    rw [e, clI (n := n) (by omega), a.2 9 (by decide)]
    refine ⟨Same_t a (Same_A (List.mem_singleton.mpr rfl)), fun k hk => ?_, fun k hk => ?_⟩
    · rw [sA_eq]
      by_cases c : k = n
      · subst c
        rw [us]
      · rw [un (by omega)]
        exact b k (by omega)
    · rw [sA_eq, un (by omega)]
      exact b2 k hk
theorem gb26 {i : Nat} {u : St} (hi : i < 2) : ∀ n : Nat, n ≤ 35 → Same [] [9] u (it_X8_goBack_26 (nI i) u n) ∧ ∀ k : Nat, k < n → (it_X8_goBack_26 (nI i) u n).2 9 k = u.2 11 (35 * i + k)
  | 0, _ => ⟨Same_rf u, fun k hk => absurd hk (Nat.not_lt_zero k)⟩
  | n + 1, h => by
    obtain ⟨a, b⟩ := gb26 (u := u) hi n (by omega)
    show Same [] [9] u (bd_X8_goBack_26 (nI i) n (it_X8_goBack_26 (nI i) u n)) ∧ ∀ k : Nat, k < n + 1 → (bd_X8_goBack_26 (nI i) n (it_X8_goBack_26 (nI i) u n)).2 9 k = _
    unfold bd_X8_goBack_26
    have e : ((35 * nI i : Int32) + nI n).toNatClampNeg = 35 * i + n := ix (nat_iadd (a := 35 * i) (b := n) (nat_imul (a := 35) (b := i) rfl rfl) rfl) (by omega)
    rw [e, clI (n := n) (by omega), a.2 11 (by decide)]
    refine ⟨Same_t a (Same_A (List.mem_singleton.mpr rfl)), fun k hk => ?_⟩
    rw [sA_eq]
    by_cases c : k = n
    · subst c
      rw [us]
    · rw [un (by omega)]
      exact b k (by omega)
theorem r_keep (hs : Sh L M) (r : RowB L (F.2 0) (M.2 9)) (hp : RPa L P M) (hi : RIm L I M) (t : T.1 0 = M.1 3) : (f_X7_keep T F P I x).1 = (f_X8_keep M x).1 ∧ RPa L (f_X7_keep T F P I x).2.1 (f_X8_keep M x).2 ∧ RIm L (f_X7_keep T F P I x).2.2 (f_X8_keep M x).2 ∧ Same [2] [11, 12, 13] M (f_X8_keep M x).2 := by
  unfold f_X7_keep f_X8_keep
  rw [hasPl]
  by_cases c : f_X8_in x 0 1 = 0
  · rw [if_pos c, if_pos c]
    exact ⟨rfl, hp, hi, Same_rf M⟩
  rw [if_neg c, if_neg c]
  unfold f_X7_keep_k1 f_X7_keep_k2 f_X8_keep_k1 f_X4_forget f_X2_put
  rw [hasPl, if_neg c]
  obtain ⟨i, hi2, rfl⟩ := in01 c
  rw [clI (by omega)]
  obtain ⟨a, b, b2⟩ := kp14 (u := M) hi2 35 (by omega)
  generalize it_X8_keep_14 (nI i) M 35 = v at a b b2 ⊢
  have v3 : v.1 3 = M.1 3 := a.1 3 (by decide)
  have v12 : v.2 12 = M.2 12 := a.2 12 (by decide)
  have v13 : v.2 13 = M.2 13 := a.2 13 (by decide)
  rw [v3, v12, v13]
  refine ⟨rfl, RPa_0 hp (sI_ne (by decide)) sI_eq sI_eq, fun k hk => ?_, Same_t (Same_w a (fun k hk => absurd hk List.not_mem_nil) (fun k hk => by rw [List.mem_singleton.mp hk]; decide)) (Same_t (Same_A (by decide)) (Same_t (Same_A (by decide)) (Same_I (by decide))))⟩
  show (sA (sA (sA I (2 + i) (cp35 (F.2 0) (I.2 (2 + i)))) 0 (upd ((sA I (2 + i) (cp35 (F.2 0) (I.2 (2 + i)))).2 0) i (T.1 0))) 1 (upd ((sA I (2 + i) (cp35 (F.2 0) (I.2 (2 + i)))).2 1) i 1)).2 1 k = (sA (sA v 12 (upd (M.2 12) i (M.1 3))) 13 (upd (M.2 13) i 1)).2 13 k ∧ (¬ (sA (sA v 12 (upd (M.2 12) i (M.1 3))) 13 (upd (M.2 13) i 1)).2 13 k = 0 → (sA (sA (sA I (2 + i) (cp35 (F.2 0) (I.2 (2 + i)))) 0 (upd ((sA I (2 + i) (cp35 (F.2 0) (I.2 (2 + i)))).2 0) i (T.1 0))) 1 (upd ((sA I (2 + i) (cp35 (F.2 0) (I.2 (2 + i)))).2 1) i 1)).2 0 k = (sA (sA v 12 (upd (M.2 12) i (M.1 3))) 13 (upd (M.2 13) i 1)).2 12 k ∧ RowB L ((sA (sA (sA I (2 + i) (cp35 (F.2 0) (I.2 (2 + i)))) 0 (upd ((sA I (2 + i) (cp35 (F.2 0) (I.2 (2 + i)))).2 0) i (T.1 0))) 1 (upd ((sA I (2 + i) (cp35 (F.2 0) (I.2 (2 + i)))).2 1) i 1)).2 (2 + k)) (fun c => (sA (sA v 12 (upd (M.2 12) i (M.1 3))) 13 (upd (M.2 13) i 1)).2 11 (35 * k + c)))
  rw [sA_eq, sA_eq, sA_ne (show (0 : Nat) ≠ 1 by decide), sA_eq, sA_ne (show (12 : Nat) ≠ 13 by decide), sA_eq, sA_ne (show (2 + k : Nat) ≠ 1 by omega), sA_ne (show (2 + k : Nat) ≠ 0 by omega), sA_ne (show (11 : Nat) ≠ 13 by decide), sA_ne (show (11 : Nat) ≠ 12 by decide), sA_ne (show (1 : Nat) ≠ 2 + i by omega), sA_ne (show (0 : Nat) ≠ 2 + i by omega)]
  by_cases e : k = i
  · subst e
    rw [us, us, us, us, sA_eq]
    exact ⟨rfl, fun _ => ⟨t, RowB_c hs.1 (fun j hj => cp_lt hj) (fun j hj => b j hj) r⟩⟩
  · rw [un e, un e, un e, un e, sA_ne (show (2 + k : Nat) ≠ 2 + i by omega)]
    refine ⟨(hi k hk).1, fun n => ⟨((hi k hk).2 n).1, RowB_c hs.1 (fun j hj => rfl) (fun j hj => ?_) ((hi k hk).2 n).2⟩⟩
    exact b2 _ (by omega)
theorem r_goBack (hs : Sh L M) (r : RowB L (F.2 0) (M.2 9)) (hp : RPa L P M) (hi : RIm L I M) (t : T.1 0 = M.1 3) : (f_X7_goBack T F P I x).1 = (f_X8_goBack M x).1 ∧ (f_X7_goBack T F P I x).2.1.1 0 = (f_X8_goBack M x).2.1 3 ∧ RowB L ((f_X7_goBack T F P I x).2.2.1.2 0) ((f_X8_goBack M x).2.2 9) ∧ RPa L (f_X7_goBack T F P I x).2.2.2 (f_X8_goBack M x).2 ∧ Same [2, 3] [9] M (f_X8_goBack M x).2 := by
  unfold f_X7_goBack f_X8_goBack
  rw [hasPl]
  by_cases c : f_X8_in x 0 1 = 0
  · rw [if_pos c, if_pos c]
    exact ⟨rfl, t, r, hp, Same_rf M⟩
  rw [if_neg c, if_neg c]
  obtain ⟨i, hi2, rfl⟩ := in01 c
  rw [clI (by omega), (hi i hi2).1]
  by_cases c2 : M.2 13 i = 0
  · rw [if_pos c2, if_pos c2]
    exact ⟨rfl, t, r, hp, Same_rf M⟩
  rw [if_neg c2, if_neg c2]
  unfold f_X7_goBack_k1 f_X8_goBack_k1 f_X4_forget
  rw [clI (by omega)]
  obtain ⟨a, b⟩ := gb26 (u := M) hi2 35 (by omega)
  generalize it_X8_goBack_26 (nI i) M 35 = v at a b ⊢
  have v12 : v.2 12 = M.2 12 := a.2 12 (by decide)
  rw [v12]
  obtain ⟨q1, q2⟩ := (hi i hi2).2 c2
  refine ⟨rfl, ?_, ?_, RPa_0 hp (sI_ne (by decide)) sI_eq sI_eq, Same_t (Same_w a (fun k hk => absurd hk List.not_mem_nil) (fun k hk => hk)) (Same_t (Same_I (by decide)) (Same_I (by decide)))⟩
  · show (sI T 0 (I.2 0 i)).1 0 = (sI (sI v 3 (M.2 12 i)) 2 0).1 3
    rw [sI_eq, sI_ne (by decide), sI_eq, q1]
  · show RowB L ((sA F 0 (cp35 (I.2 (2 + i)) (F.2 0))).2 0) (v.2 9)
    rw [sA_eq]
    exact RowB_c hs.1 (fun j hj => cp_lt hj) (fun j hj => b j hj) q2
end Small
