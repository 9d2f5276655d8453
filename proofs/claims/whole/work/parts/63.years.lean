section Years
variable {T X L F P I N B M : St} {x y : Int32} {j d p g : Nat}
def psn (M : St) : Nat → St
  | 0 => M
  | k + 1 => f_X8_passes (psn M k)
def cA (L : St) (p k : Nat) (a w : Int32) : Int32 := if w = 0 then (if a.toInt + (k : Int) < (L.2 2 p).toInt then a + nI k else L.2 2 p) else a
def cW (L : St) (p k : Nat) (a w : Int32) : Int32 := if w = 0 then (if a.toInt + (k : Int) < (L.2 2 p).toInt then 0 else 1) else w
theorem addk {a : Int32} {k : Nat} (h0 : 0 ≤ a.toInt) (h1 : a.toInt + (k : Int) < 100000) : (a + nI k).toInt = a.toInt + (k : Int) := by
  have e : (nI k).toInt = (k : Int) := nI_toInt (by omega)
  rw [fb_addI (by rw [e]; omega) (by rw [e]; omega), e]
theorem addk1 (a : Int32) (k : Nat) : a + nI k + 1 = a + nI (k + 1) := by
  rw [nI_succ, Int32.add_assoc]
theorem stA {E : Nat → Int32} {k : Nat} {a w : Int32} (hb : (L.2 2 p).toInt ≤ 150) (ok : okPl L p a w) : mA p (cA L p k a w) (cW L p k a w) = cA L p (k + 1) a w := by
  unfold mA cA cW
  by_cases c : w = 0
  · have ha := ok.2.resolve_left (by rw [c]; decide)
    repeat rw [if_pos c]
    by_cases c1 : a.toInt + (k : Int) < (L.2 2 p).toInt
    · repeat rw [if_pos c1]
      rw [if_pos rfl, addk1]
      by_cases c2 : a.toInt + ((k + 1 : Nat) : Int) < (L.2 2 p).toInt
      · rw [if_pos c2]
      · rw [if_neg c2, fa_eq, addk ha.1 (by omega)]
        omega
    · repeat rw [if_neg c1]
      rw [if_neg ne10, if_neg (by omega)]
  · repeat rw [if_neg c]
theorem stW {E : Nat → Int32} {k : Nat} {a w : Int32} (hE : E (2 * p + 1) = L.2 2 p) (hb : (L.2 2 p).toInt ≤ 150) (ok : okPl L p a w) : mW E p (cA L p k a w) (cW L p k a w) = cW L p (k + 1) a w := by
  unfold mW cA cW
  rw [hE]
  by_cases c : w = 0
  · have ha := ok.2.resolve_left (by rw [c]; decide)
    repeat rw [if_pos c]
    by_cases c1 : a.toInt + (k : Int) < (L.2 2 p).toInt
    · repeat rw [if_pos c1]
      rw [if_pos rfl, addk1]
      by_cases c2 : a.toInt + ((k + 1 : Nat) : Int) < (L.2 2 p).toInt
      · rw [if_pos c2, if_pos (by rw [fa_lt, addk ha.1 (by omega)]; exact c2)]
      · rw [if_neg c2, if_neg (by rw [fa_lt, addk ha.1 (by omega)]; exact c2)]
    · repeat rw [if_neg c1]
      rw [if_neg ne10, if_neg (by omega)]
  · repeat rw [if_neg c]
theorem stB {k : Nat} {a w b : Int32} : pB 1 (cW L p k a w) (pB (nI k) w b) = pB (nI (k + 1)) w b := by
  unfold pB cW
  by_cases c : w = 0
  · repeat rw [if_pos c]
    by_cases c1 : a.toInt + (k : Int) < (L.2 2 p).toInt
    · repeat rw [if_pos c1]
      rw [if_pos rfl]
    · repeat rw [if_neg c1]
      rw [if_neg ne10, if_pos (by decide)]
  · repeat rw [if_neg c]
    by_cases c1 : w < 10
    · repeat rw [if_pos c1]
    · repeat rw [if_neg c1]
      rw [addk1]
def okR9 (L : St) (m : Nat → Int32) : Prop := ∀ p : Nat, p < nP L → okPl L p (m (1 + p)) (m (8 + p))
theorem psn_form (h : Sh L M) (ok : okR9 L (M.2 9)) : ∀ k : Nat, ot9 M (psn M k) ∧ (∀ p : Nat, p < nP L → (psn M k).2 9 (1 + p) = cA L p k (M.2 9 (1 + p)) (M.2 9 (8 + p)) ∧ (psn M k).2 9 (8 + p) = cW L p k (M.2 9 (1 + p)) (M.2 9 (8 + p)) ∧ (psn M k).2 9 (15 + p) = pB (nI k) (M.2 9 (8 + p)) (M.2 9 (15 + p)) ∧ (psn M k).2 9 (22 + p) = pB (nI k) (M.2 9 (8 + p)) (M.2 9 (22 + p))) ∧
    (∀ g : Nat, g < nG L → (psn M k).2 9 (29 + g) = wth L (nI g) k (M.2 9 (29 + g))) ∧ (psn M k).2 9 0 = M.2 9 0 + nI k
  | 0 => by
    refine ⟨ot9_rf M, fun p hp => ?_, fun g hg => rfl, ?_⟩
    · have o := ok p hp
      have z : nI 0 = 0 := rfl
      have q : ∀ b : Int32, pB (nI 0) (M.2 9 (8 + p)) b = b := fun b => by
        unfold pB
        rw [z, Int32.add_zero]
        split
        · rfl
        · split <;> rfl
      refine ⟨?_, ?_, (q _).symm, (q _).symm⟩
      · show M.2 9 (1 + p) = _
        unfold cA
        by_cases c : M.2 9 (8 + p) = 0
        · have ha := o.2.resolve_left (by rw [c]; decide)
          rw [if_pos c, if_pos (by omega), z, Int32.add_zero]
        · rw [if_neg c]
      · show M.2 9 (8 + p) = _
        unfold cW
        by_cases c : M.2 9 (8 + p) = 0
        · have ha := o.2.resolve_left (by rw [c]; decide)
          rw [if_pos c, if_pos (by omega), c]
        · rw [if_neg c]
    · show M.2 9 0 = M.2 9 0 + 0
      rw [Int32.add_zero]
  | k + 1 => by
    obtain ⟨o, i1, i2, i3⟩ := psn_form h ok k
    have hs := Sh_ot9 o h
    obtain ⟨o', j1, j2, j3⟩ := pyM hs
    show ot9 M (f_X8_passes (psn M k)) ∧ (∀ p : Nat, p < nP L → (f_X8_passes (psn M k)).2 9 (1 + p) = _ ∧ (f_X8_passes (psn M k)).2 9 (8 + p) = _ ∧ (f_X8_passes (psn M k)).2 9 (15 + p) = _ ∧ (f_X8_passes (psn M k)).2 9 (22 + p) = _) ∧ (∀ g : Nat, g < nG L → (f_X8_passes (psn M k)).2 9 (29 + g) = _) ∧ (f_X8_passes (psn M k)).2 9 0 = _
    refine ⟨ot9_t o o', fun p hp => ?_, fun g hg => ?_, ?_⟩
    · obtain ⟨q1, q2, q3, q4⟩ := i1 p hp
      obtain ⟨r1, r2, r3, r4⟩ := j1 p hp
      have hb := (h.2.2.2.1 p hp)
      rw [r1, r2, r3, r4, q1, q2, q3, q4]
      refine ⟨stA (E := M.2 3) hb.2.2.2.2 (ok p hp), ?_, stB, stB⟩
      rw [o.2 3 (by decide)]
      exact stW hb.2.1 hb.2.2.2.2 (ok p hp)
    · rw [j2 g hg, i2 g hg, wth_s]
    · rw [j3, i3, addk1]
theorem clA {k : Nat} {a w : Int32} (hb : (L.2 2 p).toInt ≤ 150) (h1 : 1 ≤ (L.2 2 p).toInt) (hk : k ≤ 300) (ok : okPl L p a w) : pA L (nI k) p a w = cA L p k a w := by
  unfold pA cA
  by_cases c : w = 0
  · have ha := ok.2.resolve_left (by rw [c]; decide)
    repeat rw [if_pos c]
    have e1 : (L.2 2 p - a).toInt = (L.2 2 p).toInt - a.toInt := fb_subI (by omega) (by omega)
    have e2 : (nI k).toInt = (k : Int) := nI_toInt (by omega)
    by_cases c1 : L.2 2 p - a < nI k
    · rw [if_pos c1]
      rw [fa_lt, e1, e2] at c1
      rw [if_neg (by omega), fa_eq, fb_addI (by rw [e1]; omega) (by rw [e1]; omega), e1]
      omega
    · rw [if_neg c1]
      rw [fa_lt, e1, e2] at c1
      by_cases c2 : a.toInt + (k : Int) < (L.2 2 p).toInt
      · rw [if_pos c2]
      · rw [if_neg c2, fa_eq, addk ha.1 (by omega)]
        omega
  · repeat rw [if_neg c]
theorem clW {k : Nat} {a w : Int32} (hb : (L.2 2 p).toInt ≤ 150) (h1 : 1 ≤ (L.2 2 p).toInt) (hk : k ≤ 300) (ok : okPl L p a w) : pW L (nI k) p a w = cW L p k a w := by
  unfold pW
  rw [clA hb h1 hk ok]
  unfold cA cW
  by_cases c : w = 0
  · have ha := ok.2.resolve_left (by rw [c]; decide)
    repeat rw [if_pos c]
    by_cases c2 : a.toInt + (k : Int) < (L.2 2 p).toInt
    · repeat rw [if_pos c2]
      rw [if_pos (by rw [fa_lt, addk ha.1 (by omega)]; exact c2)]
    · repeat rw [if_neg c2]
      rw [if_neg (by rw [fa_lt]; omega)]
  · repeat rw [if_neg c]
theorem ok_cAW {k : Nat} {a w : Int32} (hb : (L.2 2 p).toInt ≤ 150) (ok : okPl L p a w) : okPl L p (cA L p k a w) (cW L p k a w) := by
  unfold cA cW
  by_cases c : w = 0
  · have ha := ok.2.resolve_left (by rw [c]; decide)
    repeat rw [if_pos c]
    by_cases c2 : a.toInt + (k : Int) < (L.2 2 p).toInt
    · repeat rw [if_pos c2]
      exact ⟨Or.inl rfl, Or.inr (by rw [addk ha.1 (by omega)]; omega)⟩
    · repeat rw [if_neg c2]
      exact ⟨Or.inr (Or.inl rfl), Or.inl rfl⟩
  · repeat rw [if_neg c]
    exact ok
theorem Row_ok {r m : Nat → Int32} (h : Row L r m) : okR9 L m := fun p hp => (h.2.1 p hp).2.2.2.2
theorem row_years (h : Sh L M) (r : Row L (F.2 0) (M.2 9)) {k : Nat} (hk : k ≤ 300) (hy : (M.2 9 0).toInt + (k : Int) ≤ 90300) : Row L ((f_X3_passYears L F (nI k)).2 0) ((psn M k).2 9) := by
  obtain ⟨o, i1, i2, i3⟩ := psn_form h (Row_ok r) k
  obtain ⟨j1, j2, j3⟩ := pyC (F := F) h.1 (nI k)
  have y0 : (M.2 9 0 + nI k).toInt = (M.2 9 0).toInt + (k : Int) := addk r.1.2.1 (by omega)
  refine ⟨⟨?_, ?_, ?_⟩, fun p hp => ?_, fun g hg => ?_⟩
  · rw [j3, i3, r.1.1]
  · rw [i3, y0]
    have := r.1.2.1
    omega
  · rw [i3, y0]
    omega
  · obtain ⟨q1, q2, q3, q4⟩ := i1 p hp
    obtain ⟨r1, r2, r3, r4⟩ := j1 p hp
    obtain ⟨s1, s2, s3, s4, s5⟩ := r.2.1 p hp
    have hb := (h.2.2.2.1 p hp).2.2.2
    rw [r1, r2, r3, r4, q1, q2, q3, q4, i3, s1, s2, s3, clA hb.2 hb.1 hk s5, clW hb.2 hb.1 hk s5]
    refine ⟨rfl, rfl, rfl, fun hw => ?_, ok_cAW hb.2 s5⟩
    have c0 : ¬ M.2 9 (8 + p) = 0 := fun c => by
      unfold cW at hw
      rw [if_pos c] at hw
      split at hw
      · exact absurd hw (by decide)
      · exact absurd hw (by decide)
    have hw2 : 10 ≤ (M.2 9 (8 + p)).toInt := by
      unfold cW at hw
      rw [if_neg c0] at hw
      exact hw
    have t := s4 hw2
    have c1 : ¬ M.2 9 (8 + p) < 10 := by
      rw [fa_lt]
      have e : (10 : Int32).toInt = 10 := rfl
      omega
    unfold pB
    repeat rw [if_neg c0]
    repeat rw [if_neg c1]
    rw [t.1, addk t.2.1 (by omega), y0]
    exact ⟨rfl, by omega, by omega⟩
  · rw [j2 g hg, i2 g hg, wb_, nI_clamp (by omega), r.2.2 g hg]
theorem it_year {a b : Int32} {u : St} : ∀ n : Nat, it_X8_year_21 a b u n = psn u n
  | 0 => rfl
  | n + 1 => by
    show bd_X8_year_21 a b n (it_X8_year_21 a b u n) = f_X8_passes (psn u n)
    rw [it_year n]
    rfl
end Years
