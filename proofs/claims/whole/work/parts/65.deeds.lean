section Deeds
variable {T X L F P I N B M M' : St} {x y : Int32} {j d p g : Nat}
theorem RowB_p {r m r' m' : Nat → Int32} (ok : okA L) (hb : RowB L r m) (hp : p < nP L) (er : ∀ i : Nat, i < 35 → i ≠ 1 + p → i ≠ 8 + p → i ≠ 15 + p → i ≠ 22 + p → r' i = r i) (em : ∀ i : Nat, i < 35 → i ≠ 1 + p → i ≠ 8 + p → i ≠ 15 + p → i ≠ 22 + p → m' i = m i)
    (e1 : r' (1 + p) = m' (1 + p)) (e2 : r' (8 + p) = m' (8 + p)) (e3 : r' (15 + p) = m' (15 + p)) (e4 : 10 ≤ (m' (8 + p)).toInt → r' (22 + p) = m' (22 + p) ∧ 0 ≤ (m' (22 + p)).toInt ∧ (m' (22 + p)).toInt ≤ (m 0).toInt)
    (e5 : okPl L p (m' (1 + p)) (m' (8 + p))) (e6 : 0 ≤ (m' (15 + p)).toInt ∧ (m' (15 + p)).toInt ≤ (m 0).toInt) : RowB L r' m' := by
  have h7 := nP_le ok
  have h6 := nG_le ok
  obtain ⟨⟨a, b, c⟩, e⟩ := hb
  have m0 : m' 0 = m 0 := em 0 (by omega) (by omega) (by omega) (by omega) (by omega)
  refine ⟨⟨?_, fun q hq => ?_, fun g hg => ?_⟩, fun q hq => ?_⟩
  · rw [er 0 (by omega) (by omega) (by omega) (by omega) (by omega), m0]
    exact a
  · by_cases k : q = p
    · subst k
      rw [m0]
      exact ⟨e1, e2, e3, e4, e5⟩
    · rw [er (1 + q) (by omega) (by omega) (by omega) (by omega) (by omega), er (8 + q) (by omega) (by omega) (by omega) (by omega) (by omega), er (15 + q) (by omega) (by omega) (by omega) (by omega) (by omega), er (22 + q) (by omega) (by omega) (by omega) (by omega) (by omega), em (1 + q) (by omega) (by omega) (by omega) (by omega) (by omega), em (8 + q) (by omega) (by omega) (by omega) (by omega) (by omega), em (15 + q) (by omega) (by omega) (by omega) (by omega) (by omega), em (22 + q) (by omega) (by omega) (by omega) (by omega) (by omega), m0]
      exact b q hq
  · rw [er (29 + g) (by omega) (by omega) (by omega) (by omega) (by omega), em (29 + g) (by omega) (by omega) (by omega) (by omega) (by omega)]
    exact c g hg
  · by_cases k : q = p
    · subst k
      rw [m0]
      exact e6
    · rw [em (15 + q) (by omega) (by omega) (by omega) (by omega) (by omega), m0]
      exact e q hq
theorem RowB_down {r m : Nat → Int32} (ok : okA L) (hb : RowB L r m) (hp : p < nP L) (hd : d < nD L) (hw : m (8 + p) = 0) : RowB L (upd (upd r (8 + p) (10 + nI d)) (22 + p) 0) (upd (upd m (8 + p) (10 + nI d)) (22 + p) 0) := by
  have h4 := nD_le ok
  obtain ⟨a1, a2, a3, a4, a5⟩ := hb.1.2.1 p hp
  have y := hb.1.1.2.1
  have e0 : (0 : Int32).toInt = 0 := rfl
  refine RowB_p ok hb hp (fun i _ _ h2 _ h4 => by rw [un h4, un h2]) (fun i _ _ h2 _ h4 => by rw [un h4, un h2]) ?_ ?_ ?_ (fun _ => ?_) ?_ ?_
  · rw [un (by omega), un (by omega), un (by omega), un (by omega)]; exact a1
  · rw [un (by omega), us, un (by omega), us]
  · rw [un (by omega), un (by omega), un (by omega), un (by omega)]; exact a3
  · rw [us, us, e0]; exact ⟨rfl, by omega, y⟩
  · rw [un (by omega), un (by omega), un (by omega), us]
    rw [hw] at a5
    exact ⟨Or.inr (Or.inr ⟨d, hd, addI 10 d⟩), Or.inr (a5.2.resolve_left (by decide))⟩
  · rw [un (by omega), un (by omega)]; exact hb.2 p hp
theorem RowB_up {r m : Nat → Int32} (ok : okA L) (hb : RowB L r m) (hp : p < nP L) (hw : 10 ≤ (m (8 + p)).toInt) : RowB L (upd r (8 + p) 0) (upd (upd m (8 + p) 0) (22 + p) 0) := by
  obtain ⟨a1, a2, a3, a4, a5⟩ := hb.1.2.1 p hp
  have e0 : (0 : Int32).toInt = 0 := rfl
  refine RowB_p ok hb hp (fun i _ _ h2 _ h4 => by rw [un h2]) (fun i _ _ h2 _ h4 => by rw [un h4, un h2]) ?_ ?_ ?_ (fun q => ?_) ?_ ?_
  · rw [un (by omega), un (by omega), un (by omega)]; exact a1
  · rw [us, un (by omega), us]
  · rw [un (by omega), un (by omega), un (by omega)]; exact a3
  · rw [un (by omega), us, e0] at q; omega
  · rw [un (by omega), un (by omega), un (by omega), us]
    exact ⟨Or.inl rfl, Or.inr (a5.2.resolve_left (fun q => by rw [q] at hw; exact absurd hw (by decide)))⟩
  · rw [un (by omega), un (by omega)]; exact hb.2 p hp
theorem RowB_s {r : Nat → Int32} (b : M'.2 9 = M.2 9) (h : RowB L r (M.2 9)) : RowB L r (M'.2 9) := by rw [b]; exact h
theorem Sh_Same {is js : List Nat} (o : Same is js M M') (hj : ∀ k : Nat, 1 ≤ k → k ≤ 4 → k ∉ js) (h : Sh L M) : Sh L M' := Sh_of (fun k h1 h2 => o.2 k (hj k h1 h2)) h
theorem n14 {js : List Nat} (h : (js.all (fun k => decide (5 ≤ k) || decide (k = 0))) = true) : ∀ k : Nat, 1 ≤ k → k ≤ 4 → k ∉ js := fun k h1 h2 q => by
  have := List.all_eq_true.mp h k q
  simp at this
  omega
theorem row_yearsB (h : Sh L M) (r : RowB L (F.2 0) (M.2 9)) {k : Nat} (hk : k ≤ 300) (hy : (M.2 9 0).toInt + (k : Int) ≤ 90300) : RowB L ((f_X3_passYears L F (nI k)).2 0) ((psn M k).2 9) := by
  refine ⟨row_years h r.1 hk hy, fun p hp => ?_⟩
  obtain ⟨o, i1, i2, i3⟩ := psn_form h (Row_ok r.1) k
  have y0 : (M.2 9 0 + nI k).toInt = (M.2 9 0).toInt + (k : Int) := addk r.1.1.2.1 (by omega)
  have b := r.2 p hp
  have y := r.1.1.2.1
  rw [(i1 p hp).2.2.1, i3, y0]
  unfold pB
  split
  · exact ⟨b.1, by omega⟩
  · split
    · exact ⟨b.1, by omega⟩
    · rw [addk b.1 (by omega)]
      exact ⟨by omega, by omega⟩
theorem eqBar (h : Sh L M) (r : Row L (F.2 0) (M.2 9)) : f_X7_refuseYears T L F x y = f_X8_barred M x y := by
  unfold f_X7_refuseYears f_X8_barred f_X3_years
  rw [eqS h, k0, r.1.1]
  by_cases c1 : x < 1
  · rw [if_pos c1, in_0 (Or.inl c1), if_pos rfl]
  · rw [if_neg c1]
    by_cases c2 : x ≤ y
    · rw [if_pos c2, in_1 c1 (Int32.not_lt.mpr c2), if_neg ne10]
    · rw [if_neg c2, in_0 (Or.inr (nle_lt c2)), if_pos rfl]
theorem bar0 {n : Nat} (hn : n < 1000) (h : f_X8_barred M x (nI n) = 0) : (∃ k : Nat, 1 ≤ k ∧ k ≤ n ∧ x = nI k) ∧ (M.2 9 0).toInt ≤ 90000 := by
  unfold f_X8_barred at h
  rw [k0] at h
  by_cases c : f_X8_in x 1 (nI n) = 0
  · rw [if_pos c] at h; exact absurd h (by decide)
  · rw [if_neg c] at h
    by_cases c1 : f_X8_isShore M = 0
    · rw [if_pos c1] at h; exact absurd h (by decide)
    · rw [if_neg c1] at h
      by_cases c2 : M.2 9 0 ≤ 90000
      · obtain ⟨a, b⟩ := in_of c
        rw [fa_lt, show (1 : Int32).toInt = 1 from rfl] at a
        rw [fa_lt, nI_toInt (by omega)] at b
        rw [fa_le] at c2
        have a0 : ¬ x < 0 := by rw [fa_lt, show (0 : Int32).toInt = 0 from rfl]; omega
        have e := cl_int a0
        exact ⟨⟨x.toNatClampNeg, by omega, by omega, cl_eq a0⟩, c2⟩
      · rw [if_neg c2] at h; exact absurd h (by decide)
theorem r_year (h : Sh L M) (r : RowB L (F.2 0) (M.2 9)) (hp : RPa L P M) : (f_X7_year T L F P x).1 = (f_X8_year M x).1 ∧ RowB L ((f_X7_year T L F P x).2.1.2 0) ((f_X8_year M x).2.2 9) ∧ RPa L (f_X7_year T L F P x).2.2 (f_X8_year M x).2 ∧ Same [2] [9, 10] M (f_X8_year M x).2 := by
  unfold f_X7_year f_X8_year
  rw [eqBar h r.1]
  by_cases c : f_X8_barred M x 300 = 0
  · rw [if_pos c, if_pos c]
    obtain ⟨⟨k, k1, k2, rfl⟩, hy⟩ := bar0 (n := 300) (by omega) c
    unfold f_X8_year_k1 f_X8_year_k2 f_X7_year_k1 f_X7_year_k2 f_X3_years
    obtain ⟨q1, q2⟩ := RPa_note h.1 r hp
    rw [it_year, clI (n := k) (by omega), k0]
    have h' := Sh_Same q2 (n14 (by decide)) h
    have e9 : (f_X8_notes M).2 9 = M.2 9 := q2.2 9 (by decide)
    generalize f_X8_notes M = v at q1 q2 h' e9 ⊢
    have r' : RowB L (F.2 0) (v.2 9) := by rw [e9]; exact r
    have s := row_yearsB h' r' (k := k) (by omega) (by rw [e9]; omega)
    obtain ⟨o, -, -, -⟩ := psn_form h' (Row_ok r'.1) k
    have o' := Same_ot9 o
    refine ⟨s.1.1.1, s, RPa_s (o'.1 2 (by decide)) (o'.2 10 (by decide)) q1, Same_t (Same_w q2 (fun _ h => h) (fun k hk => List.mem_cons_of_mem _ hk)) (Same_w o' (fun k hk => absurd hk List.not_mem_nil) (fun k hk => List.mem_cons.mpr (Or.inl (List.mem_singleton.mp hk))))⟩
  · rw [if_neg c, if_neg c]
    exact ⟨rfl, r, hp, Same_rf M⟩
theorem S910 {v : St} {f : Nat → Int32} (q2 : Same [2] [10] M v) : Same [2] [9, 10] M (sA v 9 f) := Same_t (Same_w q2 (fun _ h => h) (fun k hk => List.mem_cons_of_mem _ hk)) (Same_A (List.mem_cons_self))
theorem r_down (h : Sh L M) (r : RowB L (F.2 0) (M.2 9)) (hp : RPa L P M) : (f_X7_down T L F P x y).1 = (f_X8_down M x y).1 ∧ RowB L ((f_X7_down T L F P x y).2.1.2 0) ((f_X8_down M x y).2.2 9) ∧ RPa L (f_X7_down T L F P x y).2.2 (f_X8_down M x y).2 ∧ Same [2] [9, 10] M (f_X8_down M x y).2 := by
  unfold f_X7_down f_X8_down
  rw [eqP h, eqD h]
  by_cases c : f_X5_hasPerson L x = 0
  · rw [if_pos c, if_pos c]
    exact ⟨rfl, r, hp, Same_rf M⟩
  rw [if_neg c, if_neg c]
  by_cases c1 : f_X5_hasDepth L y = 0
  · rw [if_pos c1, if_pos c1]
    exact ⟨rfl, r, hp, Same_rf M⟩
  rw [if_neg c1, if_neg c1]
  obtain ⟨p, hj, rfl⟩ := hasP c
  obtain ⟨d, hd, rfl⟩ := hasD c1
  rw [eqA h r.1 hj]
  by_cases c2 : f_X3_isAbove F (nI p) = 0
  · rw [if_pos c2, if_pos c2]
    exact ⟨rfl, r, hp, Same_rf M⟩
  rw [if_neg c2, if_neg c2]
  have h7 := nP_le h.1
  obtain ⟨q1, q2⟩ := RPa_note h.1 r hp
  have e9 : (f_X8_notes M).2 9 = M.2 9 := q2.2 9 (by decide)
  unfold f_X7_down_k1 f_X7_down_k2 f_X8_down_k1 f_X8_down_k2 f_X8_descends f_X3_goDown
  generalize f_X8_notes M = v at q1 q2 e9 ⊢
  rw [isP (by omega), if_neg ne10, ag_ (by omega), i1 (by omega), i8 (by omega), i22 (by omega), sA_eq, sA_eq, e9]
  rw [ab_ (by omega), (r.1.2.1 p hj).2.1] at c2
  have hw : M.2 9 (8 + p) = 0 := Classical.byContradiction (fun k => c2 (if_neg k))
  refine ⟨?_, RowB_down h.1 r hj hd hw, RPa_s rfl (sA_ne (by decide)) q1, S910 q2⟩
  show upd (upd (F.2 0) (8 + p) (10 + nI d)) (22 + p) 0 (1 + p) = upd (upd (M.2 9) (8 + p) (10 + nI d)) (22 + p) 0 (1 + p)
  rw [un (by omega), un (by omega), un (by omega), un (by omega)]
  exact (r.1.2.1 p hj).1
theorem r_up (h : Sh L M) (r : RowB L (F.2 0) (M.2 9)) (hp : RPa L P M) : (f_X7_up T L F P x).1 = (f_X8_up M x).1 ∧ RowB L ((f_X7_up T L F P x).2.1.2 0) ((f_X8_up M x).2.2 9) ∧ RPa L (f_X7_up T L F P x).2.2 (f_X8_up M x).2 ∧ Same [2] [9, 10] M (f_X8_up M x).2 := by
  unfold f_X7_up f_X8_up
  rw [eqP h]
  by_cases c : f_X5_hasPerson L x = 0
  · rw [if_pos c, if_pos c]
    exact ⟨rfl, r, hp, Same_rf M⟩
  rw [if_neg c, if_neg c]
  obtain ⟨p, hj, rfl⟩ := hasP c
  rw [eqB h r.1 hj]
  by_cases c2 : f_X3_isBelow F (nI p) = 0
  · rw [if_pos c2, if_pos c2]
    exact ⟨rfl, r, hp, Same_rf M⟩
  rw [if_neg c2, if_neg c2]
  have h7 := nP_le h.1
  obtain ⟨q1, q2⟩ := RPa_note h.1 r hp
  have h' := Sh_Same q2 (n14 (by decide)) h
  have e9 : (f_X8_notes M).2 9 = M.2 9 := q2.2 9 (by decide)
  unfold f_X7_up_k1 f_X7_up_k2 f_X8_up_k1 f_X8_up_k2 f_X8_ascends f_X3_comeUp
  generalize f_X8_notes M = v at q1 q2 e9 h' ⊢
  rw [eqDays h' (M := v) (by rw [e9]; exact r.1) hj, isP (by omega), if_neg ne10, i8 (by omega), i22 (by omega), e9]
  rw [be_ (by omega), (r.1.2.1 p hj).2.1] at c2
  have hw : ¬ M.2 9 (8 + p) < 10 := fun k => c2 (if_pos k)
  refine ⟨rfl, ?_, RPa_s rfl (sA_ne (by decide)) q1, S910 q2⟩
  show RowB L ((sA F 0 (upd (F.2 0) (8 + p) 0)).2 0) ((sA v 9 (upd (upd (M.2 9) (8 + p) 0) (22 + p) 0)).2 9)
  rw [sA_eq, sA_eq]
  exact RowB_up h.1 r hj (be10 hw)
theorem RowB_open {r m : Nat → Int32} (ok : okA L) (hL : (L.2 2 p).toInt ≤ 150) (hb : RowB L r m) (hp : p < nP L) (hw : m (8 + p) = 0) {w : Int32} (hw' : w = if m (1 + p) + m (15 + p) < L.2 2 p then 0 else 1) : RowB L (upd (upd (upd r (1 + p) (r (1 + p) + r (15 + p))) (15 + p) 0) (8 + p) w) (upd (upd (upd m (1 + p) (m (1 + p) + m (15 + p))) (15 + p) 0) (8 + p) w) := by
  obtain ⟨a1, a2, a3, a4, a5⟩ := hb.1.2.1 p hp
  have y := hb.1.1.2
  have b := hb.2 p hp
  have e0 : (0 : Int32).toInt = 0 := rfl
  have e1 : (1 : Int32).toInt = 1 := rfl
  rw [hw] at a5
  have a := a5.2.resolve_left (by decide)
  refine RowB_p ok hb hp (fun i _ h1 h2 h3 h4 => by rw [un h2, un h3, un h1]) (fun i _ h1 h2 h3 h4 => by rw [un h2, un h3, un h1]) ?_ ?_ ?_ (fun q => ?_) ?_ ?_
  · rw [un (by omega), un (by omega), us, un (by omega), un (by omega), us, a1, a3]
  · rw [us, us]
  · rw [un (by omega), us, un (by omega), us]
  · rw [us, hw'] at q
    split at q
    · rw [e0] at q; omega
    · rw [e1] at q; omega
  · rw [un (by omega), un (by omega), us, us, hw']
    split
    · rename_i hlt
      refine ⟨Or.inl rfl, Or.inr ?_⟩
      rw [fa_lt] at hlt
      rw [fb_addI (by omega) (by omega)] at hlt ⊢
      exact ⟨by omega, hlt⟩
    · exact ⟨Or.inr (Or.inl rfl), Or.inl rfl⟩
  · rw [un (by omega), us, e0]
    exact ⟨by omega, y.1⟩
theorem upd_id {f : Nat → Int32} {i : Nat} {v : Int32} (h : f i = v) : upd f i v = f := by
  funext k
  by_cases c : k = i
  · subst c
    rw [us, h]
  · rw [un c]
theorem r_open (h : Sh L M) (r : RowB L (F.2 0) (M.2 9)) (hp : RPa L P M) : (f_X7_open T L F P x).1 = (f_X8_open M x).1 ∧ RowB L ((f_X7_open T L F P x).2.1.2 0) ((f_X8_open M x).2.2 9) ∧ RPa L (f_X7_open T L F P x).2.2 (f_X8_open M x).2 ∧ Same [2] [9, 10] M (f_X8_open M x).2 := by
  unfold f_X7_open f_X8_open
  rw [eqRua h r.1]
  by_cases c : f_X8_isPerson M x = 0
  · rw [if_pos c, if_pos c, if_neg (by decide)]
    exact ⟨rfl, r, hp, Same_rf M⟩
  rw [if_neg c, if_neg c]
  by_cases c2 : f_X8_isAbove M x = 0
  · rw [if_pos c2, if_pos c2, if_neg (by decide)]
    exact ⟨rfl, r, hp, Same_rf M⟩
  rw [if_neg c2, if_neg c2, if_pos rfl]
  rw [eqP h] at c
  obtain ⟨p, hj, rfl⟩ := hasP c
  have h7 := nP_le h.1
  rw [mab_ (by omega)] at c2
  have hw : M.2 9 (8 + p) = 0 := Classical.byContradiction (fun k => c2 (if_neg k))
  obtain ⟨q1, q2⟩ := RPa_note h.1 r hp
  have h' := Sh_Same q2 (n14 (by decide)) h
  have e9 : (f_X8_notes M).2 9 = M.2 9 := q2.2 9 (by decide)
  unfold f_X7_open_k1 f_X7_open_k2 f_X8_open_k1 f_X3_openBox f_X3_openBox_k1 f_X3_buryIfOld
  generalize f_X8_notes M = v at q1 q2 e9 h' ⊢
  have hE : f_X8_end (sA v 9 (upd (upd (v.2 9) (1 + p) (v.2 9 (1 + p) + v.2 9 (15 + p))) (15 + p) 0)) (nI p) = L.2 2 p := by
    rw [men_ (by omega), sA_ne (by decide)]
    exact (h'.2.2.2.1 p hj).2.1
  rw [isP (by omega), if_neg ne10, i1 (by omega), i8 (by omega), i15 (by omega), i0 (by omega), hE, e9, sA_eq]
  rw [ag_ (show p < 7 by omega)]
  have q := r.1.2.1 p hj
  have hw0 : F.2 0 (8 + p) = 0 := by rw [q.2.1]; exact hw
  have u1 : upd (upd (F.2 0) (1 + p) (F.2 0 (1 + p) + F.2 0 (15 + p))) (15 + p) 0 (1 + p) = M.2 9 (1 + p) + M.2 9 (15 + p) := by rw [un (by omega), us, q.1, q.2.2.1]
  have u2 : upd (upd (M.2 9) (1 + p) (M.2 9 (1 + p) + M.2 9 (15 + p))) (15 + p) 0 (1 + p) = M.2 9 (1 + p) + M.2 9 (15 + p) := by rw [un (by omega), us]
  rw [u1, u2]
  have hL := (h.2.2.2.1 p hj).2.2.2.2
  by_cases c3 : M.2 9 (1 + p) + M.2 9 (15 + p) < L.2 2 p
  · rw [if_pos c3, if_pos c3]
    have s := RowB_open h.1 hL r hj hw (w := 0) (if_pos c3).symm
    rw [upd_id (f := upd (upd (F.2 0) (1 + p) (F.2 0 (1 + p) + F.2 0 (15 + p))) (15 + p) 0) (i := 8 + p) (by rw [un (by omega), un (by omega)]; exact hw0)] at s
    refine ⟨?_, ?_, RPa_s rfl (sA_ne (by decide)) q1, S910 q2⟩
    · show (sA F 0 (upd (upd (F.2 0) (1 + p) (F.2 0 (1 + p) + F.2 0 (15 + p))) (15 + p) 0)).2 0 (1 + p) = upd (upd (upd (M.2 9) (1 + p) (M.2 9 (1 + p) + M.2 9 (15 + p))) (15 + p) 0) (8 + p) 0 (1 + p)
      rw [sA_eq, u1, un (by omega), u2]
    · show RowB L ((sA F 0 (upd (upd (F.2 0) (1 + p) (F.2 0 (1 + p) + F.2 0 (15 + p))) (15 + p) 0)).2 0) ((sA v 9 (upd (upd (upd (M.2 9) (1 + p) (M.2 9 (1 + p) + M.2 9 (15 + p))) (15 + p) 0) (8 + p) 0)).2 9)
      rw [sA_eq, sA_eq]
      exact s
  · rw [if_neg c3, if_neg c3]
    have s := RowB_open h.1 hL r hj hw (w := 1) (if_neg c3).symm
    refine ⟨?_, ?_, RPa_s rfl (sA_ne (by decide)) q1, S910 q2⟩
    · show (sA (sA F 0 (upd (upd (F.2 0) (1 + p) (F.2 0 (1 + p) + F.2 0 (15 + p))) (15 + p) 0)) 0 (upd (upd (upd (F.2 0) (1 + p) (F.2 0 (1 + p) + F.2 0 (15 + p))) (15 + p) 0) (8 + p) 1)).2 0 (1 + p) = upd (upd (upd (M.2 9) (1 + p) (M.2 9 (1 + p) + M.2 9 (15 + p))) (15 + p) 0) (8 + p) 1 (1 + p)
      rw [sA_eq, un (by omega), u1, un (by omega), u2]
    · show RowB L ((sA (sA F 0 (upd (upd (F.2 0) (1 + p) (F.2 0 (1 + p) + F.2 0 (15 + p))) (15 + p) 0)) 0 (upd (upd (upd (F.2 0) (1 + p) (F.2 0 (1 + p) + F.2 0 (15 + p))) (15 + p) 0) (8 + p) 1)).2 0) ((sA v 9 (upd (upd (upd (M.2 9) (1 + p) (M.2 9 (1 + p) + M.2 9 (15 + p))) (15 + p) 0) (8 + p) 1)).2 9)
      rw [sA_eq, sA_eq]
      exact s
theorem RowB_take {r m : Nat → Int32} (ok : okA L) (hb : RowB L r m) (hg : g < nG L) : RowB L (upd r (29 + g) 0) (upd m (29 + g) 0) := by
  have h7 := nP_le ok
  obtain ⟨⟨a, b, c⟩, e⟩ := hb
  refine ⟨⟨?_, fun q hq => ?_, fun q hq => ?_⟩, fun q hq => ?_⟩
  · rw [un (by omega), un (by omega)]
    exact a
  · rw [un (by omega), un (by omega), un (by omega), un (by omega), un (by omega), un (by omega), un (by omega), un (by omega), un (by omega)]
    exact b q hq
  · by_cases k : q = g
    · subst k
      rw [us, us]
    · rw [un (by omega), un (by omega)]
      exact c q hq
  · rw [un (by omega), un (by omega)]
    exact e q hq
theorem r_take (h : Sh L M) (r : RowB L (F.2 0) (M.2 9)) (hp : RPa L P M) : (f_X7_take T L F P x).1 = (f_X8_take M x).1 ∧ RowB L ((f_X7_take T L F P x).2.1.2 0) ((f_X8_take M x).2.2 9) ∧ RPa L (f_X7_take T L F P x).2.2 (f_X8_take M x).2 ∧ Same [2] [9, 10] M (f_X8_take M x).2 := by
  unfold f_X7_take f_X8_take
  rw [eqG h]
  by_cases c : f_X5_hasGood L x = 0
  · rw [if_pos c, if_pos c]
    exact ⟨rfl, r, hp, Same_rf M⟩
  rw [if_neg c, if_neg c]
  obtain ⟨g, hg, rfl⟩ := hasG c
  have h6 := nG_le h.1
  rw [wo_ (by omega), i29 (by omega), r.1.2.2 g hg]
  by_cases c2 : M.2 9 (29 + g) = 0
  · rw [if_pos c2, if_pos c2]
    exact ⟨rfl, r, hp, Same_rf M⟩
  rw [if_neg c2, if_neg c2]
  obtain ⟨q1, q2⟩ := RPa_note h.1 r hp
  have e9 : (f_X8_notes M).2 9 = M.2 9 := q2.2 9 (by decide)
  unfold f_X7_take_k1 f_X7_take_k2 f_X8_take_k1 f_X3_takeGood
  generalize f_X8_notes M = v at q1 q2 e9 ⊢
  rw [isG (by omega), if_neg ne10, wo_ (by omega), i29 (by omega), e9, r.1.2.2 g hg]
  refine ⟨rfl, ?_, RPa_s rfl (sA_ne (by decide)) q1, S910 q2⟩
  show RowB L ((sA F 0 (upd (F.2 0) (29 + g) 0)).2 0) ((sA v 9 (upd (M.2 9) (29 + g) 0)).2 9)
  rw [sA_eq, sA_eq]
  exact RowB_take h.1 r hg
end Deeds
