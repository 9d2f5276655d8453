section Drift
variable {T X L F P I N B M M' : St} {x y : Int32} {j d p g : Nat}
theorem seed_eq (s : Int32) : ((s.toInt64 * 1103515245 + 12345) &&& 2147483647 : Int64).toInt32 = (s * 1103515245 + 12345) &&& 2147483647 := by
  rw [Int64.toInt32_and, Int64.toInt32_add, Int64.toInt32_mul, Int32.toInt32_toInt64]
  rfl
theorem drawC {n : Nat} (h : 1 ≤ n) (hn : n < 1000) : f_X7_draw T (nI n) = ((((T.1 0 * 1103515245 + 12345) &&& 2147483647) / 65536) - ((((T.1 0 * 1103515245 + 12345) &&& 2147483647) / 65536) / nI n * nI n), sI T 0 ((T.1 0 * 1103515245 + 12345) &&& 2147483647)) := by
  unfold f_X7_draw
  rw [if_pos]
  exact nI_le (a := 1) h (by omega)
theorem drawM (t : T.1 0 = M.1 3) : f_X8_draw M x = ((((T.1 0 * 1103515245 + 12345) &&& 2147483647) / 65536) - ((((T.1 0 * 1103515245 + 12345) &&& 2147483647) / 65536) / x * x), sI M 3 ((T.1 0 * 1103515245 + 12345) &&& 2147483647)) := by
  unfold f_X8_draw
  rw [seed_eq, t]
theorem draw_in (s : Int32) {n : Nat} (h : 1 ≤ n) (hn : n < 1000) : ∃ k : Nat, k < n ∧ ((s &&& 2147483647) / 65536) - ((s &&& 2147483647) / 65536) / nI n * nI n = nI k := by
  obtain ⟨k, hk, e⟩ := pk_andE s (m := 2147483647) 31 (by decide)
  rw [e, show (65536 : Int32) = nI 65536 from rfl, pk_div hk (by decide) (by decide), pk_rem (by omega) (by omega) (by omega)]
  exact ⟨_, Nat.mod_lt _ (by omega), rfl⟩
theorem le_0 {n : Nat} (h : n < 1000) : (nI n ≤ 0) ↔ n = 0 := by
  rw [fa_le, nI_toInt (by omega), show (0 : Int32).toInt = 0 from rfl]
  omega
theorem nDI (ok : okA L) : L.1 2 = nI (nD L) := cl_eq ok.1.1
theorem nPI (ok : okA L) : L.1 3 = nI (nP L) := cl_eq ok.1.2.1
theorem nGI (ok : okA L) : L.1 4 = nI (nG L) := cl_eq ok.1.2.2
theorem dr_one (h : Sh L M) (r : RowB L (F.2 0) (M.2 9)) (t : T.1 0 = M.1 3) {a b : Int32} {k : Nat} : ∃ M1 : St, bd_X8_drift_20 a b k M = f_X8_passes M1 ∧ (f_X7_driftOne T L F).1.1 0 = M1.1 3 ∧ RowB L ((f_X7_driftOne T L F).2.2 0) (M1.2 9) ∧ Same [3] [9] M M1 ∧ M1.2 9 0 = M.2 9 0 := by
  have h7 := nP_le h.1
  have h4 := nD_le h.1
  unfold bd_X8_drift_20 f_X7_driftOne
  rw [k2, k3, h.2.1.2.2.1, h.2.1.2.2.2.1, nDI h.1, nPI h.1]
  by_cases cd : nD L = 0
  · rw [if_pos ((le_0 (by omega)).mpr cd), cd, if_pos (show (nI 0 : Int32) = 0 from rfl)]
    unfold bd_X8_drift_20_k1
    refine ⟨M, rfl, ?_, ?_, Same_rf M, rfl⟩
    · split <;> exact t
    · split <;> exact r
  rw [if_neg (fun q => cd ((le_0 (by omega)).mp q)), if_neg (show ¬ nI (nD L) = 0 from fun q => cd ((inj_nI (b := 0) (by omega) (by omega)).mp q))]
  by_cases cp : nP L = 0
  · rw [if_pos ((le_0 (by omega)).mpr cp), cp, if_pos (show (nI 0 : Int32) = 0 from rfl)]
    unfold bd_X8_drift_20_k2
    exact ⟨M, rfl, t, r, Same_rf M, rfl⟩
  rw [if_neg (fun q => cp ((le_0 (by omega)).mp q)), if_neg (show ¬ nI (nP L) = 0 from fun q => cp ((inj_nI (b := 0) (by omega) (by omega)).mp q))]
  unfold bd_X8_drift_20_k3 f_X7_driftOne_k1
  rw [drawC (n := nP L) (by omega) (by omega), drawM (x := nI (nP L)) t]
  obtain ⟨p, hp, ep⟩ := draw_in (T.1 0 * 1103515245 + 12345) (n := nP L) (by omega) (by omega)
  rw [ep]
  have t1 : (sI T 0 ((T.1 0 * 1103515245 + 12345) &&& 2147483647)).1 0 = (sI M 3 ((T.1 0 * 1103515245 + 12345) &&& 2147483647)).1 3 := by rw [sI_eq, sI_eq]
  have s1 : Same [3] [9] M (sI M 3 ((T.1 0 * 1103515245 + 12345) &&& 2147483647)) := Same_I (List.mem_singleton.mpr rfl)
  have e1 : (sI M 3 ((T.1 0 * 1103515245 + 12345) &&& 2147483647)).2 = M.2 := rfl
  generalize sI T 0 ((T.1 0 * 1103515245 + 12345) &&& 2147483647) = T1 at t1 ⊢
  generalize sI M 3 ((T.1 0 * 1103515245 + 12345) &&& 2147483647) = M1 at t1 s1 e1 ⊢
  dsimp only
  have ed : nI (nD L) + 2 = nI (nD L + 2) := addI _ 2
  rw [e1, k2, h.2.1.2.2.1, nDI h.1, ed]
  rw [drawC (n := nD L + 2) (by omega) (by omega), drawM (x := nI (nD L + 2)) t1]
  obtain ⟨d, hd, ed2⟩ := draw_in (T1.1 0 * 1103515245 + 12345) (n := nD L + 2) (by omega) (by omega)
  rw [ed2]
  have t2 : (sI T1 0 ((T1.1 0 * 1103515245 + 12345) &&& 2147483647)).1 0 = (sI M1 3 ((T1.1 0 * 1103515245 + 12345) &&& 2147483647)).1 3 := by rw [sI_eq, sI_eq]
  have s2 : Same [3] [9] M (sI M1 3 ((T1.1 0 * 1103515245 + 12345) &&& 2147483647)) := Same_t s1 (Same_I (List.mem_singleton.mpr rfl))
  have e2 : (sI M1 3 ((T1.1 0 * 1103515245 + 12345) &&& 2147483647)).2 = M.2 := e1
  generalize sI T1 0 ((T1.1 0 * 1103515245 + 12345) &&& 2147483647) = T2 at t2 ⊢
  generalize sI M1 3 ((T1.1 0 * 1103515245 + 12345) &&& 2147483647) = M2 at t2 s2 e2 ⊢
  have h2 : Sh L M2 := Sh_Same s2 (n14 (by decide)) h
  have r2 : RowB L (F.2 0) (M2.2 9) := by rw [e2]; exact r
  unfold bd_X8_drift_20_k4 f_X7_driftOne_k2
  dsimp only
  rw [k2, h2.2.1.2.2.1, nDI h.1]
  by_cases c : nD L ≤ d
  · have c1 : nI (nD L) ≤ nI d := nI_le c (by omega)
    have c2 : ¬ nI d < nI (nD L) := nI_nlt c (by omega)
    rw [if_pos c1, if_neg c2, if_pos c1, eqB h2 r2.1 hp]
    by_cases c3 : f_X3_isBelow F (nI p) = 0
    · rw [if_pos c3, if_pos c3]
      unfold bd_X8_drift_20_k6
      exact ⟨M2, rfl, t2, r2, s2, by rw [e2]⟩
    · rw [if_neg c3, if_neg c3]
      unfold bd_X8_drift_20_k7 bd_X8_drift_20_k8 f_X7_driftOne_k3
      rw [be_ (by omega), (r2.1.2.1 p hp).2.1] at c3
      have hw : ¬ M2.2 9 (8 + p) < 10 := fun k => c3 (if_pos k)
      refine ⟨f_X8_ascends M2 (nI p), rfl, ?_, ?_, ?_, ?_⟩
      · show T2.1 0 = M2.1 3
        exact t2
      · show RowB L ((f_X3_comeUp F (nI p)).2 0) ((f_X8_ascends M2 (nI p)).2 9)
        unfold f_X3_comeUp f_X8_ascends
        rw [isP (by omega), if_neg ne10, i8 (by omega), i22 (by omega), sA_eq, sA_eq]
        exact RowB_up h.1 r2 hp (be10 hw)
      · exact Same_t s2 (Same_A (List.mem_singleton.mpr rfl))
      · unfold f_X8_ascends
        rw [i8 (by omega), i22 (by omega), sA_eq, un (by omega), un (by omega), e2]
  · have c1 : ¬ nI (nD L) ≤ nI d := nI_ge (by omega) (by omega)
    have c2 : nI d < nI (nD L) := nI_lt (by omega) (by omega)
    rw [if_neg c1, if_pos c2, if_neg c1, eqA h2 r2.1 hp]
    by_cases c3 : f_X3_isAbove F (nI p) = 0
    · rw [if_pos c3, if_pos c3]
      unfold bd_X8_drift_20_k9
      exact ⟨M2, rfl, t2, r2, s2, by rw [e2]⟩
    · rw [if_neg c3, if_neg c3]
      unfold bd_X8_drift_20_k13 bd_X8_drift_20_k14 f_X7_driftOne_k4
      rw [ab_ (by omega), (r2.1.2.1 p hp).2.1] at c3
      have hw : M2.2 9 (8 + p) = 0 := Classical.byContradiction (fun k => c3 (if_neg k))
      refine ⟨f_X8_descends M2 (nI p) (nI d), rfl, ?_, ?_, ?_, ?_⟩
      · show T2.1 0 = M2.1 3
        exact t2
      · show RowB L ((f_X3_goDown F (nI p) (nI d)).2 0) ((f_X8_descends M2 (nI p) (nI d)).2 9)
        unfold f_X3_goDown f_X8_descends
        rw [isP (by omega), if_neg ne10, i8 (by omega), i22 (by omega), sA_eq, sA_eq]
        exact RowB_down h.1 r2 hp (by omega) hw
      · exact Same_t s2 (Same_A (List.mem_singleton.mpr rfl))
      · unfold f_X8_descends
        rw [i8 (by omega), i22 (by omega), sA_eq, un (by omega), un (by omega), e2]
theorem dr_it (h : Sh L M) (r : RowB L (F.2 0) (M.2 9)) (t : T.1 0 = M.1 3) (hy : (M.2 9 0).toInt ≤ 90000) {a b a' b' : Int32} {P' : St} : ∀ k : Nat, k ≤ 60 → (it_X7_drift_27 L P' a' b' (T, F) k).1.1 0 = (it_X8_drift_20 a b M k).1 3 ∧ RowB L ((it_X7_drift_27 L P' a' b' (T, F) k).2.2 0) ((it_X8_drift_20 a b M k).2 9) ∧ Same [3] [9] M (it_X8_drift_20 a b M k) ∧ ((it_X8_drift_20 a b M k).2 9 0).toInt = (M.2 9 0).toInt + (k : Int)
  | 0, _ => ⟨t, r, Same_rf M, by show (M.2 9 0).toInt = (M.2 9 0).toInt + ((0 : Nat) : Int); omega⟩
  | k + 1, hk => by
    obtain ⟨a1, a2, a3, a4⟩ := dr_it h r t hy (a := a) (b := b) (a' := a') (b' := b') (P' := P') k (by omega)
    show (bd_X7_drift_27 L P' a' b' k (it_X7_drift_27 L P' a' b' (T, F) k)).1.1 0 = (bd_X8_drift_20 a b k (it_X8_drift_20 a b M k)).1 3 ∧ RowB L ((bd_X7_drift_27 L P' a' b' k (it_X7_drift_27 L P' a' b' (T, F) k)).2.2 0) ((bd_X8_drift_20 a b k (it_X8_drift_20 a b M k)).2 9) ∧ Same [3] [9] M (bd_X8_drift_20 a b k (it_X8_drift_20 a b M k)) ∧ ((bd_X8_drift_20 a b k (it_X8_drift_20 a b M k)).2 9 0).toInt = (M.2 9 0).toInt + ((k + 1 : Nat) : Int)
    have hs := Sh_Same a3 (n14 (by decide)) h
    generalize it_X8_drift_20 a b M k = v at a1 a2 a3 a4 hs ⊢
    generalize it_X7_drift_27 L P' a' b' (T, F) k = w at a1 a2 ⊢
    unfold bd_X7_drift_27 bd_X7_drift_27_k1 bd_X7_drift_27_k2
    obtain ⟨v1, b1, b2, b3, b4, b5⟩ := dr_one hs a2 a1 (a := a) (b := b) (k := k)
    rw [b1]
    generalize f_X7_driftOne w.1 L w.2 = z at b2 b3 ⊢
    have h1 := Sh_Same b4 (n14 (by decide)) hs
    have s := row_yearsB h1 b3 (k := 1) (by omega) (by rw [b5, a4]; omega)
    have e : psn v1 1 = f_X8_passes v1 := rfl
    rw [e] at s
    obtain ⟨o, -, -, o3⟩ := pyM h1
    refine ⟨?_, s, Same_t a3 (Same_t b4 (Same_w (Same_ot9 o) (fun k hk => absurd hk List.not_mem_nil) (fun k hk => hk))), ?_⟩
    · show z.1.1 0 = _
      rw [o.1]
      exact b2
    · have y0 := a2.1.1.2.1
      rw [o3, b5, show (1 : Int32) = nI 1 from rfl, addk y0 (by omega), a4]
      omega
theorem r_drift (h : Sh L M) (r : RowB L (F.2 0) (M.2 9)) (hp : RPa L P M) (t : T.1 0 = M.1 3) : (f_X7_drift T L F P x).1 = (f_X8_drift M x).1 ∧ (f_X7_drift T L F P x).2.1.1 0 = (f_X8_drift M x).2.1 3 ∧ RowB L ((f_X7_drift T L F P x).2.2.1.2 0) ((f_X8_drift M x).2.2 9) ∧ RPa L (f_X7_drift T L F P x).2.2.2 (f_X8_drift M x).2 ∧ Same [2, 3] [9, 10] M (f_X8_drift M x).2 := by
  unfold f_X7_drift f_X8_drift
  rw [eqBar h r.1]
  by_cases c : f_X8_barred M x 60 = 0
  · rw [if_pos c, if_pos c]
    obtain ⟨⟨k, k1, k2, rfl⟩, hy⟩ := bar0 (n := 60) (by omega) c
    unfold f_X8_drift_k1 f_X8_drift_k2 f_X7_drift_k1 f_X7_drift_k2 f_X3_years
    obtain ⟨q1, q2⟩ := RPa_note h.1 r hp
    rw [clI (n := k) (by omega), k0]
    have h' := Sh_Same q2 (n14 (by decide)) h
    have e9 : (f_X8_notes M).2 9 = M.2 9 := q2.2 9 (by decide)
    have e3 : (f_X8_notes M).1 3 = M.1 3 := q2.1 3 (by decide)
    generalize f_X8_notes M = v at q1 q2 h' e9 e3 ⊢
    have r' : RowB L (F.2 0) (v.2 9) := by rw [e9]; exact r
    obtain ⟨a1, a2, a3, a4⟩ := dr_it h' r' (by rw [e3]; exact t) (by rw [e9]; exact hy) (a := nI k) (b := f_X8_barred M (nI k) 60) (a' := nI k) (b' := f_X7_refuseYears T L F (nI k) 60) (P' := f_X4_remember F P) k k2
    refine ⟨a2.1.1.1, a1, a2, RPa_s (a3.1 2 (by decide)) (a3.2 10 (by decide)) q1, Same_t (Same_w q2 (fun k hk => by rw [List.mem_singleton.mp hk]; decide) (fun k hk => by rw [List.mem_singleton.mp hk]; decide)) (Same_w a3 (fun k hk => by rw [List.mem_singleton.mp hk]; decide) (fun k hk => by rw [List.mem_singleton.mp hk]; decide))⟩
  · rw [if_neg c, if_neg c]
    exact ⟨rfl, t, r, hp, Same_rf M⟩
end Drift
