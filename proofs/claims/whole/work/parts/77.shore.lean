section ShoreP
variable {T X L D F P I N B M M' : St} {x y z : Int32} {j d p q g : Nat}
theorem zr12 {u : St} : ∀ n : Nat, n ≤ 100 → Same [] [8] u (it_X8_shore_12 u n)
  | 0, _ => Same_rf u
  | n + 1, h => Same_t (zr12 n (by omega)) (Same_A (List.mem_singleton.mpr rfl))
theorem zr33 {u : St} : ∀ n : Nat, n ≤ 100 → Same [] [7] u (it_X8_shore_33 u n)
  | 0, _ => Same_rf u
  | n + 1, h => Same_t (zr33 n (by omega)) (Same_A (List.mem_singleton.mpr rfl))
theorem zr74 {u : St} : ∀ n : Nat, n ≤ 100 → Same [] [6] u (it_X8_shore_74 u n)
  | 0, _ => Same_rf u
  | n + 1, h => Same_t (zr74 n (by omega)) (Same_A (List.mem_singleton.mpr rfl))
theorem zr54 {u : St} : ∀ n : Nat, n ≤ 100 → Same [] [5] u (it_X8_shore_54 u n) ∧ ∀ i : Nat, i < n → (it_X8_shore_54 u n).2 5 i = 0
  | 0, _ => ⟨Same_rf u, fun i hi => absurd hi (Nat.not_lt_zero i)⟩
  | n + 1, h => by
    obtain ⟨a, b⟩ := zr54 (u := u) n (by omega)
    show Same [] [5] u (bd_X8_shore_54 n (it_X8_shore_54 u n)) ∧ ∀ i : Nat, i < n + 1 → (bd_X8_shore_54 n (it_X8_shore_54 u n)).2 5 i = 0
    generalize it_X8_shore_54 u n = w at a b ⊢
    unfold bd_X8_shore_54
    rw [clI (by omega)]
    refine ⟨Same_t a (Same_A (List.mem_singleton.mpr rfl)), fun i hi => ?_⟩
    rw [sA_eq]
    by_cases c : i = n
    · subst c
      rw [us]
    · rw [un c]
      exact b i (by omega)
theorem zr191 {u : St} : ∀ n : Nat, n ≤ 100 → Same [] [9] u (it_X8_shore_191 u n) ∧ ∀ i : Nat, i < n → (it_X8_shore_191 u n).2 9 i = 0
  | 0, _ => ⟨Same_rf u, fun i hi => absurd hi (Nat.not_lt_zero i)⟩
  | n + 1, h => by
    obtain ⟨a, b⟩ := zr191 (u := u) n (by omega)
    show Same [] [9] u (bd_X8_shore_191 n (it_X8_shore_191 u n)) ∧ ∀ i : Nat, i < n + 1 → (bd_X8_shore_191 n (it_X8_shore_191 u n)).2 9 i = 0
    generalize it_X8_shore_191 u n = w at a b ⊢
    unfold bd_X8_shore_191
    rw [clI (by omega)]
    refine ⟨Same_t a (Same_A (List.mem_singleton.mpr rfl)), fun i hi => ?_⟩
    rw [sA_eq]
    by_cases c : i = n
    · subst c
      rw [us]
    · rw [un c]
      exact b i (by omega)
theorem zb2 {u : St} : ∀ n : Nat, n ≤ 100 → ∀ i : Nat, i < n → (it_X3_begin_2 L u n).2 0 i = 0
  | 0, _ => fun i hi => absurd hi (Nat.not_lt_zero i)
  | n + 1, h => by
    have b := zb2 (u := u) n (by omega)
    show ∀ i : Nat, i < n + 1 → (bd_X3_begin_2 L n (it_X3_begin_2 L u n)).2 0 i = 0
    generalize it_X3_begin_2 L u n = w at b ⊢
    unfold bd_X3_begin_2
    rw [clI (by omega)]
    intro i hi
    rw [sA_eq]
    by_cases c : i = n
    · subst c
      rw [us]
    · rw [un c]
      exact b i (by omega)
/-- a life at its beginning -/
def beg (L : St) (r : Nat → Int32) (n m : Nat) : Prop := (∀ p : Nat, p < n → r (1 + p) = L.2 1 p ∧ r (8 + p) = if L.2 1 p < L.2 2 p then 0 else 1) ∧ (∀ g : Nat, g < m → r (29 + g) = L.2 3 g) ∧ ∀ i : Nat, i < 35 → (∀ p : Nat, p < n → i ≠ 1 + p ∧ i ≠ 8 + p) → (∀ g : Nat, g < m → i ≠ 29 + g) → r i = 0
theorem bgC1 {u : St} (hu : beg L (u.2 0) 0 0) : ∀ n : Nat, n ≤ 7 → beg L ((it_X3_begin_23 L u n).2 0) n 0
  | 0, _ => hu
  | n + 1, hn => by
    have ih := bgC1 hu n (by omega)
    show beg L ((bd_X3_begin_23 L n (it_X3_begin_23 L u n)).2 0) (n + 1) 0
    generalize it_X3_begin_23 L u n = w at ih ⊢
    obtain ⟨a, b, c⟩ := ih
    have w8 : w.2 0 (8 + n) = 0 := c (8 + n) (by omega) (fun p hp => by omega) (fun g hg => absurd hg (Nat.not_lt_zero g))
    unfold bd_X3_begin_23 bd_X3_begin_23_k1 f_X3_buryIfOld
    rw [i1 (by omega), i0 (by omega), i8 (by omega), sA_eq, us]
    by_cases e : L.2 1 n < L.2 2 n
    · rw [if_pos e, sA_eq]
      refine ⟨fun p hp => ?_, fun g hg => absurd hg (Nat.not_lt_zero g), fun i hi h1 h2 => ?_⟩
      · by_cases k : p = n
        · subst k
          rw [us, un (by omega), if_pos e]
          exact ⟨rfl, w8⟩
        · rw [un (by omega), un (by omega)]
          exact a p (by omega)
      · rw [un (h1 n (by omega)).1]
        exact c i hi (fun p hp => h1 p (by omega)) h2
    · rw [if_neg e, sA_eq]
      refine ⟨fun p hp => ?_, fun g hg => absurd hg (Nat.not_lt_zero g), fun i hi h1 h2 => ?_⟩
      · by_cases k : p = n
        · subst k
          rw [un (by omega), us, us, if_neg e]
          exact ⟨rfl, rfl⟩
        · rw [un (by omega), un (by omega), un (by omega), un (by omega)]
          exact a p (by omega)
      · rw [un (h1 n (by omega)).2, un (h1 n (by omega)).1]
        exact c i hi (fun p hp => h1 p (by omega)) h2
theorem bgC2 {u : St} {n : Nat} (hn : n ≤ 7) (hu : beg L (u.2 0) n 0) : ∀ m : Nat, m ≤ 6 → beg L ((it_X3_begin_59 L u m).2 0) n m
  | 0, _ => hu
  | m + 1, hm => by
    obtain ⟨a, b, c⟩ := bgC2 hn hu m (by omega)
    show beg L ((bd_X3_begin_59 L m (it_X3_begin_59 L u m)).2 0) n (m + 1)
    generalize it_X3_begin_59 L u m = w at a b c ⊢
    unfold bd_X3_begin_59
    rw [i29 (by omega), i0 (by omega), sA_eq]
    refine ⟨fun p hp => ?_, fun g hg => ?_, fun i hi h1 h2 => ?_⟩
    · rw [un (by omega), un (by omega)]
      exact a p hp
    · by_cases k : g = m
      · subst k
        rw [us]
      · rw [un (by omega)]
        exact b g (by omega)
    · rw [un (h2 m (by omega))]
      exact c i hi h1 (fun g hg => h2 g (by omega))
theorem bgM1 (h : Sh L M) {u : St} (su : Same [] [9] M u) (hu : beg L (u.2 9) 0 0) : ∀ n : Nat, n ≤ nP L → Same [] [9] M (it_X8_shore_212 u n) ∧ beg L ((it_X8_shore_212 u n).2 9) n 0
  | 0, _ => ⟨su, hu⟩
  | n + 1, hn => by
    obtain ⟨s, a, b, c⟩ := bgM1 h su hu n (by omega)
    have h7 := nP_le h.1
    show Same [] [9] M (bd_X8_shore_212 n (it_X8_shore_212 u n)) ∧ beg L ((bd_X8_shore_212 n (it_X8_shore_212 u n)).2 9) (n + 1) 0
    generalize it_X8_shore_212 u n = w at s a b c ⊢
    obtain ⟨q1, q2, -⟩ := h.2.2.2.1 n (by omega)
    unfold bd_X8_shore_212
    rw [s.2 3 (by decide), d0 (by omega), d1 (by omega), i1 (by omega), i8 (by omega), q1, q2]
    have key : ∀ v : Int32, v = (if L.2 1 n < L.2 2 n then 0 else 1) → beg L (upd (upd (w.2 9) (1 + n) (L.2 1 n)) (8 + n) v) (n + 1) 0 := by
      intro v hv
      refine ⟨fun p hp => ?_, fun g hg => absurd hg (Nat.not_lt_zero g), fun i hi h1 h2 => ?_⟩
      · by_cases k : p = n
        · subst k
          rw [un (by omega), us, us]
          exact ⟨rfl, hv⟩
        · rw [un (by omega), un (by omega), un (by omega), un (by omega)]
          exact a p (by omega)
      · rw [un (h1 n (by omega)).2, un (h1 n (by omega)).1]
        exact c i hi (fun p hp => h1 p (by omega)) h2
    by_cases e : L.2 1 n < L.2 2 n
    · rw [if_pos e, sA_eq]
      exact ⟨Same_t s (Same_A (List.mem_singleton.mpr rfl)), key 0 (if_pos e).symm⟩
    · rw [if_neg e, sA_eq]
      exact ⟨Same_t s (Same_A (List.mem_singleton.mpr rfl)), key 1 (if_neg e).symm⟩
theorem bgM2 (h : Sh L M) {u : St} (su : Same [] [9] M u) {n : Nat} (hn : n ≤ 7) (hu : beg L (u.2 9) n 0) : ∀ m : Nat, m ≤ nG L → Same [] [9] M (it_X8_shore_281 u m) ∧ beg L ((it_X8_shore_281 u m).2 9) n m
  | 0, _ => ⟨su, hu⟩
  | m + 1, hm => by
    obtain ⟨s, a, b, c⟩ := bgM2 h su hn hu m (by omega)
    have h6 := nG_le h.1
    show Same [] [9] M (bd_X8_shore_281 m (it_X8_shore_281 u m)) ∧ beg L ((bd_X8_shore_281 m (it_X8_shore_281 u m)).2 9) n (m + 1)
    generalize it_X8_shore_281 u m = w at s a b c ⊢
    unfold bd_X8_shore_281
    rw [s.2 4 (by decide), t0 (by omega), i29 (by omega), (h.2.2.2.2.1 m (by omega)).1, sA_eq]
    refine ⟨Same_t s (Same_A (List.mem_singleton.mpr rfl)), fun p hp => ?_, fun g hg => ?_, fun i hi h1 h2 => ?_⟩
    · rw [un (by omega), un (by omega)]
      exact a p hp
    · by_cases k : g = m
      · subst k
        rw [us]
      · rw [un (by omega)]
        exact b g (by omega)
    · rw [un (h2 m (by omega))]
      exact c i hi h1 (fun g hg => h2 g (by omega))
theorem beg_0 {r : Nat → Int32} (h : ∀ i : Nat, i < 35 → r i = 0) : beg L r 0 0 := ⟨fun p hp => absurd hp (Nat.not_lt_zero p), fun p hp => absurd hp (Nat.not_lt_zero p), fun i hi _ _ => h i hi⟩
theorem beg_row (h : Sh L M) {r m : Nat → Int32} (hr : beg L r (nP L) (nG L)) (hm : beg L m (nP L) (nG L)) : RowB L r m := by
  have h7 := nP_le h.1
  have h6 := nG_le h.1
  obtain ⟨a, b, c⟩ := hr
  obtain ⟨a', b', c'⟩ := hm
  have e0 : (0 : Int32).toInt = 0 := rfl
  have m0 : m 0 = 0 := c' 0 (by omega) (fun p hp => by omega) (fun g hg => by omega)
  have r0 : r 0 = 0 := c 0 (by omega) (fun p hp => by omega) (fun g hg => by omega)
  have mb : ∀ p : Nat, p < nP L → m (15 + p) = 0 := fun p hp => c' (15 + p) (by omega) (fun p hp => by omega) (fun g hg => by omega)
  have rb : ∀ p : Nat, p < nP L → r (15 + p) = 0 := fun p hp => c (15 + p) (by omega) (fun p hp => by omega) (fun g hg => by omega)
  have ms : ∀ p : Nat, p < nP L → m (22 + p) = 0 := fun p hp => c' (22 + p) (by omega) (fun p hp => by omega) (fun g hg => by omega)
  have rs : ∀ p : Nat, p < nP L → r (22 + p) = 0 := fun p hp => c (22 + p) (by omega) (fun p hp => by omega) (fun g hg => by omega)
  refine ⟨⟨⟨by rw [r0, m0], by rw [m0, e0]; omega, by rw [m0, e0]; omega⟩, fun p hp => ?_, fun g hg => by rw [b g hg, b' g hg]⟩, fun p hp => ?_⟩
  · obtain ⟨u1, u2⟩ := a p hp
    obtain ⟨v1, v2⟩ := a' p hp
    obtain ⟨-, -, w1, w2, w3⟩ := h.2.2.2.1 p hp
    rw [u1, u2, v1, v2, rb p hp, mb p hp, rs p hp, ms p hp, m0, e0]
    refine ⟨rfl, rfl, rfl, fun _ => ⟨rfl, by omega, by omega⟩, ?_⟩
    by_cases e : L.2 1 p < L.2 2 p
    · rw [if_pos e]
      rw [fa_lt] at e
      exact ⟨Or.inl rfl, Or.inr ⟨w1, e⟩⟩
    · rw [if_neg e]
      exact ⟨Or.inr (Or.inl rfl), Or.inl rfl⟩
  · rw [mb p hp, m0, e0]
    omega
theorem bgC (h : Sh L M) : beg L ((f_X3_begin L F).2 0) (nP L) (nG L) := by
  unfold f_X3_begin f_X3_begin_k1 f_X3_begin_k2 f_X3_begin_k3
  have z := zb2 (L := L) (u := F) 35 (by omega)
  generalize it_X3_begin_2 L F 35 = u at z ⊢
  have a := bgC1 (beg_0 (L := L) z) (nP L) (nP_le h.1)
  rw [show (L.1 3).toNatClampNeg = nP L from rfl, show (L.1 4).toNatClampNeg = nG L from rfl]
  generalize it_X3_begin_23 L u (nP L) = v at a ⊢
  exact bgC2 (nP_le h.1) a (nG L) (nG_le h.1)
theorem Sh_cp (h : DSh D M) (h1 : ∀ i : Nat, i < 5 → M'.2 1 i = M.2 5 i) (h2 : ∀ i : Nat, i < 4 → M'.2 2 i = M.2 6 i) (h3 : ∀ i : Nat, i < 14 → M'.2 3 i = M.2 7 i) (h4 : ∀ i : Nat, i < 18 → M'.2 4 i = M.2 8 i) : Sh D M' := by
  obtain ⟨ok, p, q1, q2, q3, q4⟩ := h
  have k4' := nD_le ok
  have k7 := nP_le ok
  have k6 := nG_le ok
  refine ⟨ok, ?_, fun d hd => ?_, fun p hp => ?_, fun g hg => ?_, q4⟩
  · rw [h1 0 (by omega), h1 1 (by omega), h1 2 (by omega), h1 3 (by omega), h1 4 (by omega)]
    exact p
  · rw [h2 d (by omega)]
    exact q1 d hd
  · rw [h3 (2 * p) (by omega), h3 (2 * p + 1) (by omega)]
    exact q2 p hp
  · rw [h4 (3 * g) (by omega), h4 (3 * g + 1) (by omega), h4 (3 * g + 2) (by omega)]
    exact q3 g hg
theorem ds_0 (h0 : ∀ i : Nat, i < 5 → M.2 5 i = 0) : DSh (f_X5_empty D) M := by
  unfold f_X5_empty
  have n0 : ∀ k : Nat, k < 5 → (sI (sI (sI (sI (sI D 0 0) 1 0) 2 0) 3 0) 4 0).1 k = 0 := fun k hk => by
    rcases (by omega : k = 0 ∨ k = 1 ∨ k = 2 ∨ k = 3 ∨ k = 4) with e | e | e | e | e <;> subst e
    · rw [sI_ne (by decide), sI_ne (by decide), sI_ne (by decide), sI_ne (by decide), sI_eq]
    · rw [sI_ne (by decide), sI_ne (by decide), sI_ne (by decide), sI_eq]
    · rw [sI_ne (by decide), sI_ne (by decide), sI_eq]
    · rw [sI_ne (by decide), sI_eq]
    · rw [sI_eq]
  generalize sI (sI (sI (sI (sI D 0 0) 1 0) 2 0) 3 0) 4 0 = E at n0 ⊢
  have nd : nD E = 0 := by unfold nD; rw [n0 2 (by omega)]; rfl
  have np : nP E = 0 := by unfold nP; rw [n0 3 (by omega)]; rfl
  have ng : nG E = 0 := by unfold nG; rw [n0 4 (by omega)]; rfl
  refine ⟨⟨⟨by rw [n0 2 (by omega)]; decide, by rw [n0 3 (by omega)]; decide, by rw [n0 4 (by omega)]; decide⟩, by rw [n0 2 (by omega)]; decide, by rw [n0 3 (by omega)]; decide, by rw [n0 4 (by omega)]; decide⟩, ?_, fun d hd => by omega, fun p hp => by omega, fun g hg => by omega, Or.inl ⟨n0 0 (by omega), n0 1 (by omega), n0 2 (by omega), n0 3 (by omega), n0 4 (by omega)⟩⟩
  show M.2 5 0 = _ ∧ M.2 5 1 = _ ∧ M.2 5 2 = _ ∧ M.2 5 3 = _ ∧ M.2 5 4 = _
  rw [h0 0 (by omega), h0 1 (by omega), h0 2 (by omega), h0 3 (by omega), h0 4 (by omega), n0 0 (by omega), n0 1 (by omega), n0 2 (by omega), n0 3 (by omega), n0 4 (by omega)]
  exact ⟨rfl, rfl, rfl, rfl, rfl⟩
/-- all that the two sides have alike -/
def Rel (T X L F P I N B M : St) : Prop := RTx X M ∧ X.1 3 = M.1 1 ∧ Sh L M ∧ RowB L (F.2 0) (M.2 9) ∧ RPa L P M ∧ RIm L I M ∧ T.1 0 = M.1 3 ∧ RFi L N M ∧ RB L B M
theorem RTx_0 (h : X.1 0 = 0) (h2 : M.1 0 = 0) : RTx X M := ⟨0, by omega, h, h2, fun k hk => absurd hk (Nat.not_lt_zero k)⟩
theorem w58' {is : List Nat} {js : List Nat} (h : Same [] js M M') (hj : ∀ k ∈ js, k ∈ [5, 6, 7, 8]) : Same is [5, 6, 7, 8] M M' := Same_w h (fun k hk => absurd hk List.not_mem_nil) hj
theorem rdA (h : RTx X M) : ∃ z : St, f_X8_shore M = (if z.1 7 = 0 then f_X8_shore_k7 M (it_X8_shore_12 (sI (sI M 6 0) 7 0) 18) (it_X8_shore_33 (it_X8_shore_12 (sI (sI M 6 0) 7 0) 18) 14) (it_X8_shore_54 (it_X8_shore_33 (it_X8_shore_12 (sI (sI M 6 0) 7 0) 18) 14) 5) (it_X8_shore_74 (it_X8_shore_54 (it_X8_shore_33 (it_X8_shore_12 (sI (sI M 6 0) 7 0) 18) 14) 5) 4) (f_X8_skips (it_X8_shore_74 (it_X8_shore_54 (it_X8_shore_33 (it_X8_shore_12 (sI (sI M 6 0) 7 0) 18) 14) 5) 4)) z (sA (sI (sI z 0 0) 1 (-1)) 1 (cpn ((sI (sI z 0 0) 1 (-1)).2 5) ((sI (sI z 0 0) 1 (-1)).2 1) 5)) else ((-10) - (z.1 7), (sI (sI z 0 0) 1 (z.1 6)))) ∧
    Same [6, 7] [5, 6, 7, 8] M z ∧ (TF (f_X6_readInto X D).1 z ∨ ((f_X6_readInto X D).1.1 2 = 0 ∧ z.1 7 = 0 ∧ (f_X6_readInto X D).1.1 3 = -1 ∧ DSh (f_X6_readInto X D).2 z)) := by
  obtain ⟨c, hc, e1, e2, e3⟩ := h
  refine ⟨f_X8_reads (f_X8_skips (it_X8_shore_74 (it_X8_shore_54 (it_X8_shore_33 (it_X8_shore_12 (sI (sI M 6 0) 7 0) 18) 14) 5) 4)), ?_, ?_⟩
  · unfold f_X8_shore f_X8_shore_k1 f_X8_shore_k2 f_X8_shore_k3 f_X8_shore_k4 f_X8_shore_k5 f_X8_shore_k6
    rfl
  · have s0 : Same [6, 7] [5, 6, 7, 8] M (sI (sI M 6 0) 7 0) := Same_t (Same_I (by decide)) (Same_I (by decide))
    have v0 : (sI (sI M 6 0) 7 0).1 0 = nI c := by rw [sI_ne (by decide), sI_ne (by decide)]; exact e2
    have v6 : (sI (sI M 6 0) 7 0).1 6 = 0 := by rw [sI_ne (by decide), sI_eq]
    have v7 : (sI (sI M 6 0) 7 0).1 7 = 0 := sI_eq
    generalize sI (sI M 6 0) 7 0 = w at s0 v0 v6 v7 ⊢
    have s1 := zr12 (u := w) 18 (by omega)
    generalize it_X8_shore_12 w 18 = w1 at s1 ⊢
    have s2 := zr33 (u := w1) 14 (by omega)
    generalize it_X8_shore_33 w1 14 = w2 at s2 ⊢
    obtain ⟨s3, q3⟩ := zr54 (u := w2) 5 (by omega)
    generalize it_X8_shore_54 w2 5 = w3 at s3 q3 ⊢
    have s4 := zr74 (u := w3) 4 (by omega)
    generalize it_X8_shore_74 w3 4 = w4 at s4 ⊢
    have sA4 : Same [] [5, 6, 7, 8] w w4 := Same_t (w58' s1 (by decide)) (Same_t (w58' s2 (by decide)) (Same_t (w58' s3 (by decide)) (w58' s4 (by decide))))
    have sM : Same [6, 7] [5, 6, 7, 8] M w4 := Same_t s0 (w58 sA4)
    have h5 : ∀ i : Nat, i < 5 → w4.2 5 i = 0 := fun i hi => by rw [s4.2 5 (by decide)]; exact q3 i hi
    unfold f_X6_readInto f_X6_readInto_k1 f_X6_readInto_k2 f_X6_readClauses f_X8_reads
    have tr : TR (sI (sI (sI X 1 0) 2 0) 3 (-1)) w4 c 0 := by
      refine ⟨⟨?_, ?_, hc⟩, ⟨?_, ?_, by omega⟩, ⟨?_, ?_, sI_eq⟩, fun k hk => ?_⟩
      · rw [sI_ne (by decide), sI_ne (by decide), sI_ne (by decide)]; exact e1
      · rw [sA4.1 0 (by decide)]; exact v0
      · rw [sI_ne (by decide), sI_ne (by decide), sI_eq]; rfl
      · rw [sA4.1 6 (by decide)]; exact v6
      · rw [sI_ne (by decide), sI_eq]
      · rw [sA4.1 7 (by decide)]; exact v7
      · rw [sM.2 0 (by decide)]
        exact e3 k hk
    obtain ⟨r1, r2⟩ := rd_loop 241 242 0 _ (f_X5_empty D) w4 0 tr (ds_0 h5) (by omega) (by omega)
    exact ⟨Same_t sM r1, r2⟩
theorem fgI : (∀ i : Nat, i < 2 → (f_X2_forget I).2 1 i = 0) := by
  intro i hi
  unfold f_X2_forget f_X2_forget_k1
  show (bd_X2_forget_2 1 (bd_X2_forget_2 0 I)).2 1 i = 0
  unfold bd_X2_forget_2
  rw [sA_eq, sA_eq, clI (by omega), clI (by omega)]
  by_cases e : i = 1
  · subst e
    rw [us]
  · rw [un e, show i = 0 by omega, us]
theorem r_shore (h : Rel T X L F P I N B M) : (f_X7_shore T X L D F P I N B).1 = (f_X8_shore M).1 ∧
    (((f_X7_shore T X L D F P I N B).2.1.1 2 = 0 ∧ Rel T (f_X7_shore T X L D F P I N B).2.1 (f_X7_shore T X L D F P I N B).2.2.1 (f_X7_shore T X L D F P I N B).2.2.2.1 (f_X7_shore T X L D F P I N B).2.2.2.2.1 (f_X7_shore T X L D F P I N B).2.2.2.2.2.1 (f_X7_shore T X L D F P I N B).2.2.2.2.2.2.1 (f_X7_shore T X L D F P I N B).2.2.2.2.2.2.2 (f_X8_shore M).2) ∨
     (¬ (f_X7_shore T X L D F P I N B).2.1.1 2 = 0 ∧ Rel T (f_X7_shore T X L D F P I N B).2.1 L (f_X7_shore T X L D F P I N B).2.2.2.1 (f_X7_shore T X L D F P I N B).2.2.2.2.1 (f_X7_shore T X L D F P I N B).2.2.2.2.2.1 (f_X7_shore T X L D F P I N B).2.2.2.2.2.2.1 (f_X7_shore T X L D F P I N B).2.2.2.2.2.2.2 (f_X8_shore M).2)) := by
  obtain ⟨a1, a2, a3, a4, a5, a6, a7, a8, a9⟩ := h
  obtain ⟨z, ez, sz, r⟩ := rdA (D := D) a1
  rw [ez]
  unfold f_X7_shore f_X7_shore_k1 f_X7_shore_k2 f_X6_empty
  generalize f_X6_readInto X D = c at r ⊢
  obtain ⟨X1, D1⟩ := c
  dsimp only at r ⊢
  have x2 : (sI X1 0 0).1 2 = X1.1 2 := sI_ne (by decide)
  rw [x2]
  rcases r with r | ⟨r1, r2, r3, r4⟩
  · have hx : ¬ X1.1 2 = 0 := by rw [r.1]; exact r.2.1
    rw [if_neg r.2.1, if_neg hx]
    dsimp only
    have sE : Same [0, 1, 6, 7] [5, 6, 7, 8] M (sI (sI z 0 0) 1 (z.1 6)) := Same_t (Same_w sz (fun k hk => by
      rcases List.mem_cons.mp hk with e | e
      · rw [e]; decide
      · rw [List.mem_singleton.mp e]; decide) (fun _ h => h)) (Same_t (Same_I (by decide)) (Same_I (by decide)))
    have f0 : (sI (sI z 0 0) 1 (z.1 6)).1 0 = 0 := by rw [sI_ne (by decide), sI_eq]
    have f1 : (sI (sI z 0 0) 1 (z.1 6)).1 1 = z.1 6 := sI_eq
    generalize sI (sI z 0 0) 1 (z.1 6) = E at sE f0 f1 ⊢
    refine ⟨by rw [r.1], Or.inr ⟨hx, RTx_0 sI_eq f0, ?_, Sh_Same sE (n14 (by decide)) a3, RowB_s (sE.2 9 (by decide)) a4, RPa_s (sE.1 2 (by decide)) (sE.2 10 (by decide)) a5, RIm_s (sE.2 11 (by decide)) (sE.2 12 (by decide)) (sE.2 13 (by decide)) a6, ?_, RFi_s (sE.1 4 (by decide)) (sE.2 14 (by decide)) a8, RB_s (sE.1 5 (by decide)) (sE.2 15 (by decide)) a9⟩⟩
    · rw [f1, sI_ne (by decide)]
      exact r.2.2
    · rw [sE.1 3 (by decide)]
      exact a7
  · rw [if_pos r2, if_pos r1]
    unfold f_X7_shore_k3 f_X7_shore_k4 f_X7_shore_k5 f_X7_shore_k6 f_X7_shore_k7 f_X8_shore_k7 f_X8_shore_k8 f_X8_shore_k9 f_X8_shore_k10 f_X8_shore_k11 f_X8_shore_k12 f_X8_shore_k13
    dsimp only
    have y0 : (sI (sI z 0 0) 1 (-1)).1 0 = 0 := by rw [sI_ne (by decide), sI_eq]
    have y1 : (sI (sI z 0 0) 1 (-1)).1 1 = -1 := sI_eq
    have y2 : (sI (sI z 0 0) 1 (-1)).2 = z.2 := rfl
    have y3 : (sI (sI z 0 0) 1 (-1)).1 3 = M.1 3 := by rw [sI_ne (by decide), sI_ne (by decide)]; exact sz.1 3 (by decide)
    generalize sI (sI z 0 0) 1 (-1) = u0 at y0 y1 y2 y3 ⊢
    have u1a : (sA u0 1 (cpn (u0.2 5) (u0.2 1) 5)).2 1 = cpn (u0.2 5) (u0.2 1) 5 := sA_eq
    have u1b : ∀ k : Nat, k ≠ 1 → (sA u0 1 (cpn (u0.2 5) (u0.2 1) 5)).2 k = u0.2 k := fun k hk => sA_ne hk
    have u1c : (sA u0 1 (cpn (u0.2 5) (u0.2 1) 5)).1 = u0.1 := rfl
    generalize sA u0 1 (cpn (u0.2 5) (u0.2 1) 5) = u1 at u1a u1b u1c ⊢
    have u2a : (sA u1 2 (cpn (u1.2 6) (u1.2 2) 4)).2 2 = cpn (u1.2 6) (u1.2 2) 4 := sA_eq
    have u2b : ∀ k : Nat, k ≠ 2 → (sA u1 2 (cpn (u1.2 6) (u1.2 2) 4)).2 k = u1.2 k := fun k hk => sA_ne hk
    have u2c : (sA u1 2 (cpn (u1.2 6) (u1.2 2) 4)).1 = u1.1 := rfl
    generalize sA u1 2 (cpn (u1.2 6) (u1.2 2) 4) = u2 at u2a u2b u2c ⊢
    have u3a : (sA u2 3 (cpn (u2.2 7) (u2.2 3) 14)).2 3 = cpn (u2.2 7) (u2.2 3) 14 := sA_eq
    have u3b : ∀ k : Nat, k ≠ 3 → (sA u2 3 (cpn (u2.2 7) (u2.2 3) 14)).2 k = u2.2 k := fun k hk => sA_ne hk
    have u3c : (sA u2 3 (cpn (u2.2 7) (u2.2 3) 14)).1 = u2.1 := rfl
    generalize sA u2 3 (cpn (u2.2 7) (u2.2 3) 14) = u3 at u3a u3b u3c ⊢
    have u4a : (sA u3 4 (cpn (u3.2 8) (u3.2 4) 18)).2 4 = cpn (u3.2 8) (u3.2 4) 18 := sA_eq
    have u4b : ∀ k : Nat, k ≠ 4 → (sA u3 4 (cpn (u3.2 8) (u3.2 4) 18)).2 k = u3.2 k := fun k hk => sA_ne hk
    have u4c : (sA u3 4 (cpn (u3.2 8) (u3.2 4) 18)).1 = u3.1 := rfl
    generalize sA u3 4 (cpn (u3.2 8) (u3.2 4) 18) = u4 at u4a u4b u4c ⊢
    have hs : Sh D1 u4 := by
      refine Sh_cp r4 (fun i hi => ?_) (fun i hi => ?_) (fun i hi => ?_) (fun i hi => ?_)
      · rw [u4b 1 (by decide), u3b 1 (by decide), u2b 1 (by decide), u1a, cpn_lt hi, y2]
      · rw [u4b 2 (by decide), u3b 2 (by decide), u2a, cpn_lt hi, u1b 6 (by decide), y2]
      · rw [u4b 3 (by decide), u3a, cpn_lt hi, u2b 7 (by decide), u1b 7 (by decide), y2]
      · rw [u4a, cpn_lt hi, u3b 8 (by decide), u2b 8 (by decide), u1b 8 (by decide), y2]
    have i4 : u4.1 = u0.1 := by rw [u4c, u3c, u2c, u1c]
    obtain ⟨s5, q5⟩ := zr191 (u := u4) 35 (by omega)
    generalize it_X8_shore_191 u4 35 = u5 at s5 q5 ⊢
    have n3 : (u5.2 1 ((3 : Int32)).toNatClampNeg).toNatClampNeg = nP D1 := by rw [k3, s5.2 1 (by decide)]; exact Sh_nP hs
    rw [n3]
    obtain ⟨s6, q6⟩ := bgM1 hs s5 (beg_0 q5) (nP D1) (Nat.le_refl _)
    generalize it_X8_shore_212 u5 (nP D1) = u6 at s6 q6 ⊢
    have n4 : (u6.2 1 ((4 : Int32)).toNatClampNeg).toNatClampNeg = nG D1 := by rw [k4, s6.2 1 (by decide)]; exact Sh_nG hs
    rw [n4]
    obtain ⟨s7, q7⟩ := bgM2 hs s6 (nP_le hs.1) q6 (nG D1) (Nat.le_refl _)
    generalize it_X8_shore_281 u6 (nG D1) = u7 at s7 q7 ⊢
    rw [k0, k1, k3]
    have ans : u7.2 1 3 = D1.1 3 := by rw [s7.2 1 (by decide)]; exact hs.2.1.2.2.2.1
    rw [ans]
    have e13 : (sA (sI (sI (sI u7 2 0) 4 0) 5 0) 13 (upd (upd (u7.2 13) 0 0) 1 0)).2 13 = upd (upd (u7.2 13) 0 0) 1 0 := sA_eq
    have eA : ∀ k : Nat, k ≠ 13 → (sA (sI (sI (sI u7 2 0) 4 0) 5 0) 13 (upd (upd (u7.2 13) 0 0) 1 0)).2 k = u7.2 k := fun k hk => sA_ne hk
    have eI : ∀ k : Nat, k ≠ 2 → k ≠ 4 → k ≠ 5 → (sA (sI (sI (sI u7 2 0) 4 0) 5 0) 13 (upd (upd (u7.2 13) 0 0) 1 0)).1 k = u0.1 k := fun k h1 h2 h3 => by
      show (sI (sI (sI u7 2 0) 4 0) 5 0).1 k = _
      rw [sI_ne h3, sI_ne h2, sI_ne h1, s7.1 k List.not_mem_nil, i4]
    have e2 : (sA (sI (sI (sI u7 2 0) 4 0) 5 0) 13 (upd (upd (u7.2 13) 0 0) 1 0)).1 2 = 0 := by
      show (sI (sI (sI u7 2 0) 4 0) 5 0).1 2 = _
      rw [sI_ne (by decide), sI_ne (by decide), sI_eq]
    have e4 : (sA (sI (sI (sI u7 2 0) 4 0) 5 0) 13 (upd (upd (u7.2 13) 0 0) 1 0)).1 4 = 0 := by
      show (sI (sI (sI u7 2 0) 4 0) 5 0).1 4 = _
      rw [sI_ne (by decide), sI_eq]
    have e5 : (sA (sI (sI (sI u7 2 0) 4 0) 5 0) 13 (upd (upd (u7.2 13) 0 0) 1 0)).1 5 = 0 := by
      show (sI (sI (sI u7 2 0) 4 0) 5 0).1 5 = _
      rw [sI_eq]
    generalize sA (sI (sI (sI u7 2 0) 4 0) 5 0) 13 (upd (upd (u7.2 13) 0 0) 1 0) = E at e13 eA eI e2 e4 e5 ⊢
    have hsE : Sh D1 E := Sh_of (fun k h1 h2 => by rw [eA k (by omega)]; exact s7.2 k (fun q => by have := List.mem_singleton.mp q; omega)) hs
    obtain ⟨n, c, hn, -, p0, -⟩ := a5
    refine ⟨rfl, Or.inl ⟨by rw [x2]; exact r1, RTx_0 sI_eq ?_, ?_, hsE, ?_, ?_, ?_, ?_, ?_, ?_⟩⟩
    · rw [eI 0 (by decide) (by decide) (by decide)]; exact y0
    · rw [sI_ne (by decide), r3, eI 1 (by decide) (by decide) (by decide), y1]
    · rw [eA 9 (by decide)]
      exact beg_row hs (bgC hs) q7
    · refine ⟨n, 0, hn, by omega, ?_, ?_, e2, fun k hk => absurd hk (Nat.not_lt_zero k)⟩
      · unfold f_X4_forget
        rw [sI_ne (by decide)]
        exact p0
      · unfold f_X4_forget
        exact sI_eq
    · intro i hi
      have e0 : E.2 13 i = 0 := by
        rw [e13]
        by_cases k : i = 1
        · subst k
          rw [us]
        · rw [un k, show i = 0 by omega, us]
      rw [fgI i hi, e0]
      exact ⟨rfl, fun k => absurd rfl k⟩
    · rw [eI 3 (by decide) (by decide) (by decide), y3]
      exact a7
    · unfold f_X1_beginAnew f_X1_beginAnew_k1 f_X1_empty
      refine RFi_0 (fun k => absurd ?_ k) ?_ sI_eq e4
      · rw [sI_ne (by decide), sI_ne (by decide), sI_eq]
      · rw [sI_ne (by decide), sI_eq]
    · unfold f_X0_empty
      exact RB_0 sI_eq e5
end ShoreP
