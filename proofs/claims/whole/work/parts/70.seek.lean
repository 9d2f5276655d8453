section Seek
variable {T X L F P I N B M M' : St} {x y z : Int32} {j d p q g : Nat}
theorem Wt_0 : Wt L g d 0 = L.2 3 g := by
  unfold Wt
  rw [Nat.zero_mul]
  rfl
theorem Wt_s (t : Nat) : Wt L g d (t + 1) = f_X5_worthBehind L (nI g) (Wt L g d t) (L.2 0 d) := by
  rw [wb_]
  unfold Wt
  rw [Nat.succ_mul, wth_add]
theorem cvt39 (hg : g < 6) (hd : d < 4) {u : St} : ∀ t : Nat, t ≤ 31 → (it_X1_countWorths_39 L g d (u, L.2 3 g) t).2 = Wt L g d t ∧ (∀ t' : Nat, t' < t → (it_X1_countWorths_39 L g d (u, L.2 3 g) t).1.2 (4 + g) (31 * d + t') = Wt L g d t') ∧ (∀ i : Nat, i < 31 * d → (it_X1_countWorths_39 L g d (u, L.2 3 g) t).1.2 (4 + g) i = u.2 (4 + g) i) ∧ (∀ k : Nat, k ≠ 4 + g → (it_X1_countWorths_39 L g d (u, L.2 3 g) t).1.2 k = u.2 k) ∧ (it_X1_countWorths_39 L g d (u, L.2 3 g) t).1.1 = u.1
  | 0, _ => ⟨Wt_0.symm, fun t' h => absurd h (Nat.not_lt_zero t'), fun _ _ => rfl, fun _ _ => rfl, rfl⟩
  | t + 1, ht => by
    obtain ⟨a1, a2, a3, a4, a5⟩ := cvt39 hg hd (u := u) t (by omega)
    show (bd_X1_countWorths_39 L g d t (it_X1_countWorths_39 L g d (u, L.2 3 g) t)).2 = _ ∧ (∀ t' : Nat, t' < t + 1 → (bd_X1_countWorths_39 L g d t (it_X1_countWorths_39 L g d (u, L.2 3 g) t)).1.2 (4 + g) (31 * d + t') = _) ∧ (∀ i : Nat, i < 31 * d → (bd_X1_countWorths_39 L g d t (it_X1_countWorths_39 L g d (u, L.2 3 g) t)).1.2 (4 + g) i = _) ∧ (∀ k : Nat, k ≠ 4 + g → (bd_X1_countWorths_39 L g d t (it_X1_countWorths_39 L g d (u, L.2 3 g) t)).1.2 k = _) ∧ (bd_X1_countWorths_39 L g d t (it_X1_countWorths_39 L g d (u, L.2 3 g) t)).1.1 = _
    generalize it_X1_countWorths_39 L g d (u, L.2 3 g) t = w at a1 a2 a3 a4 a5 ⊢
    unfold bd_X1_countWorths_39 bd_X1_countWorths_39_k1
    have e : ((nI d * 31 : Int32) + nI t).toNatClampNeg = 31 * d + t := ix (nat_iadd (a := 31 * d) (b := t) ((nat_imul (a := d) (b := 31) rfl rfl).trans (by rw [Nat.mul_comm])) rfl) (by omega)
    rw [e, clI (by omega), a1]
    dsimp only
    refine ⟨(Wt_s t).symm, fun t' h => ?_, fun i hi => ?_, fun k hk => ?_, a5⟩
    · rw [sA_eq]
      by_cases c : t' = t
      · subst c
        rw [us]
      · rw [un (by omega)]
        exact a2 t' (by omega)
    · rw [sA_eq, un (by omega)]
      exact a3 i hi
    · rw [sA_ne hk]
      exact a4 k hk
theorem cvt20 (hg : g < 6) {u : St} : ∀ d : Nat, d ≤ 4 → (∀ d' t : Nat, d' < d → t < 31 → (it_X1_countWorths_20 L g u d).2 (4 + g) (31 * d' + t) = Wt L g d' t) ∧ (∀ k : Nat, k ≠ 4 + g → (it_X1_countWorths_20 L g u d).2 k = u.2 k) ∧ (it_X1_countWorths_20 L g u d).1 = u.1
  | 0, _ => ⟨fun d' t h => absurd h (Nat.not_lt_zero d'), fun _ _ => rfl, rfl⟩
  | d + 1, hd => by
    obtain ⟨a1, a2, a3⟩ := cvt20 hg (u := u) d (by omega)
    show (∀ d' t : Nat, d' < d + 1 → t < 31 → (bd_X1_countWorths_20 L g d (it_X1_countWorths_20 L g u d)).2 (4 + g) (31 * d' + t) = _) ∧ (∀ k : Nat, k ≠ 4 + g → (bd_X1_countWorths_20 L g d (it_X1_countWorths_20 L g u d)).2 k = _) ∧ (bd_X1_countWorths_20 L g d (it_X1_countWorths_20 L g u d)).1 = _
    generalize it_X1_countWorths_20 L g u d = w at a1 a2 a3 ⊢
    unfold bd_X1_countWorths_20 bd_X1_countWorths_20_k1
    rw [clI (show g < 1000 by omega)]
    obtain ⟨b1, b2, b3, b4, b5⟩ := cvt39 (L := L) hg (show d < 4 by omega) (u := w) 31 (Nat.le_refl _)
    generalize it_X1_countWorths_39 L g d (w, L.2 3 g) 31 = v at b1 b2 b3 b4 b5 ⊢
    refine ⟨fun d' t h ht => ?_, fun k hk => (b4 k hk).trans (a2 k hk), b5.trans a3⟩
    by_cases c : d' = d
    · subst c
      exact b2 t ht
    · rw [b3 _ (by omega)]
      exact a1 d' t (by omega) ht
theorem cvt10 (hD : nD L ≤ 4) {u : St} : ∀ g : Nat, g ≤ 6 → (∀ g' d t : Nat, g' < g → d < nD L → t < 31 → (it_X1_countWorths_10 L u g).2 (4 + g') (31 * d + t) = Wt L g' d t) ∧ (∀ k : Nat, k < 4 → (it_X1_countWorths_10 L u g).2 k = u.2 k) ∧ (it_X1_countWorths_10 L u g).1 = u.1
  | 0, _ => ⟨fun g' _ _ h => absurd h (Nat.not_lt_zero g'), fun _ _ => rfl, rfl⟩
  | g + 1, hg => by
    obtain ⟨a1, a2, a3⟩ := cvt10 hD (u := u) g (by omega)
    show (∀ g' d t : Nat, g' < g + 1 → d < nD L → t < 31 → (bd_X1_countWorths_10 L g (it_X1_countWorths_10 L u g)).2 (4 + g') (31 * d + t) = _) ∧ (∀ k : Nat, k < 4 → (bd_X1_countWorths_10 L g (it_X1_countWorths_10 L u g)).2 k = _) ∧ (bd_X1_countWorths_10 L g (it_X1_countWorths_10 L u g)).1 = _
    generalize it_X1_countWorths_10 L u g = w at a1 a2 a3 ⊢
    unfold bd_X1_countWorths_10 bd_X1_countWorths_10_k1
    obtain ⟨b1, b2, b3⟩ := cvt20 (L := L) (show g < 6 by omega) (u := w) (nD L) hD
    rw [show (L.1 2).toNatClampNeg = nD L from rfl]
    generalize it_X1_countWorths_20 L g w (nD L) = v at b1 b2 b3 ⊢
    refine ⟨fun g' d t h hd ht => ?_, fun k hk => (b2 k (by omega)).trans (a2 k hk), b3.trans a3⟩
    by_cases c : g' = g
    · subst c
      exact b1 d t hd ht
    · rw [b2 _ (by omega)]
      exact a1 g' d t (by omega) hd ht
theorem cwN (ok : okA L) (h : ¬ N.1 1 = 0 → Ctd L N) : Ctd L (f_X1_countWorths L N) ∧ ¬ (f_X1_countWorths L N).1 1 = 0 ∧ (∀ k : Nat, k ≠ 1 → (f_X1_countWorths L N).1 k = N.1 k) ∧ ∀ k : Nat, k < 4 → (f_X1_countWorths L N).2 k = N.2 k := by
  unfold f_X1_countWorths
  by_cases c : N.1 1 = 0
  · rw [if_pos c]
    unfold f_X1_countWorths_k1
    rw [show (L.1 4).toNatClampNeg = nG L from rfl]
    obtain ⟨a1, a2, a3⟩ := cvt10 (nD_le ok) (u := N) (nG L) (nG_le ok)
    generalize it_X1_countWorths_10 L N (nG L) = w at a1 a2 a3 ⊢
    refine ⟨fun g d t hg hd ht => a1 g d t hg hd ht, by rw [sI_eq]; exact ne10, fun k hk => ?_, a2⟩
    rw [sI_ne hk, a3]
  · rw [if_neg c]
    exact ⟨h c, c, fun _ _ => rfl, fun _ _ => rfl⟩
theorem wby (ok : okA L) (hC : Ctd L N) (hg : g < nG L) (hd : d < nD L) {t : Nat} (ht : t < 31) : f_X1_worthBy N (nI g) (nI (100 * d + t)) = Wt L g d t := by
  have h6 := nG_le ok
  have h4 := nD_le ok
  unfold f_X1_worthBy
  rw [if_neg (nI_pos (by omega)), if_neg (show ¬ 6 ≤ nI g from nI_ge (b := 6) (by omega) (by omega)), show (100 : Int32) = nI 100 from rfl, pk_rem (by omega) (by decide) (by decide), pk_div (by omega) (by decide) (by decide), show (100 * d + t) / 100 = d by omega, show (100 * d + t) % 100 = t by omega, show (31 : Int32) = nI 31 from rfl, mulI, addI, if_neg (nI_pos (by omega)), if_pos (show nI (d * 31 + t) < 124 from nI_lt (b := 124) (by omega) (by omega)), clI (by omega), clI (by omega), show d * 31 + t = 31 * d + t by omega]
  exact hC g d t hg hd ht
def okNm (L N : St) (c : Nat) : Prop := ∀ k : Nat, k < c → N.2 0 k = 0 → ∃ g : Nat, g < nG L ∧ N.2 1 k = nI g
theorem fa_lp (ok : okA L) (hC : Ctd L N) {c : Nat} (hc : c ≤ 6) (hN : okNm L N c) (hd : d < nD L) {t : Nat} (ht : t < 31) : ∀ k j : Nat, j + k = c → (lp_X1_fitsAll_3 L N (nI d) (nI t) k j () = 0 ↔ ¬ ∀ i : Nat, j ≤ i → i < c → fitV L N d t i = N.2 2 i)
  | 0, j, e => ⟨fun h => absurd h ne10, fun h => absurd (fun i h1 h2 => by omega) h⟩
  | k + 1, j, e => by
    have h4 := nD_le ok
    have h6 := nG_le ok
    have ih := fa_lp ok hC hc hN hd ht k (j + 1) (by omega)
    show (lb_X1_fitsAll_3 L N (nI d) (nI t) (lp_X1_fitsAll_3 L N (nI d) (nI t) k) j () = 0 ↔ _)
    unfold lb_X1_fitsAll_3 lb_X1_fitsAll_3_k1 lb_X1_fitsAll_3_k2
    have ev : (if N.2 0 j = 0 then (if f_X1_worthBy N (N.2 1 j) (100 * nI d + nI t) = N.2 2 j then lp_X1_fitsAll_3 L N (nI d) (nI t) k (j + 1) () else 0) else if f_X5_kingAt L (nI t * L.2 0 d) = N.2 2 j then lp_X1_fitsAll_3 L N (nI d) (nI t) k (j + 1) () else 0) = if fitV L N d t j = N.2 2 j then lp_X1_fitsAll_3 L N (nI d) (nI t) k (j + 1) () else 0 := by
      unfold fitV
      by_cases c0 : N.2 0 j = 0
      · obtain ⟨g, hg, eg⟩ := hN j (by omega) c0
        rw [if_pos c0, if_pos c0, eg, show (100 : Int32) = nI 100 from rfl, mulI, addI, wby ok hC hg hd ht, clI (by omega)]
      · rw [if_neg c0, if_neg c0]
    rw [clI (show j < 1000 by omega), clI (show d < 1000 by omega), ev]
    by_cases c1 : fitV L N d t j = N.2 2 j
    · rw [if_pos c1, ih]
      constructor
      · intro a b
        exact a (fun i h1 h2 => b i (by omega) h2)
      · intro a b
        refine a (fun i h1 h2 => ?_)
        by_cases ei : i = j
        · rw [ei]; exact c1
        · exact b i (by omega) h2
    · rw [if_neg c1]
      exact ⟨fun _ b => c1 (b j (Nat.le_refl _) (by omega)), fun _ => rfl⟩
theorem fitB_iff {c t : Nat} : (fitB L N c d t = true) ↔ ∀ i : Nat, i < c → fitV L N d t i = N.2 2 i := by
  unfold fitB
  rw [List.all_eq_true]
  constructor
  · intro h i hi
    exact of_decide_eq_true (h i (List.mem_range.mpr hi))
  · intro h i hi
    exact decide_eq_true (h i (List.mem_range.mp hi))
theorem fa_ (ok : okA L) (hC : Ctd L N) {c : Nat} (hc : c ≤ 6) (h0 : N.1 0 = nI c) (hN : okNm L N c) (hd : d < nD L) {t : Nat} (ht : t < 31) : (f_X1_fitsAll L N (nI d) (nI t) = 0) ↔ ¬ fitB L N c d t = true := by
  unfold f_X1_fitsAll
  rw [h0, clI (by omega), fa_lp ok hC hc hN hd ht c 0 (by omega), fitB_iff]
  constructor
  · intro a b
    exact a (fun i _ h2 => b i h2)
  · intro a b
    exact a (fun i h2 => b i (by omega) h2)
theorem rowL_len {Q : Nat → Nat → Bool} {d : Nat} : ∀ t : Nat, (rowL Q d t).length ≤ t
  | 0 => Nat.le_refl _
  | t + 1 => by
    have := rowL_len (Q := Q) (d := d) t
    show (rowL Q d t ++ (if Q d t then [(d, t)] else [])).length ≤ t + 1
    rw [List.length_append]
    split
    · rw [List.length_singleton]; omega
    · rw [List.length_nil]; omega
theorem allL_len {Q : Nat → Nat → Bool} : ∀ d : Nat, (allL Q d).length ≤ 31 * d
  | 0 => Nat.le_refl _
  | d + 1 => by
    have := allL_len (Q := Q) d
    have := rowL_len (Q := Q) (d := d) 31
    show (allL Q d ++ rowL Q d 31).length ≤ _
    rw [List.length_append]
    omega
theorem rowL_mem {Q : Nat → Nat → Bool} {d e t' : Nat} : ∀ t : Nat, (e, t') ∈ rowL Q d t → e = d ∧ t' < t
  | 0, h => absurd h List.not_mem_nil
  | t + 1, h => by
    have h' : (e, t') ∈ rowL Q d t ++ (if Q d t then [(d, t)] else []) := h
    rcases List.mem_append.mp h' with k | k
    · have := rowL_mem t k
      exact ⟨this.1, by omega⟩
    · split at k
      · have := List.mem_singleton.mp k
        cases this
        exact ⟨rfl, by omega⟩
      · exact absurd k List.not_mem_nil
theorem allL_mem {Q : Nat → Nat → Bool} {e t' : Nat} : ∀ d : Nat, (e, t') ∈ allL Q d → e < d ∧ t' < 31
  | 0, h => absurd h List.not_mem_nil
  | d + 1, h => by
    have h' : (e, t') ∈ allL Q d ++ rowL Q d 31 := h
    rcases List.mem_append.mp h' with k | k
    · have := allL_mem d k
      exact ⟨by omega, this.2⟩
    · have := rowL_mem 31 k
      exact ⟨by omega, this.2⟩
theorem get_app {l : List (Nat × Nat)} {a b : Nat × Nat} {i : Nat} (h : (l ++ [a])[i]? = some b) : (i = l.length ∧ a = b) ∨ (i < l.length ∧ l[i]? = some b) := by
  rcases Nat.lt_trichotomy i l.length with c | c | c
  · rw [List.getElem?_append_left c] at h
    exact Or.inr ⟨c, h⟩
  · subst c
    rw [List.getElem?_append_right (Nat.le_refl _), Nat.sub_self] at h
    exact Or.inl ⟨rfl, Option.some.inj h⟩
  · rw [List.getElem?_append_right (by omega), List.getElem?_eq_none (by rw [List.length_singleton]; omega)] at h
    cases h
theorem sk30 (ok : okA L) {N0 : St} {c : Nat} (hc : c ≤ 6) (h0 : N0.1 0 = nI c) (hN : okNm L N0 c) (hC : Ctd L N0) (hd : d < nD L) {l : List (Nat × Nat)} (hl : l.length ≤ 31 * d) {u : St} (hu : HoC u l) (su : Same [2] [3] N0 u) : ∀ t : Nat, t ≤ 31 → HoC (it_X1_seek_30 L d u t) (l ++ rowL (fitB L N0 c) d t) ∧ Same [2] [3] N0 (it_X1_seek_30 L d u t)
  | 0, _ => ⟨by show HoC u (l ++ []); rw [List.append_nil]; exact hu, su⟩
  | t + 1, ht => by
    obtain ⟨a1, a2⟩ := sk30 ok hc h0 hN hC hd hl hu su t (by omega)
    have h4 := nD_le ok
    have hlen : (l ++ rowL (fitB L N0 c) d t).length < 124 := by
      have := rowL_len (Q := fitB L N0 c) (d := d) t
      rw [List.length_append]
      omega
    show HoC (bd_X1_seek_30 L d t (it_X1_seek_30 L d u t)) (l ++ (rowL (fitB L N0 c) d t ++ (if fitB L N0 c d t then [(d, t)] else []))) ∧ Same [2] [3] N0 (bd_X1_seek_30 L d t (it_X1_seek_30 L d u t))
    generalize it_X1_seek_30 L d u t = w at a1 a2 ⊢
    rw [← List.append_assoc]
    generalize l ++ rowL (fitB L N0 c) d t = l' at a1 hlen ⊢
    have e0 : w.2 0 = N0.2 0 := a2.2 0 (by decide)
    have e1 : w.2 1 = N0.2 1 := a2.2 1 (by decide)
    have e2 : w.2 2 = N0.2 2 := a2.2 2 (by decide)
    have hfb : fitB L w c d t = fitB L N0 c d t := by
      unfold fitB fitV
      rw [e0, e1, e2]
    have hCw : Ctd L w := fun g d t hg hd ht => by
      rw [a2.2 (4 + g) (fun k => by have := List.mem_singleton.mp k; omega)]
      exact hC g d t hg hd ht
    have hNw : okNm L w c := by
      unfold okNm
      rw [e0, e1]
      exact hN
    have q := fa_ ok hCw hc ((a2.1 0 (by decide)).trans h0) hNw hd (t := t) (by omega)
    rw [hfb] at q
    unfold bd_X1_seek_30
    by_cases cf : fitB L N0 c d t = true
    · rw [if_neg (fun k => q.mp k cf), if_pos cf]
      obtain ⟨b1, b2⟩ := a1
      rw [b1, clI (by omega), show (100 : Int32) = nI 100 from rfl, mulI, addI, show nI l'.length + 1 = nI (l'.length + 1) from addI _ 1]
      refine ⟨⟨?_, fun i d' t' hi => ?_⟩, Same_t a2 (Same_t (Same_I (List.mem_singleton.mpr rfl)) (Same_A (List.mem_singleton.mpr rfl)))⟩
      · show (sI w 2 (nI (l'.length + 1))).1 2 = _
        rw [sI_eq, List.length_append, List.length_singleton]
      · rw [sA_eq]
        rcases get_app hi with ⟨k1, k2⟩ | ⟨k1, k2⟩
        · cases k2
          rw [k1, us]
        · rw [un (by omega)]
          exact b2 i d' t' k2
    · rw [if_pos (q.mpr cf), if_neg cf, List.append_nil]
      exact ⟨a1, a2⟩
theorem sk20 (ok : okA L) {N0 : St} {c : Nat} (hc : c ≤ 6) (h0 : N0.1 0 = nI c) (hN : okNm L N0 c) (hC : Ctd L N0) {u : St} (hu : HoC u []) (su : Same [2] [3] N0 u) : ∀ d : Nat, d ≤ nD L → HoC (it_X1_seek_20 L u d) (allL (fitB L N0 c) d) ∧ Same [2] [3] N0 (it_X1_seek_20 L u d)
  | 0, _ => ⟨hu, su⟩
  | d + 1, hd => by
    obtain ⟨a1, a2⟩ := sk20 ok hc h0 hN hC hu su d (by omega)
    show HoC (bd_X1_seek_20 L d (it_X1_seek_20 L u d)) (allL (fitB L N0 c) d ++ rowL (fitB L N0 c) d 31) ∧ Same [2] [3] N0 (bd_X1_seek_20 L d (it_X1_seek_20 L u d))
    unfold bd_X1_seek_20 bd_X1_seek_20_k1
    exact sk30 ok hc h0 hN hC (by omega) (allL_len d) a1 a2 31 (Nat.le_refl _)
theorem fitB_c {N' : St} {c : Nat} (e0 : N'.2 0 = N.2 0) (e1 : N'.2 1 = N.2 1) (e2 : N'.2 2 = N.2 2) : fitB L N' c = fitB L N c := by
  funext d t
  unfold fitB fitV
  rw [e0, e1, e2]
/-- the class's list of stays, as it must be -/
theorem skN (ok : okA L) (h : RFi L N M) : RFi L (f_X1_seek L N) M ∧ ∃ c : Nat, c ≤ 6 ∧ (f_X1_seek L N).1 0 = nI c ∧ M.1 4 = nI c ∧ Ctd L (f_X1_seek L N) ∧ HoC (f_X1_seek L N) (allL (fitB L (f_X1_seek L N) c) (nD L)) := by
  have h' := h
  obtain ⟨c, hc, a, b, q, q2, q3⟩ := h
  unfold f_X1_seek
  by_cases c3 : N.1 3 = 0
  · rw [if_pos c3]
    unfold f_X1_seek_k1 f_X1_seek_k2
    obtain ⟨w1, w2, w3, w4⟩ := cwN ok q2
    generalize f_X1_countWorths L N = v at w1 w2 w3 w4 ⊢
    have hN : okNm L v c := fun k hk e => by
      obtain ⟨u1, u2, u3, u4⟩ := q k hk
      rw [w4 0 (by omega), u1] at e
      rw [w4 1 (by omega), u2]
      exact u4 e
    have v0 : v.1 0 = nI c := (w3 0 (by decide)).trans a
    obtain ⟨s1, s2⟩ := sk20 (u := sI v 2 0) ok hc v0 hN w1 ⟨sI_eq, fun i d t e => by cases e⟩ (Same_I (List.mem_singleton.mpr rfl)) (nD L) (Nat.le_refl _)
    rw [show (L.1 2).toNatClampNeg = nD L from rfl]
    generalize it_X1_seek_20 L (sI v 2 0) (nD L) = w at s1 s2 ⊢
    have e0 : w.2 0 = v.2 0 := s2.2 0 (by decide)
    have e1 : w.2 1 = v.2 1 := s2.2 1 (by decide)
    have e2 : w.2 2 = v.2 2 := s2.2 2 (by decide)
    have f0 : (sI w 3 1).1 0 = nI c := by rw [sI_ne (by decide), s2.1 0 (by decide)]; exact v0
    have f1 : ¬ (sI w 3 1).1 1 = 0 := by rw [sI_ne (by decide), s2.1 1 (by decide)]; exact w2
    have fC : Ctd L (sI w 3 1) := fun g d t hg hd ht => by
      show w.2 (4 + g) (31 * d + t) = _
      rw [s2.2 (4 + g) (fun k => by have := List.mem_singleton.mp k; omega)]
      exact w1 g d t hg hd ht
    have fH : HoC (sI w 3 1) (allL (fitB L (sI w 3 1) c) (nD L)) := by
      rw [fitB_c (N' := sI w 3 1) (N := v) e0 e1 e2]
      refine ⟨?_, s1.2⟩
      rw [sI_ne (by decide)]
      exact s1.1
    refine ⟨⟨c, hc, f0, b, fun k hk => ?_, fun _ => fC, fun _ => ⟨f1, fH⟩⟩, c, hc, f0, b, fC, fH⟩
    show w.2 0 k = _ ∧ w.2 1 k = _ ∧ w.2 2 k = _ ∧ _
    rw [e0, e1, e2, w4 0 (by omega), w4 1 (by omega), w4 2 (by omega)]
    exact q k hk
  · rw [if_neg c3]
    obtain ⟨u1, u2⟩ := q3 c3
    exact ⟨h', c, hc, a, b, q2 u1, u2⟩
end Seek
