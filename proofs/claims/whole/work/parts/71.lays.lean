section Lays
variable {T X L F P I N B M M' : St} {x y z : Int32} {d p q g : Nat}
theorem mly16 (h : Sh L M) {u : St} (su : Same [] [16, 17, 18] M u) {a : Int32} {b : Nat} : ∀ n : Nat, n ≤ nG L → Same [] [16, 17, 18] M (it_X8_lays_16 a b u n) ∧ (it_X8_lays_16 a b u n).2 17 = u.2 17 ∧ (it_X8_lays_16 a b u n).2 18 = u.2 18 ∧ ∀ g : Nat, g < n → (it_X8_lays_16 a b u n).2 16 g = L.2 3 g
  | 0, _ => ⟨su, rfl, rfl, fun g hg => absurd hg (Nat.not_lt_zero g)⟩
  | n + 1, hn => by
    obtain ⟨a1, a2, a3, a4⟩ := mly16 h su (a := a) (b := b) n (by omega)
    have h6 := nG_le h.1
    show Same [] [16, 17, 18] M (bd_X8_lays_16 a b n (it_X8_lays_16 a b u n)) ∧ (bd_X8_lays_16 a b n (it_X8_lays_16 a b u n)).2 17 = _ ∧ (bd_X8_lays_16 a b n (it_X8_lays_16 a b u n)).2 18 = _ ∧ ∀ g : Nat, g < n + 1 → (bd_X8_lays_16 a b n (it_X8_lays_16 a b u n)).2 16 g = _
    generalize it_X8_lays_16 a b u n = w at a1 a2 a3 a4 ⊢
    unfold bd_X8_lays_16
    rw [clI (by omega), t0 (by omega), a1.2 4 (by decide), (h.2.2.2.2.1 n (by omega)).1]
    refine ⟨Same_t a1 (Same_A (by decide)), ?_, ?_, fun g hg => ?_⟩
    · rw [sA_ne (by decide)]; exact a2
    · rw [sA_ne (by decide)]; exact a3
    · rw [sA_eq]
      by_cases c : g = n
      · subst c
        rw [us]
      · rw [un c]
        exact a4 g (by omega)
theorem mly126 (h : Sh L M) {u : St} (su : Same [] [16, 17, 18] M u) (hd : d < nD L) {t : Nat} (hw : ∀ g : Nat, g < nG L → u.2 16 g = Wt L g d t) {a : Int32} {b : Nat} : ∀ n : Nat, n ≤ nG L → Same [] [16, 17, 18] M (it_X8_lays_126 a d b u n) ∧ (it_X8_lays_126 a d b u n).2 17 = u.2 17 ∧ (it_X8_lays_126 a d b u n).2 18 = u.2 18 ∧ (∀ g : Nat, g < n → (it_X8_lays_126 a d b u n).2 16 g = Wt L g d (t + 1)) ∧ ∀ g : Nat, n ≤ g → (it_X8_lays_126 a d b u n).2 16 g = u.2 16 g
  | 0, _ => ⟨su, rfl, rfl, fun g hg => absurd hg (Nat.not_lt_zero g), fun _ _ => rfl⟩
  | n + 1, hn => by
    obtain ⟨a1, a2, a3, a4, a5⟩ := mly126 h su hd hw (a := a) (b := b) n (by omega)
    have h6 := nG_le h.1
    have h4 := nD_le h.1
    show Same [] [16, 17, 18] M (bd_X8_lays_126 a d b n (it_X8_lays_126 a d b u n)) ∧ (bd_X8_lays_126 a d b n (it_X8_lays_126 a d b u n)).2 17 = _ ∧ (bd_X8_lays_126 a d b n (it_X8_lays_126 a d b u n)).2 18 = _ ∧ (∀ g : Nat, g < n + 1 → (bd_X8_lays_126 a d b n (it_X8_lays_126 a d b u n)).2 16 g = _) ∧ ∀ g : Nat, n + 1 ≤ g → (bd_X8_lays_126 a d b n (it_X8_lays_126 a d b u n)).2 16 g = _
    generalize it_X8_lays_126 a d b u n = w at a1 a2 a3 a4 a5 ⊢
    unfold bd_X8_lays_126
    rw [clI (by omega), clI (by omega), wi_ (Sh_Same a1 (n14 (by decide)) h) (show n < nG L by omega), a1.2 2 (by decide), (h.2.2.1 d hd).1, a5 n (Nat.le_refl _), hw n (by omega), ← Wt_s]
    refine ⟨Same_t a1 (Same_A (by decide)), ?_, ?_, fun g hg => ?_, fun g hg => ?_⟩
    · rw [sA_ne (by decide)]; exact a2
    · rw [sA_ne (by decide)]; exact a3
    · rw [sA_eq]
      by_cases c : g = n
      · subst c
        rw [us]
      · rw [un c]
        exact a4 g (by omega)
    · rw [sA_eq, un (by omega)]
      exact a5 g (by omega)
theorem mly84 (h : Sh L M) {u : St} (su : Same [] [16, 17, 18] M u) {m : Nat} (hm : m < 124) {a b : Nat} : ∀ n : Nat, n ≤ nG L → Same [] [16, 17, 18] M (it_X8_lays_84 (nI m) a b u n) ∧ (it_X8_lays_84 (nI m) a b u n).2 17 = u.2 17 ∧ (it_X8_lays_84 (nI m) a b u n).2 16 = u.2 16 ∧ (∀ g : Nat, g < n → (it_X8_lays_84 (nI m) a b u n).2 18 (6 * m + g) = u.2 16 g) ∧ ∀ i : Nat, i < 6 * m → (it_X8_lays_84 (nI m) a b u n).2 18 i = u.2 18 i
  | 0, _ => ⟨su, rfl, rfl, fun g hg => absurd hg (Nat.not_lt_zero g), fun _ _ => rfl⟩
  | n + 1, hn => by
    obtain ⟨a1, a2, a3, a4, a5⟩ := mly84 h su hm (a := a) (b := b) n (by omega)
    have h6 := nG_le h.1
    show Same [] [16, 17, 18] M (bd_X8_lays_84 (nI m) a b n (it_X8_lays_84 (nI m) a b u n)) ∧ (bd_X8_lays_84 (nI m) a b n (it_X8_lays_84 (nI m) a b u n)).2 17 = _ ∧ (bd_X8_lays_84 (nI m) a b n (it_X8_lays_84 (nI m) a b u n)).2 16 = _ ∧ (∀ g : Nat, g < n + 1 → (bd_X8_lays_84 (nI m) a b n (it_X8_lays_84 (nI m) a b u n)).2 18 (6 * m + g) = _) ∧ ∀ i : Nat, i < 6 * m → (bd_X8_lays_84 (nI m) a b n (it_X8_lays_84 (nI m) a b u n)).2 18 i = _
    generalize it_X8_lays_84 (nI m) a b u n = w at a1 a2 a3 a4 a5 ⊢
    unfold bd_X8_lays_84
    rw [clI (by omega), show (6 : Int32) = nI 6 from rfl, mulI, addI, clI (by omega), a3]
    refine ⟨Same_t a1 (Same_A (by decide)), ?_, ?_, fun g hg => ?_, fun g hg => ?_⟩
    · rw [sA_ne (by decide)]; exact a2
    · rw [sA_ne (by decide)]; exact a3
    · rw [sA_eq]
      by_cases c : g = n
      · subst c
        rw [us]
      · rw [un (by omega)]
        exact a4 g (by omega)
    · rw [sA_eq, un (by omega)]
      exact a5 g (by omega)
def HoM (L M : St) (n : Int32) (l : List (Nat × Nat)) : Prop := n = nI l.length ∧ ∀ i d t : Nat, l[i]? = some (d, t) → M.2 17 i = nI (100 * d + t) ∧ ∀ g : Nat, g < nG L → M.2 18 (6 * i + g) = Wt L g d t
theorem kingD (h : Sh L M) (hd : d < nD L) : f_X5_kingAt L x = x / M.2 1 1 := by
  rw [king_ h, h.2.1.2.1]
  rcases h.2.2.2.2.2 with ⟨-, -, a, -⟩ | ⟨a, -⟩
  · have e : nD L = 0 := by unfold nD; rw [a]; rfl
    omega
  · rw [if_neg]
    unfold f_X8_isShore
    rw [k0, h.2.1.1, if_neg]
    · exact ne10
    · rw [fa_le, show (0 : Int32).toInt = 0 from rfl]
      omega
/-- what was found, as both sides have it -/
def FdR (L N M : St) (c : Nat) : Prop := M.1 4 = nI c ∧ ∀ k : Nat, k < c → N.2 0 k = M.2 14 (3 * k) ∧ N.2 1 k = M.2 14 (3 * k + 1) ∧ N.2 2 k = M.2 14 (3 * k + 2) ∧ (M.2 14 (3 * k) = 0 → ∃ g : Nat, g < nG L ∧ M.2 14 (3 * k + 1) = nI g)
theorem so_it (h : Sh L M) {u : St} (su : Same [] [16, 17, 18] M u) {c : Nat} (hc : c ≤ 6) (hF : FdR L N M c) (hd : d < nD L) {t : Nat} (hw : ∀ g : Nat, g < nG L → u.2 16 g = Wt L g d t) : ∀ n : Nat, n ≤ c → (it_X8_isSo_4 u (nI t * L.2 0 d) 1 n = if (∀ i : Nat, i < n → fitV L N d t i = N.2 2 i) then 1 else 0)
  | 0, _ => by
    rw [if_pos (fun i hi => absurd hi (Nat.not_lt_zero i))]
    rfl
  | n + 1, hn => by
    have ih := so_it h su hc hF hd hw n (by omega)
    have h6 := nG_le h.1
    show bd_X8_isSo_4 u (nI t * L.2 0 d) n (it_X8_isSo_4 u (nI t * L.2 0 d) 1 n) = _
    generalize it_X8_isSo_4 u (nI t * L.2 0 d) 1 n = w at ih ⊢
    obtain ⟨f1, f2, f3, f4⟩ := hF.2 n (by omega)
    have step : bd_X8_isSo_4 u (nI t * L.2 0 d) n w = if w = 0 then 0 else if fitV L N d t n = N.2 2 n then 1 else 0 := by
      unfold bd_X8_isSo_4 bd_X8_isSo_4_k1 fitV
      rw [t0 (by omega), t1 (by omega), t2 (by omega), k1, su.2 14 (by decide), su.2 1 (by decide), f1, f2, f3]
      by_cases c0 : M.2 14 (3 * n) = 0
      · obtain ⟨g, hg, eg⟩ := f4 c0
        rw [if_pos c0, if_pos c0, eg, clI (by omega), hw g hg]
      · rw [if_neg c0, if_neg c0, kingD h hd]
    rw [step, ih]
    by_cases ca : ∀ i : Nat, i < n → fitV L N d t i = N.2 2 i
    · rw [if_pos ca, if_neg ne10]
      by_cases cb : fitV L N d t n = N.2 2 n
      · rw [if_pos cb, if_pos]
        intro i hi
        by_cases e : i = n
        · rw [e]; exact cb
        · exact ca i (by omega)
      · rw [if_neg cb, if_neg (fun k => cb (k n (by omega)))]
    · rw [if_neg ca, if_pos rfl, if_neg (fun k => ca (fun i hi => k i (by omega)))]
theorem so_ (h : Sh L M) {u : St} (su : Same [] [16, 17, 18] M u) {c : Nat} (hc : c ≤ 6) (hF : FdR L N M c) (hd : d < nD L) {t : Nat} (hw : ∀ g : Nat, g < nG L → u.2 16 g = Wt L g d t) : (f_X8_isSo u (nI t * L.2 0 d) = 0) ↔ ¬ fitB L N c d t = true := by
  unfold f_X8_isSo f_X8_isSo_k1
  rw [su.1 4 (by decide), hF.1, clI (by omega), so_it h su hc hF hd hw c (Nat.le_refl _), fitB_iff]
  by_cases ca : ∀ i : Nat, i < c → fitV L N d t i = N.2 2 i
  · rw [if_pos ca]
    exact ⟨fun k => absurd k ne10, fun k => absurd ca k⟩
  · rw [if_neg ca]
    exact ⟨fun _ => ca, fun _ => rfl⟩
theorem mly48 (h : Sh L M) {c : Nat} (hc : c ≤ 6) (hF : FdR L N M c) (hd : d < nD L) {l : List (Nat × Nat)} (hl : l.length ≤ 31 * d) {u : St × Int32} (hu : HoM L u.1 u.2 l) (su : Same [] [16, 17, 18] M u.1) (hw : ∀ g : Nat, g < nG L → u.1.2 16 g = Wt L g d 0) : ∀ t : Nat, t ≤ 31 → HoM L (it_X8_lays_48 d u t).1 (it_X8_lays_48 d u t).2 (l ++ rowL (fitB L N c) d t) ∧ Same [] [16, 17, 18] M (it_X8_lays_48 d u t).1 ∧ ∀ g : Nat, g < nG L → (it_X8_lays_48 d u t).1.2 16 g = Wt L g d t
  | 0, _ => ⟨by show HoM L u.1 u.2 (l ++ []); rw [List.append_nil]; exact hu, su, hw⟩
  | t + 1, ht => by
    obtain ⟨a1, a2, a3⟩ := mly48 h hc hF hd hl hu su hw t (by omega)
    have h4 := nD_le h.1
    have h6 := nG_le h.1
    have hlen : (l ++ rowL (fitB L N c) d t).length < 124 := by
      have := rowL_len (Q := fitB L N c) (d := d) t
      rw [List.length_append]
      omega
    show HoM L (bd_X8_lays_48 d t (it_X8_lays_48 d u t)).1 (bd_X8_lays_48 d t (it_X8_lays_48 d u t)).2 (l ++ (rowL (fitB L N c) d t ++ (if fitB L N c d t then [(d, t)] else []))) ∧ Same [] [16, 17, 18] M (bd_X8_lays_48 d t (it_X8_lays_48 d u t)).1 ∧ ∀ g : Nat, g < nG L → (bd_X8_lays_48 d t (it_X8_lays_48 d u t)).1.2 16 g = _
    generalize it_X8_lays_48 d u t = w at a1 a2 a3 ⊢
    rw [← List.append_assoc]
    generalize l ++ rowL (fitB L N c) d t = l' at a1 hlen ⊢
    have q := so_ h a2 hc hF hd a3
    unfold bd_X8_lays_48
    rw [clI (show d < 1000 by omega), a2.2 2 (by decide), (h.2.2.1 d hd).1, k4, a2.2 1 (by decide), Sh_nG h]
    obtain ⟨b1, b2⟩ := a1
    by_cases cf : fitB L N c d t = true
    · rw [if_neg (fun k => q.mp k cf), if_pos cf]
      unfold bd_X8_lays_48_k2 bd_X8_lays_48_k3
      rw [b1, clI (show l'.length < 1000 by omega), show (100 : Int32) = nI 100 from rfl, mulI, addI, show nI l'.length + 1 = nI (l'.length + 1) from addI _ 1]
      have s1 : Same [] [16, 17, 18] M (sA w.1 17 (upd (w.1.2 17) l'.length (nI (100 * d + t)))) := Same_t a2 (Same_A (by decide))
      have s2 : (sA w.1 17 (upd (w.1.2 17) l'.length (nI (100 * d + t)))).2 17 = upd (w.1.2 17) l'.length (nI (100 * d + t)) := sA_eq
      have s3 : (sA w.1 17 (upd (w.1.2 17) l'.length (nI (100 * d + t)))).2 16 = w.1.2 16 := sA_ne (by decide)
      have s4 : (sA w.1 17 (upd (w.1.2 17) l'.length (nI (100 * d + t)))).2 18 = w.1.2 18 := sA_ne (by decide)
      generalize sA w.1 17 (upd (w.1.2 17) l'.length (nI (100 * d + t))) = v at s1 s2 s3 s4 ⊢
      obtain ⟨c1, c2, c3, c4, c5⟩ := mly84 h s1 hlen (a := d) (b := t) (nG L) (Nat.le_refl _)
      generalize it_X8_lays_84 (nI l'.length) d t v (nG L) = v2 at c1 c2 c3 c4 c5 ⊢
      rw [k4, c1.2 1 (by decide), Sh_nG h]
      obtain ⟨e1, e2, e3, e4, -⟩ := mly126 h c1 hd (t := t) (fun g hg => by rw [c3, s3]; exact a3 g hg) (a := nI (l'.length + 1)) (b := t) (nG L) (Nat.le_refl _)
      generalize it_X8_lays_126 (nI (l'.length + 1)) d t v2 (nG L) = v3 at e1 e2 e3 e4 ⊢
      refine ⟨⟨by rw [List.length_append, List.length_singleton], fun i d' t' hi => ?_⟩, e1, e4⟩
      show v3.2 17 i = _ ∧ ∀ g : Nat, g < nG L → v3.2 18 (6 * i + g) = _
      rw [e2, c2, s2, e3]
      rcases get_app hi with ⟨k1, k2⟩ | ⟨k1, k2⟩
      · cases k2
        subst k1
        refine ⟨us, fun g hg => ?_⟩
        rw [c4 g hg, s3]
        exact a3 g hg
      · obtain ⟨m1, m2⟩ := b2 i d' t' k2
        refine ⟨by rw [un (by omega)]; exact m1, fun g hg => ?_⟩
        rw [c5 _ (by omega), s4]
        exact m2 g hg
    · rw [if_pos (q.mpr cf), if_neg cf, List.append_nil]
      unfold bd_X8_lays_48_k1
      obtain ⟨e1, e2, e3, e4, -⟩ := mly126 h a2 hd (t := t) a3 (a := w.2) (b := t) (nG L) (Nat.le_refl _)
      generalize it_X8_lays_126 w.2 d t w.1 (nG L) = v3 at e1 e2 e3 e4 ⊢
      refine ⟨⟨b1, fun i d' t' hi => ?_⟩, e1, e4⟩
      show v3.2 17 i = _ ∧ ∀ g : Nat, g < nG L → v3.2 18 (6 * i + g) = _
      rw [e2, e3]
      exact b2 i d' t' hi
theorem mly4 (h : Sh L M) {c : Nat} (hc : c ≤ 6) (hF : FdR L N M c) : ∀ d : Nat, d ≤ nD L → HoM L (it_X8_lays_4 (M, 0) d).1 (it_X8_lays_4 (M, 0) d).2 (allL (fitB L N c) d) ∧ Same [] [16, 17, 18] M (it_X8_lays_4 (M, 0) d).1
  | 0, _ => ⟨⟨rfl, fun i d t e => by cases e⟩, Same_rf M⟩
  | d + 1, hd => by
    obtain ⟨a1, a2⟩ := mly4 h hc hF d (by omega)
    show HoM L (bd_X8_lays_4 d (it_X8_lays_4 (M, 0) d)).1 (bd_X8_lays_4 d (it_X8_lays_4 (M, 0) d)).2 (allL (fitB L N c) d ++ rowL (fitB L N c) d 31) ∧ Same [] [16, 17, 18] M (bd_X8_lays_4 d (it_X8_lays_4 (M, 0) d)).1
    generalize it_X8_lays_4 (M, 0) d = w at a1 a2 ⊢
    unfold bd_X8_lays_4 bd_X8_lays_4_k1 bd_X8_lays_4_k2
    rw [k4, a2.2 1 (by decide), Sh_nG h]
    obtain ⟨b1, b2, b3, b4⟩ := mly16 h a2 (a := w.2) (b := d) (nG L) (Nat.le_refl _)
    generalize it_X8_lays_16 w.2 d w.1 (nG L) = v at b1 b2 b3 b4 ⊢
    have q := mly48 (u := (v, w.2)) h hc hF (show d < nD L by omega) (allL_len d) ⟨a1.1, fun i d' t' e => by
      show v.2 17 i = _ ∧ ∀ g : Nat, g < nG L → v.2 18 (6 * i + g) = _
      rw [b2, b3]
      exact a1.2 i d' t' e⟩ b1 (fun g hg => (b4 g hg).trans Wt_0.symm) 31 (Nat.le_refl _)
    generalize it_X8_lays_48 d (v, w.2) 31 = f at q ⊢
    exact ⟨q.1, q.2.1⟩
theorem lyM (h : Sh L M) {c : Nat} (hc : c ≤ 6) (hF : FdR L N M c) : HoM L (f_X8_lays M).2 (f_X8_lays M).1 (allL (fitB L N c) (nD L)) ∧ Same [] [16, 17, 18] M (f_X8_lays M).2 := by
  unfold f_X8_lays f_X8_lays_k1
  rw [k2, Sh_nD h]
  exact mly4 h hc hF (nD L) (Nat.le_refl _)
/-- both lists are one list -/
theorem both_l (h : Sh L M) (r : RFi L N M) : ∃ l : List (Nat × Nat), l.length ≤ 124 ∧ (∀ i d t : Nat, l[i]? = some (d, t) → d < nD L ∧ t < 31) ∧ HoC (f_X1_seek L N) l ∧ Ctd L (f_X1_seek L N) ∧ HoM L (f_X8_lays M).2 (f_X8_lays M).1 l ∧ RFi L (f_X1_seek L N) M ∧ Same [] [16, 17, 18] M (f_X8_lays M).2 := by
  obtain ⟨a1, c, hc, b1, b2, b3, b4⟩ := skN h.1 r
  have h4 := nD_le h.1
  have hF : FdR L (f_X1_seek L N) M c := by
    obtain ⟨c', hc', e1, e2, e3, -⟩ := a1
    have : c' = c := (inj_nI (by omega) (by omega)).mp (e2.symm.trans b2)
    subst this
    exact ⟨e2, e3⟩
  obtain ⟨m1, m2⟩ := lyM h hc hF
  have hl := allL_len (Q := fitB L (f_X1_seek L N) c) (nD L)
  exact ⟨_, by omega, fun i d t e => allL_mem _ (List.mem_of_getElem? e), b4, b3, m1, a1, m2⟩
theorem r_stays (h : Sh L M) (r : RFi L N M) : (f_X7_stays T L N x).1 = (f_X8_stays M x).1 ∧ RFi L (f_X7_stays T L N x).2 (f_X8_stays M x).2 ∧ Same [] [16, 17, 18] M (f_X8_stays M x).2 := by
  obtain ⟨l, l1, l2, hC, -, hM, hR, hS⟩ := both_l h r
  unfold f_X7_stays f_X8_stays f_X7_stays_k1 f_X8_stays_k1
  generalize f_X1_seek L N = N' at hC hR ⊢
  generalize f_X8_lays M = v at hM hS ⊢
  have hR' : RFi L N' v.2 := RFi_s (hS.1 4 (by decide)) (hS.2 14 (by decide)) hR
  obtain ⟨c1, c2⟩ := hC
  obtain ⟨m1, m2⟩ := hM
  rw [c1, m1]
  by_cases e : x = -1
  · rw [if_pos e, if_pos e]
    exact ⟨rfl, hR', hS⟩
  rw [if_neg e, if_neg e]
  by_cases e0 : x < 0
  · rw [if_pos e0, in_0 (Or.inl e0), if_pos rfl]
    exact ⟨rfl, hR', hS⟩
  rw [if_neg e0]
  have ex := cl_eq e0
  have ei := cl_int e0
  have n1 : (nI l.length - 1).toInt = (l.length : Int) - 1 := by
    rw [fb_subI, nI_toInt (by omega), show (1 : Int32).toInt = 1 from rfl]
    · rw [nI_toInt (by omega), show (1 : Int32).toInt = 1 from rfl]; omega
    · rw [nI_toInt (by omega), show (1 : Int32).toInt = 1 from rfl]; omega
  by_cases e1 : x < nI l.length
  · rw [if_pos e1]
    rw [fa_lt, nI_toInt (by omega)] at e1
    rw [in_1 e0 (by rw [fa_lt, n1]; omega), if_neg ne10]
    refine ⟨?_, hR', hS⟩
    have hlt : x.toNatClampNeg < l.length := by omega
    have hg : l[x.toNatClampNeg]? = some ((l[x.toNatClampNeg]).1, (l[x.toNatClampNeg]).2) := List.getElem?_eq_getElem hlt
    show N'.2 3 x.toNatClampNeg = v.2.2 17 x.toNatClampNeg
    rw [c2 _ _ _ hg, (m2 _ _ _ hg).1]
  · rw [if_neg e1]
    rw [fa_lt, nI_toInt (by omega)] at e1
    rw [in_0 (Or.inr (by rw [fa_lt, n1]; omega)), if_pos rfl]
    exact ⟨rfl, hR', hS⟩
end Lays
