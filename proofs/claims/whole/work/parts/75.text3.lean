section TextC
variable {X D M M' M0 : St} {x y z : Int32} {len at0 : Nat}
/-- a clause read by both -/
def ClE (M0 : St) (len at0 : Nat) (c : St × St) (M' : St) : Prop := Same [6, 7] [5, 6, 7, 8] M0 M' ∧ (TF c.1 M' ∨ ∃ at' : Nat, at0 ≤ at' ∧ TR c.1 M' len at' ∧ DSh c.2 M')
theorem cle_t {at1 : Nat} {c : St × St} (s : Same [6, 7] [5, 6, 7, 8] M0 M) (h : at0 ≤ at1) (r : ClE M len at1 c M') : ClE M0 len at0 c M' := by
  obtain ⟨a, b⟩ := r
  refine ⟨Same_t s a, ?_⟩
  rcases b with b | ⟨at', b1, b2⟩
  · exact Or.inl b
  · exact Or.inr ⟨at', by omega, b2⟩
theorem same_2 {is : List Nat} (h : Same is [] M M') : M'.2 = M.2 := funext (fun k => h.2 k List.not_mem_nil)
theorem w67 (h : Same [6, 7] [] M M') : Same [6, 7] [5, 6, 7, 8] M M' := Same_w h (fun _ h => h) (fun k hk => absurd hk List.not_mem_nil)
theorem w58 (h : Same [] [5, 6, 7, 8] M M') : Same [6, 7] [5, 6, 7, 8] M M' := Same_w h (fun k hk => absurd hk List.not_mem_nil) (fun _ h => h)
theorem tf_1 {X' M'' : St} (e : M''.1 = M'.1) (e2 : X' = X) (h : TF X M') : TF X' M'' := by
  unfold TF at h ⊢
  rw [e, e2]
  exact h
theorem cle_num {x1 x2 lo hi : Int32} (h1 : tb 0 x2.toNatClampNeg = lo) (h2 : tb 1 x2.toNatClampNeg = hi) (h : TR X M len at0) {Kc : St → St × St} {Km : Int32 × St → St} (aC : ∀ X' : St, ¬ X'.1 2 = 0 → (Kc X').1 = X') (aM : ∀ (v : Int32) (M' : St), ¬ M'.1 7 = 0 → (Km (v, M')).1 = M'.1 ∧ Same [] [5, 6, 7, 8] M' (Km (v, M')))
    (ok : ∀ (at' : Nat) (v : Int32) (X' M' : St), at0 < at' → TR X' M' len at' → X'.2 1 = upd (X.2 1) x1.toNatClampNeg v → ¬ v < lo → v ≤ hi → M'.2 = M.2 → ClE M' len at' (Kc X') (Km (v, M'))) : ClE M len at0 (Kc (f_X6_readNumber X x1 x2)) (Km (f_X8_number M lo hi)) := by
  obtain ⟨s, r⟩ := tx_num (x1 := x1) h1 h2 h
  generalize f_X6_readNumber X x1 x2 = X' at r ⊢
  generalize f_X8_number M lo hi = u at s r ⊢
  obtain ⟨v, M'⟩ := u
  rcases r with r | ⟨at', r1, r2, r3, r4, r5⟩
  · obtain ⟨k1, k2⟩ := aM v M' r.2.1
    exact ⟨Same_t (w67 s) (w58 k2), Or.inl (tf_1 k1 (aC X' (by rw [r.1]; exact r.2.1)) r)⟩
  · exact cle_t (w67 s) (by omega) (ok at' v X' M' r1 r2 r3 r4 r5 (same_2 s))
theorem cle_sem (h : TR X M len at0) {Kc : St → St × St} {Km : St → St} (aC : ∀ X' : St, ¬ X'.1 2 = 0 → (Kc X').1 = X') (aM : ∀ (M' : St), ¬ M'.1 7 = 0 → (Km M').1 = M'.1 ∧ Same [] [5, 6, 7, 8] M' (Km M'))
    (ok : ∀ (at' : Nat) (X' M' : St), at0 < at' → TR X' M' len at' → X'.2 = X.2 → M'.2 = M.2 → ClE M' len at' (Kc X') (Km M')) : ClE M len at0 (Kc (f_X6_readSemicolon X)) (Km (f_X8_stops M)) := by
  obtain ⟨s, r⟩ := tx_sem h
  generalize f_X6_readSemicolon X = X' at r ⊢
  generalize f_X8_stops M = M' at s r ⊢
  rcases r with r | ⟨at', r1, r2, r3⟩
  · obtain ⟨k1, k2⟩ := aM M' r.2.1
    exact ⟨Same_t (w67 s) (w58 k2), Or.inl (tf_1 k1 (aC X' (by rw [r.1]; exact r.2.1)) r)⟩
  · exact cle_t (w67 s) (by omega) (ok at' X' M' r1 r2 r3 (same_2 s))
theorem lp_F {w kd : Int32} (h : ¬ X.1 2 = 0) : ∀ (k j : Nat), lp_X6_readClause_69 D w kd k j X = (X, D)
  | 0, j => by
    show l0_X6_readClause_69 D w kd j X = _
    unfold l0_X6_readClause_69
    rw [if_neg h]
  | k + 1, j => by
    show lb_X6_readClause_69 D w kd (lp_X6_readClause_69 D w kd k) j X = _
    unfold lb_X6_readClause_69
    rw [if_neg h]
theorem lp_S {w kd : Int32} (h : X.1 2 = 0) (k j : Nat) : lp_X6_readClause_69 D w kd (k + 1) j X = lp_X6_readClause_69 D w kd k (j + 1) (f_X6_readNumber X (nI j) (tb 3 kd.toNatClampNeg + nI j)) := by
  show lb_X6_readClause_69 D w kd (lp_X6_readClause_69 D w kd k) j X = _
  unfold lb_X6_readClause_69 lb_X6_readClause_69_k1
  rw [if_pos h]
theorem lp_Z {w kd : Int32} (h : X.1 2 = 0) (j : Nat) : lp_X6_readClause_69 D w kd 0 j X = l0_X6_readClause_69_k1 D w kd j X (f_X6_readSemicolon X) := by
  show l0_X6_readClause_69 D w kd j X = _
  unfold l0_X6_readClause_69
  rw [if_pos h]
theorem l0_F {w kd : Int32} {j : Nat} {u : St} (h : ¬ X.1 2 = 0) : (l0_X6_readClause_69_k1 D w kd j u X).1 = X := by
  unfold l0_X6_readClause_69_k1
  rw [if_neg h]
theorem l0_Z {w kd : Int32} {j : Nat} {u : St} (h : X.1 2 = 0) : l0_X6_readClause_69_k1 D w kd j u X = (X, f_X5_add D w (X.2 1 0) (X.2 1 1) (X.2 1 2)) := by
  unfold l0_X6_readClause_69_k1 l0_X6_readClause_69_k2
  rw [if_pos h]
  rfl
theorem ge_of {v lo : Int32} (h : ¬ v < lo) : lo.toInt ≤ v.toInt := by
  rw [fa_lt] at h
  omega
theorem le_of' {v hi : Int32} (h : v ≤ hi) : v.toInt ≤ hi.toInt := by
  rw [fa_le] at h
  exact h
theorem s58 {k : Nat} {f : Nat → Int32} (h : k ∈ [5, 6, 7, 8]) : Same [] [5, 6, 7, 8] M (sA M k f) := Same_A h
theorem cl_depth (h : TR X M len at0) (hd : DSh D M) (hl : at0 < len) (ht : 1 ≤ (D.1 0).toInt ∧ 1 ≤ (D.1 1).toInt) (hc : nD D < 4) : ClE M len (at0 + 1) (lp_X6_readClause_69 D 100 1 1 0 (sI X 1 (X.1 1 + 1))) (f_X8_readsDepth M) := by
  have adv := tx_adv h hl
  have e2 : M.2 5 2 = nI (nD D) := hd.2.1.2.2.1.trans (nDI hd.1)
  unfold f_X8_readsDepth f_X8_opens f_X8_readsDepth_k1
  rw [k2, e2, if_neg (show ¬ nI (nD D) = 4 from fun q => by
    have := (inj_nI (b := 4) (by omega) (by omega)).mp q
    omega)]
  dsimp only
  rw [if_neg ne10, lp_S adv.2.2.1.1]
  refine cle_t (M := sI M 6 (M.1 6 + 1)) (w67 (Same_I (by decide))) (Nat.le_refl _) ?_
  have ed : (sI M 6 (M.1 6 + 1)).2 = M.2 := rfl
  generalize sI M 6 (M.1 6 + 1) = M1 at adv ed ⊢
  generalize sI X 1 (X.1 1 + 1) = X1 at adv ⊢
  refine cle_num (x1 := nI 0) (x2 := tb 3 ((1 : Int32)).toNatClampNeg + nI 0) (lo := 1) (hi := 200) rfl rfl adv (Kc := lp_X6_readClause_69 D 100 1 0 (0 + 1)) (Km := f_X8_readsDepth_k2 M (1, M1)) (fun X' q => by rw [lp_F q]) (fun v M' q => ?_) (fun at' v X' M' r1 r2 r3 r4 r5 r6 => ?_)
  · unfold f_X8_readsDepth_k2 f_X8_readsDepth_k3
    rw [tx_semF (M := sA (v, M').2 6 _) q]
    exact ⟨rfl, Same_t (s58 (by decide)) (s58 (by decide))⟩
  · rw [lp_Z r2.2.2.1.1]
    unfold f_X8_readsDepth_k2
    dsimp only
    rw [ed, k2, e2, clI (show nD D < 1000 by omega), r6, ed]
    refine cle_t (M := sA M' 6 (upd (M.2 6) (nD D) v)) (w58 (s58 (by decide))) (Nat.le_refl _) ?_
    have a5 : (sA M' 6 (upd (M.2 6) (nD D) v)).2 5 = M.2 5 := by rw [sA_ne (by decide), r6, ed]
    have a6 : (sA M' 6 (upd (M.2 6) (nD D) v)).2 6 = upd (M.2 6) (nD D) v := sA_eq
    have a7 : (sA M' 6 (upd (M.2 6) (nD D) v)).2 7 = M.2 7 := by rw [sA_ne (by decide), r6, ed]
    have a8 : (sA M' 6 (upd (M.2 6) (nD D) v)).2 8 = M.2 8 := by rw [sA_ne (by decide), r6, ed]
    have t := tx_sA (k := 6) (f := upd (M.2 6) (nD D) v) (by decide) r2
    generalize sA M' 6 (upd (M.2 6) (nD D) v) = M2 at a5 a6 a7 a8 t ⊢
    refine cle_sem t (Kc := l0_X6_readClause_69_k1 D 100 1 (0 + 1) X') (Km := f_X8_readsDepth_k3 M (1, M1) (v, M')) (fun X' q => l0_F q) (fun M3 q => ⟨rfl, s58 (by decide)⟩) (fun at2 X2 M3 p1 p2 p3 p4 => ?_)
    rw [l0_Z p2.2.2.1.1, p3, r3]
    unfold f_X8_readsDepth_k3
    rw [k2, p4, a5, e2, show nI (nD D) + 1 = nI (nD D + 1) from addI _ 1]
    have g0 : upd (X1.2 1) (nI 0).toNatClampNeg v 0 = v := rfl
    rw [g0]
    refine ⟨w58 (s58 (by decide)), Or.inr ⟨at2, Nat.le_refl _, tx_sA (by decide) p2, ds_d hd rfl hc ht (ge_of r4) (le_of' r5) sA_eq ?_ ?_ ?_⟩⟩
    · rw [sA_ne (by decide), p4, a6]
    · rw [sA_ne (by decide), p4, a7]
    · rw [sA_ne (by decide), p4, a8]
theorem cl_person (h : TR X M len at0) (hd : DSh D M) (hl : at0 < len) (ht : 1 ≤ (D.1 0).toInt ∧ 1 ≤ (D.1 1).toInt) (hc : nP D < 7) : ClE M len (at0 + 1) (lp_X6_readClause_69 D 112 2 2 0 (sI X 1 (X.1 1 + 1))) (f_X8_readsPerson M) := by
  have adv := tx_adv h hl
  have e2 : M.2 5 3 = nI (nP D) := hd.2.1.2.2.2.1.trans (nPI hd.1)
  unfold f_X8_readsPerson f_X8_opens f_X8_readsPerson_k1
  rw [k3, e2, if_neg (show ¬ nI (nP D) = 7 from fun q => by
    have := (inj_nI (b := 7) (by omega) (by omega)).mp q
    omega)]
  dsimp only
  rw [if_neg ne10, lp_S adv.2.2.1.1]
  refine cle_t (M := sI M 6 (M.1 6 + 1)) (w67 (Same_I (by decide))) (Nat.le_refl _) ?_
  have ed : (sI M 6 (M.1 6 + 1)).2 = M.2 := rfl
  generalize sI M 6 (M.1 6 + 1) = M1 at adv ed ⊢
  generalize sI X 1 (X.1 1 + 1) = X1 at adv ⊢
  refine cle_num (x1 := nI 0) (x2 := tb 3 ((2 : Int32)).toNatClampNeg + nI 0) (lo := 0) (hi := 99) rfl rfl adv (Kc := lp_X6_readClause_69 D 112 2 1 (0 + 1)) (Km := f_X8_readsPerson_k2 M (1, M1)) (fun X' q => by rw [lp_F q]) (fun v M' q => ?_) (fun at' v X' M' r1 r2 r3 r4 r5 r6 => ?_)
  · unfold f_X8_readsPerson_k2
    rw [tx_numF (M := sA (v, M').2 7 _) q]
    unfold f_X8_readsPerson_k3 f_X8_readsPerson_k4
    rw [tx_semF (M := sA (sA (v, M').2 7 _) 7 _) q]
    exact ⟨rfl, Same_t (s58 (by decide)) (Same_t (s58 (by decide)) (s58 (by decide)))⟩
  · rw [lp_S r2.2.2.1.1]
    unfold f_X8_readsPerson_k2
    dsimp only
    rw [ed, k3, e2, d0 (show nP D < 1000 by omega), r6, ed]
    refine cle_t (M := sA M' 7 (upd (M.2 7) (2 * nP D) v)) (w58 (s58 (by decide))) (Nat.le_refl _) ?_
    have a5 : (sA M' 7 (upd (M.2 7) (2 * nP D) v)).2 5 = M.2 5 := by rw [sA_ne (by decide), r6, ed]
    have a6 : (sA M' 7 (upd (M.2 7) (2 * nP D) v)).2 6 = M.2 6 := by rw [sA_ne (by decide), r6, ed]
    have a7 : (sA M' 7 (upd (M.2 7) (2 * nP D) v)).2 7 = upd (M.2 7) (2 * nP D) v := sA_eq
    have a8 : (sA M' 7 (upd (M.2 7) (2 * nP D) v)).2 8 = M.2 8 := by rw [sA_ne (by decide), r6, ed]
    have t := tx_sA (k := 7) (f := upd (M.2 7) (2 * nP D) v) (by decide) r2
    have em : M'.2 = M.2 := r6.trans ed
    generalize sA M' 7 (upd (M.2 7) (2 * nP D) v) = M2 at a5 a6 a7 a8 t ⊢
    refine cle_num (x1 := nI (0 + 1)) (x2 := tb 3 ((2 : Int32)).toNatClampNeg + nI (0 + 1)) (lo := 1) (hi := 150) rfl rfl t (Kc := lp_X6_readClause_69 D 112 2 0 (0 + 1 + 1)) (Km := f_X8_readsPerson_k3 M (1, M1) (v, M')) (fun X' q => by rw [lp_F q]) (fun v2 M3 q => ?_) (fun at2 v2 X2 M3 p1 p2 p3 p4 p5 p6 => ?_)
    · unfold f_X8_readsPerson_k3 f_X8_readsPerson_k4
      rw [tx_semF (M := sA (v2, M3).2 7 _) q]
      exact ⟨rfl, Same_t (s58 (by decide)) (s58 (by decide))⟩
    · rw [lp_Z p2.2.2.1.1]
      unfold f_X8_readsPerson_k3
      dsimp only
      rw [em, k3, e2, d1 (show nP D < 1000 by omega), p6, a7]
      refine cle_t (M := sA M3 7 (upd (upd (M.2 7) (2 * nP D) v) (2 * nP D + 1) v2)) (w58 (s58 (by decide))) (Nat.le_refl _) ?_
      have b5 : (sA M3 7 (upd (upd (M.2 7) (2 * nP D) v) (2 * nP D + 1) v2)).2 5 = M.2 5 := by rw [sA_ne (by decide), p6, a5]
      have b6 : (sA M3 7 (upd (upd (M.2 7) (2 * nP D) v) (2 * nP D + 1) v2)).2 6 = M.2 6 := by rw [sA_ne (by decide), p6, a6]
      have b7 : (sA M3 7 (upd (upd (M.2 7) (2 * nP D) v) (2 * nP D + 1) v2)).2 7 = upd (upd (M.2 7) (2 * nP D) v) (2 * nP D + 1) v2 := sA_eq
      have b8 : (sA M3 7 (upd (upd (M.2 7) (2 * nP D) v) (2 * nP D + 1) v2)).2 8 = M.2 8 := by rw [sA_ne (by decide), p6, a8]
      have t2 := tx_sA (k := 7) (f := upd (upd (M.2 7) (2 * nP D) v) (2 * nP D + 1) v2) (by decide) p2
      generalize sA M3 7 (upd (upd (M.2 7) (2 * nP D) v) (2 * nP D + 1) v2) = M4 at b5 b6 b7 b8 t2 ⊢
      refine cle_sem t2 (Kc := l0_X6_readClause_69_k1 D 112 2 (0 + 1 + 1) X2) (Km := f_X8_readsPerson_k4 M (1, M1) (v, M') (v2, M3)) (fun X' q => l0_F q) (fun M5 q => ⟨rfl, s58 (by decide)⟩) (fun at3 X3 M5 o1 o2 o3 o4 => ?_)
      rw [l0_Z o2.2.2.1.1, o3, p3, r3]
      unfold f_X8_readsPerson_k4
      rw [k3, o4, b5, e2, show nI (nP D) + 1 = nI (nP D + 1) from addI _ 1]
      have g0 : upd (upd (X1.2 1) (nI 0).toNatClampNeg v) (nI (0 + 1)).toNatClampNeg v2 0 = v := rfl
      have g1 : upd (upd (X1.2 1) (nI 0).toNatClampNeg v) (nI (0 + 1)).toNatClampNeg v2 1 = v2 := rfl
      rw [g0, g1]
      refine ⟨w58 (s58 (by decide)), Or.inr ⟨at3, Nat.le_refl _, tx_sA (by decide) o2, ds_p hd rfl hc ht (ge_of r4) (ge_of p4) (le_of' p5) sA_eq ?_ ?_ ?_⟩⟩
      · rw [sA_ne (by decide), o4, b6]
      · rw [sA_ne (by decide), o4, b7]
      · rw [sA_ne (by decide), o4, b8]
theorem cl_good (h : TR X M len at0) (hd : DSh D M) (hl : at0 < len) (ht : 1 ≤ (D.1 0).toInt ∧ 1 ≤ (D.1 1).toInt) (hc : nG D < 6) : ClE M len (at0 + 1) (lp_X6_readClause_69 D 103 3 3 0 (sI X 1 (X.1 1 + 1))) (f_X8_readsGood M) := by
  have adv := tx_adv h hl
  have e2 : M.2 5 4 = nI (nG D) := hd.2.1.2.2.2.2.trans (nGI hd.1)
  unfold f_X8_readsGood f_X8_opens f_X8_readsGood_k1
  rw [k4, e2, if_neg (show ¬ nI (nG D) = 6 from fun q => by
    have := (inj_nI (b := 6) (by omega) (by omega)).mp q
    omega)]
  dsimp only
  rw [if_neg ne10, lp_S adv.2.2.1.1]
  refine cle_t (M := sI M 6 (M.1 6 + 1)) (w67 (Same_I (by decide))) (Nat.le_refl _) ?_
  have ed : (sI M 6 (M.1 6 + 1)).2 = M.2 := rfl
  generalize sI M 6 (M.1 6 + 1) = M1 at adv ed ⊢
  generalize sI X 1 (X.1 1 + 1) = X1 at adv ⊢
  refine cle_num (x1 := nI 0) (x2 := tb 3 ((3 : Int32)).toNatClampNeg + nI 0) (lo := 1) (hi := 999) rfl rfl adv (Kc := lp_X6_readClause_69 D 103 3 2 (0 + 1)) (Km := f_X8_readsGood_k2 M (1, M1)) (fun X' q => by rw [lp_F q]) (fun v M' q => ?_) (fun at' v X' M' r1 r2 r3 r4 r5 r6 => ?_)
  · unfold f_X8_readsGood_k2
    rw [tx_numF (M := sA (v, M').2 8 _) q]
    unfold f_X8_readsGood_k3
    rw [tx_numF (M := sA (sA (v, M').2 8 _) 8 _) q]
    unfold f_X8_readsGood_k4 f_X8_readsGood_k5
    rw [tx_semF (M := sA (sA (sA (v, M').2 8 _) 8 _) 8 _) q]
    exact ⟨rfl, Same_t (s58 (by decide)) (Same_t (s58 (by decide)) (Same_t (s58 (by decide)) (s58 (by decide))))⟩
  · rw [lp_S r2.2.2.1.1]
    unfold f_X8_readsGood_k2
    dsimp only
    rw [ed, k4, e2, t0 (show nG D < 1000 by omega), r6, ed]
    refine cle_t (M := sA M' 8 (upd (M.2 8) (3 * nG D) v)) (w58 (s58 (by decide))) (Nat.le_refl _) ?_
    have a5 : (sA M' 8 (upd (M.2 8) (3 * nG D) v)).2 5 = M.2 5 := by rw [sA_ne (by decide), r6, ed]
    have a6 : (sA M' 8 (upd (M.2 8) (3 * nG D) v)).2 6 = M.2 6 := by rw [sA_ne (by decide), r6, ed]
    have a7 : (sA M' 8 (upd (M.2 8) (3 * nG D) v)).2 7 = M.2 7 := by rw [sA_ne (by decide), r6, ed]
    have a8 : (sA M' 8 (upd (M.2 8) (3 * nG D) v)).2 8 = upd (M.2 8) (3 * nG D) v := sA_eq
    have t := tx_sA (k := 8) (f := upd (M.2 8) (3 * nG D) v) (by decide) r2
    have em : M'.2 = M.2 := r6.trans ed
    generalize sA M' 8 (upd (M.2 8) (3 * nG D) v) = M2 at a5 a6 a7 a8 t ⊢
    refine cle_num (x1 := nI (0 + 1)) (x2 := tb 3 ((3 : Int32)).toNatClampNeg + nI (0 + 1)) (lo := 0) (hi := 100) rfl rfl t (Kc := lp_X6_readClause_69 D 103 3 1 (0 + 1 + 1)) (Km := f_X8_readsGood_k3 M (1, M1) (v, M')) (fun X' q => by rw [lp_F q]) (fun v2 M3 q => ?_) (fun at2 v2 X2 M3 p1 p2 p3 p4 p5 p6 => ?_)
    · unfold f_X8_readsGood_k3
      rw [tx_numF (M := sA (v2, M3).2 8 _) q]
      unfold f_X8_readsGood_k4 f_X8_readsGood_k5
      rw [tx_semF (M := sA (sA (v2, M3).2 8 _) 8 _) q]
      exact ⟨rfl, Same_t (s58 (by decide)) (Same_t (s58 (by decide)) (s58 (by decide)))⟩
    · rw [lp_S p2.2.2.1.1]
      unfold f_X8_readsGood_k3
      dsimp only
      rw [em, k4, e2, t1 (show nG D < 1000 by omega), p6, a8]
      refine cle_t (M := sA M3 8 (upd (upd (M.2 8) (3 * nG D) v) (3 * nG D + 1) v2)) (w58 (s58 (by decide))) (Nat.le_refl _) ?_
      have b5 : (sA M3 8 (upd (upd (M.2 8) (3 * nG D) v) (3 * nG D + 1) v2)).2 5 = M.2 5 := by rw [sA_ne (by decide), p6, a5]
      have b6 : (sA M3 8 (upd (upd (M.2 8) (3 * nG D) v) (3 * nG D + 1) v2)).2 6 = M.2 6 := by rw [sA_ne (by decide), p6, a6]
      have b7 : (sA M3 8 (upd (upd (M.2 8) (3 * nG D) v) (3 * nG D + 1) v2)).2 7 = M.2 7 := by rw [sA_ne (by decide), p6, a7]
      have b8 : (sA M3 8 (upd (upd (M.2 8) (3 * nG D) v) (3 * nG D + 1) v2)).2 8 = upd (upd (M.2 8) (3 * nG D) v) (3 * nG D + 1) v2 := sA_eq
      have t2' := tx_sA (k := 8) (f := upd (upd (M.2 8) (3 * nG D) v) (3 * nG D + 1) v2) (by decide) p2
      have em3 : M3.2 5 = M.2 5 := by rw [p6, a5]
      generalize sA M3 8 (upd (upd (M.2 8) (3 * nG D) v) (3 * nG D + 1) v2) = M4 at b5 b6 b7 b8 t2' ⊢
      refine cle_num (x1 := nI (0 + 1 + 1)) (x2 := tb 3 ((3 : Int32)).toNatClampNeg + nI (0 + 1 + 1)) (lo := 0) (hi := 9999) rfl rfl t2' (Kc := lp_X6_readClause_69 D 103 3 0 (0 + 1 + 1 + 1)) (Km := f_X8_readsGood_k4 M (1, M1) (v, M') (v2, M3)) (fun X' q => by rw [lp_F q]) (fun v3 M5 q => ?_) (fun at3 v3 X3 M5 o1 o2 o3 o4 o5 o6 => ?_)
      · unfold f_X8_readsGood_k4 f_X8_readsGood_k5
        rw [tx_semF (M := sA (v3, M5).2 8 _) q]
        exact ⟨rfl, Same_t (s58 (by decide)) (s58 (by decide))⟩
      · rw [lp_Z o2.2.2.1.1]
        unfold f_X8_readsGood_k4
        dsimp only
        rw [em3, k4, e2, t2 (show nG D < 1000 by omega), o6, b8]
        refine cle_t (M := sA M5 8 (upd (upd (upd (M.2 8) (3 * nG D) v) (3 * nG D + 1) v2) (3 * nG D + 2) v3)) (w58 (s58 (by decide))) (Nat.le_refl _) ?_
        have c5 : (sA M5 8 (upd (upd (upd (M.2 8) (3 * nG D) v) (3 * nG D + 1) v2) (3 * nG D + 2) v3)).2 5 = M.2 5 := by rw [sA_ne (by decide), o6, b5]
        have c6 : (sA M5 8 (upd (upd (upd (M.2 8) (3 * nG D) v) (3 * nG D + 1) v2) (3 * nG D + 2) v3)).2 6 = M.2 6 := by rw [sA_ne (by decide), o6, b6]
        have c7 : (sA M5 8 (upd (upd (upd (M.2 8) (3 * nG D) v) (3 * nG D + 1) v2) (3 * nG D + 2) v3)).2 7 = M.2 7 := by rw [sA_ne (by decide), o6, b7]
        have c8 : (sA M5 8 (upd (upd (upd (M.2 8) (3 * nG D) v) (3 * nG D + 1) v2) (3 * nG D + 2) v3)).2 8 = upd (upd (upd (M.2 8) (3 * nG D) v) (3 * nG D + 1) v2) (3 * nG D + 2) v3 := sA_eq
        have t3 := tx_sA (k := 8) (f := upd (upd (upd (M.2 8) (3 * nG D) v) (3 * nG D + 1) v2) (3 * nG D + 2) v3) (by decide) o2
        generalize sA M5 8 (upd (upd (upd (M.2 8) (3 * nG D) v) (3 * nG D + 1) v2) (3 * nG D + 2) v3) = M6 at c5 c6 c7 c8 t3 ⊢
        refine cle_sem t3 (Kc := l0_X6_readClause_69_k1 D 103 3 (0 + 1 + 1 + 1) X3) (Km := f_X8_readsGood_k5 M (1, M1) (v, M') (v2, M3) (v3, M5)) (fun X' q => l0_F q) (fun M7 q => ⟨rfl, s58 (by decide)⟩) (fun at4 X4 M7 n1 n2 n3 n4 => ?_)
        rw [l0_Z n2.2.2.1.1, n3, o3, p3, r3]
        unfold f_X8_readsGood_k5
        rw [k4, n4, c5, e2, show nI (nG D) + 1 = nI (nG D + 1) from addI _ 1]
        have g0 : upd (upd (upd (X1.2 1) (nI 0).toNatClampNeg v) (nI (0 + 1)).toNatClampNeg v2) (nI (0 + 1 + 1)).toNatClampNeg v3 0 = v := rfl
        have g1 : upd (upd (upd (X1.2 1) (nI 0).toNatClampNeg v) (nI (0 + 1)).toNatClampNeg v2) (nI (0 + 1 + 1)).toNatClampNeg v3 1 = v2 := rfl
        have g2 : upd (upd (upd (X1.2 1) (nI 0).toNatClampNeg v) (nI (0 + 1)).toNatClampNeg v2) (nI (0 + 1 + 1)).toNatClampNeg v3 2 = v3 := rfl
        rw [g0, g1, g2]
        refine ⟨w58 (s58 (by decide)), Or.inr ⟨at4, Nat.le_refl _, tx_sA (by decide) n2, ds_g hd rfl hc ht sA_eq ?_ ?_ ?_⟩⟩
        · rw [sA_ne (by decide), n4, c6]
        · rw [sA_ne (by decide), n4, c7]
        · rw [sA_ne (by decide), n4, c8]
theorem cl_law (h : TR X M len at0) (hd : DSh D M) (hl : at0 < len) (ht : f_X5_isTold D = 0) (hz : M.2 5 0 = 0) : ClE M len (at0 + 1) (lp_X6_readClause_69 D 115 0 2 0 (sI X 1 (X.1 1 + 1))) (f_X8_readsLaw M) := by
  have adv := tx_adv h hl
  unfold f_X8_readsLaw f_X8_opens f_X8_readsLaw_k5
  rw [k0, if_pos hz, if_neg (show ¬ (0 : Int32) = 1 by decide)]
  dsimp only
  rw [if_neg ne10, lp_S adv.2.2.1.1]
  refine cle_t (M := sI M 6 (M.1 6 + 1)) (w67 (Same_I (by decide))) (Nat.le_refl _) ?_
  have ed : (sI M 6 (M.1 6 + 1)).2 = M.2 := rfl
  generalize sI M 6 (M.1 6 + 1) = M1 at adv ed ⊢
  generalize sI X 1 (X.1 1 + 1) = X1 at adv ⊢
  refine cle_num (x1 := nI 0) (x2 := tb 3 ((0 : Int32)).toNatClampNeg + nI 0) (lo := 1) (hi := 99) rfl rfl adv (Kc := lp_X6_readClause_69 D 115 0 1 (0 + 1)) (Km := f_X8_readsLaw_k6 M (1, M1)) (fun X' q => by rw [lp_F q]) (fun v M' q => ?_) (fun at' v X' M' r1 r2 r3 r4 r5 r6 => ?_)
  · unfold f_X8_readsLaw_k6
    rw [tx_numF (M := sA (v, M').2 5 _) q]
    unfold f_X8_readsLaw_k7 f_X8_readsLaw_k8
    rw [tx_semF (M := sA (sA (v, M').2 5 _) 5 _) q]
    exact ⟨rfl, Same_t (s58 (by decide)) (s58 (by decide))⟩
  · rw [lp_S r2.2.2.1.1]
    unfold f_X8_readsLaw_k6
    dsimp only
    rw [k0, r6, ed]
    refine cle_t (M := sA M' 5 (upd (M.2 5) 0 v)) (w58 (s58 (by decide))) (Nat.le_refl _) ?_
    have a5 : (sA M' 5 (upd (M.2 5) 0 v)).2 5 = upd (M.2 5) 0 v := sA_eq
    have a6 : (sA M' 5 (upd (M.2 5) 0 v)).2 6 = M.2 6 := by rw [sA_ne (by decide), r6, ed]
    have a7 : (sA M' 5 (upd (M.2 5) 0 v)).2 7 = M.2 7 := by rw [sA_ne (by decide), r6, ed]
    have a8 : (sA M' 5 (upd (M.2 5) 0 v)).2 8 = M.2 8 := by rw [sA_ne (by decide), r6, ed]
    have t := tx_sA (k := 5) (f := upd (M.2 5) 0 v) (by decide) r2
    generalize sA M' 5 (upd (M.2 5) 0 v) = M2 at a5 a6 a7 a8 t ⊢
    refine cle_num (x1 := nI (0 + 1)) (x2 := tb 3 ((0 : Int32)).toNatClampNeg + nI (0 + 1)) (lo := 1) (hi := 60) rfl rfl t (Kc := lp_X6_readClause_69 D 115 0 0 (0 + 1 + 1)) (Km := f_X8_readsLaw_k7 M (1, M1) (v, M')) (fun X' q => by rw [lp_F q]) (fun v2 M3 q => ?_) (fun at2 v2 X2 M3 p1 p2 p3 p4 p5 p6 => ?_)
    · unfold f_X8_readsLaw_k7 f_X8_readsLaw_k8
      rw [tx_semF (M := sA (v2, M3).2 5 _) q]
      exact ⟨rfl, s58 (by decide)⟩
    · rw [lp_Z p2.2.2.1.1]
      unfold f_X8_readsLaw_k7
      dsimp only
      rw [k1, p6, a5]
      refine cle_t (M := sA M3 5 (upd (upd (M.2 5) 0 v) 1 v2)) (w58 (s58 (by decide))) (Nat.le_refl _) ?_
      have b5 : (sA M3 5 (upd (upd (M.2 5) 0 v) 1 v2)).2 5 = upd (upd (M.2 5) 0 v) 1 v2 := sA_eq
      have b6 : (sA M3 5 (upd (upd (M.2 5) 0 v) 1 v2)).2 6 = M.2 6 := by rw [sA_ne (by decide), p6, a6]
      have b7 : (sA M3 5 (upd (upd (M.2 5) 0 v) 1 v2)).2 7 = M.2 7 := by rw [sA_ne (by decide), p6, a7]
      have b8 : (sA M3 5 (upd (upd (M.2 5) 0 v) 1 v2)).2 8 = M.2 8 := by rw [sA_ne (by decide), p6, a8]
      have t2' := tx_sA (k := 5) (f := upd (upd (M.2 5) 0 v) 1 v2) (by decide) p2
      generalize sA M3 5 (upd (upd (M.2 5) 0 v) 1 v2) = M4 at b5 b6 b7 b8 t2' ⊢
      refine cle_sem t2' (Kc := l0_X6_readClause_69_k1 D 115 0 (0 + 1 + 1) X2) (Km := f_X8_readsLaw_k8 M (1, M1) (v, M') (v2, M3)) (fun X' q => l0_F q) (fun M5 q => ⟨rfl, Same_rf M5⟩) (fun at3 X3 M5 o1 o2 o3 o4 => ?_)
      rw [l0_Z o2.2.2.1.1, o3, p3, r3]
      unfold f_X8_readsLaw_k8
      have g0 : upd (upd (X1.2 1) (nI 0).toNatClampNeg v) (nI (0 + 1)).toNatClampNeg v2 0 = v := rfl
      have g1 : upd (upd (X1.2 1) (nI 0).toNatClampNeg v) (nI (0 + 1)).toNatClampNeg v2 1 = v2 := rfl
      rw [g0, g1]
      refine ⟨Same_rf M5, Or.inr ⟨at3, Nat.le_refl _, o2, ds_s hd ht (ge_of r4) (ge_of p4) ?_ ?_ ?_ ?_⟩⟩
      · rw [o4, b5]
      · rw [o4, b6]
      · rw [o4, b7]
      · rw [o4, b8]
end TextC
