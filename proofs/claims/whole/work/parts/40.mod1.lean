theorem nb {v : Int32} (h : v = 0 ∨ v = 1) : narrow .boolean (.int v) = .int v := by
  rcases h with rfl | rfl <;> rfl
/-- how many the law's row may tell of -/
def okM (S : St) : Prop := (¬ (S.2 1) ((2 : Int32)).toNatClampNeg < 0 ∧ (S.2 1) ((2 : Int32)).toNatClampNeg ≤ 4) ∧ (¬ (S.2 1) ((3 : Int32)).toNatClampNeg < 0 ∧ (S.2 1) ((3 : Int32)).toNatClampNeg ≤ 7) ∧ (¬ (S.2 1) ((4 : Int32)).toNatClampNeg < 0 ∧ (S.2 1) ((4 : Int32)).toNatClampNeg ≤ 6)
theorem okM_d {S : St} (h : okM S) : ((S.2 1) ((2 : Int32)).toNatClampNeg).toNatClampNeg ≤ 4 := cl_le h.1.2 rfl (by decide)
theorem okM_p {S : St} (h : okM S) : ((S.2 1) ((3 : Int32)).toNatClampNeg).toNatClampNeg ≤ 7 := cl_le h.2.1.2 rfl (by decide)
theorem okM_g {S : St} (h : okM S) : ((S.2 1) ((4 : Int32)).toNatClampNeg).toNatClampNeg ≤ 6 := cl_le h.2.2.2 rfl (by decide)
theorem okM_of {S S' : St} (e : S'.2 1 = S.2 1) (h : okM S) : okM S' := by
  unfold okM
  rw [e]
  exact h
theorem look_in {a n : Int32} (h0 : ¬ a < 0) (h1 : n ≤ 240) (c : ¬ n ≤ a) : vp_in a 240 := by
  refine vin_lt h0 ?_ (N := 240) rfl
  rw [Int32.le_iff_toInt_le] at h1 c
  rw [Int32.lt_iff_toInt_lt]
  omega
theorem cnt_in {x n : Int32} {N : Nat} (hn : ¬ n < 0 ∧ n ≤ nI N) (hN : N < 2 ^ 31) (h0 : ¬ x < 0) (h1 : ¬ n - 1 < x) : vp_in x N := by
  obtain ⟨j, hj, rfl⟩ := nI_of hn.1
  have h2 : j ≤ N := (nI_leI hj hN).mp hn.2
  obtain ⟨i, hi, rfl⟩ := nI_of h0
  rcases Nat.eq_zero_or_pos j with h | h
  · subst h
    exact absurd (show nI 0 - 1 < nI i by rw [Int32.lt_iff_toInt_lt, nI_toInt hi]; exact Int.lt_of_lt_of_le (by decide) (Int.natCast_nonneg i)) h1
  · obtain ⟨k, rfl⟩ : ∃ k, j = k + 1 := ⟨j - 1, by omega⟩
    rw [nI_pred] at h1
    refine vp_in_nI ?_ hN
    rcases Nat.lt_or_ge k i with q | q
    · exact absurd (nI_lt q hi) h1
    · omega
/-- what was found, and the book: their rows are in their ranges -/
def okF (S : St) : Prop := (S.1 4).toNatClampNeg ≤ 6 ∧ ∀ j : Nat, j < (S.1 4).toNatClampNeg → ((S.2 14) ((3 * (nI j) : Int32)).toNatClampNeg) = 0 → vp_in ((S.2 14) (((3 * (nI j)) + 1 : Int32)).toNatClampNeg) 6
def okB (S : St) : Prop := (S.1 5).toNatClampNeg ≤ 15 ∧ ∀ j : Nat, j < (S.1 5).toNatClampNeg → vp_in ((S.2 15) ((2 * (nI j) : Int32)).toNatClampNeg) 7
def f_X8_in (x0 : Int32) (x1 : Int32) (x2 : Int32) : Int32 :=
  if x0 < x1 then
    0
  else
    if x2 < x0 then
      0
    else
      1
theorem bo_X8_in (x a b : Int32) : f_X8_in x a b = 0 ∨ f_X8_in x a b = 1 := by
  unfold f_X8_in
  repeat' split
  all_goals first | exact Or.inl rfl | exact Or.inr rfl
theorem in_X8_in {x N : Int32} {n : Nat} (h : ¬ f_X8_in x 0 N = 0) (hN : N = nI n) (hn : n < 2 ^ 31 := by decide) : vp_in x (n + 1) := by
  unfold f_X8_in at h
  split at h
  · exact absurd rfl h
  · split at h
    · exact absurd rfl h
    · rename_i h1 h2
      obtain ⟨j, hj, rfl⟩ := nI_of h1
      rw [hN] at h2
      intro q
      rcases q with q | q
      · exact h1 q
      · rw [nI_clamp hj] at q
        exact h2 (nI_lt q hj)
theorem hd_X8_in : yX8_in.cls = RX8 ∧ yX8_in.cls ≠ "java/lang/invoke/MethodHandle" ∧ yX8_in.cls ≠ "java/lang/invoke/VarHandle" ∧ (parseMethodDescriptor yX8_in.desc).map (fun d => d.parameters.length) = some 3 := by decide +kernel
set_option maxHeartbeats 4000000 in
set_option maxRecDepth 100000 in
theorem c_X8_in (l : Launch) (D : va_G) (cI cZ cQ : ClassId) (x0 : Int32) (x1 : Int32) (x2 : Int32) : Ci l yX8_in wsX8_in { frames := 0, cells := 0, slots := 0, locals := 0 } D (tyL cI cZ cQ) [.int x0, .int x1, .int x2] (fl []) (f_X8_in x0 x1 x2) (fl []) := by
  refine ci_of (cc := cX8_in) (nL := 3) (ty := .boolean) (lv0 := [(0, .int x0), (1, .int x1), (2, .int x2)]) (by decide) rfl (Nat.le_of_ble_eq_true rfl) rfl ?_
  intro p e s m args below meth c A X hr
  refine ww_iload_n (pc := 0) X dX8_in_0 0 rfl rfl ?_
  refine ww_iload_n (pc := 1) X dX8_in_1 1 rfl rfl ?_
  refine ww_icmp_lt (pc := 2) (tgt := 14) X dX8_in_2 (by decide) (fun c1 => ?_) (fun c1 => ?_)
  · refine ww_iconst (pc := 14) (v := 0) X dX8_in_14 (by decide) ?_
    exact ww_iret X hr rfl (Eq.symm (by unfold f_X8_in; try rw [if_pos c1]; first | done | rfl)) rfl dX8_in_15
  · refine ww_iload_n (pc := 5) X dX8_in_5 0 rfl rfl ?_
    refine ww_iload_n (pc := 6) X dX8_in_6 2 rfl rfl ?_
    refine ww_icmp_gt (pc := 7) (tgt := 14) X dX8_in_7 (by decide) (fun c2 => ?_) (fun c2 => ?_)
    · refine ww_iconst (pc := 14) (v := 0) X dX8_in_14 (by decide) ?_
      exact ww_iret X hr rfl (Eq.symm (by unfold f_X8_in; try rw [if_neg c1, if_pos c2]; first | done | rfl)) rfl dX8_in_15
    · refine ww_iconst (pc := 10) (v := 1) X dX8_in_10 (by decide) ?_
      refine ww_goto (pc := 11) (tgt := 15) X dX8_in_11 (by decide) ?_
      exact ww_iret X hr rfl (Eq.symm (by unfold f_X8_in; try rw [if_neg c1, if_neg c2]; first | done | rfl)) rfl dX8_in_15
def f_X8_feed (SM : St) (x1 : Int32) : Int32 × St :=
  if (f_X8_in x1 0 255) = 0 then
    ((-1000000002), SM)
  else
    if (SM.1 0) = 240 then
      ((-1000000004), SM)
    else
      ((SM.1 0) + 1, (sI (sA SM 0 (upd (SM.2 0) ((SM.1 0 : Int32)).toNatClampNeg x1)) 0 ((SM.1 0) + 1)))
theorem inX8_feed_8 : ∀ w ∈ wsX80, w ∈ wsX8_feed := by decide +kernel
theorem hd_X8_feed : yX8_feed.cls = RX8 ∧ yX8_feed.cls ≠ "java/lang/invoke/MethodHandle" ∧ yX8_feed.cls ≠ "java/lang/invoke/VarHandle" ∧ (parseMethodDescriptor yX8_feed.desc).map (fun d => d.parameters.length) = some 1 := by decide +kernel
set_option maxHeartbeats 4000000 in
set_option maxRecDepth 100000 in
theorem c_X8_feed (l : Launch) (D : va_G) (cI cZ cQ : ClassId) (rM : Nat → Nat) (SM : St) (x1 : Int32) (n0 : ¬ (SM.1 0) < 0) (n1 : SM.1 0 ≤ 240) : Ci l yX8_feed wsX8_feed { frames := 1, cells := 0, slots := 0, locals := 22 } D (tyL cI cZ cQ) [.ref (rM 0), .int x1] (fl [wX8 cI cZ cQ rM SM]) ((f_X8_feed SM x1).1) (fl [wX8 cI cZ cQ rM ((f_X8_feed SM x1).2)]) := by
  refine ci_of (cc := cX8_feed) (nL := 2) (ty := .int) (lv0 := [(0, .ref (rM 0)), (1, .int x1)]) (by decide) rfl (Nat.le_of_ble_eq_true rfl) rfl ?_
  intro p e s m args below meth c A X hr
  refine ww_iload_n (pc := 0) X dX8_feed_0 1 rfl rfl ?_
  refine ww_iconst (pc := 1) (v := 0) X dX8_feed_1 (by decide) ?_
  refine ww_sipush (pc := 2) (v := 255) X dX8_feed_2 (by decide) ?_
  refine ww_gSi (pc := 5) (rest := []) (gsN := [wX8 cI cZ cQ rM SM]) X (c_X8_in l D cI cZ cQ x1 0 255) gX8_feed_X8_in rfl hd_X8_in [false] rfl rfl rfl rfl ⟨rfl, rfl⟩ ⟨Nat.le_of_ble_eq_true rfl, Nat.le_of_ble_eq_true rfl⟩ (Nat.le_of_ble_eq_true rfl) ⟨Nat.zero_le _, Nat.zero_le _⟩ dX8_feed_5 ?_
  refine ww_if_ne (pc := 8) (tgt := 14) X dX8_feed_8 (by decide) (fun c1 => ?_) (fun c1 => ?_)
  · refine ww_aload_n (pc := 14) X dX8_feed_14 0 rfl rfl ?_
    refine ww_get (pc := 15) (ci := 8) (v := .int (SM.1 0)) (C := RX8) (T := TX8) (N := 27) X inX8_feed_8 0 rfl rfl 1 (by decide) (by decide +kernel) rfl dX8_feed_15 ?_
    refine ww_sipush (pc := 18) (v := 240) X dX8_feed_18 (by decide) ?_
    refine ww_icmp_ne (pc := 21) (tgt := 27) X dX8_feed_21 (by decide) (fun c2 => ?_) (fun c2 => ?_)
    · refine ww_aload_n (pc := 27) X dX8_feed_27 0 rfl rfl ?_
      refine ww_get (pc := 28) (ci := 8) (v := .ref (rM 1)) (C := RX8) (T := TX8) (N := 27) X inX8_feed_8 0 rfl rfl 0 (by decide) (by decide +kernel) rfl dX8_feed_28 ?_
      refine ww_aload_n (pc := 31) X dX8_feed_31 0 rfl rfl ?_
      refine ww_get (pc := 32) (ci := 8) (v := .int (SM.1 0)) (C := RX8) (T := TX8) (N := 27) X inX8_feed_8 0 rfl rfl 1 (by decide) (by decide +kernel) rfl dX8_feed_32 ?_
      refine ww_iload_n (pc := 35) X dX8_feed_35 1 rfl rfl ?_
      refine ww_iast (pc := 36) (f := SM.2 0) (ws' := fl [wX8 cI cZ cQ rM (sA SM 0 (upd (SM.2 0) ((SM.1 0 : Int32)).toNatClampNeg x1))]) X 1 0 rfl rfl (vin_ne (n := 240) n0 n1 c2 rfl) (st8a_0 _ _ _ _ _ _) dX8_feed_36 ?_
      refine ww_aload_n (pc := 37) X dX8_feed_37 0 rfl rfl ?_
      refine ww_dup (pc := 38) X dX8_feed_38 rfl ?_
      refine ww_get (pc := 39) (ci := 8) (v := .int (SM.1 0)) (C := RX8) (T := TX8) (N := 27) X inX8_feed_8 0 rfl rfl 1 (by decide) (by decide +kernel) (gv sA_1) dX8_feed_39 ?_
      refine ww_iconst (pc := 42) (v := 1) X dX8_feed_42 (by decide) ?_
      have hb3 := clb (n := 240) (vin_ne (n := 240) n0 n1 c2 rfl)
      refine ww_iadd (pc := 43) X dX8_feed_43 ?_
      refine ww_put (pc := 44) (ci := 8) (v := .int ((SM.1 0) + 1)) (C := RX8) (T := TX8) (N := 27) (ws' := fl [wX8 cI cZ cQ rM (sI (sA SM 0 (upd (SM.2 0) ((SM.1 0 : Int32)).toNatClampNeg x1)) 0 ((SM.1 0) + 1))]) X inX8_feed_8 tyX8 tyX8_ok nmX8 0 rfl rfl 1 (by decide) (by decide +kernel) rfl rfl rfl (Nat.le_of_ble_eq_true rfl) (pt8a_0 _ _ _ _ _ _) dX8_feed_44 ?_
      refine ww_aload_n (pc := 47) X dX8_feed_47 0 rfl rfl ?_
      refine ww_get (pc := 48) (ci := 8) (v := .int ((SM.1 0) + 1)) (C := RX8) (T := TX8) (N := 27) X inX8_feed_8 0 rfl rfl 1 (by decide) (by decide +kernel) (gv sI_eq) dX8_feed_48 ?_
      have h4 : f_X8_feed SM x1 = ((SM.1 0) + 1, (sI (sA SM 0 (upd (SM.2 0) ((SM.1 0 : Int32)).toNatClampNeg x1)) 0 ((SM.1 0) + 1))) := by unfold f_X8_feed; try rw [if_neg c1, if_neg c2]; first | done | rfl
      exact ww_iret X hr rfl (congrArg (fun u9 : Int32 × St => u9.1) h4).symm (congrArg (fun u9 : Int32 × St => fl [wX8 cI cZ cQ rM u9.2]) h4.symm) dX8_feed_51
    · refine ww_ldc (pc := 24) (v := (-1000000004)) X (by decide +kernel) dX8_feed_24 ?_
      have h5 : f_X8_feed SM x1 = ((-1000000004), SM) := by unfold f_X8_feed; try rw [if_neg c1, if_pos c2]; first | done | rfl
      exact ww_iret X hr rfl (congrArg (fun u9 : Int32 × St => u9.1) h5).symm (congrArg (fun u9 : Int32 × St => fl [wX8 cI cZ cQ rM u9.2]) h5.symm) dX8_feed_26
  · refine ww_ldc (pc := 11) (v := (-1000000002)) X (by decide +kernel) dX8_feed_11 ?_
    have h6 : f_X8_feed SM x1 = ((-1000000002), SM) := by unfold f_X8_feed; try rw [if_pos c1]; first | done | rfl
    exact ww_iret X hr rfl (congrArg (fun u9 : Int32 × St => u9.1) h6).symm (congrArg (fun u9 : Int32 × St => fl [wX8 cI cZ cQ rM u9.2]) h6.symm) dX8_feed_13
def f_X8_look (SM : St) : Int32 :=
  if (SM.1 0) ≤ (SM.1 6) then
    (-1)
  else
    (SM.2 0) ((SM.1 6 : Int32)).toNatClampNeg
theorem inX8_look_8 : ∀ w ∈ wsX80, w ∈ wsX8_look := by decide +kernel
theorem hd_X8_look : yX8_look.cls = RX8 ∧ yX8_look.cls ≠ "java/lang/invoke/MethodHandle" ∧ yX8_look.cls ≠ "java/lang/invoke/VarHandle" ∧ (parseMethodDescriptor yX8_look.desc).map (fun d => d.parameters.length) = some 0 := by decide +kernel
set_option maxHeartbeats 4000000 in
set_option maxRecDepth 100000 in
theorem c_X8_look (l : Launch) (D : va_G) (cI cZ cQ : ClassId) (rM : Nat → Nat) (SM : St) (a0 : ¬ (SM.1 6) < 0) (n1 : SM.1 0 ≤ 240) : Ci l yX8_look wsX8_look { frames := 0, cells := 0, slots := 0, locals := 0 } D (tyL cI cZ cQ) [.ref (rM 0)] (fl [wX8 cI cZ cQ rM SM]) (f_X8_look SM) (fl [wX8 cI cZ cQ rM SM]) := by
  refine ci_of (cc := cX8_look) (nL := 1) (ty := .int) (lv0 := [(0, .ref (rM 0))]) (by decide) rfl (Nat.le_of_ble_eq_true rfl) rfl ?_
  intro p e s m args below meth c A X hr
  refine ww_aload_n (pc := 0) X dX8_look_0 0 rfl rfl ?_
  refine ww_get (pc := 1) (ci := 8) (v := .int (SM.1 6)) (C := RX8) (T := TX8) (N := 27) X inX8_look_8 0 rfl rfl 22 (by decide) (by decide +kernel) rfl dX8_look_1 ?_
  refine ww_aload_n (pc := 4) X dX8_look_4 0 rfl rfl ?_
  refine ww_get (pc := 5) (ci := 8) (v := .int (SM.1 0)) (C := RX8) (T := TX8) (N := 27) X inX8_look_8 0 rfl rfl 1 (by decide) (by decide +kernel) rfl dX8_look_5 ?_
  refine ww_icmp_ge (pc := 8) (tgt := 23) X dX8_look_8 (by decide) (fun c1 => ?_) (fun c1 => ?_)
  · refine ww_iconst (pc := 23) (v := (-1)) X dX8_look_23 (by decide) ?_
    exact ww_iret X hr rfl (Eq.symm (by unfold f_X8_look; try rw [if_pos c1]; first | done | rfl)) rfl dX8_look_24
  · refine ww_aload_n (pc := 11) X dX8_look_11 0 rfl rfl ?_
    refine ww_get (pc := 12) (ci := 8) (v := .ref (rM 1)) (C := RX8) (T := TX8) (N := 27) X inX8_look_8 0 rfl rfl 0 (by decide) (by decide +kernel) rfl dX8_look_12 ?_
    refine ww_aload_n (pc := 15) X dX8_look_15 0 rfl rfl ?_
    refine ww_get (pc := 16) (ci := 8) (v := .int (SM.1 6)) (C := RX8) (T := TX8) (N := 27) X inX8_look_8 0 rfl rfl 22 (by decide) (by decide +kernel) rfl dX8_look_16 ?_
    refine ww_iald (pc := 19) (f := SM.2 0) X 1 0 rfl rfl (look_in a0 n1 c1) dX8_look_19 ?_
    refine ww_goto (pc := 20) (tgt := 24) X dX8_look_20 (by decide) ?_
    exact ww_iret X hr rfl (Eq.symm (by unfold f_X8_look; try rw [if_neg c1]; first | done | rfl)) rfl dX8_look_24
def f_X8_fails (SM : St) (x1 : Int32) : St :=
  if (SM.1 7) = 0 then
    (sI SM 7 x1)
  else
    (sI SM 7 (SM.1 7))
theorem inX8_fails_8 : ∀ w ∈ wsX80, w ∈ wsX8_fails := by decide +kernel
theorem hd_X8_fails : yX8_fails.cls = RX8 ∧ yX8_fails.cls ≠ "java/lang/invoke/MethodHandle" ∧ yX8_fails.cls ≠ "java/lang/invoke/VarHandle" ∧ (parseMethodDescriptor yX8_fails.desc).map (fun d => d.parameters.length) = some 1 := by decide +kernel
set_option maxHeartbeats 4000000 in
set_option maxRecDepth 100000 in
theorem c_X8_fails (l : Launch) (D : va_G) (cI cZ cQ : ClassId) (rM : Nat → Nat) (SM : St) (x1 : Int32) : Cv l yX8_fails wsX8_fails { frames := 0, cells := 0, slots := 0, locals := 0 } D (tyL cI cZ cQ) [.ref (rM 0), .int x1] (fl [wX8 cI cZ cQ rM SM]) (fl [wX8 cI cZ cQ rM (f_X8_fails SM x1)]) := by
  refine cv_of (cc := cX8_fails) (nL := 2) (lv0 := [(0, .ref (rM 0)), (1, .int x1)]) (by decide) rfl (Nat.le_of_ble_eq_true rfl) rfl ?_
  intro p e s m args below meth c A X hr
  refine ww_aload_n (pc := 0) X dX8_fails_0 0 rfl rfl ?_
  refine ww_aload_n (pc := 1) X dX8_fails_1 0 rfl rfl ?_
  refine ww_get (pc := 2) (ci := 8) (v := .int (SM.1 7)) (C := RX8) (T := TX8) (N := 27) X inX8_fails_8 0 rfl rfl 23 (by decide) (by decide +kernel) rfl dX8_fails_2 ?_
  refine ww_if_ne (pc := 5) (tgt := 12) X dX8_fails_5 (by decide) (fun c1 => ?_) (fun c1 => ?_)
  · refine ww_aload_n (pc := 12) X dX8_fails_12 0 rfl rfl ?_
    refine ww_get (pc := 13) (ci := 8) (v := .int (SM.1 7)) (C := RX8) (T := TX8) (N := 27) X inX8_fails_8 0 rfl rfl 23 (by decide) (by decide +kernel) rfl dX8_fails_13 ?_
    refine ww_put (pc := 16) (ci := 8) (v := .int (SM.1 7)) (C := RX8) (T := TX8) (N := 27) (ws' := fl [wX8 cI cZ cQ rM (sI SM 7 (SM.1 7))]) X inX8_fails_8 tyX8 tyX8_ok nmX8 0 rfl rfl 23 (by decide) (by decide +kernel) rfl rfl rfl (Nat.le_of_ble_eq_true rfl) (pt8a_7 _ _ _ _ _ _) dX8_fails_16 ?_
    have h2 : f_X8_fails SM x1 = (sI SM 7 (SM.1 7)) := by unfold f_X8_fails; try rw [if_neg c1]; first | done | rfl
    exact ww_vret X hr (congrArg (fun u9 : St => fl [wX8 cI cZ cQ rM u9]) h2.symm) dX8_fails_19
  · refine ww_iload_n (pc := 8) X dX8_fails_8 1 rfl rfl ?_
    refine ww_goto (pc := 9) (tgt := 16) X dX8_fails_9 (by decide) ?_
    refine ww_put (pc := 16) (ci := 8) (v := .int x1) (C := RX8) (T := TX8) (N := 27) (ws' := fl [wX8 cI cZ cQ rM (sI SM 7 x1)]) X inX8_fails_8 tyX8 tyX8_ok nmX8 0 rfl rfl 23 (by decide) (by decide +kernel) rfl rfl rfl (Nat.le_of_ble_eq_true rfl) (pt8a_7 _ _ _ _ _ _) dX8_fails_16 ?_
    have h3 : f_X8_fails SM x1 = (sI SM 7 x1) := by unfold f_X8_fails; try rw [if_pos c1]; first | done | rfl
    exact ww_vret X hr (congrArg (fun u9 : St => fl [wX8 cI cZ cQ rM u9]) h3.symm) dX8_fails_19
def f_X8_opens_k1 (SM : St) (x1 : Int32) (x2 : Int32) (z3 : St) : Int32 × St :=
  (0, z3)
def f_X8_opens (SM : St) (x1 : Int32) (x2 : Int32) : Int32 × St :=
  if x1 = x2 then
    f_X8_opens_k1 SM x1 x2 (f_X8_fails SM 3)
  else
    (1, (sI SM 6 ((SM.1 6) + 1)))
theorem inX8_opens_8 : ∀ w ∈ wsX80, w ∈ wsX8_opens := by decide +kernel
theorem hd_X8_opens : yX8_opens.cls = RX8 ∧ yX8_opens.cls ≠ "java/lang/invoke/MethodHandle" ∧ yX8_opens.cls ≠ "java/lang/invoke/VarHandle" ∧ (parseMethodDescriptor yX8_opens.desc).map (fun d => d.parameters.length) = some 2 := by decide +kernel
set_option maxHeartbeats 4000000 in
set_option maxRecDepth 100000 in
theorem c_X8_opens (l : Launch) (D : va_G) (cI cZ cQ : ClassId) (rM : Nat → Nat) (SM : St) (x1 : Int32) (x2 : Int32) : Ci l yX8_opens wsX8_opens { frames := 1, cells := 0, slots := 0, locals := 21 } D (tyL cI cZ cQ) [.ref (rM 0), .int x1, .int x2] (fl [wX8 cI cZ cQ rM SM]) ((f_X8_opens SM x1 x2).1) (fl [wX8 cI cZ cQ rM ((f_X8_opens SM x1 x2).2)]) := by
  refine ci_of (cc := cX8_opens) (nL := 3) (ty := .boolean) (lv0 := [(0, .ref (rM 0)), (1, .int x1), (2, .int x2)]) (by decide) rfl (Nat.le_of_ble_eq_true rfl) rfl ?_
  intro p e s m args below meth c A X hr
  refine ww_iload_n (pc := 0) X dX8_opens_0 1 rfl rfl ?_
  refine ww_iload_n (pc := 1) X dX8_opens_1 2 rfl rfl ?_
  refine ww_icmp_ne (pc := 2) (tgt := 12) X dX8_opens_2 (by decide) (fun c1 => ?_) (fun c1 => ?_)
  · refine ww_aload_n (pc := 12) X dX8_opens_12 0 rfl rfl ?_
    refine ww_dup (pc := 13) X dX8_opens_13 rfl ?_
    refine ww_get (pc := 14) (ci := 8) (v := .int (SM.1 6)) (C := RX8) (T := TX8) (N := 27) X inX8_opens_8 0 rfl rfl 22 (by decide) (by decide +kernel) rfl dX8_opens_14 ?_
    refine ww_iconst (pc := 17) (v := 1) X dX8_opens_17 (by decide) ?_
    refine ww_iadd (pc := 18) X dX8_opens_18 ?_
    refine ww_put (pc := 19) (ci := 8) (v := .int ((SM.1 6) + 1)) (C := RX8) (T := TX8) (N := 27) (ws' := fl [wX8 cI cZ cQ rM (sI SM 6 ((SM.1 6) + 1))]) X inX8_opens_8 tyX8 tyX8_ok nmX8 0 rfl rfl 22 (by decide) (by decide +kernel) rfl rfl rfl (Nat.le_of_ble_eq_true rfl) (pt8a_6 _ _ _ _ _ _) dX8_opens_19 ?_
    refine ww_iconst (pc := 22) (v := 1) X dX8_opens_22 (by decide) ?_
    have h2 : f_X8_opens SM x1 x2 = (1, (sI SM 6 ((SM.1 6) + 1))) := by unfold f_X8_opens; try rw [if_neg c1]; first | done | rfl
    exact ww_iret X hr rfl (congrArg (fun u9 : Int32 × St => u9.1) h2).symm (congrArg (fun u9 : Int32 × St => fl [wX8 cI cZ cQ rM u9.2]) h2.symm) dX8_opens_23
  · refine ww_aload_n (pc := 5) X dX8_opens_5 0 rfl rfl ?_
    refine ww_iconst (pc := 6) (v := 3) X dX8_opens_6 (by decide) ?_
    refine ww_gVv (pc := 7) (rest := []) (gsN := [wX8 cI cZ cQ rM (f_X8_fails SM 3)]) (ci := 8) (gi := 0) (qi := 0) X (c_X8_fails l D cI cZ cQ rM SM 3) gX8_opens_X8_fails rfl hd_X8_fails [true] rfl (acons (ad8 _ _ _ _ _ _) rfl) rfl rfl rfl rfl rfl rfl ⟨rfl, rfl⟩ ⟨Nat.le_of_ble_eq_true rfl, Nat.le_of_ble_eq_true rfl⟩ (Nat.le_of_ble_eq_true rfl) ⟨Nat.zero_le _, Nat.zero_le _⟩ dX8_opens_7 ?_
    generalize hz3 : (f_X8_fails SM 3) = z3
    refine ww_iconst (pc := 10) (v := 0) X dX8_opens_10 (by decide) ?_
    have h4 : f_X8_opens SM x1 x2 = (0, z3) := by unfold f_X8_opens; try rw [if_pos c1, hz3]; try unfold f_X8_opens_k1; first | done | rfl
    exact ww_iret X hr rfl (congrArg (fun u9 : Int32 × St => u9.1) h4).symm (congrArg (fun u9 : Int32 × St => fl [wX8 cI cZ cQ rM u9.2]) h4.symm) dX8_opens_11
def f_X8_fault (SM : St) : Int32 :=
  SM.1 1
theorem inX8_fault_8 : ∀ w ∈ wsX80, w ∈ wsX8_fault := by decide +kernel
theorem hd_X8_fault : yX8_fault.cls = RX8 ∧ yX8_fault.cls ≠ "java/lang/invoke/MethodHandle" ∧ yX8_fault.cls ≠ "java/lang/invoke/VarHandle" ∧ (parseMethodDescriptor yX8_fault.desc).map (fun d => d.parameters.length) = some 0 := by decide +kernel
set_option maxHeartbeats 4000000 in
set_option maxRecDepth 100000 in
theorem c_X8_fault (l : Launch) (D : va_G) (cI cZ cQ : ClassId) (rM : Nat → Nat) (SM : St) : Ci l yX8_fault wsX8_fault { frames := 0, cells := 0, slots := 0, locals := 0 } D (tyL cI cZ cQ) [.ref (rM 0)] (fl [wX8 cI cZ cQ rM SM]) (f_X8_fault SM) (fl [wX8 cI cZ cQ rM SM]) := by
  refine ci_of (cc := cX8_fault) (nL := 1) (ty := .int) (lv0 := [(0, .ref (rM 0))]) (by decide) rfl (Nat.le_of_ble_eq_true rfl) rfl ?_
  intro p e s m args below meth c A X hr
  refine ww_aload_n (pc := 0) X dX8_fault_0 0 rfl rfl ?_
  refine ww_get (pc := 1) (ci := 8) (v := .int (SM.1 1)) (C := RX8) (T := TX8) (N := 27) X inX8_fault_8 0 rfl rfl 2 (by decide) (by decide +kernel) rfl dX8_fault_1 ?_
  exact ww_iret X hr rfl (Eq.symm (by unfold f_X8_fault; first | done | rfl)) rfl dX8_fault_4
def f_X8_isShore (SM : St) : Int32 :=
  if ((SM.2 1) ((0 : Int32)).toNatClampNeg) ≤ 0 then
    0
  else
    1
theorem inX8_isShore_8 : ∀ w ∈ wsX80, w ∈ wsX8_isShore := by decide +kernel
theorem hd_X8_isShore : yX8_isShore.cls = RX8 ∧ yX8_isShore.cls ≠ "java/lang/invoke/MethodHandle" ∧ yX8_isShore.cls ≠ "java/lang/invoke/VarHandle" ∧ (parseMethodDescriptor yX8_isShore.desc).map (fun d => d.parameters.length) = some 0 := by decide +kernel
set_option maxHeartbeats 4000000 in
set_option maxRecDepth 100000 in
theorem c_X8_isShore (l : Launch) (D : va_G) (cI cZ cQ : ClassId) (rM : Nat → Nat) (SM : St) : Ci l yX8_isShore wsX8_isShore { frames := 0, cells := 0, slots := 0, locals := 0 } D (tyL cI cZ cQ) [.ref (rM 0)] (fl [wX8 cI cZ cQ rM SM]) (f_X8_isShore SM) (fl [wX8 cI cZ cQ rM SM]) := by
  refine ci_of (cc := cX8_isShore) (nL := 1) (ty := .boolean) (lv0 := [(0, .ref (rM 0))]) (by decide) rfl (Nat.le_of_ble_eq_true rfl) rfl ?_
  intro p e s m args below meth c A X hr
  refine ww_aload_n (pc := 0) X dX8_isShore_0 0 rfl rfl ?_
  refine ww_get (pc := 1) (ci := 8) (v := .ref (rM 2)) (C := RX8) (T := TX8) (N := 27) X inX8_isShore_8 0 rfl rfl 3 (by decide) (by decide +kernel) rfl dX8_isShore_1 ?_
  refine ww_iconst (pc := 4) (v := 0) X dX8_isShore_4 (by decide) ?_
  refine ww_iald (pc := 5) (f := SM.2 1) X 2 0 rfl rfl (vl_in (by decide)) dX8_isShore_5 ?_
  refine ww_if_le (pc := 6) (tgt := 13) X dX8_isShore_6 (by decide) (fun c1 => ?_) (fun c1 => ?_)
  · refine ww_iconst (pc := 13) (v := 0) X dX8_isShore_13 (by decide) ?_
    exact ww_iret X hr rfl (Eq.symm (by unfold f_X8_isShore; try rw [if_pos c1]; first | done | rfl)) rfl dX8_isShore_14
  · refine ww_iconst (pc := 9) (v := 1) X dX8_isShore_9 (by decide) ?_
    refine ww_goto (pc := 10) (tgt := 14) X dX8_isShore_10 (by decide) ?_
    exact ww_iret X hr rfl (Eq.symm (by unfold f_X8_isShore; try rw [if_neg c1]; first | done | rfl)) rfl dX8_isShore_14
def f_X8_isDepth (SM : St) (x1 : Int32) : Int32 :=
  f_X8_in x1 0 (((SM.2 1) ((2 : Int32)).toNatClampNeg) - 1)
theorem in_X8_isDepth {S : St} {x : Int32} (ok : okM S) (h : ¬ f_X8_isDepth S x = 0) : vp_in x 4 := by
  unfold f_X8_isDepth f_X8_in at h
  split at h
  · exact absurd rfl h
  · split at h
    · exact absurd rfl h
    · exact cnt_in (N := 4) ok.1 (by decide) (by assumption) (by assumption)
theorem inX8_isDepth_8 : ∀ w ∈ wsX80, w ∈ wsX8_isDepth := by decide +kernel
theorem hd_X8_isDepth : yX8_isDepth.cls = RX8 ∧ yX8_isDepth.cls ≠ "java/lang/invoke/MethodHandle" ∧ yX8_isDepth.cls ≠ "java/lang/invoke/VarHandle" ∧ (parseMethodDescriptor yX8_isDepth.desc).map (fun d => d.parameters.length) = some 1 := by decide +kernel
set_option maxHeartbeats 4000000 in
set_option maxRecDepth 100000 in
theorem c_X8_isDepth (l : Launch) (D : va_G) (cI cZ cQ : ClassId) (rM : Nat → Nat) (SM : St) (x1 : Int32) : Ci l yX8_isDepth wsX8_isDepth { frames := 1, cells := 0, slots := 0, locals := 22 } D (tyL cI cZ cQ) [.ref (rM 0), .int x1] (fl [wX8 cI cZ cQ rM SM]) (f_X8_isDepth SM x1) (fl [wX8 cI cZ cQ rM SM]) := by
  refine ci_of (cc := cX8_isDepth) (nL := 2) (ty := .boolean) (lv0 := [(0, .ref (rM 0)), (1, .int x1)]) (by decide) rfl (Nat.le_of_ble_eq_true rfl) rfl ?_
  intro p e s m args below meth c A X hr
  refine ww_iload_n (pc := 0) X dX8_isDepth_0 1 rfl rfl ?_
  refine ww_iconst (pc := 1) (v := 0) X dX8_isDepth_1 (by decide) ?_
  refine ww_aload_n (pc := 2) X dX8_isDepth_2 0 rfl rfl ?_
  refine ww_get (pc := 3) (ci := 8) (v := .ref (rM 2)) (C := RX8) (T := TX8) (N := 27) X inX8_isDepth_8 0 rfl rfl 3 (by decide) (by decide +kernel) rfl dX8_isDepth_3 ?_
  refine ww_iconst (pc := 6) (v := 2) X dX8_isDepth_6 (by decide) ?_
  refine ww_iald (pc := 7) (f := SM.2 1) X 2 0 rfl rfl (vl_in (by decide)) dX8_isDepth_7 ?_
  refine ww_iconst (pc := 8) (v := 1) X dX8_isDepth_8 (by decide) ?_
  refine ww_isub (pc := 9) X dX8_isDepth_9 ?_
  refine ww_gSi (pc := 10) (rest := []) (gsN := [wX8 cI cZ cQ rM SM]) X (c_X8_in l D cI cZ cQ x1 0 (((SM.2 1) ((2 : Int32)).toNatClampNeg) - 1)) gX8_isDepth_X8_in rfl hd_X8_in [false] rfl rfl rfl rfl ⟨rfl, rfl⟩ ⟨Nat.le_of_ble_eq_true rfl, Nat.le_of_ble_eq_true rfl⟩ (Nat.le_of_ble_eq_true rfl) ⟨Nat.zero_le _, Nat.zero_le _⟩ dX8_isDepth_10 ?_
  exact ww_iret X hr (nb (bo_X8_in _ _ _)) (Eq.symm (by unfold f_X8_isDepth; first | done | rfl)) rfl dX8_isDepth_13
def f_X8_isPerson (SM : St) (x1 : Int32) : Int32 :=
  f_X8_in x1 0 (((SM.2 1) ((3 : Int32)).toNatClampNeg) - 1)
theorem in_X8_isPerson {S : St} {x : Int32} (ok : okM S) (h : ¬ f_X8_isPerson S x = 0) : vp_in x 7 := by
  unfold f_X8_isPerson f_X8_in at h
  split at h
  · exact absurd rfl h
  · split at h
    · exact absurd rfl h
    · exact cnt_in (N := 7) ok.2.1 (by decide) (by assumption) (by assumption)
theorem inX8_isPerson_8 : ∀ w ∈ wsX80, w ∈ wsX8_isPerson := by decide +kernel
theorem hd_X8_isPerson : yX8_isPerson.cls = RX8 ∧ yX8_isPerson.cls ≠ "java/lang/invoke/MethodHandle" ∧ yX8_isPerson.cls ≠ "java/lang/invoke/VarHandle" ∧ (parseMethodDescriptor yX8_isPerson.desc).map (fun d => d.parameters.length) = some 1 := by decide +kernel
set_option maxHeartbeats 4000000 in
set_option maxRecDepth 100000 in
theorem c_X8_isPerson (l : Launch) (D : va_G) (cI cZ cQ : ClassId) (rM : Nat → Nat) (SM : St) (x1 : Int32) : Ci l yX8_isPerson wsX8_isPerson { frames := 1, cells := 0, slots := 0, locals := 22 } D (tyL cI cZ cQ) [.ref (rM 0), .int x1] (fl [wX8 cI cZ cQ rM SM]) (f_X8_isPerson SM x1) (fl [wX8 cI cZ cQ rM SM]) := by
  refine ci_of (cc := cX8_isPerson) (nL := 2) (ty := .boolean) (lv0 := [(0, .ref (rM 0)), (1, .int x1)]) (by decide) rfl (Nat.le_of_ble_eq_true rfl) rfl ?_
  intro p e s m args below meth c A X hr
  refine ww_iload_n (pc := 0) X dX8_isPerson_0 1 rfl rfl ?_
  refine ww_iconst (pc := 1) (v := 0) X dX8_isPerson_1 (by decide) ?_
  refine ww_aload_n (pc := 2) X dX8_isPerson_2 0 rfl rfl ?_
  refine ww_get (pc := 3) (ci := 8) (v := .ref (rM 2)) (C := RX8) (T := TX8) (N := 27) X inX8_isPerson_8 0 rfl rfl 3 (by decide) (by decide +kernel) rfl dX8_isPerson_3 ?_
  refine ww_iconst (pc := 6) (v := 3) X dX8_isPerson_6 (by decide) ?_
  refine ww_iald (pc := 7) (f := SM.2 1) X 2 0 rfl rfl (vl_in (by decide)) dX8_isPerson_7 ?_
  refine ww_iconst (pc := 8) (v := 1) X dX8_isPerson_8 (by decide) ?_
  refine ww_isub (pc := 9) X dX8_isPerson_9 ?_
  refine ww_gSi (pc := 10) (rest := []) (gsN := [wX8 cI cZ cQ rM SM]) X (c_X8_in l D cI cZ cQ x1 0 (((SM.2 1) ((3 : Int32)).toNatClampNeg) - 1)) gX8_isPerson_X8_in rfl hd_X8_in [false] rfl rfl rfl rfl ⟨rfl, rfl⟩ ⟨Nat.le_of_ble_eq_true rfl, Nat.le_of_ble_eq_true rfl⟩ (Nat.le_of_ble_eq_true rfl) ⟨Nat.zero_le _, Nat.zero_le _⟩ dX8_isPerson_10 ?_
  exact ww_iret X hr (nb (bo_X8_in _ _ _)) (Eq.symm (by unfold f_X8_isPerson; first | done | rfl)) rfl dX8_isPerson_13
def f_X8_isGood (SM : St) (x1 : Int32) : Int32 :=
  f_X8_in x1 0 (((SM.2 1) ((4 : Int32)).toNatClampNeg) - 1)
theorem in_X8_isGood {S : St} {x : Int32} (ok : okM S) (h : ¬ f_X8_isGood S x = 0) : vp_in x 6 := by
  unfold f_X8_isGood f_X8_in at h
  split at h
  · exact absurd rfl h
  · split at h
    · exact absurd rfl h
    · exact cnt_in (N := 6) ok.2.2 (by decide) (by assumption) (by assumption)
theorem inX8_isGood_8 : ∀ w ∈ wsX80, w ∈ wsX8_isGood := by decide +kernel
theorem hd_X8_isGood : yX8_isGood.cls = RX8 ∧ yX8_isGood.cls ≠ "java/lang/invoke/MethodHandle" ∧ yX8_isGood.cls ≠ "java/lang/invoke/VarHandle" ∧ (parseMethodDescriptor yX8_isGood.desc).map (fun d => d.parameters.length) = some 1 := by decide +kernel
set_option maxHeartbeats 4000000 in
set_option maxRecDepth 100000 in
theorem c_X8_isGood (l : Launch) (D : va_G) (cI cZ cQ : ClassId) (rM : Nat → Nat) (SM : St) (x1 : Int32) : Ci l yX8_isGood wsX8_isGood { frames := 1, cells := 0, slots := 0, locals := 22 } D (tyL cI cZ cQ) [.ref (rM 0), .int x1] (fl [wX8 cI cZ cQ rM SM]) (f_X8_isGood SM x1) (fl [wX8 cI cZ cQ rM SM]) := by
  refine ci_of (cc := cX8_isGood) (nL := 2) (ty := .boolean) (lv0 := [(0, .ref (rM 0)), (1, .int x1)]) (by decide) rfl (Nat.le_of_ble_eq_true rfl) rfl ?_
  intro p e s m args below meth c A X hr
  refine ww_iload_n (pc := 0) X dX8_isGood_0 1 rfl rfl ?_
  refine ww_iconst (pc := 1) (v := 0) X dX8_isGood_1 (by decide) ?_
  refine ww_aload_n (pc := 2) X dX8_isGood_2 0 rfl rfl ?_
  refine ww_get (pc := 3) (ci := 8) (v := .ref (rM 2)) (C := RX8) (T := TX8) (N := 27) X inX8_isGood_8 0 rfl rfl 3 (by decide) (by decide +kernel) rfl dX8_isGood_3 ?_
  refine ww_iconst (pc := 6) (v := 4) X dX8_isGood_6 (by decide) ?_
  refine ww_iald (pc := 7) (f := SM.2 1) X 2 0 rfl rfl (vl_in (by decide)) dX8_isGood_7 ?_
  refine ww_iconst (pc := 8) (v := 1) X dX8_isGood_8 (by decide) ?_
  refine ww_isub (pc := 9) X dX8_isGood_9 ?_
  refine ww_gSi (pc := 10) (rest := []) (gsN := [wX8 cI cZ cQ rM SM]) X (c_X8_in l D cI cZ cQ x1 0 (((SM.2 1) ((4 : Int32)).toNatClampNeg) - 1)) gX8_isGood_X8_in rfl hd_X8_in [false] rfl rfl rfl rfl ⟨rfl, rfl⟩ ⟨Nat.le_of_ble_eq_true rfl, Nat.le_of_ble_eq_true rfl⟩ (Nat.le_of_ble_eq_true rfl) ⟨Nat.zero_le _, Nat.zero_le _⟩ dX8_isGood_10 ?_
  exact ww_iret X hr (nb (bo_X8_in _ _ _)) (Eq.symm (by unfold f_X8_isGood; first | done | rfl)) rfl dX8_isGood_13
def f_X8_isAbove (SM : St) (x1 : Int32) : Int32 :=
  if ((SM.2 9) ((8 + x1 : Int32)).toNatClampNeg) = 0 then
    1
  else
    0
theorem inX8_isAbove_8 : ∀ w ∈ wsX80, w ∈ wsX8_isAbove := by decide +kernel
theorem hd_X8_isAbove : yX8_isAbove.cls = RX8 ∧ yX8_isAbove.cls ≠ "java/lang/invoke/MethodHandle" ∧ yX8_isAbove.cls ≠ "java/lang/invoke/VarHandle" ∧ (parseMethodDescriptor yX8_isAbove.desc).map (fun d => d.parameters.length) = some 1 := by decide +kernel
set_option maxHeartbeats 4000000 in
set_option maxRecDepth 100000 in
theorem c_X8_isAbove (l : Launch) (D : va_G) (cI cZ cQ : ClassId) (rM : Nat → Nat) (SM : St) (x1 : Int32) (hp : vp_in x1 7) : Ci l yX8_isAbove wsX8_isAbove { frames := 0, cells := 0, slots := 0, locals := 0 } D (tyL cI cZ cQ) [.ref (rM 0), .int x1] (fl [wX8 cI cZ cQ rM SM]) (f_X8_isAbove SM x1) (fl [wX8 cI cZ cQ rM SM]) := by
  refine ci_of (cc := cX8_isAbove) (nL := 2) (ty := .boolean) (lv0 := [(0, .ref (rM 0)), (1, .int x1)]) (by decide) rfl (Nat.le_of_ble_eq_true rfl) rfl ?_
  intro p e s m args below meth c A X hr
  refine ww_aload_n (pc := 0) X dX8_isAbove_0 0 rfl rfl ?_
  refine ww_get (pc := 1) (ci := 8) (v := .ref (rM 10)) (C := RX8) (T := TX8) (N := 27) X inX8_isAbove_8 0 rfl rfl 11 (by decide) (by decide +kernel) rfl dX8_isAbove_1 ?_
  refine ww_bipush (pc := 4) (v := 8) X dX8_isAbove_4 (by decide) ?_
  refine ww_iload_n (pc := 6) X dX8_isAbove_6 1 rfl rfl ?_
  have hb1 := clb (n := 7) hp
  refine ww_iadd (pc := 7) X dX8_isAbove_7 ?_
  refine ww_iald (pc := 8) (f := SM.2 9) X 10 0 rfl rfl (vn (m := 8 + ((x1 : Int32).toNatClampNeg)) (nat_iadd (a := 8) (b := (x1 : Int32).toNatClampNeg) rfl (cl_of hp)) (by omega) (by decide)) dX8_isAbove_8 ?_
  refine ww_if_ne (pc := 9) (tgt := 16) X dX8_isAbove_9 (by decide) (fun c2 => ?_) (fun c2 => ?_)
  · refine ww_iconst (pc := 16) (v := 0) X dX8_isAbove_16 (by decide) ?_
    exact ww_iret X hr rfl (Eq.symm (by unfold f_X8_isAbove; try rw [if_neg c2]; first | done | rfl)) rfl dX8_isAbove_17
  · refine ww_iconst (pc := 12) (v := 1) X dX8_isAbove_12 (by decide) ?_
    refine ww_goto (pc := 13) (tgt := 17) X dX8_isAbove_13 (by decide) ?_
    exact ww_iret X hr rfl (Eq.symm (by unfold f_X8_isAbove; try rw [if_pos c2]; first | done | rfl)) rfl dX8_isAbove_17
def f_X8_isBelow (SM : St) (x1 : Int32) : Int32 :=
  if ((SM.2 9) ((8 + x1 : Int32)).toNatClampNeg) < 10 then
    0
  else
    1
def okW (S : St) (x1 : Int32) : Prop := ¬ (f_X8_isBelow S x1) = 0 → vp_in (((S.2 9) ((8 + x1 : Int32)).toNatClampNeg) - 10) 4 ∧ ¬ (S.2 2) ((((S.2 9) ((8 + x1 : Int32)).toNatClampNeg) - 10 : Int32)).toNatClampNeg = 0
def okD (S : St) : Prop := ∀ x : Int32, ¬ (f_X8_isDepth S x) = 0 → ¬ (S.2 2) ((x : Int32)).toNatClampNeg = 0
theorem inX8_isBelow_8 : ∀ w ∈ wsX80, w ∈ wsX8_isBelow := by decide +kernel
theorem hd_X8_isBelow : yX8_isBelow.cls = RX8 ∧ yX8_isBelow.cls ≠ "java/lang/invoke/MethodHandle" ∧ yX8_isBelow.cls ≠ "java/lang/invoke/VarHandle" ∧ (parseMethodDescriptor yX8_isBelow.desc).map (fun d => d.parameters.length) = some 1 := by decide +kernel
set_option maxHeartbeats 4000000 in
set_option maxRecDepth 100000 in
theorem c_X8_isBelow (l : Launch) (D : va_G) (cI cZ cQ : ClassId) (rM : Nat → Nat) (SM : St) (x1 : Int32) (hp : vp_in x1 7) : Ci l yX8_isBelow wsX8_isBelow { frames := 0, cells := 0, slots := 0, locals := 0 } D (tyL cI cZ cQ) [.ref (rM 0), .int x1] (fl [wX8 cI cZ cQ rM SM]) (f_X8_isBelow SM x1) (fl [wX8 cI cZ cQ rM SM]) := by
  refine ci_of (cc := cX8_isBelow) (nL := 2) (ty := .boolean) (lv0 := [(0, .ref (rM 0)), (1, .int x1)]) (by decide) rfl (Nat.le_of_ble_eq_true rfl) rfl ?_
  intro p e s m args below meth c A X hr
  refine ww_aload_n (pc := 0) X dX8_isBelow_0 0 rfl rfl ?_
  refine ww_get (pc := 1) (ci := 8) (v := .ref (rM 10)) (C := RX8) (T := TX8) (N := 27) X inX8_isBelow_8 0 rfl rfl 11 (by decide) (by decide +kernel) rfl dX8_isBelow_1 ?_
  refine ww_bipush (pc := 4) (v := 8) X dX8_isBelow_4 (by decide) ?_
  refine ww_iload_n (pc := 6) X dX8_isBelow_6 1 rfl rfl ?_
  have hb1 := clb (n := 7) hp
  refine ww_iadd (pc := 7) X dX8_isBelow_7 ?_
  refine ww_iald (pc := 8) (f := SM.2 9) X 10 0 rfl rfl (vn (m := 8 + ((x1 : Int32).toNatClampNeg)) (nat_iadd (a := 8) (b := (x1 : Int32).toNatClampNeg) rfl (cl_of hp)) (by omega) (by decide)) dX8_isBelow_8 ?_
  refine ww_bipush (pc := 9) (v := 10) X dX8_isBelow_9 (by decide) ?_
  refine ww_icmp_lt (pc := 11) (tgt := 18) X dX8_isBelow_11 (by decide) (fun c2 => ?_) (fun c2 => ?_)
  · refine ww_iconst (pc := 18) (v := 0) X dX8_isBelow_18 (by decide) ?_
    exact ww_iret X hr rfl (Eq.symm (by unfold f_X8_isBelow; try rw [if_pos c2]; first | done | rfl)) rfl dX8_isBelow_19
  · refine ww_iconst (pc := 14) (v := 1) X dX8_isBelow_14 (by decide) ?_
    refine ww_goto (pc := 15) (tgt := 19) X dX8_isBelow_15 (by decide) ?_
    exact ww_iret X hr rfl (Eq.symm (by unfold f_X8_isBelow; try rw [if_neg c2]; first | done | rfl)) rfl dX8_isBelow_19
def f_X8_end (SM : St) (x1 : Int32) : Int32 :=
  (SM.2 3) (((2 * x1) + 1 : Int32)).toNatClampNeg
theorem inX8_end_8 : ∀ w ∈ wsX80, w ∈ wsX8_end := by decide +kernel
theorem hd_X8_end : yX8_end.cls = RX8 ∧ yX8_end.cls ≠ "java/lang/invoke/MethodHandle" ∧ yX8_end.cls ≠ "java/lang/invoke/VarHandle" ∧ (parseMethodDescriptor yX8_end.desc).map (fun d => d.parameters.length) = some 1 := by decide +kernel
set_option maxHeartbeats 4000000 in
set_option maxRecDepth 100000 in
theorem c_X8_end (l : Launch) (D : va_G) (cI cZ cQ : ClassId) (rM : Nat → Nat) (SM : St) (x1 : Int32) (hp : vp_in x1 7) : Ci l yX8_end wsX8_end { frames := 0, cells := 0, slots := 0, locals := 0 } D (tyL cI cZ cQ) [.ref (rM 0), .int x1] (fl [wX8 cI cZ cQ rM SM]) (f_X8_end SM x1) (fl [wX8 cI cZ cQ rM SM]) := by
  refine ci_of (cc := cX8_end) (nL := 2) (ty := .int) (lv0 := [(0, .ref (rM 0)), (1, .int x1)]) (by decide) rfl (Nat.le_of_ble_eq_true rfl) rfl ?_
  intro p e s m args below meth c A X hr
  refine ww_aload_n (pc := 0) X dX8_end_0 0 rfl rfl ?_
  refine ww_get (pc := 1) (ci := 8) (v := .ref (rM 4)) (C := RX8) (T := TX8) (N := 27) X inX8_end_8 0 rfl rfl 5 (by decide) (by decide +kernel) rfl dX8_end_1 ?_
  refine ww_iconst (pc := 4) (v := 2) X dX8_end_4 (by decide) ?_
  refine ww_iload_n (pc := 5) X dX8_end_5 1 rfl rfl ?_
  have hb1 := clb (n := 7) hp
  refine ww_imul (pc := 6) X dX8_end_6 ?_
  refine ww_iconst (pc := 7) (v := 1) X dX8_end_7 (by decide) ?_
  refine ww_iadd (pc := 8) X dX8_end_8 ?_
  refine ww_iald (pc := 9) (f := SM.2 3) X 4 0 rfl rfl (vn (m := (2 * ((x1 : Int32).toNatClampNeg)) + 1) (nat_iadd (a := 2 * ((x1 : Int32).toNatClampNeg)) (b := 1) (nat_imul (a := 2) (b := (x1 : Int32).toNatClampNeg) rfl (cl_of hp)) rfl) (by omega) (by decide)) dX8_end_9 ?_
  exact ww_iret X hr rfl (Eq.symm (by unfold f_X8_end; first | done | rfl)) rfl dX8_end_10
def bd_X8_who_4 (SM : St) (x1 : Int32) (j : Nat) (u : Int32) : Int32 :=
  if x1 = 0 then
    if ((SM.2 9) ((8 + (nI j) : Int32)).toNatClampNeg) = 1 then
      u ||| (1 <<< ((nI j) &&& 31))
    else
      u ||| 0
  else
    if (f_X8_isBelow SM (nI j)) = 0 then
      u ||| 0
    else
      if x1 = 1 then
        u ||| (1 <<< ((nI j) &&& 31))
      else
        if ((SM.2 9) ((22 + (nI j) : Int32)).toNatClampNeg) < ((SM.2 1) ((0 : Int32)).toNatClampNeg) then
          u ||| 0
        else
          u ||| (1 <<< ((nI j) &&& 31))
def it_X8_who_4 (SM : St) (x1 : Int32) (u : Int32) : Nat → Int32
  | 0 => u
  | j + 1 => bd_X8_who_4 SM x1 j (it_X8_who_4 SM x1 u j)
def f_X8_who_k1 (SM : St) (x1 : Int32) (z32 : Int32) : Int32 :=
  z32
def f_X8_who (SM : St) (x1 : Int32) : Int32 :=
  f_X8_who_k1 SM x1 (it_X8_who_4 SM x1 (0 : Int32) (((SM.2 1) ((3 : Int32)).toNatClampNeg).toNatClampNeg))
theorem inX8_who_8 : ∀ w ∈ wsX80, w ∈ wsX8_who := by decide +kernel
theorem hd_X8_who : yX8_who.cls = RX8 ∧ yX8_who.cls ≠ "java/lang/invoke/MethodHandle" ∧ yX8_who.cls ≠ "java/lang/invoke/VarHandle" ∧ (parseMethodDescriptor yX8_who.desc).map (fun d => d.parameters.length) = some 1 := by decide +kernel
set_option maxHeartbeats 4000000 in
set_option maxRecDepth 100000 in
theorem c_X8_who (l : Launch) (D : va_G) (cI cZ cQ : ClassId) (rM : Nat → Nat) (SM : St) (x1 : Int32) (okm : okM SM) : Ci l yX8_who wsX8_who { frames := 1, cells := 0, slots := 0, locals := 21 } D (tyL cI cZ cQ) [.ref (rM 0), .int x1] (fl [wX8 cI cZ cQ rM SM]) (f_X8_who SM x1) (fl [wX8 cI cZ cQ rM SM]) := by
  refine ci_of (cc := cX8_who) (nL := 5) (ty := .int) (lv0 := [(0, .ref (rM 0)), (1, .int x1)]) (by decide) rfl (Nat.le_of_ble_eq_true rfl) rfl ?_
  intro p e s m args below meth c A X hr
  refine ww_iconst (pc := 0) (v := 0) X dX8_who_0 (by decide) ?_
  refine ww_istore_n (pc := 1) (lv' := [(2, .int 0), (0, .ref (rM 0)), (1, .int x1)]) X dX8_who_1 rfl (by decide) rfl ?_
  refine ww_iconst (pc := 2) (v := 0) X dX8_who_2 (by decide) ?_
  refine ww_istore_n (pc := 3) (lv' := [(3, .int 0), (2, .int 0), (0, .ref (rM 0)), (1, .int x1)]) X dX8_who_3 rfl (by decide) rfl ?_
  have L4 : ∀ (k_4 j_4 : Nat), j_4 + k_4 = ((SM.2 1) ((3 : Int32)).toNatClampNeg).toNatClampNeg → WW p l e (headSpec wsX8_who { frames := 1, cells := 0, slots := 0, locals := 21 }).room s m args below meth c 5 D A 0 0 (RQi below args s D A (f_X8_who SM x1) (fl [wX8 cI cZ cQ rM SM])) (fl [wX8 cI cZ cQ rM SM]) [(0, .ref (rM 0)), (1, .int x1), (2, .int (it_X8_who_4 SM x1 (0 : Int32) (((SM.2 1) ((3 : Int32)).toNatClampNeg).toNatClampNeg))), (3, .int (nI (((SM.2 1) ((3 : Int32)).toNatClampNeg).toNatClampNeg)))] 98 [] → WW p l e (headSpec wsX8_who { frames := 1, cells := 0, slots := 0, locals := 21 }).room s m args below meth c 5 D A 0 0 (RQi below args s D A (f_X8_who SM x1) (fl [wX8 cI cZ cQ rM SM])) (fl [wX8 cI cZ cQ rM SM]) [(0, .ref (rM 0)), (1, .int x1), (2, .int (it_X8_who_4 SM x1 (0 : Int32) j_4)), (3, .int (nI j_4))] 4 [] := by
    intro k_4
    induction k_4 with
    | zero =>
      intro j_4 hj K
      have hjB : j_4 = ((SM.2 1) ((3 : Int32)).toNatClampNeg).toNatClampNeg := by omega
      subst hjB
      refine ww_iload_n (pc := 4) X dX8_who_4 3 rfl rfl ?_
      refine ww_aload_n (pc := 5) X dX8_who_5 0 rfl rfl ?_
      refine ww_get (pc := 6) (ci := 8) (v := .ref (rM 2)) (C := RX8) (T := TX8) (N := 27) X inX8_who_8 0 rfl rfl 3 (by decide) (by decide +kernel) rfl dX8_who_6 ?_
      refine ww_iconst (pc := 9) (v := 3) X dX8_who_9 (by decide) ?_
      refine ww_iald (pc := 10) (f := SM.2 1) X 2 0 rfl rfl (vl_in (by decide)) dX8_who_10 ?_
      exact ww_icmp_ge (pc := 11) (tgt := 98) X dX8_who_11 (by decide) (fun _ => K) (fun c9 => absurd (lp_ge0c (Nat.le_refl _) (cl_lt _)) c9)
    | succ k_4 ih =>
      intro j_4 hj K
      have hjB : j_4 < ((SM.2 1) ((3 : Int32)).toNatClampNeg).toNatClampNeg := by omega
      have h7_4 := okM_p okm
      refine ww_iload_n (pc := 4) X dX8_who_4 3 rfl rfl ?_
      refine ww_aload_n (pc := 5) X dX8_who_5 0 rfl rfl ?_
      refine ww_get (pc := 6) (ci := 8) (v := .ref (rM 2)) (C := RX8) (T := TX8) (N := 27) X inX8_who_8 0 rfl rfl 3 (by decide) (by decide +kernel) rfl dX8_who_6 ?_
      refine ww_iconst (pc := 9) (v := 3) X dX8_who_9 (by decide) ?_
      refine ww_iald (pc := 10) (f := SM.2 1) X 2 0 rfl rfl (vl_in (by decide)) dX8_who_10 ?_
      refine ww_icmp_ge (pc := 11) (tgt := 98) X dX8_who_11 (by decide) (fun c9 => absurd c9 (lp_ge1c hjB)) (fun _ => ?_)
      refine ww_iload_n (pc := 14) X dX8_who_14 1 rfl rfl ?_
      refine ww_if_ne (pc := 15) (tgt := 39) X dX8_who_15 (by decide) (fun c12 => ?_) (fun c12 => ?_)
      · refine ww_aload_n (pc := 39) X dX8_who_39 0 rfl rfl ?_
        refine ww_iload_n (pc := 40) X dX8_who_40 3 rfl rfl ?_
        refine ww_gVi (pc := 41) (rest := []) (gsN := [wX8 cI cZ cQ rM SM]) (ci := 8) (gi := 0) (qi := 0) X (c_X8_isBelow l D cI cZ cQ rM SM (nI j_4) (vn (m := j_4) rfl (by omega) (by decide))) gX8_who_X8_isBelow rfl hd_X8_isBelow [true] rfl rfl rfl rfl rfl rfl rfl rfl ⟨rfl, rfl⟩ ⟨Nat.le_of_ble_eq_true rfl, Nat.le_of_ble_eq_true rfl⟩ (Nat.le_of_ble_eq_true rfl) ⟨Nat.zero_le _, Nat.zero_le _⟩ dX8_who_41 ?_
        refine ww_if_eq (pc := 44) (tgt := 74) X dX8_who_44 (by decide) (fun c13 => ?_) (fun c13 => ?_)
        · refine ww_iconst (pc := 74) (v := 0) X dX8_who_74 (by decide) ?_
          refine ww_istore (pc := 75) (lv' := [(4, .int 0), (0, .ref (rM 0)), (1, .int x1), (2, .int (it_X8_who_4 SM x1 (0 : Int32) j_4)), (3, .int (nI j_4))]) X dX8_who_75 (by decide) rfl ?_
          refine ww_iload_n (pc := 77) X dX8_who_77 3 rfl rfl ?_
          refine ww_iload (pc := 78) X dX8_who_78 0 rfl ?_
          refine ww_if_eq (pc := 80) (tgt := 89) X dX8_who_80 (by decide) (fun _ => ?_) (fun c14 => absurd (by decide) c14)
          refine ww_iconst (pc := 89) (v := 0) X dX8_who_89 (by decide) ?_
          refine ww_ior (pc := 90) X dX8_who_90 ?_
          refine ww_istore_n (pc := 91) (lv' := [(2, .int ((it_X8_who_4 SM x1 (0 : Int32) j_4) ||| 0)), (4, .int 0), (0, .ref (rM 0)), (1, .int x1), (3, .int (nI j_4))]) X dX8_who_91 rfl (by decide) rfl ?_
          refine ww_iinc (pc := 92) (v := (nI j_4) + 1) (lv' := [(3, .int ((nI j_4) + 1)), (2, .int ((it_X8_who_4 SM x1 (0 : Int32) j_4) ||| 0)), (4, .int 0), (0, .ref (rM 0)), (1, .int x1)]) X dX8_who_92 4 rfl rfl (by decide) rfl ?_
          refine ww_goto (pc := 95) (tgt := 4) X dX8_who_95 (by decide) ?_
          have h15 : (it_X8_who_4 SM x1 (0 : Int32) (j_4 + 1)) = (it_X8_who_4 SM x1 (0 : Int32) j_4) ||| 0 := by
            show bd_X8_who_4 SM x1 j_4 (it_X8_who_4 SM x1 (0 : Int32) j_4) = _; unfold bd_X8_who_4; try rw [if_neg c12, if_pos c13]; first | done | rfl
          refine ww_lsub [3, 4, 1, 0] rfl ?_
          exact ww_castI (fun u9 : Int32 => fl [wX8 cI cZ cQ rM SM]) (fun (u9 : Int32) (i9 : Int32) => ([(0, .ref (rM 0)), (1, .int x1), (2, .int u9), (3, .int i9)] : List (Nat × Value))) h15 (ih (j_4 + 1) (by omega) K)
        · refine ww_iload_n (pc := 47) X dX8_who_47 1 rfl rfl ?_
          refine ww_iconst (pc := 48) (v := 1) X dX8_who_48 (by decide) ?_
          refine ww_icmp_eq (pc := 49) (tgt := 70) X dX8_who_49 (by decide) (fun c16 => ?_) (fun c16 => ?_)
          · refine ww_iconst (pc := 70) (v := 1) X dX8_who_70 (by decide) ?_
            refine ww_goto (pc := 71) (tgt := 75) X dX8_who_71 (by decide) ?_
            refine ww_istore (pc := 75) (lv' := [(4, .int 1), (0, .ref (rM 0)), (1, .int x1), (2, .int (it_X8_who_4 SM x1 (0 : Int32) j_4)), (3, .int (nI j_4))]) X dX8_who_75 (by decide) rfl ?_
            refine ww_iload_n (pc := 77) X dX8_who_77 3 rfl rfl ?_
            refine ww_iload (pc := 78) X dX8_who_78 0 rfl ?_
            refine ww_if_eq (pc := 80) (tgt := 89) X dX8_who_80 (by decide) (fun c17 => absurd c17 (by decide)) (fun _ => ?_)
            refine ww_iconst (pc := 83) (v := 1) X dX8_who_83 (by decide) ?_
            refine ww_iload_n (pc := 84) X dX8_who_84 4 rfl rfl ?_
            refine ww_ishl (pc := 85) X dX8_who_85 ?_
            refine ww_goto (pc := 86) (tgt := 90) X dX8_who_86 (by decide) ?_
            refine ww_ior (pc := 90) X dX8_who_90 ?_
            generalize hz18 : ((it_X8_who_4 SM x1 (0 : Int32) j_4) ||| (1 <<< ((nI j_4) &&& 31))) = z18
            refine ww_istore_n (pc := 91) (lv' := [(2, .int z18), (4, .int 1), (0, .ref (rM 0)), (1, .int x1), (3, .int (nI j_4))]) X dX8_who_91 rfl (by decide) rfl ?_
            refine ww_iinc (pc := 92) (v := (nI j_4) + 1) (lv' := [(3, .int ((nI j_4) + 1)), (2, .int z18), (4, .int 1), (0, .ref (rM 0)), (1, .int x1)]) X dX8_who_92 4 rfl rfl (by decide) rfl ?_
            refine ww_goto (pc := 95) (tgt := 4) X dX8_who_95 (by decide) ?_
            have h19 : (it_X8_who_4 SM x1 (0 : Int32) (j_4 + 1)) = z18 := by
              show bd_X8_who_4 SM x1 j_4 (it_X8_who_4 SM x1 (0 : Int32) j_4) = _; unfold bd_X8_who_4; try rw [if_neg c12, if_neg c13, if_pos c16, hz18]; try unfold bd_X8_who_4_k1; first | done | rfl
            refine ww_lsub [3, 4, 1, 0] rfl ?_
            exact ww_castI (fun u9 : Int32 => fl [wX8 cI cZ cQ rM SM]) (fun (u9 : Int32) (i9 : Int32) => ([(0, .ref (rM 0)), (1, .int x1), (2, .int u9), (3, .int i9)] : List (Nat × Value))) h19 (ih (j_4 + 1) (by omega) K)
          · refine ww_aload_n (pc := 52) X dX8_who_52 0 rfl rfl ?_
            refine ww_get (pc := 53) (ci := 8) (v := .ref (rM 10)) (C := RX8) (T := TX8) (N := 27) X inX8_who_8 0 rfl rfl 11 (by decide) (by decide +kernel) rfl dX8_who_53 ?_
            refine ww_bipush (pc := 56) (v := 22) X dX8_who_56 (by decide) ?_
            refine ww_iload_n (pc := 58) X dX8_who_58 3 rfl rfl ?_
            refine ww_iadd (pc := 59) X dX8_who_59 ?_
            refine ww_iald (pc := 60) (f := SM.2 9) X 10 0 rfl rfl (vn (m := 22 + j_4) (nat_iadd (a := 22) (b := j_4) rfl rfl) (by omega) (by decide)) dX8_who_60 ?_
            refine ww_aload_n (pc := 61) X dX8_who_61 0 rfl rfl ?_
            refine ww_get (pc := 62) (ci := 8) (v := .ref (rM 2)) (C := RX8) (T := TX8) (N := 27) X inX8_who_8 0 rfl rfl 3 (by decide) (by decide +kernel) rfl dX8_who_62 ?_
            refine ww_iconst (pc := 65) (v := 0) X dX8_who_65 (by decide) ?_
            refine ww_iald (pc := 66) (f := SM.2 1) X 2 0 rfl rfl (vl_in (by decide)) dX8_who_66 ?_
            refine ww_icmp_lt (pc := 67) (tgt := 74) X dX8_who_67 (by decide) (fun c20 => ?_) (fun c20 => ?_)
            · refine ww_iconst (pc := 74) (v := 0) X dX8_who_74 (by decide) ?_
              refine ww_istore (pc := 75) (lv' := [(4, .int 0), (0, .ref (rM 0)), (1, .int x1), (2, .int (it_X8_who_4 SM x1 (0 : Int32) j_4)), (3, .int (nI j_4))]) X dX8_who_75 (by decide) rfl ?_
              refine ww_iload_n (pc := 77) X dX8_who_77 3 rfl rfl ?_
              refine ww_iload (pc := 78) X dX8_who_78 0 rfl ?_
              refine ww_if_eq (pc := 80) (tgt := 89) X dX8_who_80 (by decide) (fun _ => ?_) (fun c21 => absurd (by decide) c21)
              refine ww_iconst (pc := 89) (v := 0) X dX8_who_89 (by decide) ?_
              refine ww_ior (pc := 90) X dX8_who_90 ?_
              refine ww_istore_n (pc := 91) (lv' := [(2, .int ((it_X8_who_4 SM x1 (0 : Int32) j_4) ||| 0)), (4, .int 0), (0, .ref (rM 0)), (1, .int x1), (3, .int (nI j_4))]) X dX8_who_91 rfl (by decide) rfl ?_
              refine ww_iinc (pc := 92) (v := (nI j_4) + 1) (lv' := [(3, .int ((nI j_4) + 1)), (2, .int ((it_X8_who_4 SM x1 (0 : Int32) j_4) ||| 0)), (4, .int 0), (0, .ref (rM 0)), (1, .int x1)]) X dX8_who_92 4 rfl rfl (by decide) rfl ?_
              refine ww_goto (pc := 95) (tgt := 4) X dX8_who_95 (by decide) ?_
              have h22 : (it_X8_who_4 SM x1 (0 : Int32) (j_4 + 1)) = (it_X8_who_4 SM x1 (0 : Int32) j_4) ||| 0 := by
                show bd_X8_who_4 SM x1 j_4 (it_X8_who_4 SM x1 (0 : Int32) j_4) = _; unfold bd_X8_who_4; try rw [if_neg c12, if_neg c13, if_neg c16, if_pos c20]; first | done | rfl
              refine ww_lsub [3, 4, 1, 0] rfl ?_
              exact ww_castI (fun u9 : Int32 => fl [wX8 cI cZ cQ rM SM]) (fun (u9 : Int32) (i9 : Int32) => ([(0, .ref (rM 0)), (1, .int x1), (2, .int u9), (3, .int i9)] : List (Nat × Value))) h22 (ih (j_4 + 1) (by omega) K)
            · refine ww_iconst (pc := 70) (v := 1) X dX8_who_70 (by decide) ?_
              refine ww_goto (pc := 71) (tgt := 75) X dX8_who_71 (by decide) ?_
              refine ww_istore (pc := 75) (lv' := [(4, .int 1), (0, .ref (rM 0)), (1, .int x1), (2, .int (it_X8_who_4 SM x1 (0 : Int32) j_4)), (3, .int (nI j_4))]) X dX8_who_75 (by decide) rfl ?_
              refine ww_iload_n (pc := 77) X dX8_who_77 3 rfl rfl ?_
              refine ww_iload (pc := 78) X dX8_who_78 0 rfl ?_
              refine ww_if_eq (pc := 80) (tgt := 89) X dX8_who_80 (by decide) (fun c23 => absurd c23 (by decide)) (fun _ => ?_)
              refine ww_iconst (pc := 83) (v := 1) X dX8_who_83 (by decide) ?_
              refine ww_iload_n (pc := 84) X dX8_who_84 4 rfl rfl ?_
              refine ww_ishl (pc := 85) X dX8_who_85 ?_
              refine ww_goto (pc := 86) (tgt := 90) X dX8_who_86 (by decide) ?_
              refine ww_ior (pc := 90) X dX8_who_90 ?_
              generalize hz24 : ((it_X8_who_4 SM x1 (0 : Int32) j_4) ||| (1 <<< ((nI j_4) &&& 31))) = z24
              refine ww_istore_n (pc := 91) (lv' := [(2, .int z24), (4, .int 1), (0, .ref (rM 0)), (1, .int x1), (3, .int (nI j_4))]) X dX8_who_91 rfl (by decide) rfl ?_
              refine ww_iinc (pc := 92) (v := (nI j_4) + 1) (lv' := [(3, .int ((nI j_4) + 1)), (2, .int z24), (4, .int 1), (0, .ref (rM 0)), (1, .int x1)]) X dX8_who_92 4 rfl rfl (by decide) rfl ?_
              refine ww_goto (pc := 95) (tgt := 4) X dX8_who_95 (by decide) ?_
              have h25 : (it_X8_who_4 SM x1 (0 : Int32) (j_4 + 1)) = z24 := by
                show bd_X8_who_4 SM x1 j_4 (it_X8_who_4 SM x1 (0 : Int32) j_4) = _; unfold bd_X8_who_4; try rw [if_neg c12, if_neg c13, if_neg c16, if_neg c20, hz24]; try unfold bd_X8_who_4_k2; first | done | rfl
              refine ww_lsub [3, 4, 1, 0] rfl ?_
              exact ww_castI (fun u9 : Int32 => fl [wX8 cI cZ cQ rM SM]) (fun (u9 : Int32) (i9 : Int32) => ([(0, .ref (rM 0)), (1, .int x1), (2, .int u9), (3, .int i9)] : List (Nat × Value))) h25 (ih (j_4 + 1) (by omega) K)
      · refine ww_aload_n (pc := 18) X dX8_who_18 0 rfl rfl ?_
        refine ww_get (pc := 19) (ci := 8) (v := .ref (rM 10)) (C := RX8) (T := TX8) (N := 27) X inX8_who_8 0 rfl rfl 11 (by decide) (by decide +kernel) rfl dX8_who_19 ?_
        refine ww_bipush (pc := 22) (v := 8) X dX8_who_22 (by decide) ?_
        refine ww_iload_n (pc := 24) X dX8_who_24 3 rfl rfl ?_
        refine ww_iadd (pc := 25) X dX8_who_25 ?_
        refine ww_iald (pc := 26) (f := SM.2 9) X 10 0 rfl rfl (vn (m := 8 + j_4) (nat_iadd (a := 8) (b := j_4) rfl rfl) (by omega) (by decide)) dX8_who_26 ?_
        refine ww_iconst (pc := 27) (v := 1) X dX8_who_27 (by decide) ?_
        refine ww_icmp_ne (pc := 28) (tgt := 35) X dX8_who_28 (by decide) (fun c26 => ?_) (fun c26 => ?_)
        · refine ww_iconst (pc := 35) (v := 0) X dX8_who_35 (by decide) ?_
          refine ww_goto (pc := 36) (tgt := 75) X dX8_who_36 (by decide) ?_
          refine ww_istore (pc := 75) (lv' := [(4, .int 0), (0, .ref (rM 0)), (1, .int x1), (2, .int (it_X8_who_4 SM x1 (0 : Int32) j_4)), (3, .int (nI j_4))]) X dX8_who_75 (by decide) rfl ?_
          refine ww_iload_n (pc := 77) X dX8_who_77 3 rfl rfl ?_
          refine ww_iload (pc := 78) X dX8_who_78 0 rfl ?_
          refine ww_if_eq (pc := 80) (tgt := 89) X dX8_who_80 (by decide) (fun _ => ?_) (fun c27 => absurd (by decide) c27)
          refine ww_iconst (pc := 89) (v := 0) X dX8_who_89 (by decide) ?_
          refine ww_ior (pc := 90) X dX8_who_90 ?_
          refine ww_istore_n (pc := 91) (lv' := [(2, .int ((it_X8_who_4 SM x1 (0 : Int32) j_4) ||| 0)), (4, .int 0), (0, .ref (rM 0)), (1, .int x1), (3, .int (nI j_4))]) X dX8_who_91 rfl (by decide) rfl ?_
          refine ww_iinc (pc := 92) (v := (nI j_4) + 1) (lv' := [(3, .int ((nI j_4) + 1)), (2, .int ((it_X8_who_4 SM x1 (0 : Int32) j_4) ||| 0)), (4, .int 0), (0, .ref (rM 0)), (1, .int x1)]) X dX8_who_92 4 rfl rfl (by decide) rfl ?_
          refine ww_goto (pc := 95) (tgt := 4) X dX8_who_95 (by decide) ?_
          have h28 : (it_X8_who_4 SM x1 (0 : Int32) (j_4 + 1)) = (it_X8_who_4 SM x1 (0 : Int32) j_4) ||| 0 := by
            show bd_X8_who_4 SM x1 j_4 (it_X8_who_4 SM x1 (0 : Int32) j_4) = _; unfold bd_X8_who_4; try rw [if_pos c12, if_neg c26]; first | done | rfl
          refine ww_lsub [3, 4, 1, 0] rfl ?_
          exact ww_castI (fun u9 : Int32 => fl [wX8 cI cZ cQ rM SM]) (fun (u9 : Int32) (i9 : Int32) => ([(0, .ref (rM 0)), (1, .int x1), (2, .int u9), (3, .int i9)] : List (Nat × Value))) h28 (ih (j_4 + 1) (by omega) K)
        · refine ww_iconst (pc := 31) (v := 1) X dX8_who_31 (by decide) ?_
          refine ww_goto (pc := 32) (tgt := 75) X dX8_who_32 (by decide) ?_
          refine ww_istore (pc := 75) (lv' := [(4, .int 1), (0, .ref (rM 0)), (1, .int x1), (2, .int (it_X8_who_4 SM x1 (0 : Int32) j_4)), (3, .int (nI j_4))]) X dX8_who_75 (by decide) rfl ?_
          refine ww_iload_n (pc := 77) X dX8_who_77 3 rfl rfl ?_
          refine ww_iload (pc := 78) X dX8_who_78 0 rfl ?_
          refine ww_if_eq (pc := 80) (tgt := 89) X dX8_who_80 (by decide) (fun c29 => absurd c29 (by decide)) (fun _ => ?_)
          refine ww_iconst (pc := 83) (v := 1) X dX8_who_83 (by decide) ?_
          refine ww_iload_n (pc := 84) X dX8_who_84 4 rfl rfl ?_
          refine ww_ishl (pc := 85) X dX8_who_85 ?_
          refine ww_goto (pc := 86) (tgt := 90) X dX8_who_86 (by decide) ?_
          refine ww_ior (pc := 90) X dX8_who_90 ?_
          generalize hz30 : ((it_X8_who_4 SM x1 (0 : Int32) j_4) ||| (1 <<< ((nI j_4) &&& 31))) = z30
          refine ww_istore_n (pc := 91) (lv' := [(2, .int z30), (4, .int 1), (0, .ref (rM 0)), (1, .int x1), (3, .int (nI j_4))]) X dX8_who_91 rfl (by decide) rfl ?_
          refine ww_iinc (pc := 92) (v := (nI j_4) + 1) (lv' := [(3, .int ((nI j_4) + 1)), (2, .int z30), (4, .int 1), (0, .ref (rM 0)), (1, .int x1)]) X dX8_who_92 4 rfl rfl (by decide) rfl ?_
          refine ww_goto (pc := 95) (tgt := 4) X dX8_who_95 (by decide) ?_
          have h31 : (it_X8_who_4 SM x1 (0 : Int32) (j_4 + 1)) = z30 := by
            show bd_X8_who_4 SM x1 j_4 (it_X8_who_4 SM x1 (0 : Int32) j_4) = _; unfold bd_X8_who_4; try rw [if_pos c12, if_pos c26, hz30]; try unfold bd_X8_who_4_k3; first | done | rfl
          refine ww_lsub [3, 4, 1, 0] rfl ?_
          exact ww_castI (fun u9 : Int32 => fl [wX8 cI cZ cQ rM SM]) (fun (u9 : Int32) (i9 : Int32) => ([(0, .ref (rM 0)), (1, .int x1), (2, .int u9), (3, .int i9)] : List (Nat × Value))) h31 (ih (j_4 + 1) (by omega) K)
  refine ww_lsub [2, 3, 1, 0] rfl ?_
  refine L4 (((SM.2 1) ((3 : Int32)).toNatClampNeg).toNatClampNeg) 0 (by omega) ?_
  generalize hz32 : ((it_X8_who_4 SM x1 (0 : Int32) (((SM.2 1) ((3 : Int32)).toNatClampNeg).toNatClampNeg))) = z32
  refine ww_iload_n (pc := 98) X dX8_who_98 2 rfl rfl ?_
  exact ww_iret X hr rfl (Eq.symm (by unfold f_X8_who; try rw [hz32]; try unfold f_X8_who_k1; first | done | rfl)) rfl dX8_who_99
def f_X8_told (SM : St) (x1 : Int32) : Int32 :=
  if x1 = 0 then
    (SM.2 1) ((0 : Int32)).toNatClampNeg
  else
    if x1 = 1 then
      (SM.2 1) ((1 : Int32)).toNatClampNeg
    else
      if x1 = 2 then
        (SM.2 1) ((2 : Int32)).toNatClampNeg
      else
        if x1 = 3 then
          (SM.2 1) ((3 : Int32)).toNatClampNeg
        else
          if x1 = 4 then
            (SM.2 1) ((4 : Int32)).toNatClampNeg
          else
            if x1 = 5 then
              SM.1 0
            else
              if x1 = 6 then
                (SM.2 9) ((0 : Int32)).toNatClampNeg
              else
                if x1 = 7 then
                  if (f_X8_isShore SM) = 0 then
                    0
                  else
                    ((SM.2 9) ((0 : Int32)).toNatClampNeg) / ((SM.2 1) ((1 : Int32)).toNatClampNeg)
                else
                  if x1 = 8 then
                    f_X8_who SM 0
                  else
                    if x1 = 9 then
                      f_X8_who SM 1
                    else
                      if x1 = 10 then
                        f_X8_who SM 2
                      else
                        if x1 = 11 then
                          SM.1 4
                        else
                          if x1 = 12 then
                            SM.1 5
                          else
                            if x1 = 13 then
                              SM.1 2
                            else
                              (-1000000002)
theorem inX8_told_8 : ∀ w ∈ wsX80, w ∈ wsX8_told := by decide +kernel
theorem hd_X8_told : yX8_told.cls = RX8 ∧ yX8_told.cls ≠ "java/lang/invoke/MethodHandle" ∧ yX8_told.cls ≠ "java/lang/invoke/VarHandle" ∧ (parseMethodDescriptor yX8_told.desc).map (fun d => d.parameters.length) = some 1 := by decide +kernel
set_option maxHeartbeats 4000000 in
set_option maxRecDepth 100000 in
theorem c_X8_told (l : Launch) (D : va_G) (cI cZ cQ : ClassId) (rM : Nat → Nat) (SM : St) (x1 : Int32) (okm : okM SM) (hrg : ¬ (f_X8_isShore SM) = 0 → ¬ (SM.2 1) ((1 : Int32)).toNatClampNeg = 0) : Ci l yX8_told wsX8_told { frames := 2, cells := 0, slots := 0, locals := 45 } D (tyL cI cZ cQ) [.ref (rM 0), .int x1] (fl [wX8 cI cZ cQ rM SM]) (f_X8_told SM x1) (fl [wX8 cI cZ cQ rM SM]) := by
  refine ci_of (cc := cX8_told) (nL := 2) (ty := .int) (lv0 := [(0, .ref (rM 0)), (1, .int x1)]) (by decide) rfl (Nat.le_of_ble_eq_true rfl) rfl ?_
  intro p e s m args below meth c A X hr
  refine ww_iload_n (pc := 0) X dX8_told_0 1 rfl rfl ?_
  refine Decidable.byCases (fun (c1 : x1 = 0) => ?_) (fun (c1 : ¬ x1 = 0) => ?_)
  · refine ww_tableIn (off := 71) (tgt := 72) X dX8_told_1 (by rw [c1]; decide) (by rw [c1]; decide) (by rw [c1]; rfl) (by decide) ?_
    refine ww_aload_n (pc := 72) X dX8_told_72 0 rfl rfl ?_
    refine ww_get (pc := 73) (ci := 8) (v := .ref (rM 2)) (C := RX8) (T := TX8) (N := 27) X inX8_told_8 0 rfl rfl 3 (by decide) (by decide +kernel) rfl dX8_told_73 ?_
    refine ww_iconst (pc := 76) (v := 0) X dX8_told_76 (by decide) ?_
    refine ww_iald (pc := 77) (f := SM.2 1) X 2 0 rfl rfl (vl_in (by decide)) dX8_told_77 ?_
    exact ww_iret X hr rfl (Eq.symm (by unfold f_X8_told; try rw [if_pos c1]; first | done | rfl)) rfl dX8_told_78
  · skip
    refine Decidable.byCases (fun (c2 : x1 = 1) => ?_) (fun (c2 : ¬ x1 = 1) => ?_)
    · refine ww_tableIn (off := 78) (tgt := 79) X dX8_told_1 (by rw [c2]; decide) (by rw [c2]; decide) (by rw [c2]; rfl) (by decide) ?_
      refine ww_aload_n (pc := 79) X dX8_told_79 0 rfl rfl ?_
      refine ww_get (pc := 80) (ci := 8) (v := .ref (rM 2)) (C := RX8) (T := TX8) (N := 27) X inX8_told_8 0 rfl rfl 3 (by decide) (by decide +kernel) rfl dX8_told_80 ?_
      refine ww_iconst (pc := 83) (v := 1) X dX8_told_83 (by decide) ?_
      refine ww_iald (pc := 84) (f := SM.2 1) X 2 0 rfl rfl (vl_in (by decide)) dX8_told_84 ?_
      exact ww_iret X hr rfl (Eq.symm (by unfold f_X8_told; try rw [if_neg c1, if_pos c2]; first | done | rfl)) rfl dX8_told_85
    · skip
      refine Decidable.byCases (fun (c3 : x1 = 2) => ?_) (fun (c3 : ¬ x1 = 2) => ?_)
      · refine ww_tableIn (off := 85) (tgt := 86) X dX8_told_1 (by rw [c3]; decide) (by rw [c3]; decide) (by rw [c3]; rfl) (by decide) ?_
        refine ww_aload_n (pc := 86) X dX8_told_86 0 rfl rfl ?_
        refine ww_get (pc := 87) (ci := 8) (v := .ref (rM 2)) (C := RX8) (T := TX8) (N := 27) X inX8_told_8 0 rfl rfl 3 (by decide) (by decide +kernel) rfl dX8_told_87 ?_
        refine ww_iconst (pc := 90) (v := 2) X dX8_told_90 (by decide) ?_
        refine ww_iald (pc := 91) (f := SM.2 1) X 2 0 rfl rfl (vl_in (by decide)) dX8_told_91 ?_
        exact ww_iret X hr rfl (Eq.symm (by unfold f_X8_told; try rw [if_neg c1, if_neg c2, if_pos c3]; first | done | rfl)) rfl dX8_told_92
      · skip
        refine Decidable.byCases (fun (c4 : x1 = 3) => ?_) (fun (c4 : ¬ x1 = 3) => ?_)
        · refine ww_tableIn (off := 92) (tgt := 93) X dX8_told_1 (by rw [c4]; decide) (by rw [c4]; decide) (by rw [c4]; rfl) (by decide) ?_
          refine ww_aload_n (pc := 93) X dX8_told_93 0 rfl rfl ?_
          refine ww_get (pc := 94) (ci := 8) (v := .ref (rM 2)) (C := RX8) (T := TX8) (N := 27) X inX8_told_8 0 rfl rfl 3 (by decide) (by decide +kernel) rfl dX8_told_94 ?_
          refine ww_iconst (pc := 97) (v := 3) X dX8_told_97 (by decide) ?_
          refine ww_iald (pc := 98) (f := SM.2 1) X 2 0 rfl rfl (vl_in (by decide)) dX8_told_98 ?_
          exact ww_iret X hr rfl (Eq.symm (by unfold f_X8_told; try rw [if_neg c1, if_neg c2, if_neg c3, if_pos c4]; first | done | rfl)) rfl dX8_told_99
        · skip
          refine Decidable.byCases (fun (c5 : x1 = 4) => ?_) (fun (c5 : ¬ x1 = 4) => ?_)
          · refine ww_tableIn (off := 99) (tgt := 100) X dX8_told_1 (by rw [c5]; decide) (by rw [c5]; decide) (by rw [c5]; rfl) (by decide) ?_
            refine ww_aload_n (pc := 100) X dX8_told_100 0 rfl rfl ?_
            refine ww_get (pc := 101) (ci := 8) (v := .ref (rM 2)) (C := RX8) (T := TX8) (N := 27) X inX8_told_8 0 rfl rfl 3 (by decide) (by decide +kernel) rfl dX8_told_101 ?_
            refine ww_iconst (pc := 104) (v := 4) X dX8_told_104 (by decide) ?_
            refine ww_iald (pc := 105) (f := SM.2 1) X 2 0 rfl rfl (vl_in (by decide)) dX8_told_105 ?_
            exact ww_iret X hr rfl (Eq.symm (by unfold f_X8_told; try rw [if_neg c1, if_neg c2, if_neg c3, if_neg c4, if_pos c5]; first | done | rfl)) rfl dX8_told_106
          · skip
            refine Decidable.byCases (fun (c6 : x1 = 5) => ?_) (fun (c6 : ¬ x1 = 5) => ?_)
            · refine ww_tableIn (off := 106) (tgt := 107) X dX8_told_1 (by rw [c6]; decide) (by rw [c6]; decide) (by rw [c6]; rfl) (by decide) ?_
              refine ww_aload_n (pc := 107) X dX8_told_107 0 rfl rfl ?_
              refine ww_get (pc := 108) (ci := 8) (v := .int (SM.1 0)) (C := RX8) (T := TX8) (N := 27) X inX8_told_8 0 rfl rfl 1 (by decide) (by decide +kernel) rfl dX8_told_108 ?_
              exact ww_iret X hr rfl (Eq.symm (by unfold f_X8_told; try rw [if_neg c1, if_neg c2, if_neg c3, if_neg c4, if_neg c5, if_pos c6]; first | done | rfl)) rfl dX8_told_111
            · skip
              refine Decidable.byCases (fun (c7 : x1 = 6) => ?_) (fun (c7 : ¬ x1 = 6) => ?_)
              · refine ww_tableIn (off := 111) (tgt := 112) X dX8_told_1 (by rw [c7]; decide) (by rw [c7]; decide) (by rw [c7]; rfl) (by decide) ?_
                refine ww_aload_n (pc := 112) X dX8_told_112 0 rfl rfl ?_
                refine ww_get (pc := 113) (ci := 8) (v := .ref (rM 10)) (C := RX8) (T := TX8) (N := 27) X inX8_told_8 0 rfl rfl 11 (by decide) (by decide +kernel) rfl dX8_told_113 ?_
                refine ww_iconst (pc := 116) (v := 0) X dX8_told_116 (by decide) ?_
                refine ww_iald (pc := 117) (f := SM.2 9) X 10 0 rfl rfl (vl_in (by decide)) dX8_told_117 ?_
                exact ww_iret X hr rfl (Eq.symm (by unfold f_X8_told; try rw [if_neg c1, if_neg c2, if_neg c3, if_neg c4, if_neg c5, if_neg c6, if_pos c7]; first | done | rfl)) rfl dX8_told_118
              · skip
                refine Decidable.byCases (fun (c8 : x1 = 7) => ?_) (fun (c8 : ¬ x1 = 7) => ?_)
                · refine ww_tableIn (off := 118) (tgt := 119) X dX8_told_1 (by rw [c8]; decide) (by rw [c8]; decide) (by rw [c8]; rfl) (by decide) ?_
                  refine ww_aload_n (pc := 119) X dX8_told_119 0 rfl rfl ?_
                  refine ww_gVi (pc := 120) (rest := []) (gsN := [wX8 cI cZ cQ rM SM]) (ci := 8) (gi := 0) (qi := 0) X (c_X8_isShore l D cI cZ cQ rM SM) gX8_told_X8_isShore rfl hd_X8_isShore [true] rfl rfl rfl rfl rfl rfl rfl rfl ⟨rfl, rfl⟩ ⟨Nat.le_of_ble_eq_true rfl, Nat.le_of_ble_eq_true rfl⟩ (Nat.le_of_ble_eq_true rfl) ⟨Nat.zero_le _, Nat.zero_le _⟩ dX8_told_120 ?_
                  refine ww_if_eq (pc := 123) (tgt := 142) X dX8_told_123 (by decide) (fun c9 => ?_) (fun c9 => ?_)
                  · refine ww_iconst (pc := 142) (v := 0) X dX8_told_142 (by decide) ?_
                    exact ww_iret X hr rfl (Eq.symm (by unfold f_X8_told; try rw [if_neg c1, if_neg c2, if_neg c3, if_neg c4, if_neg c5, if_neg c6, if_neg c7, if_pos c8, if_pos c9]; first | done | rfl)) rfl dX8_told_143
                  · refine ww_aload_n (pc := 126) X dX8_told_126 0 rfl rfl ?_
                    refine ww_get (pc := 127) (ci := 8) (v := .ref (rM 10)) (C := RX8) (T := TX8) (N := 27) X inX8_told_8 0 rfl rfl 11 (by decide) (by decide +kernel) rfl dX8_told_127 ?_
                    refine ww_iconst (pc := 130) (v := 0) X dX8_told_130 (by decide) ?_
                    refine ww_iald (pc := 131) (f := SM.2 9) X 10 0 rfl rfl (vl_in (by decide)) dX8_told_131 ?_
                    refine ww_aload_n (pc := 132) X dX8_told_132 0 rfl rfl ?_
                    refine ww_get (pc := 133) (ci := 8) (v := .ref (rM 2)) (C := RX8) (T := TX8) (N := 27) X inX8_told_8 0 rfl rfl 3 (by decide) (by decide +kernel) rfl dX8_told_133 ?_
                    refine ww_iconst (pc := 136) (v := 1) X dX8_told_136 (by decide) ?_
                    refine ww_iald (pc := 137) (f := SM.2 1) X 2 0 rfl rfl (vl_in (by decide)) dX8_told_137 ?_
                    refine ww_idiv (pc := 138) X dX8_told_138 (hrg c9) ?_
                    refine ww_goto (pc := 139) (tgt := 143) X dX8_told_139 (by decide) ?_
                    exact ww_iret X hr rfl (Eq.symm (by unfold f_X8_told; try rw [if_neg c1, if_neg c2, if_neg c3, if_neg c4, if_neg c5, if_neg c6, if_neg c7, if_pos c8, if_neg c9]; first | done | rfl)) rfl dX8_told_143
                · skip
                  refine Decidable.byCases (fun (c10 : x1 = 8) => ?_) (fun (c10 : ¬ x1 = 8) => ?_)
                  · refine ww_tableIn (off := 143) (tgt := 144) X dX8_told_1 (by rw [c10]; decide) (by rw [c10]; decide) (by rw [c10]; rfl) (by decide) ?_
                    refine ww_aload_n (pc := 144) X dX8_told_144 0 rfl rfl ?_
                    refine ww_iconst (pc := 145) (v := 0) X dX8_told_145 (by decide) ?_
                    refine ww_gVi (pc := 146) (rest := []) (gsN := [wX8 cI cZ cQ rM SM]) (ci := 8) (gi := 0) (qi := 0) X (c_X8_who l D cI cZ cQ rM SM 0 (by assumption)) gX8_told_X8_who rfl hd_X8_who [true] rfl rfl rfl rfl rfl rfl rfl rfl ⟨rfl, rfl⟩ ⟨Nat.le_of_ble_eq_true rfl, Nat.le_of_ble_eq_true rfl⟩ (Nat.le_of_ble_eq_true rfl) ⟨Nat.zero_le _, Nat.zero_le _⟩ dX8_told_146 ?_
                    exact ww_iret X hr rfl (Eq.symm (by unfold f_X8_told; try rw [if_neg c1, if_neg c2, if_neg c3, if_neg c4, if_neg c5, if_neg c6, if_neg c7, if_neg c8, if_pos c10]; first | done | rfl)) rfl dX8_told_149
                  · skip
                    refine Decidable.byCases (fun (c11 : x1 = 9) => ?_) (fun (c11 : ¬ x1 = 9) => ?_)
                    · refine ww_tableIn (off := 149) (tgt := 150) X dX8_told_1 (by rw [c11]; decide) (by rw [c11]; decide) (by rw [c11]; rfl) (by decide) ?_
                      refine ww_aload_n (pc := 150) X dX8_told_150 0 rfl rfl ?_
                      refine ww_iconst (pc := 151) (v := 1) X dX8_told_151 (by decide) ?_
                      refine ww_gVi (pc := 152) (rest := []) (gsN := [wX8 cI cZ cQ rM SM]) (ci := 8) (gi := 0) (qi := 0) X (c_X8_who l D cI cZ cQ rM SM 1 (by assumption)) gX8_told_X8_who rfl hd_X8_who [true] rfl rfl rfl rfl rfl rfl rfl rfl ⟨rfl, rfl⟩ ⟨Nat.le_of_ble_eq_true rfl, Nat.le_of_ble_eq_true rfl⟩ (Nat.le_of_ble_eq_true rfl) ⟨Nat.zero_le _, Nat.zero_le _⟩ dX8_told_152 ?_
                      exact ww_iret X hr rfl (Eq.symm (by unfold f_X8_told; try rw [if_neg c1, if_neg c2, if_neg c3, if_neg c4, if_neg c5, if_neg c6, if_neg c7, if_neg c8, if_neg c10, if_pos c11]; first | done | rfl)) rfl dX8_told_155
                    · skip
                      refine Decidable.byCases (fun (c12 : x1 = 10) => ?_) (fun (c12 : ¬ x1 = 10) => ?_)
                      · refine ww_tableIn (off := 155) (tgt := 156) X dX8_told_1 (by rw [c12]; decide) (by rw [c12]; decide) (by rw [c12]; rfl) (by decide) ?_
                        refine ww_aload_n (pc := 156) X dX8_told_156 0 rfl rfl ?_
                        refine ww_iconst (pc := 157) (v := 2) X dX8_told_157 (by decide) ?_
                        refine ww_gVi (pc := 158) (rest := []) (gsN := [wX8 cI cZ cQ rM SM]) (ci := 8) (gi := 0) (qi := 0) X (c_X8_who l D cI cZ cQ rM SM 2 (by assumption)) gX8_told_X8_who rfl hd_X8_who [true] rfl rfl rfl rfl rfl rfl rfl rfl ⟨rfl, rfl⟩ ⟨Nat.le_of_ble_eq_true rfl, Nat.le_of_ble_eq_true rfl⟩ (Nat.le_of_ble_eq_true rfl) ⟨Nat.zero_le _, Nat.zero_le _⟩ dX8_told_158 ?_
                        exact ww_iret X hr rfl (Eq.symm (by unfold f_X8_told; try rw [if_neg c1, if_neg c2, if_neg c3, if_neg c4, if_neg c5, if_neg c6, if_neg c7, if_neg c8, if_neg c10, if_neg c11, if_pos c12]; first | done | rfl)) rfl dX8_told_161
                      · skip
                        refine Decidable.byCases (fun (c13 : x1 = 11) => ?_) (fun (c13 : ¬ x1 = 11) => ?_)
                        · refine ww_tableIn (off := 161) (tgt := 162) X dX8_told_1 (by rw [c13]; decide) (by rw [c13]; decide) (by rw [c13]; rfl) (by decide) ?_
                          refine ww_aload_n (pc := 162) X dX8_told_162 0 rfl rfl ?_
                          refine ww_get (pc := 163) (ci := 8) (v := .int (SM.1 4)) (C := RX8) (T := TX8) (N := 27) X inX8_told_8 0 rfl rfl 19 (by decide) (by decide +kernel) rfl dX8_told_163 ?_
                          exact ww_iret X hr rfl (Eq.symm (by unfold f_X8_told; try rw [if_neg c1, if_neg c2, if_neg c3, if_neg c4, if_neg c5, if_neg c6, if_neg c7, if_neg c8, if_neg c10, if_neg c11, if_neg c12, if_pos c13]; first | done | rfl)) rfl dX8_told_166
                        · skip
                          refine Decidable.byCases (fun (c14 : x1 = 12) => ?_) (fun (c14 : ¬ x1 = 12) => ?_)
                          · refine ww_tableIn (off := 166) (tgt := 167) X dX8_told_1 (by rw [c14]; decide) (by rw [c14]; decide) (by rw [c14]; rfl) (by decide) ?_
                            refine ww_aload_n (pc := 167) X dX8_told_167 0 rfl rfl ?_
                            refine ww_get (pc := 168) (ci := 8) (v := .int (SM.1 5)) (C := RX8) (T := TX8) (N := 27) X inX8_told_8 0 rfl rfl 21 (by decide) (by decide +kernel) rfl dX8_told_168 ?_
                            exact ww_iret X hr rfl (Eq.symm (by unfold f_X8_told; try rw [if_neg c1, if_neg c2, if_neg c3, if_neg c4, if_neg c5, if_neg c6, if_neg c7, if_neg c8, if_neg c10, if_neg c11, if_neg c12, if_neg c13, if_pos c14]; first | done | rfl)) rfl dX8_told_171
                          · skip
                            refine Decidable.byCases (fun (c15 : x1 = 13) => ?_) (fun (c15 : ¬ x1 = 13) => ?_)
                            · refine ww_tableIn (off := 171) (tgt := 172) X dX8_told_1 (by rw [c15]; decide) (by rw [c15]; decide) (by rw [c15]; rfl) (by decide) ?_
                              refine ww_aload_n (pc := 172) X dX8_told_172 0 rfl rfl ?_
                              refine ww_get (pc := 173) (ci := 8) (v := .int (SM.1 2)) (C := RX8) (T := TX8) (N := 27) X inX8_told_8 0 rfl rfl 13 (by decide) (by decide +kernel) rfl dX8_told_173 ?_
                              exact ww_iret X hr rfl (Eq.symm (by unfold f_X8_told; try rw [if_neg c1, if_neg c2, if_neg c3, if_neg c4, if_neg c5, if_neg c6, if_neg c7, if_neg c8, if_neg c10, if_neg c11, if_neg c12, if_neg c13, if_neg c14, if_pos c15]; first | done | rfl)) rfl dX8_told_176
                            · skip
                              refine ww_tableOut (tgt := 177) X dX8_told_1 (by
                                refine Classical.byContradiction (fun h9 => ?_)
                                have h8 : (x1).toInt = 0 ∨ (x1).toInt = 1 ∨ (x1).toInt = 2 ∨ (x1).toInt = 3 ∨ (x1).toInt = 4 ∨ (x1).toInt = 5 ∨ (x1).toInt = 6 ∨ (x1).toInt = 7 ∨ (x1).toInt = 8 ∨ (x1).toInt = 9 ∨ (x1).toInt = 10 ∨ (x1).toInt = 11 ∨ (x1).toInt = 12 ∨ (x1).toInt = 13 := by omega
                                rcases h8 with h | h | h | h | h | h | h | h | h | h | h | h | h | h
                                · exact c1 (Int32.toInt_inj.mp (h.trans (by decide)))
                                · exact c2 (Int32.toInt_inj.mp (h.trans (by decide)))
                                · exact c3 (Int32.toInt_inj.mp (h.trans (by decide)))
                                · exact c4 (Int32.toInt_inj.mp (h.trans (by decide)))
                                · exact c5 (Int32.toInt_inj.mp (h.trans (by decide)))
                                · exact c6 (Int32.toInt_inj.mp (h.trans (by decide)))
                                · exact c7 (Int32.toInt_inj.mp (h.trans (by decide)))
                                · exact c8 (Int32.toInt_inj.mp (h.trans (by decide)))
                                · exact c10 (Int32.toInt_inj.mp (h.trans (by decide)))
                                · exact c11 (Int32.toInt_inj.mp (h.trans (by decide)))
                                · exact c12 (Int32.toInt_inj.mp (h.trans (by decide)))
                                · exact c13 (Int32.toInt_inj.mp (h.trans (by decide)))
                                · exact c14 (Int32.toInt_inj.mp (h.trans (by decide)))
                                · exact c15 (Int32.toInt_inj.mp (h.trans (by decide)))) (by decide) ?_
                              refine ww_ldc (pc := 177) (v := (-1000000002)) X (by decide +kernel) dX8_told_177 ?_
                              exact ww_iret X hr rfl (Eq.symm (by unfold f_X8_told; try rw [if_neg c1, if_neg c2, if_neg c3, if_neg c4, if_neg c5, if_neg c6, if_neg c7, if_neg c8, if_neg c10, if_neg c11, if_neg c12, if_neg c13, if_neg c14, if_neg c15]; first | done | rfl)) rfl dX8_told_179
def f_X8_depth (SM : St) (x1 : Int32) : Int32 :=
  if (f_X8_isDepth SM x1) = 0 then
    (-1000000001)
  else
    (SM.2 2) ((x1 : Int32)).toNatClampNeg
theorem inX8_depth_8 : ∀ w ∈ wsX80, w ∈ wsX8_depth := by decide +kernel
theorem hd_X8_depth : yX8_depth.cls = RX8 ∧ yX8_depth.cls ≠ "java/lang/invoke/MethodHandle" ∧ yX8_depth.cls ≠ "java/lang/invoke/VarHandle" ∧ (parseMethodDescriptor yX8_depth.desc).map (fun d => d.parameters.length) = some 1 := by decide +kernel
set_option maxHeartbeats 4000000 in
set_option maxRecDepth 100000 in
theorem c_X8_depth (l : Launch) (D : va_G) (cI cZ cQ : ClassId) (rM : Nat → Nat) (SM : St) (x1 : Int32) (okm : okM SM) : Ci l yX8_depth wsX8_depth { frames := 2, cells := 0, slots := 0, locals := 43 } D (tyL cI cZ cQ) [.ref (rM 0), .int x1] (fl [wX8 cI cZ cQ rM SM]) (f_X8_depth SM x1) (fl [wX8 cI cZ cQ rM SM]) := by
  refine ci_of (cc := cX8_depth) (nL := 2) (ty := .int) (lv0 := [(0, .ref (rM 0)), (1, .int x1)]) (by decide) rfl (Nat.le_of_ble_eq_true rfl) rfl ?_
  intro p e s m args below meth c A X hr
  refine ww_aload_n (pc := 0) X dX8_depth_0 0 rfl rfl ?_
  refine ww_iload_n (pc := 1) X dX8_depth_1 1 rfl rfl ?_
  refine ww_gVi (pc := 2) (rest := []) (gsN := [wX8 cI cZ cQ rM SM]) (ci := 8) (gi := 0) (qi := 0) X (c_X8_isDepth l D cI cZ cQ rM SM x1) gX8_depth_X8_isDepth rfl hd_X8_isDepth [true] rfl rfl rfl rfl rfl rfl rfl rfl ⟨rfl, rfl⟩ ⟨Nat.le_of_ble_eq_true rfl, Nat.le_of_ble_eq_true rfl⟩ (Nat.le_of_ble_eq_true rfl) ⟨Nat.zero_le _, Nat.zero_le _⟩ dX8_depth_2 ?_
  refine ww_if_eq (pc := 5) (tgt := 17) X dX8_depth_5 (by decide) (fun c1 => ?_) (fun c1 => ?_)
  · refine ww_ldc (pc := 17) (v := (-1000000001)) X (by decide +kernel) dX8_depth_17 ?_
    exact ww_iret X hr rfl (Eq.symm (by unfold f_X8_depth; try rw [if_pos c1]; first | done | rfl)) rfl dX8_depth_19
  · refine ww_aload_n (pc := 8) X dX8_depth_8 0 rfl rfl ?_
    refine ww_get (pc := 9) (ci := 8) (v := .ref (rM 3)) (C := RX8) (T := TX8) (N := 27) X inX8_depth_8 0 rfl rfl 4 (by decide) (by decide +kernel) rfl dX8_depth_9 ?_
    refine ww_iload_n (pc := 12) X dX8_depth_12 1 rfl rfl ?_
    refine ww_iald (pc := 13) (f := SM.2 2) X 3 0 rfl rfl (in_X8_isDepth okm c1) dX8_depth_13 ?_
    refine ww_goto (pc := 14) (tgt := 19) X dX8_depth_14 (by decide) ?_
    exact ww_iret X hr rfl (Eq.symm (by unfold f_X8_depth; try rw [if_neg c1]; first | done | rfl)) rfl dX8_depth_19
def f_X8_daysOf (SM : St) (x1 : Int32) : Int32 :=
  if (f_X8_isBelow SM x1) = 0 then
    0
  else
    ((SM.2 9) ((22 + x1 : Int32)).toNatClampNeg) / ((SM.2 2) ((((SM.2 9) ((8 + x1 : Int32)).toNatClampNeg) - 10 : Int32)).toNatClampNeg)
theorem inX8_daysOf_8 : ∀ w ∈ wsX80, w ∈ wsX8_daysOf := by decide +kernel
theorem hd_X8_daysOf : yX8_daysOf.cls = RX8 ∧ yX8_daysOf.cls ≠ "java/lang/invoke/MethodHandle" ∧ yX8_daysOf.cls ≠ "java/lang/invoke/VarHandle" ∧ (parseMethodDescriptor yX8_daysOf.desc).map (fun d => d.parameters.length) = some 1 := by decide +kernel
set_option maxHeartbeats 4000000 in
set_option maxRecDepth 100000 in
theorem c_X8_daysOf (l : Launch) (D : va_G) (cI cZ cQ : ClassId) (rM : Nat → Nat) (SM : St) (x1 : Int32) (hp : vp_in x1 7) (okw : okW SM x1) : Ci l yX8_daysOf wsX8_daysOf { frames := 1, cells := 0, slots := 0, locals := 21 } D (tyL cI cZ cQ) [.ref (rM 0), .int x1] (fl [wX8 cI cZ cQ rM SM]) (f_X8_daysOf SM x1) (fl [wX8 cI cZ cQ rM SM]) := by
  refine ci_of (cc := cX8_daysOf) (nL := 2) (ty := .int) (lv0 := [(0, .ref (rM 0)), (1, .int x1)]) (by decide) rfl (Nat.le_of_ble_eq_true rfl) rfl ?_
  intro p e s m args below meth c A X hr
  refine ww_aload_n (pc := 0) X dX8_daysOf_0 0 rfl rfl ?_
  refine ww_iload_n (pc := 1) X dX8_daysOf_1 1 rfl rfl ?_
  refine ww_gVi (pc := 2) (rest := []) (gsN := [wX8 cI cZ cQ rM SM]) (ci := 8) (gi := 0) (qi := 0) X (c_X8_isBelow l D cI cZ cQ rM SM x1 hp) gX8_daysOf_X8_isBelow rfl hd_X8_isBelow [true] rfl rfl rfl rfl rfl rfl rfl rfl ⟨rfl, rfl⟩ ⟨Nat.le_of_ble_eq_true rfl, Nat.le_of_ble_eq_true rfl⟩ (Nat.le_of_ble_eq_true rfl) ⟨Nat.zero_le _, Nat.zero_le _⟩ dX8_daysOf_2 ?_
  refine ww_if_eq (pc := 5) (tgt := 38) X dX8_daysOf_5 (by decide) (fun c1 => ?_) (fun c1 => ?_)
  · refine ww_iconst (pc := 38) (v := 0) X dX8_daysOf_38 (by decide) ?_
    exact ww_iret X hr rfl (Eq.symm (by unfold f_X8_daysOf; try rw [if_pos c1]; first | done | rfl)) rfl dX8_daysOf_39
  · refine ww_aload_n (pc := 8) X dX8_daysOf_8 0 rfl rfl ?_
    refine ww_get (pc := 9) (ci := 8) (v := .ref (rM 10)) (C := RX8) (T := TX8) (N := 27) X inX8_daysOf_8 0 rfl rfl 11 (by decide) (by decide +kernel) rfl dX8_daysOf_9 ?_
    refine ww_bipush (pc := 12) (v := 22) X dX8_daysOf_12 (by decide) ?_
    refine ww_iload_n (pc := 14) X dX8_daysOf_14 1 rfl rfl ?_
    have hb2 := clb (n := 7) hp
    refine ww_iadd (pc := 15) X dX8_daysOf_15 ?_
    refine ww_iald (pc := 16) (f := SM.2 9) X 10 0 rfl rfl (vn (m := 22 + ((x1 : Int32).toNatClampNeg)) (nat_iadd (a := 22) (b := (x1 : Int32).toNatClampNeg) rfl (cl_of hp)) (by omega) (by decide)) dX8_daysOf_16 ?_
    refine ww_aload_n (pc := 17) X dX8_daysOf_17 0 rfl rfl ?_
    refine ww_get (pc := 18) (ci := 8) (v := .ref (rM 3)) (C := RX8) (T := TX8) (N := 27) X inX8_daysOf_8 0 rfl rfl 4 (by decide) (by decide +kernel) rfl dX8_daysOf_18 ?_
    refine ww_aload_n (pc := 21) X dX8_daysOf_21 0 rfl rfl ?_
    refine ww_get (pc := 22) (ci := 8) (v := .ref (rM 10)) (C := RX8) (T := TX8) (N := 27) X inX8_daysOf_8 0 rfl rfl 11 (by decide) (by decide +kernel) rfl dX8_daysOf_22 ?_
    refine ww_bipush (pc := 25) (v := 8) X dX8_daysOf_25 (by decide) ?_
    refine ww_iload_n (pc := 27) X dX8_daysOf_27 1 rfl rfl ?_
    refine ww_iadd (pc := 28) X dX8_daysOf_28 ?_
    refine ww_iald (pc := 29) (f := SM.2 9) X 10 0 rfl rfl (vn (m := 8 + ((x1 : Int32).toNatClampNeg)) (nat_iadd (a := 8) (b := (x1 : Int32).toNatClampNeg) rfl (cl_of hp)) (by omega) (by decide)) dX8_daysOf_29 ?_
    refine ww_bipush (pc := 30) (v := 10) X dX8_daysOf_30 (by decide) ?_
    refine ww_isub (pc := 32) X dX8_daysOf_32 ?_
    refine ww_iald (pc := 33) (f := SM.2 2) X 3 0 rfl rfl (okw c1).1 dX8_daysOf_33 ?_
    refine ww_idiv (pc := 34) X dX8_daysOf_34 (okw c1).2 ?_
    refine ww_goto (pc := 35) (tgt := 39) X dX8_daysOf_35 (by decide) ?_
    exact ww_iret X hr rfl (Eq.symm (by unfold f_X8_daysOf; try rw [if_neg c1]; first | done | rfl)) rfl dX8_daysOf_39
def f_X8_person (SM : St) (x1 : Int32) (x2 : Int32) : Int32 :=
  if (f_X8_isPerson SM x1) = 0 then
    (-1000000001)
  else
    if x2 = 0 then
      (SM.2 9) ((1 + x1 : Int32)).toNatClampNeg
    else
      if x2 = 1 then
        f_X8_end SM x1
      else
        if x2 = 2 then
          (SM.2 9) ((8 + x1 : Int32)).toNatClampNeg
        else
          if x2 = 3 then
            (SM.2 9) ((15 + x1 : Int32)).toNatClampNeg
          else
            if x2 = 4 then
              f_X8_daysOf SM x1
            else
              (-1000000002)
theorem inX8_person_8 : ∀ w ∈ wsX80, w ∈ wsX8_person := by decide +kernel
theorem hd_X8_person : yX8_person.cls = RX8 ∧ yX8_person.cls ≠ "java/lang/invoke/MethodHandle" ∧ yX8_person.cls ≠ "java/lang/invoke/VarHandle" ∧ (parseMethodDescriptor yX8_person.desc).map (fun d => d.parameters.length) = some 2 := by decide +kernel
set_option maxHeartbeats 4000000 in
set_option maxRecDepth 100000 in
theorem c_X8_person (l : Launch) (D : va_G) (cI cZ cQ : ClassId) (rM : Nat → Nat) (SM : St) (x1 : Int32) (x2 : Int32) (okm : okM SM) (okw : okW SM x1) : Ci l yX8_person wsX8_person { frames := 2, cells := 0, slots := 0, locals := 43 } D (tyL cI cZ cQ) [.ref (rM 0), .int x1, .int x2] (fl [wX8 cI cZ cQ rM SM]) (f_X8_person SM x1 x2) (fl [wX8 cI cZ cQ rM SM]) := by
  refine ci_of (cc := cX8_person) (nL := 3) (ty := .int) (lv0 := [(0, .ref (rM 0)), (1, .int x1), (2, .int x2)]) (by decide) rfl (Nat.le_of_ble_eq_true rfl) rfl ?_
  intro p e s m args below meth c A X hr
  refine ww_aload_n (pc := 0) X dX8_person_0 0 rfl rfl ?_
  refine ww_iload_n (pc := 1) X dX8_person_1 1 rfl rfl ?_
  refine ww_gVi (pc := 2) (rest := []) (gsN := [wX8 cI cZ cQ rM SM]) (ci := 8) (gi := 0) (qi := 0) X (c_X8_isPerson l D cI cZ cQ rM SM x1) gX8_person_X8_isPerson rfl hd_X8_isPerson [true] rfl rfl rfl rfl rfl rfl rfl rfl ⟨rfl, rfl⟩ ⟨Nat.le_of_ble_eq_true rfl, Nat.le_of_ble_eq_true rfl⟩ (Nat.le_of_ble_eq_true rfl) ⟨Nat.zero_le _, Nat.zero_le _⟩ dX8_person_2 ?_
  refine ww_if_ne (pc := 5) (tgt := 11) X dX8_person_5 (by decide) (fun c1 => ?_) (fun c1 => ?_)
  · refine ww_iload_n (pc := 11) X dX8_person_11 2 rfl rfl ?_
    refine Decidable.byCases (fun (c2 : x2 = 0) => ?_) (fun (c2 : ¬ x2 = 0) => ?_)
    · refine ww_tableIn (off := 36) (tgt := 48) X dX8_person_12 (by rw [c2]; decide) (by rw [c2]; decide) (by rw [c2]; rfl) (by decide) ?_
      refine ww_aload_n (pc := 48) X dX8_person_48 0 rfl rfl ?_
      refine ww_get (pc := 49) (ci := 8) (v := .ref (rM 10)) (C := RX8) (T := TX8) (N := 27) X inX8_person_8 0 rfl rfl 11 (by decide) (by decide +kernel) rfl dX8_person_49 ?_
      refine ww_iconst (pc := 52) (v := 1) X dX8_person_52 (by decide) ?_
      refine ww_iload_n (pc := 53) X dX8_person_53 1 rfl rfl ?_
      have hb3 := clb (n := 7) (in_X8_isPerson okm c1)
      refine ww_iadd (pc := 54) X dX8_person_54 ?_
      refine ww_iald (pc := 55) (f := SM.2 9) X 10 0 rfl rfl (vn (m := 1 + ((x1 : Int32).toNatClampNeg)) (nat_iadd (a := 1) (b := (x1 : Int32).toNatClampNeg) rfl (cl_of (in_X8_isPerson okm c1))) (by omega) (by decide)) dX8_person_55 ?_
      exact ww_iret X hr rfl (Eq.symm (by unfold f_X8_person; try rw [if_neg c1, if_pos c2]; first | done | rfl)) rfl dX8_person_56
    · skip
      refine Decidable.byCases (fun (c4 : x2 = 1) => ?_) (fun (c4 : ¬ x2 = 1) => ?_)
      · refine ww_tableIn (off := 45) (tgt := 57) X dX8_person_12 (by rw [c4]; decide) (by rw [c4]; decide) (by rw [c4]; rfl) (by decide) ?_
        refine ww_aload_n (pc := 57) X dX8_person_57 0 rfl rfl ?_
        refine ww_iload_n (pc := 58) X dX8_person_58 1 rfl rfl ?_
        refine ww_gVi (pc := 59) (rest := []) (gsN := [wX8 cI cZ cQ rM SM]) (ci := 8) (gi := 0) (qi := 0) X (c_X8_end l D cI cZ cQ rM SM x1 (in_X8_isPerson okm c1)) gX8_person_X8_end rfl hd_X8_end [true] rfl rfl rfl rfl rfl rfl rfl rfl ⟨rfl, rfl⟩ ⟨Nat.le_of_ble_eq_true rfl, Nat.le_of_ble_eq_true rfl⟩ (Nat.le_of_ble_eq_true rfl) ⟨Nat.zero_le _, Nat.zero_le _⟩ dX8_person_59 ?_
        exact ww_iret X hr rfl (Eq.symm (by unfold f_X8_person; try rw [if_neg c1, if_neg c2, if_pos c4]; first | done | rfl)) rfl dX8_person_62
      · skip
        refine Decidable.byCases (fun (c5 : x2 = 2) => ?_) (fun (c5 : ¬ x2 = 2) => ?_)
        · refine ww_tableIn (off := 51) (tgt := 63) X dX8_person_12 (by rw [c5]; decide) (by rw [c5]; decide) (by rw [c5]; rfl) (by decide) ?_
          refine ww_aload_n (pc := 63) X dX8_person_63 0 rfl rfl ?_
          refine ww_get (pc := 64) (ci := 8) (v := .ref (rM 10)) (C := RX8) (T := TX8) (N := 27) X inX8_person_8 0 rfl rfl 11 (by decide) (by decide +kernel) rfl dX8_person_64 ?_
          refine ww_bipush (pc := 67) (v := 8) X dX8_person_67 (by decide) ?_
          refine ww_iload_n (pc := 69) X dX8_person_69 1 rfl rfl ?_
          have hb6 := clb (n := 7) (in_X8_isPerson okm c1)
          refine ww_iadd (pc := 70) X dX8_person_70 ?_
          refine ww_iald (pc := 71) (f := SM.2 9) X 10 0 rfl rfl (vn (m := 8 + ((x1 : Int32).toNatClampNeg)) (nat_iadd (a := 8) (b := (x1 : Int32).toNatClampNeg) rfl (cl_of (in_X8_isPerson okm c1))) (by omega) (by decide)) dX8_person_71 ?_
          exact ww_iret X hr rfl (Eq.symm (by unfold f_X8_person; try rw [if_neg c1, if_neg c2, if_neg c4, if_pos c5]; first | done | rfl)) rfl dX8_person_72
        · skip
          refine Decidable.byCases (fun (c7 : x2 = 3) => ?_) (fun (c7 : ¬ x2 = 3) => ?_)
          · refine ww_tableIn (off := 61) (tgt := 73) X dX8_person_12 (by rw [c7]; decide) (by rw [c7]; decide) (by rw [c7]; rfl) (by decide) ?_
            refine ww_aload_n (pc := 73) X dX8_person_73 0 rfl rfl ?_
            refine ww_get (pc := 74) (ci := 8) (v := .ref (rM 10)) (C := RX8) (T := TX8) (N := 27) X inX8_person_8 0 rfl rfl 11 (by decide) (by decide +kernel) rfl dX8_person_74 ?_
            refine ww_bipush (pc := 77) (v := 15) X dX8_person_77 (by decide) ?_
            refine ww_iload_n (pc := 79) X dX8_person_79 1 rfl rfl ?_
            have hb8 := clb (n := 7) (in_X8_isPerson okm c1)
            refine ww_iadd (pc := 80) X dX8_person_80 ?_
            refine ww_iald (pc := 81) (f := SM.2 9) X 10 0 rfl rfl (vn (m := 15 + ((x1 : Int32).toNatClampNeg)) (nat_iadd (a := 15) (b := (x1 : Int32).toNatClampNeg) rfl (cl_of (in_X8_isPerson okm c1))) (by omega) (by decide)) dX8_person_81 ?_
            exact ww_iret X hr rfl (Eq.symm (by unfold f_X8_person; try rw [if_neg c1, if_neg c2, if_neg c4, if_neg c5, if_pos c7]; first | done | rfl)) rfl dX8_person_82
          · skip
            refine Decidable.byCases (fun (c9 : x2 = 4) => ?_) (fun (c9 : ¬ x2 = 4) => ?_)
            · refine ww_tableIn (off := 71) (tgt := 83) X dX8_person_12 (by rw [c9]; decide) (by rw [c9]; decide) (by rw [c9]; rfl) (by decide) ?_
              refine ww_aload_n (pc := 83) X dX8_person_83 0 rfl rfl ?_
              refine ww_iload_n (pc := 84) X dX8_person_84 1 rfl rfl ?_
              refine ww_gVi (pc := 85) (rest := []) (gsN := [wX8 cI cZ cQ rM SM]) (ci := 8) (gi := 0) (qi := 0) X (c_X8_daysOf l D cI cZ cQ rM SM x1 (in_X8_isPerson okm c1) (by assumption)) gX8_person_X8_daysOf rfl hd_X8_daysOf [true] rfl rfl rfl rfl rfl rfl rfl rfl ⟨rfl, rfl⟩ ⟨Nat.le_of_ble_eq_true rfl, Nat.le_of_ble_eq_true rfl⟩ (Nat.le_of_ble_eq_true rfl) ⟨Nat.zero_le _, Nat.zero_le _⟩ dX8_person_85 ?_
              exact ww_iret X hr rfl (Eq.symm (by unfold f_X8_person; try rw [if_neg c1, if_neg c2, if_neg c4, if_neg c5, if_neg c7, if_pos c9]; first | done | rfl)) rfl dX8_person_88
            · skip
              refine ww_tableOut (tgt := 89) X dX8_person_12 (by
                refine Classical.byContradiction (fun h9 => ?_)
                have h8 : (x2).toInt = 0 ∨ (x2).toInt = 1 ∨ (x2).toInt = 2 ∨ (x2).toInt = 3 ∨ (x2).toInt = 4 := by omega
                rcases h8 with h | h | h | h | h
                · exact c2 (Int32.toInt_inj.mp (h.trans (by decide)))
                · exact c4 (Int32.toInt_inj.mp (h.trans (by decide)))
                · exact c5 (Int32.toInt_inj.mp (h.trans (by decide)))
                · exact c7 (Int32.toInt_inj.mp (h.trans (by decide)))
                · exact c9 (Int32.toInt_inj.mp (h.trans (by decide)))) (by decide) ?_
              refine ww_ldc (pc := 89) (v := (-1000000002)) X (by decide +kernel) dX8_person_89 ?_
              exact ww_iret X hr rfl (Eq.symm (by unfold f_X8_person; try rw [if_neg c1, if_neg c2, if_neg c4, if_neg c5, if_neg c7, if_neg c9]; first | done | rfl)) rfl dX8_person_91
  · refine ww_ldc (pc := 8) (v := (-1000000001)) X (by decide +kernel) dX8_person_8 ?_
    exact ww_iret X hr rfl (Eq.symm (by unfold f_X8_person; try rw [if_pos c1]; first | done | rfl)) rfl dX8_person_10
def f_X8_good (SM : St) (x1 : Int32) (x2 : Int32) : Int32 :=
  if (f_X8_isGood SM x1) = 0 then
    (-1000000001)
  else
    if (f_X8_in x2 0 3) = 0 then
      (-1000000002)
    else
      if x2 = 0 then
        (SM.2 9) ((29 + x1 : Int32)).toNatClampNeg
      else
        (SM.2 4) ((((3 * x1) + x2) - 1 : Int32)).toNatClampNeg
theorem gd_in {x y : Int32} (h : vp_in x 6) (h1 : ¬ f_X8_in y 0 3 = 0) (h2 : ¬ y = 0) : vp_in (((3 * x) + y) - 1) 18 := by
  obtain ⟨i, hi, rfl⟩ := vp_in_of h (by decide)
  obtain ⟨j, hj, rfl⟩ := vp_in_of (in_X8_in h1 (n := 3) rfl) (by decide)
  have : j ≠ 0 := fun e => h2 (by rw [e]; rfl)
  obtain ⟨k, rfl⟩ : ∃ k, j = k + 1 := ⟨j - 1, by omega⟩
  rw [show (3 : Int32) = nI 3 from rfl, pk_mul, nI_add, show 3 * i + (k + 1) = (3 * i + k) + 1 by omega, nI_pred]
  exact vp_in_nI (by omega) (by decide)
theorem inX8_good_8 : ∀ w ∈ wsX80, w ∈ wsX8_good := by decide +kernel
theorem hd_X8_good : yX8_good.cls = RX8 ∧ yX8_good.cls ≠ "java/lang/invoke/MethodHandle" ∧ yX8_good.cls ≠ "java/lang/invoke/VarHandle" ∧ (parseMethodDescriptor yX8_good.desc).map (fun d => d.parameters.length) = some 2 := by decide +kernel
set_option maxHeartbeats 4000000 in
set_option maxRecDepth 100000 in
theorem c_X8_good (l : Launch) (D : va_G) (cI cZ cQ : ClassId) (rM : Nat → Nat) (SM : St) (x1 : Int32) (x2 : Int32) (okm : okM SM) : Ci l yX8_good wsX8_good { frames := 2, cells := 0, slots := 0, locals := 43 } D (tyL cI cZ cQ) [.ref (rM 0), .int x1, .int x2] (fl [wX8 cI cZ cQ rM SM]) (f_X8_good SM x1 x2) (fl [wX8 cI cZ cQ rM SM]) := by
  refine ci_of (cc := cX8_good) (nL := 3) (ty := .int) (lv0 := [(0, .ref (rM 0)), (1, .int x1), (2, .int x2)]) (by decide) rfl (Nat.le_of_ble_eq_true rfl) rfl ?_
  intro p e s m args below meth c A X hr
  refine ww_aload_n (pc := 0) X dX8_good_0 0 rfl rfl ?_
  refine ww_iload_n (pc := 1) X dX8_good_1 1 rfl rfl ?_
  refine ww_gVi (pc := 2) (rest := []) (gsN := [wX8 cI cZ cQ rM SM]) (ci := 8) (gi := 0) (qi := 0) X (c_X8_isGood l D cI cZ cQ rM SM x1) gX8_good_X8_isGood rfl hd_X8_isGood [true] rfl rfl rfl rfl rfl rfl rfl rfl ⟨rfl, rfl⟩ ⟨Nat.le_of_ble_eq_true rfl, Nat.le_of_ble_eq_true rfl⟩ (Nat.le_of_ble_eq_true rfl) ⟨Nat.zero_le _, Nat.zero_le _⟩ dX8_good_2 ?_
  refine ww_if_ne (pc := 5) (tgt := 11) X dX8_good_5 (by decide) (fun c1 => ?_) (fun c1 => ?_)
  · refine ww_iload_n (pc := 11) X dX8_good_11 2 rfl rfl ?_
    refine ww_iconst (pc := 12) (v := 0) X dX8_good_12 (by decide) ?_
    refine ww_iconst (pc := 13) (v := 3) X dX8_good_13 (by decide) ?_
    refine ww_gSi (pc := 14) (rest := []) (gsN := [wX8 cI cZ cQ rM SM]) X (c_X8_in l D cI cZ cQ x2 0 3) gX8_good_X8_in rfl hd_X8_in [false] rfl rfl rfl rfl ⟨rfl, rfl⟩ ⟨Nat.le_of_ble_eq_true rfl, Nat.le_of_ble_eq_true rfl⟩ (Nat.le_of_ble_eq_true rfl) ⟨Nat.zero_le _, Nat.zero_le _⟩ dX8_good_14 ?_
    refine ww_if_ne (pc := 17) (tgt := 23) X dX8_good_17 (by decide) (fun c2 => ?_) (fun c2 => ?_)
    · refine ww_iload_n (pc := 23) X dX8_good_23 2 rfl rfl ?_
      refine ww_if_ne (pc := 24) (tgt := 39) X dX8_good_24 (by decide) (fun c3 => ?_) (fun c3 => ?_)
      · refine ww_aload_n (pc := 39) X dX8_good_39 0 rfl rfl ?_
        refine ww_get (pc := 40) (ci := 8) (v := .ref (rM 5)) (C := RX8) (T := TX8) (N := 27) X inX8_good_8 0 rfl rfl 6 (by decide) (by decide +kernel) rfl dX8_good_40 ?_
        refine ww_iconst (pc := 43) (v := 3) X dX8_good_43 (by decide) ?_
        refine ww_iload_n (pc := 44) X dX8_good_44 1 rfl rfl ?_
        have hb4 := clb (n := 6) (in_X8_isGood okm c1)
        refine ww_imul (pc := 45) X dX8_good_45 ?_
        refine ww_iload_n (pc := 46) X dX8_good_46 2 rfl rfl ?_
        have hb5 := clb (n := 4) (in_X8_in (n := 3) c2 rfl)
        refine ww_iadd (pc := 47) X dX8_good_47 ?_
        refine ww_iconst (pc := 48) (v := 1) X dX8_good_48 (by decide) ?_
        refine ww_isub (pc := 49) X dX8_good_49 ?_
        refine ww_iald (pc := 50) (f := SM.2 4) X 5 0 rfl rfl (gd_in (in_X8_isGood okm c1) c2 c3) dX8_good_50 ?_
        exact ww_iret X hr rfl (Eq.symm (by unfold f_X8_good; try rw [if_neg c1, if_neg c2, if_neg c3]; first | done | rfl)) rfl dX8_good_51
      · refine ww_aload_n (pc := 27) X dX8_good_27 0 rfl rfl ?_
        refine ww_get (pc := 28) (ci := 8) (v := .ref (rM 10)) (C := RX8) (T := TX8) (N := 27) X inX8_good_8 0 rfl rfl 11 (by decide) (by decide +kernel) rfl dX8_good_28 ?_
        refine ww_bipush (pc := 31) (v := 29) X dX8_good_31 (by decide) ?_
        refine ww_iload_n (pc := 33) X dX8_good_33 1 rfl rfl ?_
        have hb6 := clb (n := 6) (in_X8_isGood okm c1)
        refine ww_iadd (pc := 34) X dX8_good_34 ?_
        refine ww_iald (pc := 35) (f := SM.2 9) X 10 0 rfl rfl (vn (m := 29 + ((x1 : Int32).toNatClampNeg)) (nat_iadd (a := 29) (b := (x1 : Int32).toNatClampNeg) rfl (cl_of (in_X8_isGood okm c1))) (by omega) (by decide)) dX8_good_35 ?_
        refine ww_goto (pc := 36) (tgt := 51) X dX8_good_36 (by decide) ?_
        exact ww_iret X hr rfl (Eq.symm (by unfold f_X8_good; try rw [if_neg c1, if_neg c2, if_pos c3]; first | done | rfl)) rfl dX8_good_51
    · refine ww_ldc (pc := 20) (v := (-1000000002)) X (by decide +kernel) dX8_good_20 ?_
      exact ww_iret X hr rfl (Eq.symm (by unfold f_X8_good; try rw [if_neg c1, if_pos c2]; first | done | rfl)) rfl dX8_good_22
  · refine ww_ldc (pc := 8) (v := (-1000000001)) X (by decide +kernel) dX8_good_8 ?_
    exact ww_iret X hr rfl (Eq.symm (by unfold f_X8_good; try rw [if_pos c1]; first | done | rfl)) rfl dX8_good_10
