theorem hr_lt {S : St} {v : Int32} (c : f_X6_here S = v) (hv : ¬ v = -1) : S.1 1 < S.1 0 ∧ S.1 1 < 240 := by
  unfold f_X6_here at c
  split at c
  · exact absurd c.symm hv
  · split at c
    · exact absurd c.symm hv
    · exact ⟨Int32.not_le.mp (by assumption), Int32.not_le.mp (by assumption)⟩
theorem sb_step {S : St} (h : ¬ S.1 1 < 0) (c : f_X6_here S = 32) : ¬ ((sI S 1 ((S.1 1) + 1)).1 1) < 0 := by
  rw [sI_eq]
  exact (inc_cl h (hr_lt c (by decide)).2).2.1
/-- what a step of the class's reader leaves as it was: all rows but the numbers, the letters -/
def xk (S S' : St) : Prop := ¬ (S'.1 1) < 0 ∧ S'.2 0 = S.2 0 ∧ S'.1 0 = S.1 0
theorem xk_rf {S : St} (h : ¬ (S.1 1) < 0) : xk S S := ⟨h, rfl, rfl⟩
theorem xk_t {S T U : St} (h : xk S T) (g : xk T U) : xk S U := ⟨g.1, g.2.1.trans h.2.1, g.2.2.trans h.2.2⟩
def l0_X6_skipBlanks_2  (j : Nat) (u : St) : St :=
  u
def lb_X6_skipBlanks_2  (rec : Nat → (St) → St) (j : Nat) (u : St) : St :=
  if (f_X6_here u) = 32 then
    rec (j + 1) (sI u 1 ((u.1 1) + 1))
  else
    u
def lp_X6_skipBlanks_2  : Nat → Nat → (St) → St
  | 0, j, u => l0_X6_skipBlanks_2  j u
  | k + 1, j, u => lb_X6_skipBlanks_2  (lp_X6_skipBlanks_2  k) j u
def f_X6_skipBlanks (SX : St) : St :=
  lp_X6_skipBlanks_2  241 0 SX
theorem xk_lps : ∀ (k j : Nat) (S : St), ¬ (S.1 1) < 0 → xk S (lp_X6_skipBlanks_2 k j S)
  | 0, j, S, h => xk_rf h
  | k + 1, j, S, h => by
    show xk S (lb_X6_skipBlanks_2 (lp_X6_skipBlanks_2 k) j S)
    unfold lb_X6_skipBlanks_2
    split
    · rename_i c
      have h1 : xk S (sI S 1 ((S.1 1) + 1)) := ⟨sb_step h c, rfl, sI_ne (by decide)⟩
      exact xk_t h1 (xk_lps k (j + 1) _ h1.1)
    · exact xk_rf h
theorem xk_skip {S : St} (h : ¬ (S.1 1) < 0) : xk S (f_X6_skipBlanks S) := xk_lps 241 0 S h
theorem inX6_skipBlanks_6 : ∀ w ∈ wsX60, w ∈ wsX6_skipBlanks := by decide +kernel
theorem hd_X6_skipBlanks : yX6_skipBlanks.cls = RX6 ∧ yX6_skipBlanks.cls ≠ "java/lang/invoke/MethodHandle" ∧ yX6_skipBlanks.cls ≠ "java/lang/invoke/VarHandle" ∧ (parseMethodDescriptor yX6_skipBlanks.desc).map (fun d => d.parameters.length) = some 0 := by decide +kernel
set_option maxHeartbeats 4000000 in
set_option maxRecDepth 100000 in
theorem c_X6_skipBlanks (l : Launch) (D : va_G) (cI cZ cQ : ClassId) (rX : Nat → Nat) (SX : St) (ok1 : ¬ (SX.1 1) < 0) : Cv l yX6_skipBlanks wsX6_skipBlanks { frames := 1, cells := 0, slots := 0, locals := 20 } D (tyL cI cZ cQ) [.ref (rX 0)] (fl [wX6 cI cZ cQ rX SX]) (fl [wX6 cI cZ cQ rX (f_X6_skipBlanks SX)]) := by
  refine cv_of (cc := cX6_skipBlanks) (nL := 2) (lv0 := [(0, .ref (rX 0))]) (by decide) rfl (Nat.le_of_ble_eq_true rfl) rfl ?_
  intro p e s m args below meth c A X hr
  refine ww_iconst (pc := 0) (v := 0) X dX6_skipBlanks_0 (by decide) ?_
  refine ww_istore_n (pc := 1) (lv' := [(1, .int 0), (0, .ref (rX 0))]) X dX6_skipBlanks_1 rfl (by decide) rfl ?_
  have L2 : ∀ (k_2 j_2 : Nat) (u_2 : St), j_2 + k_2 = 241 → (¬ (u_2.1 1) < 0) → f_X6_skipBlanks SX = lp_X6_skipBlanks_2  k_2 j_2 u_2 → WW p l e (headSpec wsX6_skipBlanks { frames := 1, cells := 0, slots := 0, locals := 20 }).room s m args below meth c 2 D A 0 0 (RQv below args s D A (fl [wX6 cI cZ cQ rX (f_X6_skipBlanks SX)])) (fl [wX6 cI cZ cQ rX u_2]) [(0, .ref (rX 0)), (1, .int (nI j_2))] 2 [] := by
    intro k_2
    induction k_2 with
    | zero =>
      intro j_2 u_2 hj hi hf
      have hjB : j_2 = 241 := by omega
      subst hjB
      refine ww_iload_n (pc := 2) X dX6_skipBlanks_2 1 rfl rfl ?_
      refine ww_sipush (pc := 3) (v := 240) X dX6_skipBlanks_3 (by decide) ?_
      refine ww_icmp_gt (pc := 6) (tgt := 34) X dX6_skipBlanks_6 (by decide) (fun _ => ?_) (fun c9 => absurd (lp_gt0 rfl (Nat.le_refl _) (by decide)) c9)
      have h6 : f_X6_skipBlanks SX = u_2 := by rw [hf]; show l0_X6_skipBlanks_2  241 u_2 = _; unfold l0_X6_skipBlanks_2; first | done | rfl
      have hw7 := congrArg (fun u9 : St => fl [wX6 cI cZ cQ rX u9]) h6.symm
      exact ww_vret X hr hw7 dX6_skipBlanks_34
    | succ k_2 ih =>
      intro j_2 u_2 hj hi hf
      have hjB : j_2 < 241 := by omega
      refine ww_iload_n (pc := 2) X dX6_skipBlanks_2 1 rfl rfl ?_
      refine ww_sipush (pc := 3) (v := 240) X dX6_skipBlanks_3 (by decide) ?_
      refine ww_icmp_gt (pc := 6) (tgt := 34) X dX6_skipBlanks_6 (by decide) (fun c9 => absurd c9 (lp_gt1 rfl hjB (by decide))) (fun _ => ?_)
      refine ww_aload_n (pc := 9) X dX6_skipBlanks_9 0 rfl rfl ?_
      refine ww_gVi (pc := 10) (rest := []) (gsN := [wX6 cI cZ cQ rX u_2]) (ci := 6) (gi := 0) (qi := 0) X (c_X6_here l D cI cZ cQ rX u_2 hi) gX6_skipBlanks_X6_here rfl hd_X6_here [true] rfl rfl rfl rfl rfl rfl rfl rfl ⟨rfl, rfl⟩ ⟨Nat.le_of_ble_eq_true rfl, Nat.le_of_ble_eq_true rfl⟩ (Nat.le_of_ble_eq_true rfl) ⟨Nat.zero_le _, Nat.zero_le _⟩ dX6_skipBlanks_10 ?_
      refine ww_bipush (pc := 13) (v := 32) X dX6_skipBlanks_13 (by decide) ?_
      refine ww_icmp_ne (pc := 15) (tgt := 34) X dX6_skipBlanks_15 (by decide) (fun c8 => ?_) (fun c8 => ?_)
      · have h9 : f_X6_skipBlanks SX = u_2 := by rw [hf]; show lb_X6_skipBlanks_2  (lp_X6_skipBlanks_2  k_2) j_2 u_2 = _; unfold lb_X6_skipBlanks_2; try rw [if_neg c8]; first | done | rfl
        have hw10 := congrArg (fun u9 : St => fl [wX6 cI cZ cQ rX u9]) h9.symm
        exact ww_vret X hr hw10 dX6_skipBlanks_34
      · refine ww_aload_n (pc := 18) X dX6_skipBlanks_18 0 rfl rfl ?_
        refine ww_dup (pc := 19) X dX6_skipBlanks_19 rfl ?_
        refine ww_get (pc := 20) (ci := 6) (v := .int (u_2.1 1)) (C := RX6) (T := TX6) (N := 6) X inX6_skipBlanks_6 0 rfl rfl 3 (by decide) (by decide +kernel) rfl dX6_skipBlanks_20 ?_
        refine ww_iconst (pc := 23) (v := 1) X dX6_skipBlanks_23 (by decide) ?_
        refine ww_iadd (pc := 24) X dX6_skipBlanks_24 ?_
        refine ww_put (pc := 25) (ci := 6) (v := .int ((u_2.1 1) + 1)) (C := RX6) (T := TX6) (N := 6) (ws' := fl [wX6 cI cZ cQ rX (sI u_2 1 ((u_2.1 1) + 1))]) X inX6_skipBlanks_6 tyX6 tyX6_ok nmX6 0 rfl rfl 3 (by decide) (by decide +kernel) rfl rfl rfl (Nat.le_of_ble_eq_true rfl) rfl dX6_skipBlanks_25 ?_
        refine ww_iinc (pc := 28) (v := (nI j_2) + 1) (lv' := [(1, .int ((nI j_2) + 1)), (0, .ref (rX 0))]) X dX6_skipBlanks_28 1 rfl rfl (by decide) rfl ?_
        refine ww_goto (pc := 31) (tgt := 2) X dX6_skipBlanks_31 (by decide) ?_
        refine ww_lsub [1, 0] rfl ?_
        have h11 : f_X6_skipBlanks SX = lp_X6_skipBlanks_2  k_2 (j_2 + 1) (sI u_2 1 ((u_2.1 1) + 1)) := by rw [hf]; show lb_X6_skipBlanks_2  (lp_X6_skipBlanks_2  k_2) j_2 u_2 = _; unfold lb_X6_skipBlanks_2; try rw [if_pos c8]; first | done | rfl
        exact ww_cast rfl (congrArg (fun (i9 : Int32) => ([(0, .ref (rX 0)), (1, .int i9)] : List (Nat × Value))) (nI_1 j_2).symm) (ih (j_2 + 1) (sI u_2 1 ((u_2.1 1) + 1)) (by omega) (sb_step hi c8) h11)
  refine ww_lsub [1, 0] rfl ?_
  exact L2 241 0 SX (by omega) ok1 (by unfold f_X6_skipBlanks; first | done | rfl)
def f_X6_readSemicolon_k2 (SX : St) (z1 : St) (z3 : St) : St :=
  z3
def f_X6_readSemicolon_k1 (SX : St) (z1 : St) : St :=
  if (f_X6_here z1) = 59 then
    (sI z1 1 ((z1.1 1) + 1))
  else
    f_X6_readSemicolon_k2 SX z1 (f_X6_blame z1 1 (z1.1 1))
def f_X6_readSemicolon (SX : St) : St :=
  f_X6_readSemicolon_k1 SX (f_X6_skipBlanks SX)
theorem inX6_readSemicolon_6 : ∀ w ∈ wsX60, w ∈ wsX6_readSemicolon := by decide +kernel
theorem hd_X6_readSemicolon : yX6_readSemicolon.cls = RX6 ∧ yX6_readSemicolon.cls ≠ "java/lang/invoke/MethodHandle" ∧ yX6_readSemicolon.cls ≠ "java/lang/invoke/VarHandle" ∧ (parseMethodDescriptor yX6_readSemicolon.desc).map (fun d => d.parameters.length) = some 0 := by decide +kernel
set_option maxHeartbeats 4000000 in
set_option maxRecDepth 100000 in
theorem c_X6_readSemicolon (l : Launch) (D : va_G) (cI cZ cQ : ClassId) (rX : Nat → Nat) (SX : St) (ok1 : ¬ (SX.1 1) < 0) : Cv l yX6_readSemicolon wsX6_readSemicolon { frames := 2, cells := 0, slots := 0, locals := 41 } D (tyL cI cZ cQ) [.ref (rX 0)] (fl [wX6 cI cZ cQ rX SX]) (fl [wX6 cI cZ cQ rX (f_X6_readSemicolon SX)]) := by
  refine cv_of (cc := cX6_readSemicolon) (nL := 1) (lv0 := [(0, .ref (rX 0))]) (by decide) rfl (Nat.le_of_ble_eq_true rfl) rfl ?_
  intro p e s m args below meth c A X hr
  refine ww_aload_n (pc := 0) X dX6_readSemicolon_0 0 rfl rfl ?_
  refine ww_gVv (pc := 1) (rest := []) (gsN := [wX6 cI cZ cQ rX (f_X6_skipBlanks SX)]) (ci := 6) (gi := 0) (qi := 0) X (c_X6_skipBlanks l D cI cZ cQ rX SX (by assumption)) gX6_readSemicolon_X6_skipBlanks rfl hd_X6_skipBlanks [true] rfl (acons (ad6 _ _ _ _ _ _) rfl) rfl rfl rfl rfl rfl rfl ⟨rfl, rfl⟩ ⟨Nat.le_of_ble_eq_true rfl, Nat.le_of_ble_eq_true rfl⟩ (Nat.le_of_ble_eq_true rfl) ⟨Nat.zero_le _, Nat.zero_le _⟩ dX6_readSemicolon_1 ?_
  generalize hz1 : (f_X6_skipBlanks SX) = z1
  have okz : ¬ (z1.1 1) < 0 := by rw [← hz1]; exact (xk_skip ok1).1
  refine ww_aload_n (pc := 4) X dX6_readSemicolon_4 0 rfl rfl ?_
  refine ww_gVi (pc := 5) (rest := []) (gsN := [wX6 cI cZ cQ rX z1]) (ci := 6) (gi := 0) (qi := 0) X (c_X6_here l D cI cZ cQ rX z1 okz) gX6_readSemicolon_X6_here rfl hd_X6_here [true] rfl rfl rfl rfl rfl rfl rfl rfl ⟨rfl, rfl⟩ ⟨Nat.le_of_ble_eq_true rfl, Nat.le_of_ble_eq_true rfl⟩ (Nat.le_of_ble_eq_true rfl) ⟨Nat.zero_le _, Nat.zero_le _⟩ dX6_readSemicolon_5 ?_
  refine ww_bipush (pc := 8) (v := 59) X dX6_readSemicolon_8 (by decide) ?_
  refine ww_icmp_ne (pc := 10) (tgt := 26) X dX6_readSemicolon_10 (by decide) (fun c2 => ?_) (fun c2 => ?_)
  · refine ww_aload_n (pc := 26) X dX6_readSemicolon_26 0 rfl rfl ?_
    refine ww_iconst (pc := 27) (v := 1) X dX6_readSemicolon_27 (by decide) ?_
    refine ww_aload_n (pc := 28) X dX6_readSemicolon_28 0 rfl rfl ?_
    refine ww_get (pc := 29) (ci := 6) (v := .int (z1.1 1)) (C := RX6) (T := TX6) (N := 6) X inX6_readSemicolon_6 0 rfl rfl 3 (by decide) (by decide +kernel) rfl dX6_readSemicolon_29 ?_
    refine ww_gVv (pc := 32) (rest := []) (gsN := [wX6 cI cZ cQ rX (f_X6_blame z1 1 (z1.1 1))]) (ci := 6) (gi := 0) (qi := 0) X (c_X6_blame l D cI cZ cQ rX z1 1 (z1.1 1)) gX6_readSemicolon_X6_blame rfl hd_X6_blame [true] rfl (acons (ad6 _ _ _ _ _ _) rfl) rfl rfl rfl rfl rfl rfl ⟨rfl, rfl⟩ ⟨Nat.le_of_ble_eq_true rfl, Nat.le_of_ble_eq_true rfl⟩ (Nat.le_of_ble_eq_true rfl) ⟨Nat.zero_le _, Nat.zero_le _⟩ dX6_readSemicolon_32 ?_
    generalize hz3 : (f_X6_blame z1 1 (z1.1 1)) = z3
    have h4 : f_X6_readSemicolon SX = z3 := by unfold f_X6_readSemicolon; try rw [hz1]; try unfold f_X6_readSemicolon_k1; try rw [if_neg c2, hz3]; try unfold f_X6_readSemicolon_k2; first | done | rfl
    have hw5 := congrArg (fun u9 : St => fl [wX6 cI cZ cQ rX u9]) h4.symm
    exact ww_vret X hr hw5 dX6_readSemicolon_35
  · refine ww_aload_n (pc := 13) X dX6_readSemicolon_13 0 rfl rfl ?_
    refine ww_dup (pc := 14) X dX6_readSemicolon_14 rfl ?_
    refine ww_get (pc := 15) (ci := 6) (v := .int (z1.1 1)) (C := RX6) (T := TX6) (N := 6) X inX6_readSemicolon_6 0 rfl rfl 3 (by decide) (by decide +kernel) rfl dX6_readSemicolon_15 ?_
    refine ww_iconst (pc := 18) (v := 1) X dX6_readSemicolon_18 (by decide) ?_
    refine ww_iadd (pc := 19) X dX6_readSemicolon_19 ?_
    refine ww_put (pc := 20) (ci := 6) (v := .int ((z1.1 1) + 1)) (C := RX6) (T := TX6) (N := 6) (ws' := fl [wX6 cI cZ cQ rX (sI z1 1 ((z1.1 1) + 1))]) X inX6_readSemicolon_6 tyX6 tyX6_ok nmX6 0 rfl rfl 3 (by decide) (by decide +kernel) rfl rfl rfl (Nat.le_of_ble_eq_true rfl) rfl dX6_readSemicolon_20 ?_
    refine ww_goto (pc := 23) (tgt := 35) X dX6_readSemicolon_23 (by decide) ?_
    have h6 : f_X6_readSemicolon SX = (sI z1 1 ((z1.1 1) + 1)) := by unfold f_X6_readSemicolon; try rw [hz1]; try unfold f_X6_readSemicolon_k1; try rw [if_pos c2]; first | done | rfl
    have hw7 := congrArg (fun u9 : St => fl [wX6 cI cZ cQ rX u9]) h6.symm
    exact ww_vret X hr hw7 dX6_readSemicolon_35
