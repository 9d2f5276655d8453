def bd_X8_notes_51  (j : Nat) (u : St) : St :=
  (sA u 10 (upd (u.2 10) (((35 * (u.1 2)) + (nI j) : Int32)).toNatClampNeg ((u.2 9) (((nI j) : Int32)).toNatClampNeg)))
def it_X8_notes_51  (u : St) : Nat → St
  | 0 => u
  | j + 1 => bd_X8_notes_51  j (it_X8_notes_51  u j)
def bd_X8_notes_11  (j : Nat) (u : St) : St :=
  (sA u 10 (upd (u.2 10) (((nI j) : Int32)).toNatClampNeg ((u.2 10) (((nI j) + 35 : Int32)).toNatClampNeg)))
def it_X8_notes_11  (u : St) : Nat → St
  | 0 => u
  | j + 1 => bd_X8_notes_11  j (it_X8_notes_11  u j)
def f_X8_notes_k3 (SM : St) (z6 : St) (z8 : St) : St :=
  (sI z8 2 ((z8.1 2) + 1))
def f_X8_notes_k2 (SM : St) (z6 : St) : St :=
  f_X8_notes_k3 SM z6 (it_X8_notes_51 (sI z6 2 ((z6.1 2) - 1)) 35)
def f_X8_notes_k1 (SM : St) (z3 : St) : St :=
  (sI z3 2 ((z3.1 2) + 1))
def f_X8_notes (SM : St) : St :=
  if (SM.1 2) = 20 then
    f_X8_notes_k2 SM (it_X8_notes_11 SM 665)
  else
    f_X8_notes_k1 SM (it_X8_notes_51 SM 35)
theorem pr2_X8_notes_51 (u : St) : ∀ j : Nat, (it_X8_notes_51 u j).1 = u.1
  | 0 => rfl
  | j + 1 => pr2_X8_notes_51 u j
theorem pr2_X8_notes_11 (u : St) : ∀ j : Nat, (it_X8_notes_11 u j).1 = u.1
  | 0 => rfl
  | j + 1 => pr2_X8_notes_11 u j
theorem nt_a {S : St} (h0 : ¬ (S.1 2) < 0) (h1 : S.1 2 ≤ 20) (c : ¬ S.1 2 = 20) : ∃ m : Nat, m < 20 ∧ S.1 2 = nI m := by
  obtain ⟨m, h2, h3⟩ := vp_in_of (vin_ne h0 h1 c (n := 20) rfl) (by decide)
  exact ⟨m, h2, h3⟩
theorem nt_b {S z : St} (c : S.1 2 = 20) (hz : it_X8_notes_11 S 665 = z) : ∃ m : Nat, m < 20 ∧ (sI z 2 ((z.1 2) - 1)).1 2 = nI m := by
  refine ⟨19, by decide, ?_⟩
  show z.1 2 - 1 = nI 19
  rw [← hz, pr2_X8_notes_11, c]
  rfl
theorem nt_c {S : St} (h0 : ¬ (S.1 2) < 0) (h1 : S.1 2 ≤ 20) (c : ¬ S.1 2 = 0) : ∃ m : Nat, m < 20 ∧ (sI S 2 ((S.1 2) - 1)).1 2 = nI m := by
  obtain ⟨j, hj, e⟩ := nI_of h0
  have h2 : j ≤ 20 := (nI_leI hj (by decide)).mp (by rw [← e]; exact h1)
  have h3 : j ≠ 0 := fun q => c (by rw [e, q]; rfl)
  refine ⟨j - 1, by omega, ?_⟩
  show S.1 2 - 1 = nI (j - 1)
  rw [e, show nI j = nI ((j - 1) + 1) by rw [show j - 1 + 1 = j by omega], nI_pred]
theorem nt_in {u v : St} {j : Nat} (h : ∃ m : Nat, m < 20 ∧ u.1 2 = nI m) (e : v.1 = u.1) (hj : j < 35) : vp_in ((35 * (v.1 2)) + (nI j)) 700 := by
  obtain ⟨m, h1, h2⟩ := h
  rw [e, h2, show (35 : Int32) = nI 35 from rfl, pk_mul, nI_add]
  exact vp_in_nI (by omega) (by decide)
theorem no_2 (u : St) (k : Nat) (hk : k ≠ 10) : (f_X8_notes u).2 k = u.2 k := by
  have h51 : ∀ (v : St) (j : Nat), (it_X8_notes_51 v j).2 k = v.2 k := fun v j => by
    induction j with
    | zero => rfl
    | succ j ih =>
      show (bd_X8_notes_51 j (it_X8_notes_51 v j)).2 k = _
      rw [← ih]
      exact if_neg hk
  have h11 : ∀ (v : St) (j : Nat), (it_X8_notes_11 v j).2 k = v.2 k := fun v j => by
    induction j with
    | zero => rfl
    | succ j ih =>
      show (bd_X8_notes_11 j (it_X8_notes_11 v j)).2 k = _
      rw [← ih]
      exact if_neg hk
  have hs : ∀ (v : St) (a : Nat) (b : Int32), (sI v a b).2 k = v.2 k := fun _ _ _ => rfl
  unfold f_X8_notes
  split
  · unfold f_X8_notes_k2 f_X8_notes_k3
    rw [hs, h51, hs, h11]
  · unfold f_X8_notes_k1
    rw [hs, h51]
theorem up_w {S z : St} {x : Int32} (hz : f_X8_notes S = z) (h : okW S x) : okW z x := by
  subst hz
  unfold okW f_X8_isBelow
  rw [no_2 S 9 (by decide), no_2 S 2 (by decide)]
  exact h
theorem inX8_notes_8 : ∀ w ∈ wsX80, w ∈ wsX8_notes := by decide +kernel
theorem hd_X8_notes : yX8_notes.cls = RX8 ∧ yX8_notes.cls ≠ "java/lang/invoke/MethodHandle" ∧ yX8_notes.cls ≠ "java/lang/invoke/VarHandle" ∧ (parseMethodDescriptor yX8_notes.desc).map (fun d => d.parameters.length) = some 0 := by decide +kernel
set_option maxHeartbeats 4000000 in
set_option maxRecDepth 100000 in
theorem c_X8_notes (l : Launch) (D : va_G) (cI cZ cQ : ClassId) (rM : Nat → Nat) (SM : St) (n0 : ¬ (SM.1 2) < 0) (n1 : SM.1 2 ≤ 20) : Cv l yX8_notes wsX8_notes { frames := 0, cells := 0, slots := 0, locals := 0 } D (tyL cI cZ cQ) [.ref (rM 0)] (fl [wX8 cI cZ cQ rM SM]) (fl [wX8 cI cZ cQ rM (f_X8_notes SM)]) := by
  refine cv_of (cc := cX8_notes) (nL := 2) (lv0 := [(0, .ref (rM 0))]) (by decide) rfl (Nat.le_of_ble_eq_true rfl) rfl ?_
  intro p e s m args below meth c A X hr
  refine ww_aload_n (pc := 0) X dX8_notes_0 0 rfl rfl ?_
  refine ww_get (pc := 1) (ci := 8) (v := .int (SM.1 2)) (C := RX8) (T := TX8) (N := 27) X inX8_notes_8 0 rfl rfl 13 (by decide) (by decide +kernel) rfl dX8_notes_1 ?_
  refine ww_bipush (pc := 4) (v := 20) X dX8_notes_4 (by decide) ?_
  refine ww_icmp_ne (pc := 6) (tgt := 49) X dX8_notes_6 (by decide) (fun c1 => ?_) (fun c1 => ?_)
  · have hdd : ∃ m : Nat, m < 20 ∧ SM.1 2 = nI m := by first | exact nt_a n0 n1 (by assumption) | exact nt_b (by assumption) (by assumption)
    refine ww_iconst (pc := 49) (v := 0) X dX8_notes_49 (by decide) ?_
    refine ww_istore_n (pc := 50) (lv' := [(1, .int 0), (0, .ref (rM 0))]) X dX8_notes_50 rfl (by decide) rfl ?_
    have L51 : ∀ (k_51 j_51 : Nat), j_51 + k_51 = 35 → WW p l e (headSpec wsX8_notes { frames := 0, cells := 0, slots := 0, locals := 0 }).room s m args below meth c 2 D A 0 0 (RQv below args s D A (fl [wX8 cI cZ cQ rM (f_X8_notes SM)])) (fl [wX8 cI cZ cQ rM (it_X8_notes_51 SM 35)]) [(0, .ref (rM 0)), (1, .int (nI 35))] 83 [] → WW p l e (headSpec wsX8_notes { frames := 0, cells := 0, slots := 0, locals := 0 }).room s m args below meth c 2 D A 0 0 (RQv below args s D A (fl [wX8 cI cZ cQ rM (f_X8_notes SM)])) (fl [wX8 cI cZ cQ rM (it_X8_notes_51 SM j_51)]) [(0, .ref (rM 0)), (1, .int (nI j_51))] 51 [] := by
      intro k_51
      induction k_51 with
      | zero =>
        intro j_51 hj K
        have hjB : j_51 = 35 := by omega
        subst hjB
        refine ww_iload_n (pc := 51) X dX8_notes_51 1 rfl rfl ?_
        refine ww_bipush (pc := 52) (v := 35) X dX8_notes_52 (by decide) ?_
        exact ww_icmp_ge (pc := 54) (tgt := 83) X dX8_notes_54 (by decide) (fun _ => K) (fun c9 => absurd (lp_ge0 rfl (Nat.le_refl _) (by decide)) c9)
      | succ k_51 ih =>
        intro j_51 hj K
        have hjB : j_51 < 35 := by omega
        refine ww_iload_n (pc := 51) X dX8_notes_51 1 rfl rfl ?_
        refine ww_bipush (pc := 52) (v := 35) X dX8_notes_52 (by decide) ?_
        refine ww_icmp_ge (pc := 54) (tgt := 83) X dX8_notes_54 (by decide) (fun c9 => absurd c9 (lp_ge1 rfl hjB (by decide))) (fun _ => ?_)
        refine ww_aload_n (pc := 57) X dX8_notes_57 0 rfl rfl ?_
        refine ww_get (pc := 58) (ci := 8) (v := .ref (rM 11)) (C := RX8) (T := TX8) (N := 27) X inX8_notes_8 0 rfl rfl 12 (by decide) (by decide +kernel) rfl dX8_notes_58 ?_
        refine ww_bipush (pc := 61) (v := 35) X dX8_notes_61 (by decide) ?_
        refine ww_aload_n (pc := 63) X dX8_notes_63 0 rfl rfl ?_
        refine ww_get (pc := 64) (ci := 8) (v := .int ((it_X8_notes_51 SM j_51).1 2)) (C := RX8) (T := TX8) (N := 27) X inX8_notes_8 0 rfl rfl 13 (by decide) (by decide +kernel) rfl dX8_notes_64 ?_
        refine ww_imul (pc := 67) X dX8_notes_67 ?_
        refine ww_iload_n (pc := 68) X dX8_notes_68 1 rfl rfl ?_
        refine ww_iadd (pc := 69) X dX8_notes_69 ?_
        refine ww_aload_n (pc := 70) X dX8_notes_70 0 rfl rfl ?_
        refine ww_get (pc := 71) (ci := 8) (v := .ref (rM 10)) (C := RX8) (T := TX8) (N := 27) X inX8_notes_8 0 rfl rfl 11 (by decide) (by decide +kernel) rfl dX8_notes_71 ?_
        refine ww_iload_n (pc := 74) X dX8_notes_74 1 rfl rfl ?_
        refine ww_iald (pc := 75) (f := (it_X8_notes_51 SM j_51).2 9) X 10 0 rfl rfl (vn (m := j_51) rfl (by omega) (by decide)) dX8_notes_75 ?_
        refine ww_iast (pc := 76) (f := (it_X8_notes_51 SM j_51).2 10) (ws' := fl [wX8 cI cZ cQ rM (sA (it_X8_notes_51 SM j_51) 10 (upd ((it_X8_notes_51 SM j_51).2 10) (((35 * ((it_X8_notes_51 SM j_51).1 2)) + (nI j_51) : Int32)).toNatClampNeg (((it_X8_notes_51 SM j_51).2 9) (((nI j_51) : Int32)).toNatClampNeg)))]) X 11 0 rfl rfl (nt_in hdd (pr2_X8_notes_51 _ _) (by omega)) (st8a_10 _ _ _ _ _ _) dX8_notes_76 ?_
        refine ww_iinc (pc := 77) (v := (nI j_51) + 1) (lv' := [(1, .int ((nI j_51) + 1)), (0, .ref (rM 0))]) X dX8_notes_77 1 rfl rfl (by decide) rfl ?_
        refine ww_goto (pc := 80) (tgt := 51) X dX8_notes_80 (by decide) ?_
        have h2 : (it_X8_notes_51 SM (j_51 + 1)) = (sA (it_X8_notes_51 SM j_51) 10 (upd ((it_X8_notes_51 SM j_51).2 10) (((35 * ((it_X8_notes_51 SM j_51).1 2)) + (nI j_51) : Int32)).toNatClampNeg (((it_X8_notes_51 SM j_51).2 9) (((nI j_51) : Int32)).toNatClampNeg))) := by
          show bd_X8_notes_51  j_51 (it_X8_notes_51 SM j_51) = _; unfold bd_X8_notes_51; first | done | rfl
        refine ww_lsub [1, 0] rfl ?_
        exact ww_castI (fun u9 : St => fl [wX8 cI cZ cQ rM u9]) (fun (u9 : St) (i9 : Int32) => ([(0, .ref (rM 0)), (1, .int i9)] : List (Nat × Value))) h2 (ih (j_51 + 1) (by omega) K)
    refine ww_lsub [1, 0] rfl ?_
    refine L51 35 0 (by omega) ?_
    generalize hz3 : ((it_X8_notes_51 SM 35)) = z3
    refine ww_aload_n (pc := 83) X dX8_notes_83 0 rfl rfl ?_
    refine ww_dup (pc := 84) X dX8_notes_84 rfl ?_
    refine ww_get (pc := 85) (ci := 8) (v := .int (z3.1 2)) (C := RX8) (T := TX8) (N := 27) X inX8_notes_8 0 rfl rfl 13 (by decide) (by decide +kernel) rfl dX8_notes_85 ?_
    refine ww_iconst (pc := 88) (v := 1) X dX8_notes_88 (by decide) ?_
    refine ww_iadd (pc := 89) X dX8_notes_89 ?_
    refine ww_put (pc := 90) (ci := 8) (v := .int ((z3.1 2) + 1)) (C := RX8) (T := TX8) (N := 27) (ws' := fl [wX8 cI cZ cQ rM (sI z3 2 ((z3.1 2) + 1))]) X inX8_notes_8 tyX8 tyX8_ok nmX8 0 rfl rfl 13 (by decide) (by decide +kernel) rfl rfl rfl (Nat.le_of_ble_eq_true rfl) (pt8a_2 _ _ _ _ _ _) dX8_notes_90 ?_
    have h4 : f_X8_notes SM = (sI z3 2 ((z3.1 2) + 1)) := by unfold f_X8_notes; try rw [if_neg c1, hz3]; try unfold f_X8_notes_k1; first | done | rfl
    exact ww_vret X hr (congrArg (fun u9 : St => fl [wX8 cI cZ cQ rM u9]) h4.symm) dX8_notes_93
  · refine ww_iconst (pc := 9) (v := 0) X dX8_notes_9 (by decide) ?_
    refine ww_istore_n (pc := 10) (lv' := [(1, .int 0), (0, .ref (rM 0))]) X dX8_notes_10 rfl (by decide) rfl ?_
    have L11 : ∀ (k_11 j_11 : Nat), j_11 + k_11 = 665 → WW p l e (headSpec wsX8_notes { frames := 0, cells := 0, slots := 0, locals := 0 }).room s m args below meth c 2 D A 0 0 (RQv below args s D A (fl [wX8 cI cZ cQ rM (f_X8_notes SM)])) (fl [wX8 cI cZ cQ rM (it_X8_notes_11 SM 665)]) [(0, .ref (rM 0)), (1, .int (nI 665))] 39 [] → WW p l e (headSpec wsX8_notes { frames := 0, cells := 0, slots := 0, locals := 0 }).room s m args below meth c 2 D A 0 0 (RQv below args s D A (fl [wX8 cI cZ cQ rM (f_X8_notes SM)])) (fl [wX8 cI cZ cQ rM (it_X8_notes_11 SM j_11)]) [(0, .ref (rM 0)), (1, .int (nI j_11))] 11 [] := by
      intro k_11
      induction k_11 with
      | zero =>
        intro j_11 hj K
        have hjB : j_11 = 665 := by omega
        subst hjB
        refine ww_iload_n (pc := 11) X dX8_notes_11 1 rfl rfl ?_
        refine ww_sipush (pc := 12) (v := 665) X dX8_notes_12 (by decide) ?_
        exact ww_icmp_ge (pc := 15) (tgt := 39) X dX8_notes_15 (by decide) (fun _ => K) (fun c9 => absurd (lp_ge0 rfl (Nat.le_refl _) (by decide)) c9)
      | succ k_11 ih =>
        intro j_11 hj K
        have hjB : j_11 < 665 := by omega
        refine ww_iload_n (pc := 11) X dX8_notes_11 1 rfl rfl ?_
        refine ww_sipush (pc := 12) (v := 665) X dX8_notes_12 (by decide) ?_
        refine ww_icmp_ge (pc := 15) (tgt := 39) X dX8_notes_15 (by decide) (fun c9 => absurd c9 (lp_ge1 rfl hjB (by decide))) (fun _ => ?_)
        refine ww_aload_n (pc := 18) X dX8_notes_18 0 rfl rfl ?_
        refine ww_get (pc := 19) (ci := 8) (v := .ref (rM 11)) (C := RX8) (T := TX8) (N := 27) X inX8_notes_8 0 rfl rfl 12 (by decide) (by decide +kernel) rfl dX8_notes_19 ?_
        refine ww_iload_n (pc := 22) X dX8_notes_22 1 rfl rfl ?_
        refine ww_aload_n (pc := 23) X dX8_notes_23 0 rfl rfl ?_
        refine ww_get (pc := 24) (ci := 8) (v := .ref (rM 11)) (C := RX8) (T := TX8) (N := 27) X inX8_notes_8 0 rfl rfl 12 (by decide) (by decide +kernel) rfl dX8_notes_24 ?_
        refine ww_iload_n (pc := 27) X dX8_notes_27 1 rfl rfl ?_
        refine ww_bipush (pc := 28) (v := 35) X dX8_notes_28 (by decide) ?_
        refine ww_iadd (pc := 30) X dX8_notes_30 ?_
        refine ww_iald (pc := 31) (f := (it_X8_notes_11 SM j_11).2 10) X 11 0 rfl rfl (vn (m := j_11 + 35) (nat_iadd (a := j_11) (b := 35) rfl rfl) (by omega) (by decide)) dX8_notes_31 ?_
        refine ww_iast (pc := 32) (f := (it_X8_notes_11 SM j_11).2 10) (ws' := fl [wX8 cI cZ cQ rM (sA (it_X8_notes_11 SM j_11) 10 (upd ((it_X8_notes_11 SM j_11).2 10) (((nI j_11) : Int32)).toNatClampNeg (((it_X8_notes_11 SM j_11).2 10) (((nI j_11) + 35 : Int32)).toNatClampNeg)))]) X 11 0 rfl rfl (vn (m := j_11) rfl (by omega) (by decide)) (st8a_10 _ _ _ _ _ _) dX8_notes_32 ?_
        refine ww_iinc (pc := 33) (v := (nI j_11) + 1) (lv' := [(1, .int ((nI j_11) + 1)), (0, .ref (rM 0))]) X dX8_notes_33 1 rfl rfl (by decide) rfl ?_
        refine ww_goto (pc := 36) (tgt := 11) X dX8_notes_36 (by decide) ?_
        have h5 : (it_X8_notes_11 SM (j_11 + 1)) = (sA (it_X8_notes_11 SM j_11) 10 (upd ((it_X8_notes_11 SM j_11).2 10) (((nI j_11) : Int32)).toNatClampNeg (((it_X8_notes_11 SM j_11).2 10) (((nI j_11) + 35 : Int32)).toNatClampNeg))) := by
          show bd_X8_notes_11  j_11 (it_X8_notes_11 SM j_11) = _; unfold bd_X8_notes_11; first | done | rfl
        refine ww_lsub [1, 0] rfl ?_
        exact ww_castI (fun u9 : St => fl [wX8 cI cZ cQ rM u9]) (fun (u9 : St) (i9 : Int32) => ([(0, .ref (rM 0)), (1, .int i9)] : List (Nat × Value))) h5 (ih (j_11 + 1) (by omega) K)
    refine ww_lsub [1, 0] rfl ?_
    refine L11 665 0 (by omega) ?_
    generalize hz6 : ((it_X8_notes_11 SM 665)) = z6
    refine ww_aload_n (pc := 39) X dX8_notes_39 0 rfl rfl ?_
    refine ww_dup (pc := 40) X dX8_notes_40 rfl ?_
    refine ww_get (pc := 41) (ci := 8) (v := .int (z6.1 2)) (C := RX8) (T := TX8) (N := 27) X inX8_notes_8 0 rfl rfl 13 (by decide) (by decide +kernel) rfl dX8_notes_41 ?_
    refine ww_iconst (pc := 44) (v := 1) X dX8_notes_44 (by decide) ?_
    refine ww_isub (pc := 45) X dX8_notes_45 ?_
    refine ww_put (pc := 46) (ci := 8) (v := .int ((z6.1 2) - 1)) (C := RX8) (T := TX8) (N := 27) (ws' := fl [wX8 cI cZ cQ rM (sI z6 2 ((z6.1 2) - 1))]) X inX8_notes_8 tyX8 tyX8_ok nmX8 0 rfl rfl 13 (by decide) (by decide +kernel) rfl rfl rfl (Nat.le_of_ble_eq_true rfl) (pt8a_2 _ _ _ _ _ _) dX8_notes_46 ?_
    have hdd : ∃ m : Nat, m < 20 ∧ (sI z6 2 ((z6.1 2) - 1)).1 2 = nI m := by first | exact nt_a n0 n1 (by assumption) | exact nt_b (by assumption) (by assumption)
    refine ww_iconst (pc := 49) (v := 0) X dX8_notes_49 (by decide) ?_
    refine ww_istore_n (pc := 50) (lv' := [(1, .int 0), (0, .ref (rM 0))]) X dX8_notes_50 rfl (by decide) rfl ?_
    have L51 : ∀ (k_51 j_51 : Nat), j_51 + k_51 = 35 → WW p l e (headSpec wsX8_notes { frames := 0, cells := 0, slots := 0, locals := 0 }).room s m args below meth c 2 D A 0 0 (RQv below args s D A (fl [wX8 cI cZ cQ rM (f_X8_notes SM)])) (fl [wX8 cI cZ cQ rM (it_X8_notes_51 (sI z6 2 ((z6.1 2) - 1)) 35)]) [(0, .ref (rM 0)), (1, .int (nI 35))] 83 [] → WW p l e (headSpec wsX8_notes { frames := 0, cells := 0, slots := 0, locals := 0 }).room s m args below meth c 2 D A 0 0 (RQv below args s D A (fl [wX8 cI cZ cQ rM (f_X8_notes SM)])) (fl [wX8 cI cZ cQ rM (it_X8_notes_51 (sI z6 2 ((z6.1 2) - 1)) j_51)]) [(0, .ref (rM 0)), (1, .int (nI j_51))] 51 [] := by
      intro k_51
      induction k_51 with
      | zero =>
        intro j_51 hj K
        have hjB : j_51 = 35 := by omega
        subst hjB
        refine ww_iload_n (pc := 51) X dX8_notes_51 1 rfl rfl ?_
        refine ww_bipush (pc := 52) (v := 35) X dX8_notes_52 (by decide) ?_
        exact ww_icmp_ge (pc := 54) (tgt := 83) X dX8_notes_54 (by decide) (fun _ => K) (fun c9 => absurd (lp_ge0 rfl (Nat.le_refl _) (by decide)) c9)
      | succ k_51 ih =>
        intro j_51 hj K
        have hjB : j_51 < 35 := by omega
        refine ww_iload_n (pc := 51) X dX8_notes_51 1 rfl rfl ?_
        refine ww_bipush (pc := 52) (v := 35) X dX8_notes_52 (by decide) ?_
        refine ww_icmp_ge (pc := 54) (tgt := 83) X dX8_notes_54 (by decide) (fun c9 => absurd c9 (lp_ge1 rfl hjB (by decide))) (fun _ => ?_)
        refine ww_aload_n (pc := 57) X dX8_notes_57 0 rfl rfl ?_
        refine ww_get (pc := 58) (ci := 8) (v := .ref (rM 11)) (C := RX8) (T := TX8) (N := 27) X inX8_notes_8 0 rfl rfl 12 (by decide) (by decide +kernel) rfl dX8_notes_58 ?_
        refine ww_bipush (pc := 61) (v := 35) X dX8_notes_61 (by decide) ?_
        refine ww_aload_n (pc := 63) X dX8_notes_63 0 rfl rfl ?_
        refine ww_get (pc := 64) (ci := 8) (v := .int ((it_X8_notes_51 (sI z6 2 ((z6.1 2) - 1)) j_51).1 2)) (C := RX8) (T := TX8) (N := 27) X inX8_notes_8 0 rfl rfl 13 (by decide) (by decide +kernel) rfl dX8_notes_64 ?_
        refine ww_imul (pc := 67) X dX8_notes_67 ?_
        refine ww_iload_n (pc := 68) X dX8_notes_68 1 rfl rfl ?_
        refine ww_iadd (pc := 69) X dX8_notes_69 ?_
        refine ww_aload_n (pc := 70) X dX8_notes_70 0 rfl rfl ?_
        refine ww_get (pc := 71) (ci := 8) (v := .ref (rM 10)) (C := RX8) (T := TX8) (N := 27) X inX8_notes_8 0 rfl rfl 11 (by decide) (by decide +kernel) rfl dX8_notes_71 ?_
        refine ww_iload_n (pc := 74) X dX8_notes_74 1 rfl rfl ?_
        refine ww_iald (pc := 75) (f := (it_X8_notes_51 (sI z6 2 ((z6.1 2) - 1)) j_51).2 9) X 10 0 rfl rfl (vn (m := j_51) rfl (by omega) (by decide)) dX8_notes_75 ?_
        refine ww_iast (pc := 76) (f := (it_X8_notes_51 (sI z6 2 ((z6.1 2) - 1)) j_51).2 10) (ws' := fl [wX8 cI cZ cQ rM (sA (it_X8_notes_51 (sI z6 2 ((z6.1 2) - 1)) j_51) 10 (upd ((it_X8_notes_51 (sI z6 2 ((z6.1 2) - 1)) j_51).2 10) (((35 * ((it_X8_notes_51 (sI z6 2 ((z6.1 2) - 1)) j_51).1 2)) + (nI j_51) : Int32)).toNatClampNeg (((it_X8_notes_51 (sI z6 2 ((z6.1 2) - 1)) j_51).2 9) (((nI j_51) : Int32)).toNatClampNeg)))]) X 11 0 rfl rfl (nt_in hdd (pr2_X8_notes_51 _ _) (by omega)) (st8a_10 _ _ _ _ _ _) dX8_notes_76 ?_
        refine ww_iinc (pc := 77) (v := (nI j_51) + 1) (lv' := [(1, .int ((nI j_51) + 1)), (0, .ref (rM 0))]) X dX8_notes_77 1 rfl rfl (by decide) rfl ?_
        refine ww_goto (pc := 80) (tgt := 51) X dX8_notes_80 (by decide) ?_
        have h7 : (it_X8_notes_51 (sI z6 2 ((z6.1 2) - 1)) (j_51 + 1)) = (sA (it_X8_notes_51 (sI z6 2 ((z6.1 2) - 1)) j_51) 10 (upd ((it_X8_notes_51 (sI z6 2 ((z6.1 2) - 1)) j_51).2 10) (((35 * ((it_X8_notes_51 (sI z6 2 ((z6.1 2) - 1)) j_51).1 2)) + (nI j_51) : Int32)).toNatClampNeg (((it_X8_notes_51 (sI z6 2 ((z6.1 2) - 1)) j_51).2 9) (((nI j_51) : Int32)).toNatClampNeg))) := by
          show bd_X8_notes_51  j_51 (it_X8_notes_51 (sI z6 2 ((z6.1 2) - 1)) j_51) = _; unfold bd_X8_notes_51; first | done | rfl
        refine ww_lsub [1, 0] rfl ?_
        exact ww_castI (fun u9 : St => fl [wX8 cI cZ cQ rM u9]) (fun (u9 : St) (i9 : Int32) => ([(0, .ref (rM 0)), (1, .int i9)] : List (Nat × Value))) h7 (ih (j_51 + 1) (by omega) K)
    refine ww_lsub [1, 0] rfl ?_
    refine L51 35 0 (by omega) ?_
    generalize hz8 : ((it_X8_notes_51 (sI z6 2 ((z6.1 2) - 1)) 35)) = z8
    refine ww_aload_n (pc := 83) X dX8_notes_83 0 rfl rfl ?_
    refine ww_dup (pc := 84) X dX8_notes_84 rfl ?_
    refine ww_get (pc := 85) (ci := 8) (v := .int (z8.1 2)) (C := RX8) (T := TX8) (N := 27) X inX8_notes_8 0 rfl rfl 13 (by decide) (by decide +kernel) rfl dX8_notes_85 ?_
    refine ww_iconst (pc := 88) (v := 1) X dX8_notes_88 (by decide) ?_
    refine ww_iadd (pc := 89) X dX8_notes_89 ?_
    refine ww_put (pc := 90) (ci := 8) (v := .int ((z8.1 2) + 1)) (C := RX8) (T := TX8) (N := 27) (ws' := fl [wX8 cI cZ cQ rM (sI z8 2 ((z8.1 2) + 1))]) X inX8_notes_8 tyX8 tyX8_ok nmX8 0 rfl rfl 13 (by decide) (by decide +kernel) rfl rfl rfl (Nat.le_of_ble_eq_true rfl) (pt8a_2 _ _ _ _ _ _) dX8_notes_90 ?_
    have h9 : f_X8_notes SM = (sI z8 2 ((z8.1 2) + 1)) := by unfold f_X8_notes; try rw [if_pos c1, hz6]; try unfold f_X8_notes_k2; try rw [hz8]; try unfold f_X8_notes_k3; first | done | rfl
    exact ww_vret X hr (congrArg (fun u9 : St => fl [wX8 cI cZ cQ rM u9]) h9.symm) dX8_notes_93
