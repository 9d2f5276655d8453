def bd_X8_notes_51  (j : Nat) (u : St) : St :=
  (sA u 10 (upd (u.2 10) (((35 * (u.1 2)) + (nI j) : Int32)).toNatClampNeg ((u.2 9) (((nI j) : Int32)).toNatClampNeg)))
def it_X8_notes_51  (u : St) : Nat → St
  | 0 => u
  | j + 1 => bd_X8_notes_51  j (it_X8_notes_51  u j)
def bd_X8_notes_11  (j : Nat) (u : St) : St :=
  (sA u 10 (upd (u.2 10) (((nI j) : Int32)).toNatClampNeg ((u.2 10) (((nI j) + 35 : Int32)).toNatClampNeg)))
def it_X8_notes_11  (u : St) : Nat → St
  | 0 => u
  | j + 1 => bd_X8_notes_11  j (it_X8_notes_11  u j)
def f_X8_notes_k3 (SM : St) (z6 : St) (z8 : St) : St :=
  (sI z8 2 ((z8.1 2) + 1))
def f_X8_notes_k2 (SM : St) (z6 : St) : St :=
  f_X8_notes_k3 SM z6 (it_X8_notes_51 (sI z6 2 ((z6.1 2) - 1)) 35)
def f_X8_notes_k1 (SM : St) (z3 : St) : St :=
  (sI z3 2 ((z3.1 2) + 1))
def f_X8_notes (SM : St) : St :=
  if (SM.1 2) = 20 then
    f_X8_notes_k2 SM (it_X8_notes_11 SM 665)
  else
    f_X8_notes_k1 SM (it_X8_notes_51 SM 35)
theorem pr2_X8_notes_51 (u : St) : ∀ j : Nat, (it_X8_notes_51 u j).1 = u.1
  | 0 => rfl
  | j + 1 => pr2_X8_notes_51 u j
theorem pr2_X8_notes_11 (u : St) : ∀ j : Nat, (it_X8_notes_11 u j).1 = u.1
  | 0 => rfl
  | j + 1 => pr2_X8_notes_11 u j
theorem nt_a {S : St} (h0 : ¬ (S.1 2) < 0) (h1 : S.1 2 ≤ 20) (c : ¬ S.1 2 = 20) : ∃ m : Nat, m < 20 ∧ S.1 2 = nI m := by
  obtain ⟨m, h2, h3⟩ := vp_in_of (vin_ne h0 h1 c (n := 20) rfl) (by decide)
  exact ⟨m, h2, h3⟩
theorem nt_b {S z : St} (c : S.1 2 = 20) (hz : it_X8_notes_11 S 665 = z) : ∃ m : Nat, m < 20 ∧ (sI z 2 ((z.1 2) - 1)).1 2 = nI m := by
  refine ⟨19, by decide, ?_⟩
  show z.1 2 - 1 = nI 19
  rw [← hz, pr2_X8_notes_11, c]
  rfl
theorem nt_c {S : St} (h0 : ¬ (S.1 2) < 0) (h1 : S.1 2 ≤ 20) (c : ¬ S.1 2 = 0) : ∃ m : Nat, m < 20 ∧ (sI S 2 ((S.1 2) - 1)).1 2 = nI m := by
  obtain ⟨j, hj, e⟩ := nI_of h0
  have h2 : j ≤ 20 := (nI_leI hj (by decide)).mp (by rw [← e]; exact h1)
  have h3 : j ≠ 0 := fun q => c (by rw [e, q]; rfl)
  refine ⟨j - 1, by omega, ?_⟩
  show S.1 2 - 1 = nI (j - 1)
  rw [e, show nI j = nI ((j - 1) + 1) by rw [show j - 1 + 1 = j by omega], nI_pred]
theorem nt_in {u v : St} {j : Nat} (h : ∃ m : Nat, m < 20 ∧ u.1 2 = nI m) (e : v.1 = u.1) (hj : j < 35) : vp_in ((35 * (v.1 2)) + (nI j)) 700 := by
  obtain ⟨m, h1, h2⟩ := h
  rw [e, h2, show (35 : Int32) = nI 35 from rfl, pk_mul, nI_add]
  exact vp_in_nI (by omega) (by decide)
theorem no_2 (u : St) (k : Nat) (hk : k ≠ 10) : (f_X8_notes u).2 k = u.2 k := by
  have h51 : ∀ (v : St) (j : Nat), (it_X8_notes_51 v j).2 k = v.2 k := fun v j => by
    induction j with
    | zero => rfl
    | succ j ih =>
      show (bd_X8_notes_51 j (it_X8_notes_51 v j)).2 k = _
      rw [← ih]
      exact if_neg hk
  have h11 : ∀ (v : St) (j : Nat), (it_X8_notes_11 v j).2 k = v.2 k := fun v j => by
    induction j with
    | zero => rfl
    | succ j ih =>
      show (bd_X8_notes_11 j (it_X8_notes_11 v j)).2 k = _
      rw [← ih]
      exact if_neg hk
  unfold f_X8_notes
  split
  · unfold f_X8_notes_k1 f_X8_notes_k2
    show (it_X8_notes_51 _ _).2 k = _
    rw [h51]
    show (it_X8_notes_11 _ _).2 k = _
    rw [h11]
  · unfold f_X8_notes_k3
    show (it_X8_notes_51 _ _).2 k = _
    rw [h51]
theorem up_w {S z : St} {x : Int32} (hz : f_X8_notes S = z) (h : okW S x) : okW z x := by
  subst hz
  unfold okW f_X8_isBelow
  rw [no_2 S 9 (by decide), no_2 S 2 (by decide)]
  exact h
theorem inX8_notes_8 : ∀ w ∈ wsX80, w ∈ wsX8_notes := by decide +kernel
theorem hd_X8_notes : yX8_notes.cls = RX8 ∧ yX8_notes.cls ≠ "java/lang/invoke/MethodHandle" ∧ yX8_notes.cls ≠ "java/lang/invoke/VarHandle" ∧ (parseMethodDescriptor yX8_notes.desc).map (fun d => d.parameters.length) = some 0 := by decide +kernel
set_option maxHeartbeats 4000000 in
set_option maxRecDepth 100000 in
theorem c_X8_notes (l : Launch) (D : va_G) (cI cZ cQ : ClassId) (rM : Nat → Nat) (SM : St) (n0 : ¬ (SM.1 2) < 0) (n1 : SM.1 2 ≤ 20) : Cv l yX8_notes wsX8_notes { frames := 0, cells := 0, slots := 0, locals := 0 } D (tyL cI cZ cQ) [.ref (rM 0)] (fl [wX8 cI cZ cQ rM SM]) (fl [wX8 cI cZ cQ rM (f_X8_notes SM)]) := by
  refine cv_of (cc := cX8_notes) (nL := 2) (lv0 := [(0, .ref (rM 0))]) (by decide) rfl (Nat.le_of_ble_eq_true rfl) rfl ?_
  intro p e s m args below meth c A X hr
  refine ww_aload_n (pc := 0) X dX8_notes_0 0 rfl rfl ?_
  refine ww_get (pc := 1) (ci := 8) (v := .int (SM.1 2)) (C := RX8) (T := TX8) (N := 27) X inX8_notes_8 0 rfl rfl 13 (by decide) (by decide +kernel) rfl dX8_notes_1 ?_
  refine ww_bipush (pc := 4) (v := 20) X dX8_notes_4 (by decide) ?_
  refine ww_icmp_ne (pc := 6) (tgt := 49) X dX8_notes_6 (by decide) (fun c1 => ?_) (fun c1 => ?_)
  · have hdd : ∃ m : Nat, m < 20 ∧ @SM.1 2 = nI m := by first | exact nt_a n0 n1 (by assumption) | exact nt_b (by assumption) (by assumption)
    refine ww_iconst (pc := 49) (v := 0) X dX8_notes_49 (by decide) ?_
    refine ww_istore_n (pc := 50) (lv' := [(1, .int 0), (0, .ref (rM 0))]) X dX8_notes_50 rfl (by decide) rfl ?_
    have L51 : ∀ (k_51 j_51 : Nat), j_51 + k_51 = 35 → WW p l e (headSpec wsX8_notes { frames := 0, cells := 0, slots := 0, locals := 0 }).room s m args below meth c 2 D A 0 0 (RQv below args s D A (fl [wX8 cI cZ cQ rM (f_X8_notes SM)])) (fl [wX8 cI cZ cQ rM (it_X8_notes_51 SM 35)]) [(0, .ref (rM 0)), (1, .int (nI 35))] 83 [] → WW p l e (headSpec wsX8_notes { frames := 0, cells := 0, slots := 0, locals := 0 }).room s m args below meth c 2 D A 0 0 (RQv below args s D A (fl [wX8 cI cZ cQ rM (f_X8_notes SM)])) (fl [wX8 cI cZ cQ rM (it_X8_notes_51 SM j_51)]) [(0, .ref (rM 0)), (1, .int (nI j_51))] 51 [] := by
      intro k_51
      induction k_51 with
      | zero =>
        intro j_51 hj K
        have hjB : j_51 = 35 := by omega
        subst hjB
        refine ww_iload_n (pc := 51) X dX8_notes_51 1 rfl rfl ?_
        refine ww_bipush (pc := 52) (v := 35) X dX8_notes_52 (by decide) ?_
        exact ww_icmp_ge (pc := 54) (tgt := 83) X dX8_notes_54 (by decide) (fun _ => K) (fun c9 => absurd (lp_ge0 rfl (Nat.le_refl _) (by decide)) c9)
      | succ k_51 ih =>
        intro j_51 hj K
        have hjB : j_51 < 35 := by omega
        refine ww_iload_n (pc := 51) X dX8_notes_51 1 rfl rfl ?_
        refine ww_bipush (pc := 52) (v := 35) X dX8_notes_52 (by decide) ?_
        refine ww_icmp_ge (pc := 54) (tgt := 83) X dX8_notes_54 (by decide) (fun c9 => absurd c9 (lp_ge1 rfl hjB (by decide))) (fun _ => ?_)
        refine ww_aload_n (pc := 57) X dX8_notes_57 0 rfl rfl ?_
        refine ww_get (pc := 58) (ci := 8) (v := .ref (rM 11)) (C := RX8) (T := TX8) (N := 27) X inX8_notes_8 0 rfl rfl 12 (by decide) (by decide +kernel) rfl dX8_notes_58 ?_
        refine ww_bipush (pc := 61) (v := 35) X dX8_notes_61 (by decide) ?_
        refine ww_aload_n (pc := 63) X dX8_notes_63 0 rfl rfl ?_
        refine ww_get (pc := 64) (ci := 8) (v := .int ((it_X8_notes_51 SM j_51).1 2)) (C := RX8) (T := TX8) (N := 27) X inX8_notes_8 0 rfl rfl 13 (by decide) (by decide +kernel) rfl dX8_notes_64 ?_
        refine ww_imul (pc := 67) X dX8_notes_67 ?_
        refine ww_iload_n (pc := 68) X dX8_notes_68 1 rfl rfl ?_
        refine ww_iadd (pc := 69) X dX8_notes_69 ?_
        refine ww_aload_n (pc := 70) X dX8_notes_70 0 rfl rfl ?_
        refine ww_get (pc := 71) (ci := 8) (v := .ref (rM 10)) (C := RX8) (T := TX8) (N := 27) X inX8_notes_8 0 rfl rfl 11 (by decide) (by decide +kernel) rfl dX8_notes_71 ?_
        refine ww_iload_n (pc := 74) X dX8_notes_74 1 rfl rfl ?_
        refine ww_iald (pc := 75) (f := (it_X8_notes_51 SM j_51).2 9) X 10 0 rfl rfl (vn (m := j_51) rfl (by omega) (by decide)) dX8_notes_75 ?_
        refine ww_iast (pc := 76) (f := (it_X8_notes_51 SM j_51).2 10) (ws' := fl [wX8 cI cZ cQ rM (sA (it_X8_notes_51 SM j_51) 10 (upd ((it_X8_notes_51 SM j_51).2 10) (((35 * ((it_X8_notes_51 SM j_51).1 2)) + (nI j_51) : Int32)).toNatClampNeg (((it_X8_notes_51 SM j_51).2 9) (((nI j_51) : Int32)).toNatClampNeg)))]) X 11 0 rfl rfl (nt_in hdd (pr2_X8_notes_51 _ _) (by omega)) rfl dX8_notes_76 ?_
        refine ww_iinc (pc := 77) (v := (nI j_51) + 1) (lv' := [(1, .int ((nI j_51) + 1)), (0, .ref (rM 0))]) X dX8_notes_77 1 rfl rfl (by decide) rfl ?_
        refine ww_goto (pc := 80) (tgt := 51) X dX8_notes_80 (by decide) ?_
        have h2 : (it_X8_notes_51 SM (j_51 + 1)) = (sA (it_X8_notes_51 SM j_51) 10 (upd ((it_X8_notes_51 SM j_51).2 10) (((35 * ((it_X8_notes_51 SM j_51).1 2)) + (nI j_51) : Int32)).toNatClampNeg (((it_X8_notes_51 SM j_51).2 9) (((nI j_51) : Int32)).toNatClampNeg))) := by
          show bd_X8_notes_51  j_51 (it_X8_notes_51 SM j_51) = _; unfold bd_X8_notes_51; first | done | rfl
        refine ww_lsub [1, 0] rfl ?_
        exact ww_castI (fun u9 : St => fl [wX8 cI cZ cQ rM u9]) (fun (u9 : St) (i9 : Int32) => ([(0, .ref (rM 0)), (1, .int i9)] : List (Nat × Value))) h2 (ih (j_51 + 1) (by omega) K)
    refine ww_lsub [1, 0] rfl ?_
    refine L51 35 0 (by omega) ?_
    generalize hz3 : ((it_X8_notes_51 SM 35)) = z3
    refine ww_aload_n (pc := 83) X dX8_notes_83 0 rfl rfl ?_
    refine ww_dup (pc := 84) X dX8_notes_84 rfl ?_
    refine ww_get (pc := 85) (ci := 8) (v := .int (z3.1 2)) (C := RX8) (T := TX8) (N := 27) X inX8_notes_8 0 rfl rfl 13 (by decide) (by decide +kernel) rfl dX8_notes_85 ?_
    refine ww_iconst (pc := 88) (v := 1) X dX8_notes_88 (by decide) ?_
    refine ww_iadd (pc := 89) X dX8_notes_89 ?_
    refine ww_put (pc := 90) (ci := 8) (v := .int ((z3.1 2) + 1)) (C := RX8) (T := TX8) (N := 27) (ws' := fl [wX8 cI cZ cQ rM (sI z3 2 ((z3.1 2) + 1))]) X inX8_notes_8 tyX8 tyX8_ok nmX8 0 rfl rfl 13 (by decide) (by decide +kernel) rfl rfl rfl (Nat.le_of_ble_eq_true rfl) rfl dX8_notes_90 ?_
    have h4 : f_X8_notes SM = (sI z3 2 ((z3.1 2) + 1)) := by unfold f_X8_notes; try rw [if_neg c1, hz3]; try unfold f_X8_notes_k1; first | done | rfl
    exact ww_vret X hr (congrArg (fun u9 : St => fl [wX8 cI cZ cQ rM u9]) h4.symm) dX8_notes_93
  · refine ww_iconst (pc := 9) (v := 0) X dX8_notes_9 (by decide) ?_
    refine ww_istore_n (pc := 10) (lv' := [(1, .int 0), (0, .ref (rM 0))]) X dX8_notes_10 rfl (by decide) rfl ?_
    have L11 : ∀ (k_11 j_11 : Nat), j_11 + k_11 = 665 → WW p l e (headSpec wsX8_notes { frames := 0, cells := 0, slots := 0, locals := 0 }).room s m args below meth c 2 D A 0 0 (RQv below args s D A (fl [wX8 cI cZ cQ rM (f_X8_notes SM)])) (fl [wX8 cI cZ cQ rM (it_X8_notes_11 SM 665)]) [(0, .ref (rM 0)), (1, .int (nI 665))] 39 [] → WW p l e (headSpec wsX8_notes { frames := 0, cells := 0, slots := 0, locals := 0 }).room s m args below meth c 2 D A 0 0 (RQv below args s D A (fl [wX8 cI cZ cQ rM (f_X8_notes SM)])) (fl [wX8 cI cZ cQ rM (it_X8_notes_11 SM j_11)]) [(0, .ref (rM 0)), (1, .int (nI j_11))] 11 [] := by
      intro k_11
      induction k_11 with
      | zero =>
        intro j_11 hj K
        have hjB : j_11 = 665 := by omega
        subst hjB
        refine ww_iload_n (pc := 11) X dX8_notes_11 1 rfl rfl ?_
        refine ww_sipush (pc := 12) (v := 665) X dX8_notes_12 (by decide) ?_
        exact ww_icmp_ge (pc := 15) (tgt := 39) X dX8_notes_15 (by decide) (fun _ => K) (fun c9 => absurd (lp_ge0 rfl (Nat.le_refl _) (by decide)) c9)
      | succ k_11 ih =>
        intro j_11 hj K
        have hjB : j_11 < 665 := by omega
        refine ww_iload_n (pc := 11) X dX8_notes_11 1 rfl rfl ?_
        refine ww_sipush (pc := 12) (v := 665) X dX8_notes_12 (by decide) ?_
        refine ww_icmp_ge (pc := 15) (tgt := 39) X dX8_notes_15 (by decide) (fun c9 => absurd c9 (lp_ge1 rfl hjB (by decide))) (fun _ => ?_)
        refine ww_aload_n (pc := 18) X dX8_notes_18 0 rfl rfl ?_
        refine ww_get (pc := 19) (ci := 8) (v := .ref (rM 11)) (C := RX8) (T := TX8) (N := 27) X inX8_notes_8 0 rfl rfl 12 (by decide) (by decide +kernel) rfl dX8_notes_19 ?_
        refine ww_iload_n (pc := 22) X dX8_notes_22 1 rfl rfl ?_
        refine ww_aload_n (pc := 23) X dX8_notes_23 0 rfl rfl ?_
        refine ww_get (pc := 24) (ci := 8) (v := .ref (rM 11)) (C := RX8) (T := TX8) (N := 27) X inX8_notes_8 0 rfl rfl 12 (by decide) (by decide +kernel) rfl dX8_notes_24 ?_
        refine ww_iload_n (pc := 27) X dX8_notes_27 1 rfl rfl ?_
        refine ww_bipush (pc := 28) (v := 35) X dX8_notes_28 (by decide) ?_
        refine ww_iadd (pc := 30) X dX8_notes_30 ?_
        refine ww_iald (pc := 31) (f := (it_X8_notes_11 SM j_11).2 10) X 11 0 rfl rfl (vn (m := j_11 + 35) (nat_iadd (a := j_11) (b := 35) rfl rfl) (by omega) (by decide)) dX8_notes_31 ?_
        refine ww_iast (pc := 32) (f := (it_X8_notes_11 SM j_11).2 10) (ws' := fl [wX8 cI cZ cQ rM (sA (it_X8_notes_11 SM j_11) 10 (upd ((it_X8_notes_11 SM j_11).2 10) (((nI j_11) : Int32)).toNatClampNeg (((it_X8_notes_11 SM j_11).2 10) (((nI j_11) + 35 : Int32)).toNatClampNeg)))]) X 11 0 rfl rfl (vn (m := j_11) rfl (by omega) (by decide)) rfl dX8_notes_32 ?_
        refine ww_iinc (pc := 33) (v := (nI j_11) + 1) (lv' := [(1, .int ((nI j_11) + 1)), (0, .ref (rM 0))]) X dX8_notes_33 1 rfl rfl (by decide) rfl ?_
        refine ww_goto (pc := 36) (tgt := 11) X dX8_notes_36 (by decide) ?_
        have h5 : (it_X8_notes_11 SM (j_11 + 1)) = (sA (it_X8_notes_11 SM j_11) 10 (upd ((it_X8_notes_11 SM j_11).2 10) (((nI j_11) : Int32)).toNatClampNeg (((it_X8_notes_11 SM j_11).2 10) (((nI j_11) + 35 : Int32)).toNatClampNeg))) := by
          show bd_X8_notes_11  j_11 (it_X8_notes_11 SM j_11) = _; unfold bd_X8_notes_11; first | done | rfl
        refine ww_lsub [1, 0] rfl ?_
        exact ww_castI (fun u9 : St => fl [wX8 cI cZ cQ rM u9]) (fun (u9 : St) (i9 : Int32) => ([(0, .ref (rM 0)), (1, .int i9)] : List (Nat × Value))) h5 (ih (j_11 + 1) (by omega) K)
    refine ww_lsub [1, 0] rfl ?_
    refine L11 665 0 (by omega) ?_
    generalize hz6 : ((it_X8_notes_11 SM 665)) = z6
    refine ww_aload_n (pc := 39) X dX8_notes_39 0 rfl rfl ?_
    refine ww_dup (pc := 40) X dX8_notes_40 rfl ?_
    refine ww_get (pc := 41) (ci := 8) (v := .int (z6.1 2)) (C := RX8) (T := TX8) (N := 27) X inX8_notes_8 0 rfl rfl 13 (by decide) (by decide +kernel) rfl dX8_notes_41 ?_
    refine ww_iconst (pc := 44) (v := 1) X dX8_notes_44 (by decide) ?_
    refine ww_isub (pc := 45) X dX8_notes_45 ?_
    refine ww_put (pc := 46) (ci := 8) (v := .int ((z6.1 2) - 1)) (C := RX8) (T := TX8) (N := 27) (ws' := fl [wX8 cI cZ cQ rM (sI z6 2 ((z6.1 2) - 1))]) X inX8_notes_8 tyX8 tyX8_ok nmX8 0 rfl rfl 13 (by decide) (by decide +kernel) rfl rfl rfl (Nat.le_of_ble_eq_true rfl) rfl dX8_notes_46 ?_
    have hdd : ∃ m : Nat, m < 20 ∧ @SM.1 2 = nI m := by first | exact nt_a n0 n1 (by assumption) | exact nt_b (by assumption) (by assumption)
    refine ww_iconst (pc := 49) (v := 0) X dX8_notes_49 (by decide) ?_
    refine ww_istore_n (pc := 50) (lv' := [(1, .int 0), (0, .ref (rM 0))]) X dX8_notes_50 rfl (by decide) rfl ?_
    have L51 : ∀ (k_51 j_51 : Nat), j_51 + k_51 = 35 → WW p l e (headSpec wsX8_notes { frames := 0, cells := 0, slots := 0, locals := 0 }).room s m args below meth c 2 D A 0 0 (RQv below args s D A (fl [wX8 cI cZ cQ rM (f_X8_notes SM)])) (fl [wX8 cI cZ cQ rM (it_X8_notes_51 (sI z6 2 ((z6.1 2) - 1)) 35)]) [(0, .ref (rM 0)), (1, .int (nI 35))] 83 [] → WW p l e (headSpec wsX8_notes { frames := 0, cells := 0, slots := 0, locals := 0 }).room s m args below meth c 2 D A 0 0 (RQv below args s D A (fl [wX8 cI cZ cQ rM (f_X8_notes SM)])) (fl [wX8 cI cZ cQ rM (it_X8_notes_51 (sI z6 2 ((z6.1 2) - 1)) j_51)]) [(0, .ref (rM 0)), (1, .int (nI j_51))] 51 [] := by
      intro k_51
      induction k_51 with
      | zero =>
        intro j_51 hj K
        have hjB : j_51 = 35 := by omega
        subst hjB
        refine ww_iload_n (pc := 51) X dX8_notes_51 1 rfl rfl ?_
        refine ww_bipush (pc := 52) (v := 35) X dX8_notes_52 (by decide) ?_
        exact ww_icmp_ge (pc := 54) (tgt := 83) X dX8_notes_54 (by decide) (fun _ => K) (fun c9 => absurd (lp_ge0 rfl (Nat.le_refl _) (by decide)) c9)
      | succ k_51 ih =>
        intro j_51 hj K
        have hjB : j_51 < 35 := by omega
        refine ww_iload_n (pc := 51) X dX8_notes_51 1 rfl rfl ?_
        refine ww_bipush (pc := 52) (v := 35) X dX8_notes_52 (by decide) ?_
        refine ww_icmp_ge (pc := 54) (tgt := 83) X dX8_notes_54 (by decide) (fun c9 => absurd c9 (lp_ge1 rfl hjB (by decide))) (fun _ => ?_)
        refine ww_aload_n (pc := 57) X dX8_notes_57 0 rfl rfl ?_
        refine ww_get (pc := 58) (ci := 8) (v := .ref (rM 11)) (C := RX8) (T := TX8) (N := 27) X inX8_notes_8 0 rfl rfl 12 (by decide) (by decide +kernel) rfl dX8_notes_58 ?_
        refine ww_bipush (pc := 61) (v := 35) X dX8_notes_61 (by decide) ?_
        refine ww_aload_n (pc := 63) X dX8_notes_63 0 rfl rfl ?_
        refine ww_get (pc := 64) (ci := 8) (v := .int ((it_X8_notes_51 (sI z6 2 ((z6.1 2) - 1)) j_51).1 2)) (C := RX8) (T := TX8) (N := 27) X inX8_notes_8 0 rfl rfl 13 (by decide) (by decide +kernel) rfl dX8_notes_64 ?_
        refine ww_imul (pc := 67) X dX8_notes_67 ?_
        refine ww_iload_n (pc := 68) X dX8_notes_68 1 rfl rfl ?_
        refine ww_iadd (pc := 69) X dX8_notes_69 ?_
        refine ww_aload_n (pc := 70) X dX8_notes_70 0 rfl rfl ?_
        refine ww_get (pc := 71) (ci := 8) (v := .ref (rM 10)) (C := RX8) (T := TX8) (N := 27) X inX8_notes_8 0 rfl rfl 11 (by decide) (by decide +kernel) rfl dX8_notes_71 ?_
        refine ww_iload_n (pc := 74) X dX8_notes_74 1 rfl rfl ?_
        refine ww_iald (pc := 75) (f := (it_X8_notes_51 (sI z6 2 ((z6.1 2) - 1)) j_51).2 9) X 10 0 rfl rfl (vn (m := j_51) rfl (by omega) (by decide)) dX8_notes_75 ?_
        refine ww_iast (pc := 76) (f := (it_X8_notes_51 (sI z6 2 ((z6.1 2) - 1)) j_51).2 10) (ws' := fl [wX8 cI cZ cQ rM (sA (it_X8_notes_51 (sI z6 2 ((z6.1 2) - 1)) j_51) 10 (upd ((it_X8_notes_51 (sI z6 2 ((z6.1 2) - 1)) j_51).2 10) (((35 * ((it_X8_notes_51 (sI z6 2 ((z6.1 2) - 1)) j_51).1 2)) + (nI j_51) : Int32)).toNatClampNeg (((it_X8_notes_51 (sI z6 2 ((z6.1 2) - 1)) j_51).2 9) (((nI j_51) : Int32)).toNatClampNeg)))]) X 11 0 rfl rfl (nt_in hdd (pr2_X8_notes_51 _ _) (by omega)) rfl dX8_notes_76 ?_
        refine ww_iinc (pc := 77) (v := (nI j_51) + 1) (lv' := [(1, .int ((nI j_51) + 1)), (0, .ref (rM 0))]) X dX8_notes_77 1 rfl rfl (by decide) rfl ?_
        refine ww_goto (pc := 80) (tgt := 51) X dX8_notes_80 (by decide) ?_
        have h7 : (it_X8_notes_51 (sI z6 2 ((z6.1 2) - 1)) (j_51 + 1)) = (sA (it_X8_notes_51 (sI z6 2 ((z6.1 2) - 1)) j_51) 10 (upd ((it_X8_notes_51 (sI z6 2 ((z6.1 2) - 1)) j_51).2 10) (((35 * ((it_X8_notes_51 (sI z6 2 ((z6.1 2) - 1)) j_51).1 2)) + (nI j_51) : Int32)).toNatClampNeg (((it_X8_notes_51 (sI z6 2 ((z6.1 2) - 1)) j_51).2 9) (((nI j_51) : Int32)).toNatClampNeg))) := by
          show bd_X8_notes_51  j_51 (it_X8_notes_51 (sI z6 2 ((z6.1 2) - 1)) j_51) = _; unfold bd_X8_notes_51; first | done | rfl
        refine ww_lsub [1, 0] rfl ?_
        exact ww_castI (fun u9 : St => fl [wX8 cI cZ cQ rM u9]) (fun (u9 : St) (i9 : Int32) => ([(0, .ref (rM 0)), (1, .int i9)] : List (Nat × Value))) h7 (ih (j_51 + 1) (by omega) K)
    refine ww_lsub [1, 0] rfl ?_
    refine L51 35 0 (by omega) ?_
    generalize hz8 : ((it_X8_notes_51 (sI z6 2 ((z6.1 2) - 1)) 35)) = z8
    refine ww_aload_n (pc := 83) X dX8_notes_83 0 rfl rfl ?_
    refine ww_dup (pc := 84) X dX8_notes_84 rfl ?_
    refine ww_get (pc := 85) (ci := 8) (v := .int (z8.1 2)) (C := RX8) (T := TX8) (N := 27) X inX8_notes_8 0 rfl rfl 13 (by decide) (by decide +kernel) rfl dX8_notes_85 ?_
    refine ww_iconst (pc := 88) (v := 1) X dX8_notes_88 (by decide) ?_
    refine ww_iadd (pc := 89) X dX8_notes_89 ?_
    refine ww_put (pc := 90) (ci := 8) (v := .int ((z8.1 2) + 1)) (C := RX8) (T := TX8) (N := 27) (ws' := fl [wX8 cI cZ cQ rM (sI z8 2 ((z8.1 2) + 1))]) X inX8_notes_8 tyX8 tyX8_ok nmX8 0 rfl rfl 13 (by decide) (by decide +kernel) rfl rfl rfl (Nat.le_of_ble_eq_true rfl) rfl dX8_notes_90 ?_
    have h9 : f_X8_notes SM = (sI z8 2 ((z8.1 2) + 1)) := by unfold f_X8_notes; try rw [if_pos c1, hz6]; try unfold f_X8_notes_k2; try rw [hz8]; try unfold f_X8_notes_k3; first | done | rfl
    exact ww_vret X hr (congrArg (fun u9 : St => fl [wX8 cI cZ cQ rM u9]) h9.symm) dX8_notes_93
def f_X8_later_k1 (SM : St) (x1 : Int32) (x2 : Int32) (z3 : Int32) : Int32 :=
  if ((SM.2 4) (((3 * x1) + 2 : Int32)).toNatClampNeg) < z3 then
    x2
  else
    z3
def f_X8_later (SM : St) (x1 : Int32) (x2 : Int32) : Int32 :=
  if ((SM.2 4) (((3 * x1) + 1 : Int32)).toNatClampNeg) ≤ 50 then
    f_X8_later_k1 SM x1 x2 (x2 + ((x2 * ((SM.2 4) (((3 * x1) + 1 : Int32)).toNatClampNeg)) / 100))
  else
    x2 - ((x2 * (((SM.2 4) (((3 * x1) + 1 : Int32)).toNatClampNeg) - 50)) / 100)
theorem inX8_later_8 : ∀ w ∈ wsX80, w ∈ wsX8_later := by decide +kernel
theorem hd_X8_later : yX8_later.cls = RX8 ∧ yX8_later.cls ≠ "java/lang/invoke/MethodHandle" ∧ yX8_later.cls ≠ "java/lang/invoke/VarHandle" ∧ (parseMethodDescriptor yX8_later.desc).map (fun d => d.parameters.length) = some 2 := by decide +kernel
set_option maxHeartbeats 4000000 in
set_option maxRecDepth 100000 in
theorem c_X8_later (l : Launch) (D : va_G) (cI cZ cQ : ClassId) (rM : Nat → Nat) (SM : St) (x1 : Int32) (x2 : Int32) (hg : vp_in x1 6) : Ci l yX8_later wsX8_later { frames := 0, cells := 0, slots := 0, locals := 0 } D (tyL cI cZ cQ) [.ref (rM 0), .int x1, .int x2] (fl [wX8 cI cZ cQ rM SM]) (f_X8_later SM x1 x2) (fl [wX8 cI cZ cQ rM SM]) := by
  refine ci_of (cc := cX8_later) (nL := 5) (ty := .int) (lv0 := [(0, .ref (rM 0)), (1, .int x1), (2, .int x2)]) (by decide) rfl (Nat.le_of_ble_eq_true rfl) rfl ?_
  intro p e s m args below meth c A X hr
  refine ww_aload_n (pc := 0) X dX8_later_0 0 rfl rfl ?_
  refine ww_get (pc := 1) (ci := 8) (v := .ref (rM 5)) (C := RX8) (T := TX8) (N := 27) X inX8_later_8 0 rfl rfl 6 (by decide) (by decide +kernel) rfl dX8_later_1 ?_
  refine ww_iconst (pc := 4) (v := 3) X dX8_later_4 (by decide) ?_
  refine ww_iload_n (pc := 5) X dX8_later_5 1 rfl rfl ?_
  have hb1 := clb hg
  refine ww_imul (pc := 6) X dX8_later_6 ?_
  refine ww_iconst (pc := 7) (v := 1) X dX8_later_7 (by decide) ?_
  refine ww_iadd (pc := 8) X dX8_later_8 ?_
  refine ww_iald (pc := 9) (f := SM.2 4) X 5 0 rfl rfl (vn (m := (3 * ((x1 : Int32).toNatClampNeg)) + 1) (nat_iadd (a := 3 * ((x1 : Int32).toNatClampNeg)) (b := 1) (nat_imul (a := 3) (b := (x1 : Int32).toNatClampNeg) rfl (cl_of hg)) rfl) (by omega) (by decide)) dX8_later_9 ?_
  refine ww_istore_n (pc := 10) (lv' := [(3, .int ((SM.2 4) (((3 * x1) + 1 : Int32)).toNatClampNeg)), (0, .ref (rM 0)), (1, .int x1), (2, .int x2)]) X dX8_later_10 rfl (by decide) rfl ?_
  refine ww_iload_n (pc := 11) X dX8_later_11 0 rfl rfl ?_
  refine ww_bipush (pc := 12) (v := 50) X dX8_later_12 (by decide) ?_
  refine ww_icmp_le (pc := 14) (tgt := 29) X dX8_later_14 (by decide) (fun c2 => ?_) (fun c2 => ?_)
  · refine ww_iload_n (pc := 29) X dX8_later_29 3 rfl rfl ?_
    refine ww_iload_n (pc := 30) X dX8_later_30 3 rfl rfl ?_
    refine ww_iload_n (pc := 31) X dX8_later_31 0 rfl rfl ?_
    refine ww_imul (pc := 32) X dX8_later_32 ?_
    refine ww_bipush (pc := 33) (v := 100) X dX8_later_33 (by decide) ?_
    refine ww_idiv (pc := 35) X dX8_later_35 (by decide) ?_
    refine ww_iadd (pc := 36) X dX8_later_36 ?_
    generalize hz3 : (x2 + ((x2 * ((SM.2 4) (((3 * x1) + 1 : Int32)).toNatClampNeg)) / 100)) = z3
    refine ww_istore (pc := 37) (lv' := [(4, .int z3), (3, .int ((SM.2 4) (((3 * x1) + 1 : Int32)).toNatClampNeg)), (0, .ref (rM 0)), (1, .int x1), (2, .int x2)]) X dX8_later_37 (by decide) rfl ?_
    refine ww_iload (pc := 39) X dX8_later_39 0 rfl ?_
    refine ww_aload_n (pc := 41) X dX8_later_41 2 rfl rfl ?_
    refine ww_get (pc := 42) (ci := 8) (v := .ref (rM 5)) (C := RX8) (T := TX8) (N := 27) X inX8_later_8 0 rfl rfl 6 (by decide) (by decide +kernel) rfl dX8_later_42 ?_
    refine ww_iconst (pc := 45) (v := 3) X dX8_later_45 (by decide) ?_
    refine ww_iload_n (pc := 46) X dX8_later_46 3 rfl rfl ?_
    refine ww_imul (pc := 47) X dX8_later_47 ?_
    refine ww_iconst (pc := 48) (v := 2) X dX8_later_48 (by decide) ?_
    refine ww_iadd (pc := 49) X dX8_later_49 ?_
    refine ww_iald (pc := 50) (f := SM.2 4) X 5 0 rfl rfl (vn (m := (3 * ((x1 : Int32).toNatClampNeg)) + 2) (nat_iadd (a := 3 * ((x1 : Int32).toNatClampNeg)) (b := 2) (nat_imul (a := 3) (b := (x1 : Int32).toNatClampNeg) rfl (cl_of hg)) rfl) (by omega) (by decide)) dX8_later_50 ?_
    refine ww_icmp_gt (pc := 51) (tgt := 59) X dX8_later_51 (by decide) (fun c4 => ?_) (fun c4 => ?_)
    · refine ww_iload_n (pc := 59) X dX8_later_59 4 rfl rfl ?_
      exact ww_iret X hr rfl (Eq.symm (by unfold f_X8_later; try rw [if_pos c2, hz3]; try unfold f_X8_later_k1; try rw [if_pos c4]; first | done | rfl)) rfl dX8_later_60
    · refine ww_iload (pc := 54) X dX8_later_54 0 rfl ?_
      refine ww_goto (pc := 56) (tgt := 60) X dX8_later_56 (by decide) ?_
      exact ww_iret X hr rfl (Eq.symm (by unfold f_X8_later; try rw [if_pos c2, hz3]; try unfold f_X8_later_k1; try rw [if_neg c4]; first | done | rfl)) rfl dX8_later_60
  · refine ww_iload_n (pc := 17) X dX8_later_17 3 rfl rfl ?_
    refine ww_iload_n (pc := 18) X dX8_later_18 3 rfl rfl ?_
    refine ww_iload_n (pc := 19) X dX8_later_19 0 rfl rfl ?_
    refine ww_bipush (pc := 20) (v := 50) X dX8_later_20 (by decide) ?_
    refine ww_isub (pc := 22) X dX8_later_22 ?_
    refine ww_imul (pc := 23) X dX8_later_23 ?_
    refine ww_bipush (pc := 24) (v := 100) X dX8_later_24 (by decide) ?_
    refine ww_idiv (pc := 26) X dX8_later_26 (by decide) ?_
    refine ww_isub (pc := 27) X dX8_later_27 ?_
    exact ww_iret X hr rfl (Eq.symm (by unfold f_X8_later; try rw [if_neg c2]; first | done | rfl)) rfl dX8_later_28
def bd_X8_passes_2  (j : Nat) (u : St) : St :=
  if (f_X8_isAbove u (nI j)) = 0 then
    if (f_X8_isBelow u (nI j)) = 0 then
      u
    else
      (sA u 9 (upd (upd (u.2 9) ((15 + (nI j) : Int32)).toNatClampNeg (((u.2 9) ((15 + (nI j) : Int32)).toNatClampNeg) + 1)) ((22 + (nI j) : Int32)).toNatClampNeg (((upd (u.2 9) ((15 + (nI j) : Int32)).toNatClampNeg (((u.2 9) ((15 + (nI j) : Int32)).toNatClampNeg) + 1)) ((22 + (nI j) : Int32)).toNatClampNeg) + 1)))
  else
    if ((upd (u.2 9) ((1 + (nI j) : Int32)).toNatClampNeg (((u.2 9) ((1 + (nI j) : Int32)).toNatClampNeg) + 1)) ((1 + (nI j) : Int32)).toNatClampNeg) < (f_X8_end (sA u 9 (upd (u.2 9) ((1 + (nI j) : Int32)).toNatClampNeg (((u.2 9) ((1 + (nI j) : Int32)).toNatClampNeg) + 1))) (nI j)) then
      (sA u 9 (upd (upd (u.2 9) ((1 + (nI j) : Int32)).toNatClampNeg (((u.2 9) ((1 + (nI j) : Int32)).toNatClampNeg) + 1)) ((8 + (nI j) : Int32)).toNatClampNeg 0))
    else
      (sA u 9 (upd (upd (u.2 9) ((1 + (nI j) : Int32)).toNatClampNeg (((u.2 9) ((1 + (nI j) : Int32)).toNatClampNeg) + 1)) ((8 + (nI j) : Int32)).toNatClampNeg 1))
def it_X8_passes_2  (u : St) : Nat → St
  | 0 => u
  | j + 1 => bd_X8_passes_2  j (it_X8_passes_2  u j)
theorem pr_X8_passes_2  (u : St) : ∀ j : Nat, (it_X8_passes_2  u j).2 1 = u.2 1
  | 0 => rfl
  | j + 1 => by
    have ih := pr_X8_passes_2  u j
    show (bd_X8_passes_2  j (it_X8_passes_2  u j)).2 1 = _
    generalize it_X8_passes_2  u j = v at ih ⊢
    unfold bd_X8_passes_2
    first | exact ih | (repeat' split) <;> exact ih
def bd_X8_passes_107  (j : Nat) (u : St) : St :=
  (sA u 9 (upd (u.2 9) ((29 + (nI j) : Int32)).toNatClampNeg (f_X8_later u (nI j) ((u.2 9) ((29 + (nI j) : Int32)).toNatClampNeg))))
def it_X8_passes_107  (u : St) : Nat → St
  | 0 => u
  | j + 1 => bd_X8_passes_107  j (it_X8_passes_107  u j)
theorem pr_X8_passes_107  (u : St) : ∀ j : Nat, (it_X8_passes_107  u j).2 1 = u.2 1
  | 0 => rfl
  | j + 1 => by
    have ih := pr_X8_passes_107  u j
    show (bd_X8_passes_107  j (it_X8_passes_107  u j)).2 1 = _
    generalize it_X8_passes_107  u j = v at ih ⊢
    unfold bd_X8_passes_107
    first | exact ih | (repeat' split) <;> exact ih
def f_X8_passes_k2 (SM : St) (z11 : St) (z13 : St) : St :=
  (sA z13 9 (upd (z13.2 9) ((0 : Int32)).toNatClampNeg (((z13.2 9) ((0 : Int32)).toNatClampNeg) + 1)))
def f_X8_passes_k1 (SM : St) (z11 : St) : St :=
  f_X8_passes_k2 SM z11 (it_X8_passes_107 z11 (((z11.2 1) ((4 : Int32)).toNatClampNeg).toNatClampNeg))
def f_X8_passes (SM : St) : St :=
  f_X8_passes_k1 SM (it_X8_passes_2 SM (((SM.2 1) ((3 : Int32)).toNatClampNeg).toNatClampNeg))
theorem pa_2 (S : St) (k : Nat) (hk : k ≠ 9) : (f_X8_passes S).2 k = S.2 k := by
  have h2 : ∀ (v : St) (j : Nat), (it_X8_passes_2 v j).2 k = v.2 k := fun v j => by
    induction j with
    | zero => rfl
    | succ j ih =>
      show (bd_X8_passes_2 j (it_X8_passes_2 v j)).2 k = _
      rw [← ih]
      generalize it_X8_passes_2 v j = w
      unfold bd_X8_passes_2
      repeat' split
      all_goals first | rfl | exact if_neg hk
  have h1 : ∀ (v : St) (j : Nat), (it_X8_passes_107 v j).2 k = v.2 k := fun v j => by
    induction j with
    | zero => rfl
    | succ j ih =>
      show (bd_X8_passes_107 j (it_X8_passes_107 v j)).2 k = _
      rw [← ih]
      exact if_neg hk
  unfold f_X8_passes f_X8_passes_k1 f_X8_passes_k2
  refine (if_neg hk).trans ?_
  rw [h1, h2]
theorem yr_1x (S : St) : (f_X8_passes S).2 1 = S.2 1 := pa_2 S 1 (by decide)
theorem inX8_passes_8 : ∀ w ∈ wsX80, w ∈ wsX8_passes := by decide +kernel
theorem hd_X8_passes : yX8_passes.cls = RX8 ∧ yX8_passes.cls ≠ "java/lang/invoke/MethodHandle" ∧ yX8_passes.cls ≠ "java/lang/invoke/VarHandle" ∧ (parseMethodDescriptor yX8_passes.desc).map (fun d => d.parameters.length) = some 0 := by decide +kernel
set_option maxHeartbeats 4000000 in
set_option maxRecDepth 100000 in
theorem c_X8_passes (l : Launch) (D : va_G) (cI cZ cQ : ClassId) (rM : Nat → Nat) (SM : St) (okM : okM SM) : Cv l yX8_passes wsX8_passes { frames := 1, cells := 0, slots := 0, locals := 24 } D (tyL cI cZ cQ) [.ref (rM 0)] (fl [wX8 cI cZ cQ rM SM]) (fl [wX8 cI cZ cQ rM (f_X8_passes SM)]) := by
  refine cv_of (cc := cX8_passes) (nL := 2) (lv0 := [(0, .ref (rM 0))]) (by decide) rfl (Nat.le_of_ble_eq_true rfl) rfl ?_
  intro p e s m args below meth c A X hr
  refine ww_iconst (pc := 0) (v := 0) X dX8_passes_0 (by decide) ?_
  refine ww_istore_n (pc := 1) (lv' := [(1, .int 0), (0, .ref (rM 0))]) X dX8_passes_1 rfl (by decide) rfl ?_
  have L2 : ∀ (k_2 j_2 : Nat), j_2 + k_2 = ((SM.2 1) ((3 : Int32)).toNatClampNeg).toNatClampNeg → WW p l e (headSpec wsX8_passes { frames := 1, cells := 0, slots := 0, locals := 24 }).room s m args below meth c 2 D A 0 0 (RQv below args s D A (fl [wX8 cI cZ cQ rM (f_X8_passes SM)])) (fl [wX8 cI cZ cQ rM (it_X8_passes_2 SM (((SM.2 1) ((3 : Int32)).toNatClampNeg).toNatClampNeg))]) [(0, .ref (rM 0)), (1, .int (nI (((SM.2 1) ((3 : Int32)).toNatClampNeg).toNatClampNeg)))] 105 [] → WW p l e (headSpec wsX8_passes { frames := 1, cells := 0, slots := 0, locals := 24 }).room s m args below meth c 2 D A 0 0 (RQv below args s D A (fl [wX8 cI cZ cQ rM (f_X8_passes SM)])) (fl [wX8 cI cZ cQ rM (it_X8_passes_2 SM j_2)]) [(0, .ref (rM 0)), (1, .int (nI j_2))] 2 [] := by
    intro k_2
    induction k_2 with
    | zero =>
      intro j_2 hj K
      have hjB : j_2 = ((SM.2 1) ((3 : Int32)).toNatClampNeg).toNatClampNeg := by omega
      subst hjB
      refine ww_iload_n (pc := 2) X dX8_passes_2 1 rfl rfl ?_
      refine ww_aload_n (pc := 3) X dX8_passes_3 0 rfl rfl ?_
      refine ww_get (pc := 4) (ci := 8) (v := .ref (rM 2)) (C := RX8) (T := TX8) (N := 27) X inX8_passes_8 0 rfl rfl 3 (by decide) (by decide +kernel) rfl dX8_passes_4 ?_
      refine ww_iconst (pc := 7) (v := 3) X dX8_passes_7 (by decide) ?_
      refine ww_iald (pc := 8) (f := (it_X8_passes_2 SM (((SM.2 1) ((3 : Int32)).toNatClampNeg).toNatClampNeg)).2 1) X 2 0 rfl rfl (vl_in (by decide)) dX8_passes_8 ?_
      exact ww_icmp_ge (pc := 9) (tgt := 105) X dX8_passes_9 (by decide) (fun _ => K) (fun c9 => absurd (lp_ge0e (congrFun (pr_X8_passes_2 SM (((SM.2 1) ((3 : Int32)).toNatClampNeg).toNatClampNeg)) _) (Nat.le_refl _) (cl_lt _)) c9)
    | succ k_2 ih =>
      intro j_2 hj K
      have hjB : j_2 < ((SM.2 1) ((3 : Int32)).toNatClampNeg).toNatClampNeg := by omega
      have h7_2 := okM_p okM
      refine ww_iload_n (pc := 2) X dX8_passes_2 1 rfl rfl ?_
      refine ww_aload_n (pc := 3) X dX8_passes_3 0 rfl rfl ?_
      refine ww_get (pc := 4) (ci := 8) (v := .ref (rM 2)) (C := RX8) (T := TX8) (N := 27) X inX8_passes_8 0 rfl rfl 3 (by decide) (by decide +kernel) rfl dX8_passes_4 ?_
      refine ww_iconst (pc := 7) (v := 3) X dX8_passes_7 (by decide) ?_
      refine ww_iald (pc := 8) (f := (it_X8_passes_2 SM j_2).2 1) X 2 0 rfl rfl (vl_in (by decide)) dX8_passes_8 ?_
      refine ww_icmp_ge (pc := 9) (tgt := 105) X dX8_passes_9 (by decide) (fun c9 => absurd c9 (lp_ge1e (congrFun (pr_X8_passes_2 SM j_2) _) hjB)) (fun _ => ?_)
      refine ww_aload_n (pc := 12) X dX8_passes_12 0 rfl rfl ?_
      refine ww_iload_n (pc := 13) X dX8_passes_13 1 rfl rfl ?_
      refine ww_gVi (pc := 14) (rest := []) (gsN := [wX8 cI cZ cQ rM (it_X8_passes_2 SM j_2)]) (ci := 8) (gi := 0) (qi := 0) X (c_X8_isAbove l D cI cZ cQ rM (it_X8_passes_2 SM j_2) (nI j_2) (vn (m := j_2) rfl (by omega) (by decide))) gX8_passes_X8_isAbove rfl hd_X8_isAbove [true] rfl rfl rfl rfl rfl rfl rfl rfl ⟨rfl, rfl⟩ ⟨Nat.le_of_ble_eq_true rfl, Nat.le_of_ble_eq_true rfl⟩ (Nat.le_of_ble_eq_true rfl) ⟨Nat.zero_le _, Nat.zero_le _⟩ dX8_passes_14 ?_
      refine ww_if_eq (pc := 17) (tgt := 65) X dX8_passes_17 (by decide) (fun c4 => ?_) (fun c4 => ?_)
      · refine ww_aload_n (pc := 65) X dX8_passes_65 0 rfl rfl ?_
        refine ww_iload_n (pc := 66) X dX8_passes_66 1 rfl rfl ?_
        refine ww_gVi (pc := 67) (rest := []) (gsN := [wX8 cI cZ cQ rM (it_X8_passes_2 SM j_2)]) (ci := 8) (gi := 0) (qi := 0) X (c_X8_isBelow l D cI cZ cQ rM (it_X8_passes_2 SM j_2) (nI j_2) (vn (m := j_2) rfl (by omega) (by decide))) gX8_passes_X8_isBelow rfl hd_X8_isBelow [true] rfl rfl rfl rfl rfl rfl rfl rfl ⟨rfl, rfl⟩ ⟨Nat.le_of_ble_eq_true rfl, Nat.le_of_ble_eq_true rfl⟩ (Nat.le_of_ble_eq_true rfl) ⟨Nat.zero_le _, Nat.zero_le _⟩ dX8_passes_67 ?_
        refine ww_if_eq (pc := 70) (tgt := 99) X dX8_passes_70 (by decide) (fun c5 => ?_) (fun c5 => ?_)
        · refine ww_iinc (pc := 99) (v := (nI j_2) + 1) (lv' := [(1, .int ((nI j_2) + 1)), (0, .ref (rM 0))]) X dX8_passes_99 1 rfl rfl (by decide) rfl ?_
          refine ww_goto (pc := 102) (tgt := 2) X dX8_passes_102 (by decide) ?_
          have h6 : (it_X8_passes_2 SM (j_2 + 1)) = (it_X8_passes_2 SM j_2) := by
            show bd_X8_passes_2  j_2 (it_X8_passes_2 SM j_2) = _; unfold bd_X8_passes_2; try rw [if_pos c4, if_pos c5]; first | done | rfl
          refine ww_lsub [1, 0] rfl ?_
          exact ww_castI (fun u9 : St => fl [wX8 cI cZ cQ rM u9]) (fun (u9 : St) (i9 : Int32) => ([(0, .ref (rM 0)), (1, .int i9)] : List (Nat × Value))) h6 (ih (j_2 + 1) (by omega) K)
        · refine ww_aload_n (pc := 73) X dX8_passes_73 0 rfl rfl ?_
          refine ww_get (pc := 74) (ci := 8) (v := .ref (rM 10)) (C := RX8) (T := TX8) (N := 27) X inX8_passes_8 0 rfl rfl 11 (by decide) (by decide +kernel) rfl dX8_passes_74 ?_
          refine ww_bipush (pc := 77) (v := 15) X dX8_passes_77 (by decide) ?_
          refine ww_iload_n (pc := 79) X dX8_passes_79 1 rfl rfl ?_
          refine ww_iadd (pc := 80) X dX8_passes_80 ?_
          refine ww_dup2_11 (pc := 81) X dX8_passes_81 rfl rfl ?_
          refine ww_iald (pc := 82) (f := (it_X8_passes_2 SM j_2).2 9) X 10 0 rfl rfl (vn (m := 15 + j_2) (nat_iadd (a := 15) (b := j_2) rfl rfl) (by omega) (by decide)) dX8_passes_82 ?_
          refine ww_iconst (pc := 83) (v := 1) X dX8_passes_83 (by decide) ?_
          refine ww_iadd (pc := 84) X dX8_passes_84 ?_
          refine ww_iast (pc := 85) (f := (it_X8_passes_2 SM j_2).2 9) (ws' := fl [wX8 cI cZ cQ rM (sA (it_X8_passes_2 SM j_2) 9 (upd ((it_X8_passes_2 SM j_2).2 9) ((15 + (nI j_2) : Int32)).toNatClampNeg ((((it_X8_passes_2 SM j_2).2 9) ((15 + (nI j_2) : Int32)).toNatClampNeg) + 1)))]) X 10 0 rfl rfl (vn (m := 15 + j_2) (nat_iadd (a := 15) (b := j_2) rfl rfl) (by omega) (by decide)) rfl dX8_passes_85 ?_
          refine ww_aload_n (pc := 86) X dX8_passes_86 0 rfl rfl ?_
          refine ww_get (pc := 87) (ci := 8) (v := .ref (rM 10)) (C := RX8) (T := TX8) (N := 27) X inX8_passes_8 0 rfl rfl 11 (by decide) (by decide +kernel) rfl dX8_passes_87 ?_
          refine ww_bipush (pc := 90) (v := 22) X dX8_passes_90 (by decide) ?_
          refine ww_iload_n (pc := 92) X dX8_passes_92 1 rfl rfl ?_
          refine ww_iadd (pc := 93) X dX8_passes_93 ?_
          refine ww_dup2_11 (pc := 94) X dX8_passes_94 rfl rfl ?_
          refine ww_iald (pc := 95) (f := upd ((it_X8_passes_2 SM j_2).2 9) ((15 + (nI j_2) : Int32)).toNatClampNeg ((((it_X8_passes_2 SM j_2).2 9) ((15 + (nI j_2) : Int32)).toNatClampNeg) + 1)) X 10 0 rfl rfl (vn (m := 22 + j_2) (nat_iadd (a := 22) (b := j_2) rfl rfl) (by omega) (by decide)) dX8_passes_95 ?_
          refine ww_iconst (pc := 96) (v := 1) X dX8_passes_96 (by decide) ?_
          refine ww_iadd (pc := 97) X dX8_passes_97 ?_
          refine ww_iast (pc := 98) (f := upd ((it_X8_passes_2 SM j_2).2 9) ((15 + (nI j_2) : Int32)).toNatClampNeg ((((it_X8_passes_2 SM j_2).2 9) ((15 + (nI j_2) : Int32)).toNatClampNeg) + 1)) (ws' := fl [wX8 cI cZ cQ rM (sA (it_X8_passes_2 SM j_2) 9 (upd (upd ((it_X8_passes_2 SM j_2).2 9) ((15 + (nI j_2) : Int32)).toNatClampNeg ((((it_X8_passes_2 SM j_2).2 9) ((15 + (nI j_2) : Int32)).toNatClampNeg) + 1)) ((22 + (nI j_2) : Int32)).toNatClampNeg (((upd ((it_X8_passes_2 SM j_2).2 9) ((15 + (nI j_2) : Int32)).toNatClampNeg ((((it_X8_passes_2 SM j_2).2 9) ((15 + (nI j_2) : Int32)).toNatClampNeg) + 1)) ((22 + (nI j_2) : Int32)).toNatClampNeg) + 1)))]) X 10 0 rfl rfl (vn (m := 22 + j_2) (nat_iadd (a := 22) (b := j_2) rfl rfl) (by omega) (by decide)) rfl dX8_passes_98 ?_
          refine ww_iinc (pc := 99) (v := (nI j_2) + 1) (lv' := [(1, .int ((nI j_2) + 1)), (0, .ref (rM 0))]) X dX8_passes_99 1 rfl rfl (by decide) rfl ?_
          refine ww_goto (pc := 102) (tgt := 2) X dX8_passes_102 (by decide) ?_
          have h7 : (it_X8_passes_2 SM (j_2 + 1)) = (sA (it_X8_passes_2 SM j_2) 9 (upd (upd ((it_X8_passes_2 SM j_2).2 9) ((15 + (nI j_2) : Int32)).toNatClampNeg ((((it_X8_passes_2 SM j_2).2 9) ((15 + (nI j_2) : Int32)).toNatClampNeg) + 1)) ((22 + (nI j_2) : Int32)).toNatClampNeg (((upd ((it_X8_passes_2 SM j_2).2 9) ((15 + (nI j_2) : Int32)).toNatClampNeg ((((it_X8_passes_2 SM j_2).2 9) ((15 + (nI j_2) : Int32)).toNatClampNeg) + 1)) ((22 + (nI j_2) : Int32)).toNatClampNeg) + 1))) := by
            show bd_X8_passes_2  j_2 (it_X8_passes_2 SM j_2) = _; unfold bd_X8_passes_2; try rw [if_pos c4, if_neg c5]; first | done | rfl
          refine ww_lsub [1, 0] rfl ?_
          exact ww_castI (fun u9 : St => fl [wX8 cI cZ cQ rM u9]) (fun (u9 : St) (i9 : Int32) => ([(0, .ref (rM 0)), (1, .int i9)] : List (Nat × Value))) h7 (ih (j_2 + 1) (by omega) K)
      · refine ww_aload_n (pc := 20) X dX8_passes_20 0 rfl rfl ?_
        refine ww_get (pc := 21) (ci := 8) (v := .ref (rM 10)) (C := RX8) (T := TX8) (N := 27) X inX8_passes_8 0 rfl rfl 11 (by decide) (by decide +kernel) rfl dX8_passes_21 ?_
        refine ww_iconst (pc := 24) (v := 1) X dX8_passes_24 (by decide) ?_
        refine ww_iload_n (pc := 25) X dX8_passes_25 1 rfl rfl ?_
        refine ww_iadd (pc := 26) X dX8_passes_26 ?_
        refine ww_dup2_11 (pc := 27) X dX8_passes_27 rfl rfl ?_
        refine ww_iald (pc := 28) (f := (it_X8_passes_2 SM j_2).2 9) X 10 0 rfl rfl (vn (m := 1 + j_2) (nat_iadd (a := 1) (b := j_2) rfl rfl) (by omega) (by decide)) dX8_passes_28 ?_
        refine ww_iconst (pc := 29) (v := 1) X dX8_passes_29 (by decide) ?_
        refine ww_iadd (pc := 30) X dX8_passes_30 ?_
        refine ww_iast (pc := 31) (f := (it_X8_passes_2 SM j_2).2 9) (ws' := fl [wX8 cI cZ cQ rM (sA (it_X8_passes_2 SM j_2) 9 (upd ((it_X8_passes_2 SM j_2).2 9) ((1 + (nI j_2) : Int32)).toNatClampNeg ((((it_X8_passes_2 SM j_2).2 9) ((1 + (nI j_2) : Int32)).toNatClampNeg) + 1)))]) X 10 0 rfl rfl (vn (m := 1 + j_2) (nat_iadd (a := 1) (b := j_2) rfl rfl) (by omega) (by decide)) rfl dX8_passes_31 ?_
        refine ww_aload_n (pc := 32) X dX8_passes_32 0 rfl rfl ?_
        refine ww_get (pc := 33) (ci := 8) (v := .ref (rM 10)) (C := RX8) (T := TX8) (N := 27) X inX8_passes_8 0 rfl rfl 11 (by decide) (by decide +kernel) rfl dX8_passes_33 ?_
        refine ww_bipush (pc := 36) (v := 8) X dX8_passes_36 (by decide) ?_
        refine ww_iload_n (pc := 38) X dX8_passes_38 1 rfl rfl ?_
        refine ww_iadd (pc := 39) X dX8_passes_39 ?_
        refine ww_aload_n (pc := 40) X dX8_passes_40 0 rfl rfl ?_
        refine ww_get (pc := 41) (ci := 8) (v := .ref (rM 10)) (C := RX8) (T := TX8) (N := 27) X inX8_passes_8 0 rfl rfl 11 (by decide) (by decide +kernel) rfl dX8_passes_41 ?_
        refine ww_iconst (pc := 44) (v := 1) X dX8_passes_44 (by decide) ?_
        refine ww_iload_n (pc := 45) X dX8_passes_45 1 rfl rfl ?_
        refine ww_iadd (pc := 46) X dX8_passes_46 ?_
        refine ww_iald (pc := 47) (f := upd ((it_X8_passes_2 SM j_2).2 9) ((1 + (nI j_2) : Int32)).toNatClampNeg ((((it_X8_passes_2 SM j_2).2 9) ((1 + (nI j_2) : Int32)).toNatClampNeg) + 1)) X 10 0 rfl rfl (vn (m := 1 + j_2) (nat_iadd (a := 1) (b := j_2) rfl rfl) (by omega) (by decide)) dX8_passes_47 ?_
        refine ww_aload_n (pc := 48) X dX8_passes_48 0 rfl rfl ?_
        refine ww_iload_n (pc := 49) X dX8_passes_49 1 rfl rfl ?_
        refine ww_gVi (pc := 50) (rest := [.int ((upd ((it_X8_passes_2 SM j_2).2 9) ((1 + (nI j_2) : Int32)).toNatClampNeg ((((it_X8_passes_2 SM j_2).2 9) ((1 + (nI j_2) : Int32)).toNatClampNeg) + 1)) ((1 + (nI j_2) : Int32)).toNatClampNeg), .int (8 + (nI j_2)), .ref (rM 10)]) (gsN := [wX8 cI cZ cQ rM (sA (it_X8_passes_2 SM j_2) 9 (upd ((it_X8_passes_2 SM j_2).2 9) ((1 + (nI j_2) : Int32)).toNatClampNeg ((((it_X8_passes_2 SM j_2).2 9) ((1 + (nI j_2) : Int32)).toNatClampNeg) + 1)))]) (ci := 8) (gi := 0) (qi := 0) X (c_X8_end l D cI cZ cQ rM (sA (it_X8_passes_2 SM j_2) 9 (upd ((it_X8_passes_2 SM j_2).2 9) ((1 + (nI j_2) : Int32)).toNatClampNeg ((((it_X8_passes_2 SM j_2).2 9) ((1 + (nI j_2) : Int32)).toNatClampNeg) + 1))) (nI j_2) (vn (m := j_2) rfl (by omega) (by decide))) gX8_passes_X8_end rfl hd_X8_end [true] rfl rfl rfl rfl rfl rfl rfl rfl ⟨rfl, rfl⟩ ⟨Nat.le_of_ble_eq_true rfl, Nat.le_of_ble_eq_true rfl⟩ (Nat.le_of_ble_eq_true rfl) ⟨Nat.zero_le _, Nat.zero_le _⟩ dX8_passes_50 ?_
        refine ww_icmp_lt (pc := 53) (tgt := 60) X dX8_passes_53 (by decide) (fun c8 => ?_) (fun c8 => ?_)
        · refine ww_iconst (pc := 60) (v := 0) X dX8_passes_60 (by decide) ?_
          refine ww_iast (pc := 61) (f := upd ((it_X8_passes_2 SM j_2).2 9) ((1 + (nI j_2) : Int32)).toNatClampNeg ((((it_X8_passes_2 SM j_2).2 9) ((1 + (nI j_2) : Int32)).toNatClampNeg) + 1)) (ws' := fl [wX8 cI cZ cQ rM (sA (it_X8_passes_2 SM j_2) 9 (upd (upd ((it_X8_passes_2 SM j_2).2 9) ((1 + (nI j_2) : Int32)).toNatClampNeg ((((it_X8_passes_2 SM j_2).2 9) ((1 + (nI j_2) : Int32)).toNatClampNeg) + 1)) ((8 + (nI j_2) : Int32)).toNatClampNeg 0))]) X 10 0 rfl rfl (vn (m := 8 + j_2) (nat_iadd (a := 8) (b := j_2) rfl rfl) (by omega) (by decide)) rfl dX8_passes_61 ?_
          refine ww_goto (pc := 62) (tgt := 99) X dX8_passes_62 (by decide) ?_
          refine ww_iinc (pc := 99) (v := (nI j_2) + 1) (lv' := [(1, .int ((nI j_2) + 1)), (0, .ref (rM 0))]) X dX8_passes_99 1 rfl rfl (by decide) rfl ?_
          refine ww_goto (pc := 102) (tgt := 2) X dX8_passes_102 (by decide) ?_
          have h9 : (it_X8_passes_2 SM (j_2 + 1)) = (sA (it_X8_passes_2 SM j_2) 9 (upd (upd ((it_X8_passes_2 SM j_2).2 9) ((1 + (nI j_2) : Int32)).toNatClampNeg ((((it_X8_passes_2 SM j_2).2 9) ((1 + (nI j_2) : Int32)).toNatClampNeg) + 1)) ((8 + (nI j_2) : Int32)).toNatClampNeg 0)) := by
            show bd_X8_passes_2  j_2 (it_X8_passes_2 SM j_2) = _; unfold bd_X8_passes_2; try rw [if_neg c4, if_pos c8]; first | done | rfl
          refine ww_lsub [1, 0] rfl ?_
          exact ww_castI (fun u9 : St => fl [wX8 cI cZ cQ rM u9]) (fun (u9 : St) (i9 : Int32) => ([(0, .ref (rM 0)), (1, .int i9)] : List (Nat × Value))) h9 (ih (j_2 + 1) (by omega) K)
        · refine ww_iconst (pc := 56) (v := 1) X dX8_passes_56 (by decide) ?_
          refine ww_goto (pc := 57) (tgt := 61) X dX8_passes_57 (by decide) ?_
          refine ww_iast (pc := 61) (f := upd ((it_X8_passes_2 SM j_2).2 9) ((1 + (nI j_2) : Int32)).toNatClampNeg ((((it_X8_passes_2 SM j_2).2 9) ((1 + (nI j_2) : Int32)).toNatClampNeg) + 1)) (ws' := fl [wX8 cI cZ cQ rM (sA (it_X8_passes_2 SM j_2) 9 (upd (upd ((it_X8_passes_2 SM j_2).2 9) ((1 + (nI j_2) : Int32)).toNatClampNeg ((((it_X8_passes_2 SM j_2).2 9) ((1 + (nI j_2) : Int32)).toNatClampNeg) + 1)) ((8 + (nI j_2) : Int32)).toNatClampNeg 1))]) X 10 0 rfl rfl (vn (m := 8 + j_2) (nat_iadd (a := 8) (b := j_2) rfl rfl) (by omega) (by decide)) rfl dX8_passes_61 ?_
          refine ww_goto (pc := 62) (tgt := 99) X dX8_passes_62 (by decide) ?_
          refine ww_iinc (pc := 99) (v := (nI j_2) + 1) (lv' := [(1, .int ((nI j_2) + 1)), (0, .ref (rM 0))]) X dX8_passes_99 1 rfl rfl (by decide) rfl ?_
          refine ww_goto (pc := 102) (tgt := 2) X dX8_passes_102 (by decide) ?_
          have h10 : (it_X8_passes_2 SM (j_2 + 1)) = (sA (it_X8_passes_2 SM j_2) 9 (upd (upd ((it_X8_passes_2 SM j_2).2 9) ((1 + (nI j_2) : Int32)).toNatClampNeg ((((it_X8_passes_2 SM j_2).2 9) ((1 + (nI j_2) : Int32)).toNatClampNeg) + 1)) ((8 + (nI j_2) : Int32)).toNatClampNeg 1)) := by
            show bd_X8_passes_2  j_2 (it_X8_passes_2 SM j_2) = _; unfold bd_X8_passes_2; try rw [if_neg c4, if_neg c8]; first | done | rfl
          refine ww_lsub [1, 0] rfl ?_
          exact ww_castI (fun u9 : St => fl [wX8 cI cZ cQ rM u9]) (fun (u9 : St) (i9 : Int32) => ([(0, .ref (rM 0)), (1, .int i9)] : List (Nat × Value))) h10 (ih (j_2 + 1) (by omega) K)
  refine ww_lsub [1, 0] rfl ?_
  refine L2 (((SM.2 1) ((3 : Int32)).toNatClampNeg).toNatClampNeg) 0 (by omega) ?_
  generalize hz11 : ((it_X8_passes_2 SM (((SM.2 1) ((3 : Int32)).toNatClampNeg).toNatClampNeg))) = z11
  refine ww_iconst (pc := 105) (v := 0) X dX8_passes_105 (by decide) ?_
  refine ww_istore_n (pc := 106) (lv' := [(1, .int 0), (0, .ref (rM 0))]) X dX8_passes_106 rfl (by decide) rfl ?_
  have L107 : ∀ (k_107 j_107 : Nat), j_107 + k_107 = ((z11.2 1) ((4 : Int32)).toNatClampNeg).toNatClampNeg → WW p l e (headSpec wsX8_passes { frames := 1, cells := 0, slots := 0, locals := 24 }).room s m args below meth c 2 D A 0 0 (RQv below args s D A (fl [wX8 cI cZ cQ rM (f_X8_passes SM)])) (fl [wX8 cI cZ cQ rM (it_X8_passes_107 z11 (((z11.2 1) ((4 : Int32)).toNatClampNeg).toNatClampNeg))]) [(0, .ref (rM 0)), (1, .int (nI (((z11.2 1) ((4 : Int32)).toNatClampNeg).toNatClampNeg)))] 146 [] → WW p l e (headSpec wsX8_passes { frames := 1, cells := 0, slots := 0, locals := 24 }).room s m args below meth c 2 D A 0 0 (RQv below args s D A (fl [wX8 cI cZ cQ rM (f_X8_passes SM)])) (fl [wX8 cI cZ cQ rM (it_X8_passes_107 z11 j_107)]) [(0, .ref (rM 0)), (1, .int (nI j_107))] 107 [] := by
    intro k_107
    induction k_107 with
    | zero =>
      intro j_107 hj K
      have hjB : j_107 = ((z11.2 1) ((4 : Int32)).toNatClampNeg).toNatClampNeg := by omega
      subst hjB
      refine ww_iload_n (pc := 107) X dX8_passes_107 1 rfl rfl ?_
      refine ww_aload_n (pc := 108) X dX8_passes_108 0 rfl rfl ?_
      refine ww_get (pc := 109) (ci := 8) (v := .ref (rM 2)) (C := RX8) (T := TX8) (N := 27) X inX8_passes_8 0 rfl rfl 3 (by decide) (by decide +kernel) rfl dX8_passes_109 ?_
      refine ww_iconst (pc := 112) (v := 4) X dX8_passes_112 (by decide) ?_
      refine ww_iald (pc := 113) (f := (it_X8_passes_107 z11 (((z11.2 1) ((4 : Int32)).toNatClampNeg).toNatClampNeg)).2 1) X 2 0 rfl rfl (vl_in (by decide)) dX8_passes_113 ?_
      exact ww_icmp_ge (pc := 114) (tgt := 146) X dX8_passes_114 (by decide) (fun _ => K) (fun c9 => absurd (lp_ge0e (congrFun (pr_X8_passes_107 z11 (((z11.2 1) ((4 : Int32)).toNatClampNeg).toNatClampNeg)) _) (Nat.le_refl _) (cl_lt _)) c9)
    | succ k_107 ih =>
      intro j_107 hj K
      have hjB : j_107 < ((z11.2 1) ((4 : Int32)).toNatClampNeg).toNatClampNeg := by omega
      refine ww_iload_n (pc := 107) X dX8_passes_107 1 rfl rfl ?_
      refine ww_aload_n (pc := 108) X dX8_passes_108 0 rfl rfl ?_
      refine ww_get (pc := 109) (ci := 8) (v := .ref (rM 2)) (C := RX8) (T := TX8) (N := 27) X inX8_passes_8 0 rfl rfl 3 (by decide) (by decide +kernel) rfl dX8_passes_109 ?_
      refine ww_iconst (pc := 112) (v := 4) X dX8_passes_112 (by decide) ?_
      refine ww_iald (pc := 113) (f := (it_X8_passes_107 z11 j_107).2 1) X 2 0 rfl rfl (vl_in (by decide)) dX8_passes_113 ?_
      refine ww_icmp_ge (pc := 114) (tgt := 146) X dX8_passes_114 (by decide) (fun c9 => absurd c9 (lp_ge1e (congrFun (pr_X8_passes_107 z11 j_107) _) hjB)) (fun _ => ?_)
      refine ww_aload_n (pc := 117) X dX8_passes_117 0 rfl rfl ?_
      refine ww_get (pc := 118) (ci := 8) (v := .ref (rM 10)) (C := RX8) (T := TX8) (N := 27) X inX8_passes_8 0 rfl rfl 11 (by decide) (by decide +kernel) rfl dX8_passes_118 ?_
      refine ww_bipush (pc := 121) (v := 29) X dX8_passes_121 (by decide) ?_
      refine ww_iload_n (pc := 123) X dX8_passes_123 1 rfl rfl ?_
      refine ww_iadd (pc := 124) X dX8_passes_124 ?_
      refine ww_aload_n (pc := 125) X dX8_passes_125 0 rfl rfl ?_
      refine ww_iload_n (pc := 126) X dX8_passes_126 1 rfl rfl ?_
      refine ww_aload_n (pc := 127) X dX8_passes_127 0 rfl rfl ?_
      refine ww_get (pc := 128) (ci := 8) (v := .ref (rM 10)) (C := RX8) (T := TX8) (N := 27) X inX8_passes_8 0 rfl rfl 11 (by decide) (by decide +kernel) rfl dX8_passes_128 ?_
      refine ww_bipush (pc := 131) (v := 29) X dX8_passes_131 (by decide) ?_
      refine ww_iload_n (pc := 133) X dX8_passes_133 1 rfl rfl ?_
      refine ww_iadd (pc := 134) X dX8_passes_134 ?_
      refine ww_iald (pc := 135) (f := (it_X8_passes_107 z11 j_107).2 9) X 10 0 rfl rfl (vn (m := 29 + j_107) (nat_iadd (a := 29) (b := j_107) rfl rfl) (by omega) (by decide)) dX8_passes_135 ?_
      refine ww_gVi (pc := 136) (rest := [.int (29 + (nI j_107)), .ref (rM 10)]) (gsN := [wX8 cI cZ cQ rM (it_X8_passes_107 z11 j_107)]) (ci := 8) (gi := 0) (qi := 0) X (c_X8_later l D cI cZ cQ rM (it_X8_passes_107 z11 j_107) (nI j_107) (((it_X8_passes_107 z11 j_107).2 9) ((29 + (nI j_107) : Int32)).toNatClampNeg) (vn (m := j_107) rfl (by omega) (by decide))) gX8_passes_X8_later rfl hd_X8_later [true] rfl rfl rfl rfl rfl rfl rfl rfl ⟨rfl, rfl⟩ ⟨Nat.le_of_ble_eq_true rfl, Nat.le_of_ble_eq_true rfl⟩ (Nat.le_of_ble_eq_true rfl) ⟨Nat.zero_le _, Nat.zero_le _⟩ dX8_passes_136 ?_
      refine ww_iast (pc := 139) (f := (it_X8_passes_107 z11 j_107).2 9) (ws' := fl [wX8 cI cZ cQ rM (sA (it_X8_passes_107 z11 j_107) 9 (upd ((it_X8_passes_107 z11 j_107).2 9) ((29 + (nI j_107) : Int32)).toNatClampNeg (f_X8_later (it_X8_passes_107 z11 j_107) (nI j_107) (((it_X8_passes_107 z11 j_107).2 9) ((29 + (nI j_107) : Int32)).toNatClampNeg))))]) X 10 0 rfl rfl (vn (m := 29 + j_107) (nat_iadd (a := 29) (b := j_107) rfl rfl) (by omega) (by decide)) rfl dX8_passes_139 ?_
      refine ww_iinc (pc := 140) (v := (nI j_107) + 1) (lv' := [(1, .int ((nI j_107) + 1)), (0, .ref (rM 0))]) X dX8_passes_140 1 rfl rfl (by decide) rfl ?_
      refine ww_goto (pc := 143) (tgt := 107) X dX8_passes_143 (by decide) ?_
      have h12 : (it_X8_passes_107 z11 (j_107 + 1)) = (sA (it_X8_passes_107 z11 j_107) 9 (upd ((it_X8_passes_107 z11 j_107).2 9) ((29 + (nI j_107) : Int32)).toNatClampNeg (f_X8_later (it_X8_passes_107 z11 j_107) (nI j_107) (((it_X8_passes_107 z11 j_107).2 9) ((29 + (nI j_107) : Int32)).toNatClampNeg)))) := by
        show bd_X8_passes_107  j_107 (it_X8_passes_107 z11 j_107) = _; unfold bd_X8_passes_107; first | done | rfl
      refine ww_lsub [1, 0] rfl ?_
      exact ww_castI (fun u9 : St => fl [wX8 cI cZ cQ rM u9]) (fun (u9 : St) (i9 : Int32) => ([(0, .ref (rM 0)), (1, .int i9)] : List (Nat × Value))) h12 (ih (j_107 + 1) (by omega) K)
  refine ww_lsub [1, 0] rfl ?_
  refine L107 (((z11.2 1) ((4 : Int32)).toNatClampNeg).toNatClampNeg) 0 (by omega) ?_
  generalize hz13 : ((it_X8_passes_107 z11 (((z11.2 1) ((4 : Int32)).toNatClampNeg).toNatClampNeg))) = z13
  refine ww_aload_n (pc := 146) X dX8_passes_146 0 rfl rfl ?_
  refine ww_get (pc := 147) (ci := 8) (v := .ref (rM 10)) (C := RX8) (T := TX8) (N := 27) X inX8_passes_8 0 rfl rfl 11 (by decide) (by decide +kernel) rfl dX8_passes_147 ?_
  refine ww_iconst (pc := 150) (v := 0) X dX8_passes_150 (by decide) ?_
  refine ww_dup2_11 (pc := 151) X dX8_passes_151 rfl rfl ?_
  refine ww_iald (pc := 152) (f := z13.2 9) X 10 0 rfl rfl (vl_in (by decide)) dX8_passes_152 ?_
  refine ww_iconst (pc := 153) (v := 1) X dX8_passes_153 (by decide) ?_
  refine ww_iadd (pc := 154) X dX8_passes_154 ?_
  refine ww_iast (pc := 155) (f := z13.2 9) (ws' := fl [wX8 cI cZ cQ rM (sA z13 9 (upd (z13.2 9) ((0 : Int32)).toNatClampNeg (((z13.2 9) ((0 : Int32)).toNatClampNeg) + 1)))]) X 10 0 rfl rfl (vl_in (by decide)) rfl dX8_passes_155 ?_
  have h14 : f_X8_passes SM = (sA z13 9 (upd (z13.2 9) ((0 : Int32)).toNatClampNeg (((z13.2 9) ((0 : Int32)).toNatClampNeg) + 1))) := by unfold f_X8_passes; try rw [hz11]; try unfold f_X8_passes_k1; try rw [hz13]; try unfold f_X8_passes_k2; first | done | rfl
  exact ww_vret X hr (congrArg (fun u9 : St => fl [wX8 cI cZ cQ rM u9]) h14.symm) dX8_passes_156
def f_X8_barred (SM : St) (x1 : Int32) (x2 : Int32) : Int32 :=
  if (f_X8_in x1 1 x2) = 0 then
    (-1000000002)
  else
    if (f_X8_isShore SM) = 0 then
      (-1000000003)
    else
      if ((SM.2 9) ((0 : Int32)).toNatClampNeg) ≤ 90000 then
        0
      else
        (-1000000004)
theorem inX8_barred_8 : ∀ w ∈ wsX80, w ∈ wsX8_barred := by decide +kernel
theorem hd_X8_barred : yX8_barred.cls = RX8 ∧ yX8_barred.cls ≠ "java/lang/invoke/MethodHandle" ∧ yX8_barred.cls ≠ "java/lang/invoke/VarHandle" ∧ (parseMethodDescriptor yX8_barred.desc).map (fun d => d.parameters.length) = some 2 := by decide +kernel
set_option maxHeartbeats 4000000 in
set_option maxRecDepth 100000 in
theorem c_X8_barred (l : Launch) (D : va_G) (cI cZ cQ : ClassId) (rM : Nat → Nat) (SM : St) (x1 : Int32) (x2 : Int32) : Ci l yX8_barred wsX8_barred { frames := 1, cells := 0, slots := 0, locals := 22 } D (tyL cI cZ cQ) [.ref (rM 0), .int x1, .int x2] (fl [wX8 cI cZ cQ rM SM]) (f_X8_barred SM x1 x2) (fl [wX8 cI cZ cQ rM SM]) := by
  refine ci_of (cc := cX8_barred) (nL := 3) (ty := .int) (lv0 := [(0, .ref (rM 0)), (1, .int x1), (2, .int x2)]) (by decide) rfl (Nat.le_of_ble_eq_true rfl) rfl ?_
  intro p e s m args below meth c A X hr
  refine ww_iload_n (pc := 0) X dX8_barred_0 1 rfl rfl ?_
  refine ww_iconst (pc := 1) (v := 1) X dX8_barred_1 (by decide) ?_
  refine ww_iload_n (pc := 2) X dX8_barred_2 2 rfl rfl ?_
  refine ww_gSi (pc := 3) (rest := []) (gsN := [wX8 cI cZ cQ rM SM]) X (c_X8_in l D cI cZ cQ x1 1 x2) gX8_barred_X8_in rfl hd_X8_in [false] rfl rfl rfl rfl ⟨rfl, rfl⟩ ⟨Nat.le_of_ble_eq_true rfl, Nat.le_of_ble_eq_true rfl⟩ (Nat.le_of_ble_eq_true rfl) ⟨Nat.zero_le _, Nat.zero_le _⟩ dX8_barred_3 ?_
  refine ww_if_ne (pc := 6) (tgt := 14) X dX8_barred_6 (by decide) (fun c1 => ?_) (fun c1 => ?_)
  · refine ww_aload_n (pc := 14) X dX8_barred_14 0 rfl rfl ?_
    refine ww_gVi (pc := 15) (rest := []) (gsN := [wX8 cI cZ cQ rM SM]) (ci := 8) (gi := 0) (qi := 0) X (c_X8_isShore l D cI cZ cQ rM SM) gX8_barred_X8_isShore rfl hd_X8_isShore [true] rfl rfl rfl rfl rfl rfl rfl rfl ⟨rfl, rfl⟩ ⟨Nat.le_of_ble_eq_true rfl, Nat.le_of_ble_eq_true rfl⟩ (Nat.le_of_ble_eq_true rfl) ⟨Nat.zero_le _, Nat.zero_le _⟩ dX8_barred_15 ?_
    refine ww_if_ne (pc := 18) (tgt := 26) X dX8_barred_18 (by decide) (fun c2 => ?_) (fun c2 => ?_)
    · refine ww_aload_n (pc := 26) X dX8_barred_26 0 rfl rfl ?_
      refine ww_get (pc := 27) (ci := 8) (v := .ref (rM 10)) (C := RX8) (T := TX8) (N := 27) X inX8_barred_8 0 rfl rfl 11 (by decide) (by decide +kernel) rfl dX8_barred_27 ?_
      refine ww_iconst (pc := 30) (v := 0) X dX8_barred_30 (by decide) ?_
      refine ww_iald (pc := 31) (f := SM.2 9) X 10 0 rfl rfl (vl_in (by decide)) dX8_barred_31 ?_
      refine ww_ldc (pc := 32) (v := 90000) X (by decide +kernel) dX8_barred_32 ?_
      refine ww_icmp_le (pc := 34) (tgt := 42) X dX8_barred_34 (by decide) (fun c3 => ?_) (fun c3 => ?_)
      · refine ww_iconst (pc := 42) (v := 0) X dX8_barred_42 (by decide) ?_
        exact ww_iret X hr rfl (Eq.symm (by unfold f_X8_barred; try rw [if_neg c1, if_neg c2, if_pos c3]; first | done | rfl)) rfl dX8_barred_43
      · refine ww_ldc (pc := 37) (v := (-1000000004)) X (by decide +kernel) dX8_barred_37 ?_
        refine ww_goto (pc := 39) (tgt := 43) X dX8_barred_39 (by decide) ?_
        exact ww_iret X hr rfl (Eq.symm (by unfold f_X8_barred; try rw [if_neg c1, if_neg c2, if_neg c3]; first | done | rfl)) rfl dX8_barred_43
    · refine ww_ldc (pc := 21) (v := (-1000000003)) X (by decide +kernel) dX8_barred_21 ?_
      refine ww_goto (pc := 23) (tgt := 43) X dX8_barred_23 (by decide) ?_
      exact ww_iret X hr rfl (Eq.symm (by unfold f_X8_barred; try rw [if_neg c1, if_pos c2]; first | done | rfl)) rfl dX8_barred_43
  · refine ww_ldc (pc := 9) (v := (-1000000002)) X (by decide +kernel) dX8_barred_9 ?_
    refine ww_goto (pc := 11) (tgt := 43) X dX8_barred_11 (by decide) ?_
    exact ww_iret X hr rfl (Eq.symm (by unfold f_X8_barred; try rw [if_pos c1]; first | done | rfl)) rfl dX8_barred_43
def bd_X8_year_21_k1 (x1 : Int32) (x2 : Int32) (j : Nat) (u : St) (z3 : St) : St :=
  z3
def bd_X8_year_21 (x1 : Int32) (x2 : Int32) (j : Nat) (u : St) : St :=
  bd_X8_year_21_k1 x1 x2 j u (f_X8_passes u)
def it_X8_year_21 (x1 : Int32) (x2 : Int32) (u : St) : Nat → St
  | 0 => u
  | j + 1 => bd_X8_year_21 x1 x2 j (it_X8_year_21 x1 x2 u j)
def f_X8_year_k2 (SM : St) (x1 : Int32) (z2 : St) (z6 : St) : Int32 × St :=
  ((z6.2 9) ((0 : Int32)).toNatClampNeg, z6)
def f_X8_year_k1 (SM : St) (x1 : Int32) (z2 : St) : Int32 × St :=
  f_X8_year_k2 SM x1 z2 (it_X8_year_21 x1 (f_X8_barred SM x1 300) z2 x1.toNatClampNeg)
def f_X8_year (SM : St) (x1 : Int32) : Int32 × St :=
  if (f_X8_barred SM x1 300) = 0 then
    f_X8_year_k1 SM x1 (f_X8_notes SM)
  else
    (f_X8_barred SM x1 300, SM)
theorem yr_1 (a b : Int32) (u : St) : ∀ j : Nat, (it_X8_year_21 a b u j).2 1 = u.2 1
  | 0 => rfl
  | j + 1 => (yr_1x _).trans (yr_1 a b u j)
theorem inX8_year_8 : ∀ w ∈ wsX80, w ∈ wsX8_year := by decide +kernel
theorem hd_X8_year : yX8_year.cls = RX8 ∧ yX8_year.cls ≠ "java/lang/invoke/MethodHandle" ∧ yX8_year.cls ≠ "java/lang/invoke/VarHandle" ∧ (parseMethodDescriptor yX8_year.desc).map (fun d => d.parameters.length) = some 1 := by decide +kernel
set_option maxHeartbeats 4000000 in
set_option maxRecDepth 100000 in
theorem c_X8_year (l : Launch) (D : va_G) (cI cZ cQ : ClassId) (rM : Nat → Nat) (SM : St) (x1 : Int32) (okM : okM SM) (n0 : ¬ (SM.1 2) < 0) (n1 : SM.1 2 ≤ 20) : Ci l yX8_year wsX8_year { frames := 2, cells := 0, slots := 0, locals := 45 } D (tyL cI cZ cQ) [.ref (rM 0), .int x1] (fl [wX8 cI cZ cQ rM SM]) ((f_X8_year SM x1).1) (fl [wX8 cI cZ cQ rM ((f_X8_year SM x1).2)]) := by
  refine ci_of (cc := cX8_year) (nL := 4) (ty := .int) (lv0 := [(0, .ref (rM 0)), (1, .int x1)]) (by decide) rfl (Nat.le_of_ble_eq_true rfl) rfl ?_
  intro p e s m args below meth c A X hr
  refine ww_aload_n (pc := 0) X dX8_year_0 0 rfl rfl ?_
  refine ww_iload_n (pc := 1) X dX8_year_1 1 rfl rfl ?_
  refine ww_sipush (pc := 2) (v := 300) X dX8_year_2 (by decide) ?_
  refine ww_gVi (pc := 5) (rest := []) (gsN := [wX8 cI cZ cQ rM SM]) (ci := 8) (gi := 0) (qi := 0) X (c_X8_barred l D cI cZ cQ rM SM x1 300) gX8_year_X8_barred rfl hd_X8_barred [true] rfl rfl rfl rfl rfl rfl rfl rfl ⟨rfl, rfl⟩ ⟨Nat.le_of_ble_eq_true rfl, Nat.le_of_ble_eq_true rfl⟩ (Nat.le_of_ble_eq_true rfl) ⟨Nat.zero_le _, Nat.zero_le _⟩ dX8_year_5 ?_
  refine ww_istore_n (pc := 8) (lv' := [(2, .int (f_X8_barred SM x1 300)), (0, .ref (rM 0)), (1, .int x1)]) X dX8_year_8 rfl (by decide) rfl ?_
  refine ww_iload_n (pc := 9) X dX8_year_9 0 rfl rfl ?_
  refine ww_if_eq (pc := 10) (tgt := 15) X dX8_year_10 (by decide) (fun c1 => ?_) (fun c1 => ?_)
  · refine ww_aload_n (pc := 15) X dX8_year_15 1 rfl rfl ?_
    refine ww_gVv (pc := 16) (rest := []) (gsN := [wX8 cI cZ cQ rM (f_X8_notes SM)]) (ci := 8) (gi := 0) (qi := 0) X (c_X8_notes l D cI cZ cQ rM SM (by assumption) (by assumption)) gX8_year_X8_notes rfl hd_X8_notes [true] rfl (acons (ad8 _ _ _ _ _ _) rfl) rfl rfl rfl rfl rfl rfl ⟨rfl, rfl⟩ ⟨Nat.le_of_ble_eq_true rfl, Nat.le_of_ble_eq_true rfl⟩ (Nat.le_of_ble_eq_true rfl) ⟨Nat.zero_le _, Nat.zero_le _⟩ dX8_year_16 ?_
    generalize hz2 : (f_X8_notes SM) = z2
    have okz : okM @z := okM_of (by rw [← @Z]; exact no_2 _ 1 (by decide)) okM
    refine ww_iconst (pc := 19) (v := 0) X dX8_year_19 (by decide) ?_
    refine ww_istore_n (pc := 20) (lv' := [(3, .int 0), (2, .int (f_X8_barred SM x1 300)), (0, .ref (rM 0)), (1, .int x1)]) X dX8_year_20 rfl (by decide) rfl ?_
    have L21 : ∀ (k_21 j_21 : Nat), j_21 + k_21 = x1.toNatClampNeg → WW p l e (headSpec wsX8_year { frames := 2, cells := 0, slots := 0, locals := 45 }).room s m args below meth c 4 D A 0 0 (RQi below args s D A ((f_X8_year SM x1).1) (fl [wX8 cI cZ cQ rM ((f_X8_year SM x1).2)])) (fl [wX8 cI cZ cQ rM (it_X8_year_21 x1 (f_X8_barred SM x1 300) z2 x1.toNatClampNeg)]) [(0, .ref (rM 0)), (1, .int x1), (2, .int (f_X8_barred SM x1 300)), (3, .int (nI x1.toNatClampNeg))] 36 [] → WW p l e (headSpec wsX8_year { frames := 2, cells := 0, slots := 0, locals := 45 }).room s m args below meth c 4 D A 0 0 (RQi below args s D A ((f_X8_year SM x1).1) (fl [wX8 cI cZ cQ rM ((f_X8_year SM x1).2)])) (fl [wX8 cI cZ cQ rM (it_X8_year_21 x1 (f_X8_barred SM x1 300) z2 j_21)]) [(0, .ref (rM 0)), (1, .int x1), (2, .int (f_X8_barred SM x1 300)), (3, .int (nI j_21))] 21 [] := by
      intro k_21
      induction k_21 with
      | zero =>
        intro j_21 hj K
        have hjB : j_21 = x1.toNatClampNeg := by omega
        subst hjB
        refine ww_iload_n (pc := 21) X dX8_year_21 3 rfl rfl ?_
        refine ww_iload_n (pc := 22) X dX8_year_22 1 rfl rfl ?_
        exact ww_icmp_ge (pc := 23) (tgt := 36) X dX8_year_23 (by decide) (fun _ => K) (fun c9 => absurd (lp_ge0c (Nat.le_refl _) (cl_lt _)) c9)
      | succ k_21 ih =>
        intro j_21 hj K
        have hjB : j_21 < x1.toNatClampNeg := by omega
        refine ww_iload_n (pc := 21) X dX8_year_21 3 rfl rfl ?_
        refine ww_iload_n (pc := 22) X dX8_year_22 1 rfl rfl ?_
        refine ww_icmp_ge (pc := 23) (tgt := 36) X dX8_year_23 (by decide) (fun c9 => absurd c9 (lp_ge1c hjB)) (fun _ => ?_)
        refine ww_aload_n (pc := 26) X dX8_year_26 0 rfl rfl ?_
        refine ww_gVv (pc := 27) (rest := []) (gsN := [wX8 cI cZ cQ rM (f_X8_passes (it_X8_year_21 x1 (f_X8_barred SM x1 300) z2 j_21))]) (ci := 8) (gi := 0) (qi := 0) X (c_X8_passes l D cI cZ cQ rM (it_X8_year_21 x1 (f_X8_barred SM x1 300) z2 j_21) (okM_of (yr_1 _ _ _ _) okz)) gX8_year_X8_passes rfl hd_X8_passes [true] rfl (acons (ad8 _ _ _ _ _ _) rfl) rfl rfl rfl rfl rfl rfl ⟨rfl, rfl⟩ ⟨Nat.le_of_ble_eq_true rfl, Nat.le_of_ble_eq_true rfl⟩ (Nat.le_of_ble_eq_true rfl) ⟨Nat.zero_le _, Nat.zero_le _⟩ dX8_year_27 ?_
        generalize hz4 : (f_X8_passes (it_X8_year_21 x1 (f_X8_barred SM x1 300) z2 j_21)) = z4
        refine ww_iinc (pc := 30) (v := (nI j_21) + 1) (lv' := [(3, .int ((nI j_21) + 1)), (0, .ref (rM 0)), (1, .int x1), (2, .int (f_X8_barred SM x1 300))]) X dX8_year_30 3 rfl rfl (by decide) rfl ?_
        refine ww_goto (pc := 33) (tgt := 21) X dX8_year_33 (by decide) ?_
        have h5 : (it_X8_year_21 x1 (f_X8_barred SM x1 300) z2 (j_21 + 1)) = z4 := by
          show bd_X8_year_21 x1 (f_X8_barred SM x1 300) j_21 (it_X8_year_21 x1 (f_X8_barred SM x1 300) z2 j_21) = _; unfold bd_X8_year_21; try rw [hz4]; try unfold bd_X8_year_21_k1; first | done | rfl
        refine ww_lsub [1, 2, 3, 0] rfl ?_
        exact ww_castI (fun u9 : St => fl [wX8 cI cZ cQ rM u9]) (fun (u9 : St) (i9 : Int32) => ([(0, .ref (rM 0)), (1, .int x1), (2, .int (f_X8_barred SM x1 300)), (3, .int i9)] : List (Nat × Value))) h5 (ih (j_21 + 1) (by omega) K)
    refine ww_lsub [2, 3, 1, 0] rfl ?_
    refine L21 x1.toNatClampNeg 0 (by omega) ?_
    generalize hz6 : ((it_X8_year_21 x1 (f_X8_barred SM x1 300) z2 x1.toNatClampNeg)) = z6
    refine ww_aload_n (pc := 36) X dX8_year_36 0 rfl rfl ?_
    refine ww_get (pc := 37) (ci := 8) (v := .ref (rM 10)) (C := RX8) (T := TX8) (N := 27) X inX8_year_8 0 rfl rfl 11 (by decide) (by decide +kernel) rfl dX8_year_37 ?_
    refine ww_iconst (pc := 40) (v := 0) X dX8_year_40 (by decide) ?_
    refine ww_iald (pc := 41) (f := z6.2 9) X 10 0 rfl rfl (vl_in (by decide)) dX8_year_41 ?_
    have h7 : f_X8_year SM x1 = ((z6.2 9) ((0 : Int32)).toNatClampNeg, z6) := by unfold f_X8_year; try rw [if_pos c1, hz2]; try unfold f_X8_year_k1; try rw [hz6]; try unfold f_X8_year_k2; first | done | rfl
    exact ww_iret X hr rfl (congrArg (fun u9 : Int32 × St => u9.1) h7).symm (congrArg (fun u9 : Int32 × St => fl [wX8 cI cZ cQ rM u9.2]) h7.symm) dX8_year_42
  · refine ww_iload_n (pc := 13) X dX8_year_13 0 rfl rfl ?_
    have h8 : f_X8_year SM x1 = (f_X8_barred SM x1 300, SM) := by unfold f_X8_year; try rw [if_neg c1]; first | done | rfl
    exact ww_iret X hr rfl (congrArg (fun u9 : Int32 × St => u9.1) h8).symm (congrArg (fun u9 : Int32 × St => fl [wX8 cI cZ cQ rM u9.2]) h8.symm) dX8_year_14
def f_X8_descends (SM : St) (x1 : Int32) (x2 : Int32) : St :=
  (sA SM 9 (upd (upd (SM.2 9) ((8 + x1 : Int32)).toNatClampNeg (10 + x2)) ((22 + x1 : Int32)).toNatClampNeg 0))
theorem inX8_descends_8 : ∀ w ∈ wsX80, w ∈ wsX8_descends := by decide +kernel
theorem hd_X8_descends : yX8_descends.cls = RX8 ∧ yX8_descends.cls ≠ "java/lang/invoke/MethodHandle" ∧ yX8_descends.cls ≠ "java/lang/invoke/VarHandle" ∧ (parseMethodDescriptor yX8_descends.desc).map (fun d => d.parameters.length) = some 2 := by decide +kernel
set_option maxHeartbeats 4000000 in
set_option maxRecDepth 100000 in
theorem c_X8_descends (l : Launch) (D : va_G) (cI cZ cQ : ClassId) (rM : Nat → Nat) (SM : St) (x1 : Int32) (x2 : Int32) (hp : vp_in x1 7) : Cv l yX8_descends wsX8_descends { frames := 0, cells := 0, slots := 0, locals := 0 } D (tyL cI cZ cQ) [.ref (rM 0), .int x1, .int x2] (fl [wX8 cI cZ cQ rM SM]) (fl [wX8 cI cZ cQ rM (f_X8_descends SM x1 x2)]) := by
  refine cv_of (cc := cX8_descends) (nL := 3) (lv0 := [(0, .ref (rM 0)), (1, .int x1), (2, .int x2)]) (by decide) rfl (Nat.le_of_ble_eq_true rfl) rfl ?_
  intro p e s m args below meth c A X hr
  refine ww_aload_n (pc := 0) X dX8_descends_0 0 rfl rfl ?_
  refine ww_get (pc := 1) (ci := 8) (v := .ref (rM 10)) (C := RX8) (T := TX8) (N := 27) X inX8_descends_8 0 rfl rfl 11 (by decide) (by decide +kernel) rfl dX8_descends_1 ?_
  refine ww_bipush (pc := 4) (v := 8) X dX8_descends_4 (by decide) ?_
  refine ww_iload_n (pc := 6) X dX8_descends_6 1 rfl rfl ?_
  have hb1 := clb hp
  refine ww_iadd (pc := 7) X dX8_descends_7 ?_
  refine ww_bipush (pc := 8) (v := 10) X dX8_descends_8 (by decide) ?_
  refine ww_iload_n (pc := 10) X dX8_descends_10 2 rfl rfl ?_
  refine ww_iadd (pc := 11) X dX8_descends_11 ?_
  refine ww_iast (pc := 12) (f := SM.2 9) (ws' := fl [wX8 cI cZ cQ rM (sA SM 9 (upd (SM.2 9) ((8 + x1 : Int32)).toNatClampNeg (10 + x2)))]) X 10 0 rfl rfl (vn (m := 8 + ((x1 : Int32).toNatClampNeg)) (nat_iadd (a := 8) (b := (x1 : Int32).toNatClampNeg) rfl (cl_of hp)) (by omega) (by decide)) rfl dX8_descends_12 ?_
  refine ww_aload_n (pc := 13) X dX8_descends_13 0 rfl rfl ?_
  refine ww_get (pc := 14) (ci := 8) (v := .ref (rM 10)) (C := RX8) (T := TX8) (N := 27) X inX8_descends_8 0 rfl rfl 11 (by decide) (by decide +kernel) rfl dX8_descends_14 ?_
  refine ww_bipush (pc := 17) (v := 22) X dX8_descends_17 (by decide) ?_
  refine ww_iload_n (pc := 19) X dX8_descends_19 1 rfl rfl ?_
  refine ww_iadd (pc := 20) X dX8_descends_20 ?_
  refine ww_iconst (pc := 21) (v := 0) X dX8_descends_21 (by decide) ?_
  refine ww_iast (pc := 22) (f := upd (SM.2 9) ((8 + x1 : Int32)).toNatClampNeg (10 + x2)) (ws' := fl [wX8 cI cZ cQ rM (sA SM 9 (upd (upd (SM.2 9) ((8 + x1 : Int32)).toNatClampNeg (10 + x2)) ((22 + x1 : Int32)).toNatClampNeg 0))]) X 10 0 rfl rfl (vn (m := 22 + ((x1 : Int32).toNatClampNeg)) (nat_iadd (a := 22) (b := (x1 : Int32).toNatClampNeg) rfl (cl_of hp)) (by omega) (by decide)) rfl dX8_descends_22 ?_
  have h2 : f_X8_descends SM x1 x2 = (sA SM 9 (upd (upd (SM.2 9) ((8 + x1 : Int32)).toNatClampNeg (10 + x2)) ((22 + x1 : Int32)).toNatClampNeg 0)) := by unfold f_X8_descends; first | done | rfl
  exact ww_vret X hr (congrArg (fun u9 : St => fl [wX8 cI cZ cQ rM u9]) h2.symm) dX8_descends_23
def f_X8_down_k2 (SM : St) (x1 : Int32) (x2 : Int32) (z5 : St) (z6 : St) : Int32 × St :=
  ((z6.2 9) ((1 + x1 : Int32)).toNatClampNeg, z6)
def f_X8_down_k1 (SM : St) (x1 : Int32) (x2 : Int32) (z5 : St) : Int32 × St :=
  f_X8_down_k2 SM x1 x2 z5 (f_X8_descends z5 x1 x2)
def f_X8_down (SM : St) (x1 : Int32) (x2 : Int32) : Int32 × St :=
  if (f_X8_isPerson SM x1) = 0 then
    ((-1000000001), SM)
  else
    if (f_X8_isDepth SM x2) = 0 then
      ((-1000000001), SM)
    else
      if (f_X8_isAbove SM x1) = 0 then
        ((-1000000003), SM)
      else
        f_X8_down_k1 SM x1 x2 (f_X8_notes SM)
theorem inX8_down_8 : ∀ w ∈ wsX80, w ∈ wsX8_down := by decide +kernel
theorem hd_X8_down : yX8_down.cls = RX8 ∧ yX8_down.cls ≠ "java/lang/invoke/MethodHandle" ∧ yX8_down.cls ≠ "java/lang/invoke/VarHandle" ∧ (parseMethodDescriptor yX8_down.desc).map (fun d => d.parameters.length) = some 2 := by decide +kernel
set_option maxHeartbeats 4000000 in
set_option maxRecDepth 100000 in
theorem c_X8_down (l : Launch) (D : va_G) (cI cZ cQ : ClassId) (rM : Nat → Nat) (SM : St) (x1 : Int32) (x2 : Int32) (okM : okM SM) (n0 : ¬ (SM.1 2) < 0) (n1 : SM.1 2 ≤ 20) : Ci l yX8_down wsX8_down { frames := 2, cells := 0, slots := 0, locals := 43 } D (tyL cI cZ cQ) [.ref (rM 0), .int x1, .int x2] (fl [wX8 cI cZ cQ rM SM]) ((f_X8_down SM x1 x2).1) (fl [wX8 cI cZ cQ rM ((f_X8_down SM x1 x2).2)]) := by
  refine ci_of (cc := cX8_down) (nL := 3) (ty := .int) (lv0 := [(0, .ref (rM 0)), (1, .int x1), (2, .int x2)]) (by decide) rfl (Nat.le_of_ble_eq_true rfl) rfl ?_
  intro p e s m args below meth c A X hr
  refine ww_aload_n (pc := 0) X dX8_down_0 0 rfl rfl ?_
  refine ww_iload_n (pc := 1) X dX8_down_1 1 rfl rfl ?_
  refine ww_gVi (pc := 2) (rest := []) (gsN := [wX8 cI cZ cQ rM SM]) (ci := 8) (gi := 0) (qi := 0) X (c_X8_isPerson l D cI cZ cQ rM SM x1) gX8_down_X8_isPerson rfl hd_X8_isPerson [true] rfl rfl rfl rfl rfl rfl rfl rfl ⟨rfl, rfl⟩ ⟨Nat.le_of_ble_eq_true rfl, Nat.le_of_ble_eq_true rfl⟩ (Nat.le_of_ble_eq_true rfl) ⟨Nat.zero_le _, Nat.zero_le _⟩ dX8_down_2 ?_
  refine ww_if_eq (pc := 5) (tgt := 16) X dX8_down_5 (by decide) (fun c1 => ?_) (fun c1 => ?_)
  · refine ww_ldc (pc := 16) (v := (-1000000001)) X (by decide +kernel) dX8_down_16 ?_
    have h2 : f_X8_down SM x1 x2 = ((-1000000001), SM) := by unfold f_X8_down; try rw [if_pos c1]; first | done | rfl
    exact ww_iret X hr rfl (congrArg (fun u9 : Int32 × St => u9.1) h2).symm (congrArg (fun u9 : Int32 × St => fl [wX8 cI cZ cQ rM u9.2]) h2.symm) dX8_down_18
  · refine ww_aload_n (pc := 8) X dX8_down_8 0 rfl rfl ?_
    refine ww_iload_n (pc := 9) X dX8_down_9 2 rfl rfl ?_
    refine ww_gVi (pc := 10) (rest := []) (gsN := [wX8 cI cZ cQ rM SM]) (ci := 8) (gi := 0) (qi := 0) X (c_X8_isDepth l D cI cZ cQ rM SM x2) gX8_down_X8_isDepth rfl hd_X8_isDepth [true] rfl rfl rfl rfl rfl rfl rfl rfl ⟨rfl, rfl⟩ ⟨Nat.le_of_ble_eq_true rfl, Nat.le_of_ble_eq_true rfl⟩ (Nat.le_of_ble_eq_true rfl) ⟨Nat.zero_le _, Nat.zero_le _⟩ dX8_down_10 ?_
    refine ww_if_ne (pc := 13) (tgt := 19) X dX8_down_13 (by decide) (fun c3 => ?_) (fun c3 => ?_)
    · refine ww_aload_n (pc := 19) X dX8_down_19 0 rfl rfl ?_
      refine ww_iload_n (pc := 20) X dX8_down_20 1 rfl rfl ?_
      refine ww_gVi (pc := 21) (rest := []) (gsN := [wX8 cI cZ cQ rM SM]) (ci := 8) (gi := 0) (qi := 0) X (c_X8_isAbove l D cI cZ cQ rM SM x1 (in_X8_isPerson okM c1)) gX8_down_X8_isAbove rfl hd_X8_isAbove [true] rfl rfl rfl rfl rfl rfl rfl rfl ⟨rfl, rfl⟩ ⟨Nat.le_of_ble_eq_true rfl, Nat.le_of_ble_eq_true rfl⟩ (Nat.le_of_ble_eq_true rfl) ⟨Nat.zero_le _, Nat.zero_le _⟩ dX8_down_21 ?_
      refine ww_if_ne (pc := 24) (tgt := 30) X dX8_down_24 (by decide) (fun c4 => ?_) (fun c4 => ?_)
      · refine ww_aload_n (pc := 30) X dX8_down_30 0 rfl rfl ?_
        refine ww_gVv (pc := 31) (rest := []) (gsN := [wX8 cI cZ cQ rM (f_X8_notes SM)]) (ci := 8) (gi := 0) (qi := 0) X (c_X8_notes l D cI cZ cQ rM SM (by assumption) (by assumption)) gX8_down_X8_notes rfl hd_X8_notes [true] rfl (acons (ad8 _ _ _ _ _ _) rfl) rfl rfl rfl rfl rfl rfl ⟨rfl, rfl⟩ ⟨Nat.le_of_ble_eq_true rfl, Nat.le_of_ble_eq_true rfl⟩ (Nat.le_of_ble_eq_true rfl) ⟨Nat.zero_le _, Nat.zero_le _⟩ dX8_down_31 ?_
        generalize hz5 : (f_X8_notes SM) = z5
        refine ww_aload_n (pc := 34) X dX8_down_34 0 rfl rfl ?_
        refine ww_iload_n (pc := 35) X dX8_down_35 1 rfl rfl ?_
        refine ww_iload_n (pc := 36) X dX8_down_36 2 rfl rfl ?_
        refine ww_gVv (pc := 37) (rest := []) (gsN := [wX8 cI cZ cQ rM (f_X8_descends z5 x1 x2)]) (ci := 8) (gi := 0) (qi := 0) X (c_X8_descends l D cI cZ cQ rM z5 x1 x2 (in_X8_isPerson okM c1)) gX8_down_X8_descends rfl hd_X8_descends [true] rfl (acons (ad8 _ _ _ _ _ _) rfl) rfl rfl rfl rfl rfl rfl ⟨rfl, rfl⟩ ⟨Nat.le_of_ble_eq_true rfl, Nat.le_of_ble_eq_true rfl⟩ (Nat.le_of_ble_eq_true rfl) ⟨Nat.zero_le _, Nat.zero_le _⟩ dX8_down_37 ?_
        generalize hz6 : (f_X8_descends z5 x1 x2) = z6
        refine ww_aload_n (pc := 40) X dX8_down_40 0 rfl rfl ?_
        refine ww_get (pc := 41) (ci := 8) (v := .ref (rM 10)) (C := RX8) (T := TX8) (N := 27) X inX8_down_8 0 rfl rfl 11 (by decide) (by decide +kernel) rfl dX8_down_41 ?_
        refine ww_iconst (pc := 44) (v := 1) X dX8_down_44 (by decide) ?_
        refine ww_iload_n (pc := 45) X dX8_down_45 1 rfl rfl ?_
        have hb7 := clb (in_X8_isPerson okM c1)
        refine ww_iadd (pc := 46) X dX8_down_46 ?_
        refine ww_iald (pc := 47) (f := z6.2 9) X 10 0 rfl rfl (vn (m := 1 + ((x1 : Int32).toNatClampNeg)) (nat_iadd (a := 1) (b := (x1 : Int32).toNatClampNeg) rfl (cl_of (in_X8_isPerson okM c1))) (by omega) (by decide)) dX8_down_47 ?_
        have h8 : f_X8_down SM x1 x2 = ((z6.2 9) ((1 + x1 : Int32)).toNatClampNeg, z6) := by unfold f_X8_down; try rw [if_neg c1, if_neg c3, if_neg c4, hz5]; try unfold f_X8_down_k1; try rw [hz6]; try unfold f_X8_down_k2; first | done | rfl
        exact ww_iret X hr rfl (congrArg (fun u9 : Int32 × St => u9.1) h8).symm (congrArg (fun u9 : Int32 × St => fl [wX8 cI cZ cQ rM u9.2]) h8.symm) dX8_down_48
      · refine ww_ldc (pc := 27) (v := (-1000000003)) X (by decide +kernel) dX8_down_27 ?_
        have h9 : f_X8_down SM x1 x2 = ((-1000000003), SM) := by unfold f_X8_down; try rw [if_neg c1, if_neg c3, if_pos c4]; first | done | rfl
        exact ww_iret X hr rfl (congrArg (fun u9 : Int32 × St => u9.1) h9).symm (congrArg (fun u9 : Int32 × St => fl [wX8 cI cZ cQ rM u9.2]) h9.symm) dX8_down_29
    · refine ww_ldc (pc := 16) (v := (-1000000001)) X (by decide +kernel) dX8_down_16 ?_
      have h10 : f_X8_down SM x1 x2 = ((-1000000001), SM) := by unfold f_X8_down; try rw [if_neg c1, if_pos c3]; first | done | rfl
      exact ww_iret X hr rfl (congrArg (fun u9 : Int32 × St => u9.1) h10).symm (congrArg (fun u9 : Int32 × St => fl [wX8 cI cZ cQ rM u9.2]) h10.symm) dX8_down_18
def f_X8_ascends (SM : St) (x1 : Int32) : St :=
  (sA SM 9 (upd (upd (SM.2 9) ((8 + x1 : Int32)).toNatClampNeg 0) ((22 + x1 : Int32)).toNatClampNeg 0))
theorem inX8_ascends_8 : ∀ w ∈ wsX80, w ∈ wsX8_ascends := by decide +kernel
theorem hd_X8_ascends : yX8_ascends.cls = RX8 ∧ yX8_ascends.cls ≠ "java/lang/invoke/MethodHandle" ∧ yX8_ascends.cls ≠ "java/lang/invoke/VarHandle" ∧ (parseMethodDescriptor yX8_ascends.desc).map (fun d => d.parameters.length) = some 1 := by decide +kernel
set_option maxHeartbeats 4000000 in
set_option maxRecDepth 100000 in
theorem c_X8_ascends (l : Launch) (D : va_G) (cI cZ cQ : ClassId) (rM : Nat → Nat) (SM : St) (x1 : Int32) (hp : vp_in x1 7) : Cv l yX8_ascends wsX8_ascends { frames := 0, cells := 0, slots := 0, locals := 0 } D (tyL cI cZ cQ) [.ref (rM 0), .int x1] (fl [wX8 cI cZ cQ rM SM]) (fl [wX8 cI cZ cQ rM (f_X8_ascends SM x1)]) := by
  refine cv_of (cc := cX8_ascends) (nL := 2) (lv0 := [(0, .ref (rM 0)), (1, .int x1)]) (by decide) rfl (Nat.le_of_ble_eq_true rfl) rfl ?_
  intro p e s m args below meth c A X hr
  refine ww_aload_n (pc := 0) X dX8_ascends_0 0 rfl rfl ?_
  refine ww_get (pc := 1) (ci := 8) (v := .ref (rM 10)) (C := RX8) (T := TX8) (N := 27) X inX8_ascends_8 0 rfl rfl 11 (by decide) (by decide +kernel) rfl dX8_ascends_1 ?_
  refine ww_bipush (pc := 4) (v := 8) X dX8_ascends_4 (by decide) ?_
  refine ww_iload_n (pc := 6) X dX8_ascends_6 1 rfl rfl ?_
  have hb1 := clb hp
  refine ww_iadd (pc := 7) X dX8_ascends_7 ?_
  refine ww_iconst (pc := 8) (v := 0) X dX8_ascends_8 (by decide) ?_
  refine ww_iast (pc := 9) (f := SM.2 9) (ws' := fl [wX8 cI cZ cQ rM (sA SM 9 (upd (SM.2 9) ((8 + x1 : Int32)).toNatClampNeg 0))]) X 10 0 rfl rfl (vn (m := 8 + ((x1 : Int32).toNatClampNeg)) (nat_iadd (a := 8) (b := (x1 : Int32).toNatClampNeg) rfl (cl_of hp)) (by omega) (by decide)) rfl dX8_ascends_9 ?_
  refine ww_aload_n (pc := 10) X dX8_ascends_10 0 rfl rfl ?_
  refine ww_get (pc := 11) (ci := 8) (v := .ref (rM 10)) (C := RX8) (T := TX8) (N := 27) X inX8_ascends_8 0 rfl rfl 11 (by decide) (by decide +kernel) rfl dX8_ascends_11 ?_
  refine ww_bipush (pc := 14) (v := 22) X dX8_ascends_14 (by decide) ?_
  refine ww_iload_n (pc := 16) X dX8_ascends_16 1 rfl rfl ?_
  refine ww_iadd (pc := 17) X dX8_ascends_17 ?_
  refine ww_iconst (pc := 18) (v := 0) X dX8_ascends_18 (by decide) ?_
  refine ww_iast (pc := 19) (f := upd (SM.2 9) ((8 + x1 : Int32)).toNatClampNeg 0) (ws' := fl [wX8 cI cZ cQ rM (sA SM 9 (upd (upd (SM.2 9) ((8 + x1 : Int32)).toNatClampNeg 0) ((22 + x1 : Int32)).toNatClampNeg 0))]) X 10 0 rfl rfl (vn (m := 22 + ((x1 : Int32).toNatClampNeg)) (nat_iadd (a := 22) (b := (x1 : Int32).toNatClampNeg) rfl (cl_of hp)) (by omega) (by decide)) rfl dX8_ascends_19 ?_
  have h2 : f_X8_ascends SM x1 = (sA SM 9 (upd (upd (SM.2 9) ((8 + x1 : Int32)).toNatClampNeg 0) ((22 + x1 : Int32)).toNatClampNeg 0)) := by unfold f_X8_ascends; first | done | rfl
  exact ww_vret X hr (congrArg (fun u9 : St => fl [wX8 cI cZ cQ rM u9]) h2.symm) dX8_ascends_20
def f_X8_up_k2 (SM : St) (x1 : Int32) (z3 : St) (z4 : St) : Int32 × St :=
  (f_X8_daysOf z3 x1, z4)
def f_X8_up_k1 (SM : St) (x1 : Int32) (z3 : St) : Int32 × St :=
  f_X8_up_k2 SM x1 z3 (f_X8_ascends z3 x1)
def f_X8_up (SM : St) (x1 : Int32) : Int32 × St :=
  if (f_X8_isPerson SM x1) = 0 then
    ((-1000000001), SM)
  else
    if (f_X8_isBelow SM x1) = 0 then
      ((-1000000003), SM)
    else
      f_X8_up_k1 SM x1 (f_X8_notes SM)
theorem hd_X8_up : yX8_up.cls = RX8 ∧ yX8_up.cls ≠ "java/lang/invoke/MethodHandle" ∧ yX8_up.cls ≠ "java/lang/invoke/VarHandle" ∧ (parseMethodDescriptor yX8_up.desc).map (fun d => d.parameters.length) = some 1 := by decide +kernel
set_option maxHeartbeats 4000000 in
set_option maxRecDepth 100000 in
theorem c_X8_up (l : Launch) (D : va_G) (cI cZ cQ : ClassId) (rM : Nat → Nat) (SM : St) (x1 : Int32) (okM : okM SM) (n0 : ¬ (SM.1 2) < 0) (n1 : SM.1 2 ≤ 20) (okw : okW SM x1) : Ci l yX8_up wsX8_up { frames := 2, cells := 0, slots := 0, locals := 43 } D (tyL cI cZ cQ) [.ref (rM 0), .int x1] (fl [wX8 cI cZ cQ rM SM]) ((f_X8_up SM x1).1) (fl [wX8 cI cZ cQ rM ((f_X8_up SM x1).2)]) := by
  refine ci_of (cc := cX8_up) (nL := 3) (ty := .int) (lv0 := [(0, .ref (rM 0)), (1, .int x1)]) (by decide) rfl (Nat.le_of_ble_eq_true rfl) rfl ?_
  intro p e s m args below meth c A X hr
  refine ww_aload_n (pc := 0) X dX8_up_0 0 rfl rfl ?_
  refine ww_iload_n (pc := 1) X dX8_up_1 1 rfl rfl ?_
  refine ww_gVi (pc := 2) (rest := []) (gsN := [wX8 cI cZ cQ rM SM]) (ci := 8) (gi := 0) (qi := 0) X (c_X8_isPerson l D cI cZ cQ rM SM x1) gX8_up_X8_isPerson rfl hd_X8_isPerson [true] rfl rfl rfl rfl rfl rfl rfl rfl ⟨rfl, rfl⟩ ⟨Nat.le_of_ble_eq_true rfl, Nat.le_of_ble_eq_true rfl⟩ (Nat.le_of_ble_eq_true rfl) ⟨Nat.zero_le _, Nat.zero_le _⟩ dX8_up_2 ?_
  refine ww_if_ne (pc := 5) (tgt := 11) X dX8_up_5 (by decide) (fun c1 => ?_) (fun c1 => ?_)
  · refine ww_aload_n (pc := 11) X dX8_up_11 0 rfl rfl ?_
    refine ww_iload_n (pc := 12) X dX8_up_12 1 rfl rfl ?_
    refine ww_gVi (pc := 13) (rest := []) (gsN := [wX8 cI cZ cQ rM SM]) (ci := 8) (gi := 0) (qi := 0) X (c_X8_isBelow l D cI cZ cQ rM SM x1 (in_X8_isPerson okM c1)) gX8_up_X8_isBelow rfl hd_X8_isBelow [true] rfl rfl rfl rfl rfl rfl rfl rfl ⟨rfl, rfl⟩ ⟨Nat.le_of_ble_eq_true rfl, Nat.le_of_ble_eq_true rfl⟩ (Nat.le_of_ble_eq_true rfl) ⟨Nat.zero_le _, Nat.zero_le _⟩ dX8_up_13 ?_
    refine ww_if_ne (pc := 16) (tgt := 22) X dX8_up_16 (by decide) (fun c2 => ?_) (fun c2 => ?_)
    · refine ww_aload_n (pc := 22) X dX8_up_22 0 rfl rfl ?_
      refine ww_gVv (pc := 23) (rest := []) (gsN := [wX8 cI cZ cQ rM (f_X8_notes SM)]) (ci := 8) (gi := 0) (qi := 0) X (c_X8_notes l D cI cZ cQ rM SM (by assumption) (by assumption)) gX8_up_X8_notes rfl hd_X8_notes [true] rfl (acons (ad8 _ _ _ _ _ _) rfl) rfl rfl rfl rfl rfl rfl ⟨rfl, rfl⟩ ⟨Nat.le_of_ble_eq_true rfl, Nat.le_of_ble_eq_true rfl⟩ (Nat.le_of_ble_eq_true rfl) ⟨Nat.zero_le _, Nat.zero_le _⟩ dX8_up_23 ?_
      generalize hz3 : (f_X8_notes SM) = z3
      refine ww_aload_n (pc := 26) X dX8_up_26 0 rfl rfl ?_
      refine ww_iload_n (pc := 27) X dX8_up_27 1 rfl rfl ?_
      refine ww_gVi (pc := 28) (rest := []) (gsN := [wX8 cI cZ cQ rM z3]) (ci := 8) (gi := 0) (qi := 0) X (c_X8_daysOf l D cI cZ cQ rM z3 x1 (in_X8_isPerson okM c1) (up_w hz3 okw)) gX8_up_X8_daysOf rfl hd_X8_daysOf [true] rfl rfl rfl rfl rfl rfl rfl rfl ⟨rfl, rfl⟩ ⟨Nat.le_of_ble_eq_true rfl, Nat.le_of_ble_eq_true rfl⟩ (Nat.le_of_ble_eq_true rfl) ⟨Nat.zero_le _, Nat.zero_le _⟩ dX8_up_28 ?_
      refine ww_istore_n (pc := 31) (lv' := [(2, .int (f_X8_daysOf z3 x1)), (0, .ref (rM 0)), (1, .int x1)]) X dX8_up_31 rfl (by decide) rfl ?_
      refine ww_aload_n (pc := 32) X dX8_up_32 1 rfl rfl ?_
      refine ww_iload_n (pc := 33) X dX8_up_33 2 rfl rfl ?_
      refine ww_gVv (pc := 34) (rest := []) (gsN := [wX8 cI cZ cQ rM (f_X8_ascends z3 x1)]) (ci := 8) (gi := 0) (qi := 0) X (c_X8_ascends l D cI cZ cQ rM z3 x1 (in_X8_isPerson okM c1)) gX8_up_X8_ascends rfl hd_X8_ascends [true] rfl (acons (ad8 _ _ _ _ _ _) rfl) rfl rfl rfl rfl rfl rfl ⟨rfl, rfl⟩ ⟨Nat.le_of_ble_eq_true rfl, Nat.le_of_ble_eq_true rfl⟩ (Nat.le_of_ble_eq_true rfl) ⟨Nat.zero_le _, Nat.zero_le _⟩ dX8_up_34 ?_
      generalize hz4 : (f_X8_ascends z3 x1) = z4
      refine ww_iload_n (pc := 37) X dX8_up_37 0 rfl rfl ?_
      have h5 : f_X8_up SM x1 = (f_X8_daysOf z3 x1, z4) := by unfold f_X8_up; try rw [if_neg c1, if_neg c2, hz3]; try unfold f_X8_up_k1; try rw [hz4]; try unfold f_X8_up_k2; first | done | rfl
      exact ww_iret X hr rfl (congrArg (fun u9 : Int32 × St => u9.1) h5).symm (congrArg (fun u9 : Int32 × St => fl [wX8 cI cZ cQ rM u9.2]) h5.symm) dX8_up_38
    · refine ww_ldc (pc := 19) (v := (-1000000003)) X (by decide +kernel) dX8_up_19 ?_
      have h6 : f_X8_up SM x1 = ((-1000000003), SM) := by unfold f_X8_up; try rw [if_neg c1, if_pos c2]; first | done | rfl
      exact ww_iret X hr rfl (congrArg (fun u9 : Int32 × St => u9.1) h6).symm (congrArg (fun u9 : Int32 × St => fl [wX8 cI cZ cQ rM u9.2]) h6.symm) dX8_up_21
  · refine ww_ldc (pc := 8) (v := (-1000000001)) X (by decide +kernel) dX8_up_8 ?_
    have h7 : f_X8_up SM x1 = ((-1000000001), SM) := by unfold f_X8_up; try rw [if_pos c1]; first | done | rfl
    exact ww_iret X hr rfl (congrArg (fun u9 : Int32 × St => u9.1) h7).symm (congrArg (fun u9 : Int32 × St => fl [wX8 cI cZ cQ rM u9.2]) h7.symm) dX8_up_10
def f_X8_open_k1 (SM : St) (x1 : Int32) (z3 : St) : Int32 × St :=
  if ((upd (upd (z3.2 9) ((1 + x1 : Int32)).toNatClampNeg (((z3.2 9) ((1 + x1 : Int32)).toNatClampNeg) + ((z3.2 9) ((15 + x1 : Int32)).toNatClampNeg))) ((15 + x1 : Int32)).toNatClampNeg 0) ((1 + x1 : Int32)).toNatClampNeg) < (f_X8_end (sA z3 9 (upd (upd (z3.2 9) ((1 + x1 : Int32)).toNatClampNeg (((z3.2 9) ((1 + x1 : Int32)).toNatClampNeg) + ((z3.2 9) ((15 + x1 : Int32)).toNatClampNeg))) ((15 + x1 : Int32)).toNatClampNeg 0)) x1) then
    ((upd (upd (upd (z3.2 9) ((1 + x1 : Int32)).toNatClampNeg (((z3.2 9) ((1 + x1 : Int32)).toNatClampNeg) + ((z3.2 9) ((15 + x1 : Int32)).toNatClampNeg))) ((15 + x1 : Int32)).toNatClampNeg 0) ((8 + x1 : Int32)).toNatClampNeg 0) ((1 + x1 : Int32)).toNatClampNeg, (sA z3 9 (upd (upd (upd (z3.2 9) ((1 + x1 : Int32)).toNatClampNeg (((z3.2 9) ((1 + x1 : Int32)).toNatClampNeg) + ((z3.2 9) ((15 + x1 : Int32)).toNatClampNeg))) ((15 + x1 : Int32)).toNatClampNeg 0) ((8 + x1 : Int32)).toNatClampNeg 0)))
  else
    ((upd (upd (upd (z3.2 9) ((1 + x1 : Int32)).toNatClampNeg (((z3.2 9) ((1 + x1 : Int32)).toNatClampNeg) + ((z3.2 9) ((15 + x1 : Int32)).toNatClampNeg))) ((15 + x1 : Int32)).toNatClampNeg 0) ((8 + x1 : Int32)).toNatClampNeg 1) ((1 + x1 : Int32)).toNatClampNeg, (sA z3 9 (upd (upd (upd (z3.2 9) ((1 + x1 : Int32)).toNatClampNeg (((z3.2 9) ((1 + x1 : Int32)).toNatClampNeg) + ((z3.2 9) ((15 + x1 : Int32)).toNatClampNeg))) ((15 + x1 : Int32)).toNatClampNeg 0) ((8 + x1 : Int32)).toNatClampNeg 1)))
def f_X8_open (SM : St) (x1 : Int32) : Int32 × St :=
  if (f_X8_isPerson SM x1) = 0 then
    ((-1000000001), SM)
  else
    if (f_X8_isAbove SM x1) = 0 then
      ((-1000000003), SM)
    else
      f_X8_open_k1 SM x1 (f_X8_notes SM)
theorem inX8_open_8 : ∀ w ∈ wsX80, w ∈ wsX8_open := by decide +kernel
theorem hd_X8_open : yX8_open.cls = RX8 ∧ yX8_open.cls ≠ "java/lang/invoke/MethodHandle" ∧ yX8_open.cls ≠ "java/lang/invoke/VarHandle" ∧ (parseMethodDescriptor yX8_open.desc).map (fun d => d.parameters.length) = some 1 := by decide +kernel
set_option maxHeartbeats 4000000 in
set_option maxRecDepth 100000 in
theorem c_X8_open (l : Launch) (D : va_G) (cI cZ cQ : ClassId) (rM : Nat → Nat) (SM : St) (x1 : Int32) (okM : okM SM) (n0 : ¬ (SM.1 2) < 0) (n1 : SM.1 2 ≤ 20) : Ci l yX8_open wsX8_open { frames := 2, cells := 0, slots := 0, locals := 43 } D (tyL cI cZ cQ) [.ref (rM 0), .int x1] (fl [wX8 cI cZ cQ rM SM]) ((f_X8_open SM x1).1) (fl [wX8 cI cZ cQ rM ((f_X8_open SM x1).2)]) := by
  refine ci_of (cc := cX8_open) (nL := 2) (ty := .int) (lv0 := [(0, .ref (rM 0)), (1, .int x1)]) (by decide) rfl (Nat.le_of_ble_eq_true rfl) rfl ?_
  intro p e s m args below meth c A X hr
  refine ww_aload_n (pc := 0) X dX8_open_0 0 rfl rfl ?_
  refine ww_iload_n (pc := 1) X dX8_open_1 1 rfl rfl ?_
  refine ww_gVi (pc := 2) (rest := []) (gsN := [wX8 cI cZ cQ rM SM]) (ci := 8) (gi := 0) (qi := 0) X (c_X8_isPerson l D cI cZ cQ rM SM x1) gX8_open_X8_isPerson rfl hd_X8_isPerson [true] rfl rfl rfl rfl rfl rfl rfl rfl ⟨rfl, rfl⟩ ⟨Nat.le_of_ble_eq_true rfl, Nat.le_of_ble_eq_true rfl⟩ (Nat.le_of_ble_eq_true rfl) ⟨Nat.zero_le _, Nat.zero_le _⟩ dX8_open_2 ?_
  refine ww_if_ne (pc := 5) (tgt := 11) X dX8_open_5 (by decide) (fun c1 => ?_) (fun c1 => ?_)
  · refine ww_aload_n (pc := 11) X dX8_open_11 0 rfl rfl ?_
    refine ww_iload_n (pc := 12) X dX8_open_12 1 rfl rfl ?_
    refine ww_gVi (pc := 13) (rest := []) (gsN := [wX8 cI cZ cQ rM SM]) (ci := 8) (gi := 0) (qi := 0) X (c_X8_isAbove l D cI cZ cQ rM SM x1 (in_X8_isPerson okM c1)) gX8_open_X8_isAbove rfl hd_X8_isAbove [true] rfl rfl rfl rfl rfl rfl rfl rfl ⟨rfl, rfl⟩ ⟨Nat.le_of_ble_eq_true rfl, Nat.le_of_ble_eq_true rfl⟩ (Nat.le_of_ble_eq_true rfl) ⟨Nat.zero_le _, Nat.zero_le _⟩ dX8_open_13 ?_
    refine ww_if_ne (pc := 16) (tgt := 22) X dX8_open_16 (by decide) (fun c2 => ?_) (fun c2 => ?_)
    · refine ww_aload_n (pc := 22) X dX8_open_22 0 rfl rfl ?_
      refine ww_gVv (pc := 23) (rest := []) (gsN := [wX8 cI cZ cQ rM (f_X8_notes SM)]) (ci := 8) (gi := 0) (qi := 0) X (c_X8_notes l D cI cZ cQ rM SM (by assumption) (by assumption)) gX8_open_X8_notes rfl hd_X8_notes [true] rfl (acons (ad8 _ _ _ _ _ _) rfl) rfl rfl rfl rfl rfl rfl ⟨rfl, rfl⟩ ⟨Nat.le_of_ble_eq_true rfl, Nat.le_of_ble_eq_true rfl⟩ (Nat.le_of_ble_eq_true rfl) ⟨Nat.zero_le _, Nat.zero_le _⟩ dX8_open_23 ?_
      generalize hz3 : (f_X8_notes SM) = z3
      refine ww_aload_n (pc := 26) X dX8_open_26 0 rfl rfl ?_
      refine ww_get (pc := 27) (ci := 8) (v := .ref (rM 10)) (C := RX8) (T := TX8) (N := 27) X inX8_open_8 0 rfl rfl 11 (by decide) (by decide +kernel) rfl dX8_open_27 ?_
      refine ww_iconst (pc := 30) (v := 1) X dX8_open_30 (by decide) ?_
      refine ww_iload_n (pc := 31) X dX8_open_31 1 rfl rfl ?_
      have hb4 := clb (in_X8_isPerson okM c1)
      refine ww_iadd (pc := 32) X dX8_open_32 ?_
      refine ww_dup2_11 (pc := 33) X dX8_open_33 rfl rfl ?_
      refine ww_iald (pc := 34) (f := z3.2 9) X 10 0 rfl rfl (vn (m := 1 + ((x1 : Int32).toNatClampNeg)) (nat_iadd (a := 1) (b := (x1 : Int32).toNatClampNeg) rfl (cl_of (in_X8_isPerson okM c1))) (by omega) (by decide)) dX8_open_34 ?_
      refine ww_aload_n (pc := 35) X dX8_open_35 0 rfl rfl ?_
      refine ww_get (pc := 36) (ci := 8) (v := .ref (rM 10)) (C := RX8) (T := TX8) (N := 27) X inX8_open_8 0 rfl rfl 11 (by decide) (by decide +kernel) rfl dX8_open_36 ?_
      refine ww_bipush (pc := 39) (v := 15) X dX8_open_39 (by decide) ?_
      refine ww_iload_n (pc := 41) X dX8_open_41 1 rfl rfl ?_
      refine ww_iadd (pc := 42) X dX8_open_42 ?_
      refine ww_iald (pc := 43) (f := z3.2 9) X 10 0 rfl rfl (vn (m := 15 + ((x1 : Int32).toNatClampNeg)) (nat_iadd (a := 15) (b := (x1 : Int32).toNatClampNeg) rfl (cl_of (in_X8_isPerson okM c1))) (by omega) (by decide)) dX8_open_43 ?_
      refine ww_iadd (pc := 44) X dX8_open_44 ?_
      refine ww_iast (pc := 45) (f := z3.2 9) (ws' := fl [wX8 cI cZ cQ rM (sA z3 9 (upd (z3.2 9) ((1 + x1 : Int32)).toNatClampNeg (((z3.2 9) ((1 + x1 : Int32)).toNatClampNeg) + ((z3.2 9) ((15 + x1 : Int32)).toNatClampNeg))))]) X 10 0 rfl rfl (vn (m := 1 + ((x1 : Int32).toNatClampNeg)) (nat_iadd (a := 1) (b := (x1 : Int32).toNatClampNeg) rfl (cl_of (in_X8_isPerson okM c1))) (by omega) (by decide)) rfl dX8_open_45 ?_
      refine ww_aload_n (pc := 46) X dX8_open_46 0 rfl rfl ?_
      refine ww_get (pc := 47) (ci := 8) (v := .ref (rM 10)) (C := RX8) (T := TX8) (N := 27) X inX8_open_8 0 rfl rfl 11 (by decide) (by decide +kernel) rfl dX8_open_47 ?_
      refine ww_bipush (pc := 50) (v := 15) X dX8_open_50 (by decide) ?_
      refine ww_iload_n (pc := 52) X dX8_open_52 1 rfl rfl ?_
      refine ww_iadd (pc := 53) X dX8_open_53 ?_
      refine ww_iconst (pc := 54) (v := 0) X dX8_open_54 (by decide) ?_
      refine ww_iast (pc := 55) (f := upd (z3.2 9) ((1 + x1 : Int32)).toNatClampNeg (((z3.2 9) ((1 + x1 : Int32)).toNatClampNeg) + ((z3.2 9) ((15 + x1 : Int32)).toNatClampNeg))) (ws' := fl [wX8 cI cZ cQ rM (sA z3 9 (upd (upd (z3.2 9) ((1 + x1 : Int32)).toNatClampNeg (((z3.2 9) ((1 + x1 : Int32)).toNatClampNeg) + ((z3.2 9) ((15 + x1 : Int32)).toNatClampNeg))) ((15 + x1 : Int32)).toNatClampNeg 0))]) X 10 0 rfl rfl (vn (m := 15 + ((x1 : Int32).toNatClampNeg)) (nat_iadd (a := 15) (b := (x1 : Int32).toNatClampNeg) rfl (cl_of (in_X8_isPerson okM c1))) (by omega) (by decide)) rfl dX8_open_55 ?_
      refine ww_aload_n (pc := 56) X dX8_open_56 0 rfl rfl ?_
      refine ww_get (pc := 57) (ci := 8) (v := .ref (rM 10)) (C := RX8) (T := TX8) (N := 27) X inX8_open_8 0 rfl rfl 11 (by decide) (by decide +kernel) rfl dX8_open_57 ?_
      refine ww_bipush (pc := 60) (v := 8) X dX8_open_60 (by decide) ?_
      refine ww_iload_n (pc := 62) X dX8_open_62 1 rfl rfl ?_
      refine ww_iadd (pc := 63) X dX8_open_63 ?_
      refine ww_aload_n (pc := 64) X dX8_open_64 0 rfl rfl ?_
      refine ww_get (pc := 65) (ci := 8) (v := .ref (rM 10)) (C := RX8) (T := TX8) (N := 27) X inX8_open_8 0 rfl rfl 11 (by decide) (by decide +kernel) rfl dX8_open_65 ?_
      refine ww_iconst (pc := 68) (v := 1) X dX8_open_68 (by decide) ?_
      refine ww_iload_n (pc := 69) X dX8_open_69 1 rfl rfl ?_
      refine ww_iadd (pc := 70) X dX8_open_70 ?_
      refine ww_iald (pc := 71) (f := upd (upd (z3.2 9) ((1 + x1 : Int32)).toNatClampNeg (((z3.2 9) ((1 + x1 : Int32)).toNatClampNeg) + ((z3.2 9) ((15 + x1 : Int32)).toNatClampNeg))) ((15 + x1 : Int32)).toNatClampNeg 0) X 10 0 rfl rfl (vn (m := 1 + ((x1 : Int32).toNatClampNeg)) (nat_iadd (a := 1) (b := (x1 : Int32).toNatClampNeg) rfl (cl_of (in_X8_isPerson okM c1))) (by omega) (by decide)) dX8_open_71 ?_
      refine ww_aload_n (pc := 72) X dX8_open_72 0 rfl rfl ?_
      refine ww_iload_n (pc := 73) X dX8_open_73 1 rfl rfl ?_
      refine ww_gVi (pc := 74) (rest := [.int ((upd (upd (z3.2 9) ((1 + x1 : Int32)).toNatClampNeg (((z3.2 9) ((1 + x1 : Int32)).toNatClampNeg) + ((z3.2 9) ((15 + x1 : Int32)).toNatClampNeg))) ((15 + x1 : Int32)).toNatClampNeg 0) ((1 + x1 : Int32)).toNatClampNeg), .int (8 + x1), .ref (rM 10)]) (gsN := [wX8 cI cZ cQ rM (sA z3 9 (upd (upd (z3.2 9) ((1 + x1 : Int32)).toNatClampNeg (((z3.2 9) ((1 + x1 : Int32)).toNatClampNeg) + ((z3.2 9) ((15 + x1 : Int32)).toNatClampNeg))) ((15 + x1 : Int32)).toNatClampNeg 0))]) (ci := 8) (gi := 0) (qi := 0) X (c_X8_end l D cI cZ cQ rM (sA z3 9 (upd (upd (z3.2 9) ((1 + x1 : Int32)).toNatClampNeg (((z3.2 9) ((1 + x1 : Int32)).toNatClampNeg) + ((z3.2 9) ((15 + x1 : Int32)).toNatClampNeg))) ((15 + x1 : Int32)).toNatClampNeg 0)) x1 (in_X8_isPerson okM c1)) gX8_open_X8_end rfl hd_X8_end [true] rfl rfl rfl rfl rfl rfl rfl rfl ⟨rfl, rfl⟩ ⟨Nat.le_of_ble_eq_true rfl, Nat.le_of_ble_eq_true rfl⟩ (Nat.le_of_ble_eq_true rfl) ⟨Nat.zero_le _, Nat.zero_le _⟩ dX8_open_74 ?_
      refine ww_icmp_lt (pc := 77) (tgt := 84) X dX8_open_77 (by decide) (fun c5 => ?_) (fun c5 => ?_)
      · refine ww_iconst (pc := 84) (v := 0) X dX8_open_84 (by decide) ?_
        refine ww_iast (pc := 85) (f := upd (upd (z3.2 9) ((1 + x1 : Int32)).toNatClampNeg (((z3.2 9) ((1 + x1 : Int32)).toNatClampNeg) + ((z3.2 9) ((15 + x1 : Int32)).toNatClampNeg))) ((15 + x1 : Int32)).toNatClampNeg 0) (ws' := fl [wX8 cI cZ cQ rM (sA z3 9 (upd (upd (upd (z3.2 9) ((1 + x1 : Int32)).toNatClampNeg (((z3.2 9) ((1 + x1 : Int32)).toNatClampNeg) + ((z3.2 9) ((15 + x1 : Int32)).toNatClampNeg))) ((15 + x1 : Int32)).toNatClampNeg 0) ((8 + x1 : Int32)).toNatClampNeg 0))]) X 10 0 rfl rfl (vn (m := 8 + ((x1 : Int32).toNatClampNeg)) (nat_iadd (a := 8) (b := (x1 : Int32).toNatClampNeg) rfl (cl_of (in_X8_isPerson okM c1))) (by omega) (by decide)) rfl dX8_open_85 ?_
        refine ww_aload_n (pc := 86) X dX8_open_86 0 rfl rfl ?_
        refine ww_get (pc := 87) (ci := 8) (v := .ref (rM 10)) (C := RX8) (T := TX8) (N := 27) X inX8_open_8 0 rfl rfl 11 (by decide) (by decide +kernel) rfl dX8_open_87 ?_
        refine ww_iconst (pc := 90) (v := 1) X dX8_open_90 (by decide) ?_
        refine ww_iload_n (pc := 91) X dX8_open_91 1 rfl rfl ?_
        refine ww_iadd (pc := 92) X dX8_open_92 ?_
        refine ww_iald (pc := 93) (f := upd (upd (upd (z3.2 9) ((1 + x1 : Int32)).toNatClampNeg (((z3.2 9) ((1 + x1 : Int32)).toNatClampNeg) + ((z3.2 9) ((15 + x1 : Int32)).toNatClampNeg))) ((15 + x1 : Int32)).toNatClampNeg 0) ((8 + x1 : Int32)).toNatClampNeg 0) X 10 0 rfl rfl (vn (m := 1 + ((x1 : Int32).toNatClampNeg)) (nat_iadd (a := 1) (b := (x1 : Int32).toNatClampNeg) rfl (cl_of (in_X8_isPerson okM c1))) (by omega) (by decide)) dX8_open_93 ?_
        have h6 : f_X8_open SM x1 = ((upd (upd (upd (z3.2 9) ((1 + x1 : Int32)).toNatClampNeg (((z3.2 9) ((1 + x1 : Int32)).toNatClampNeg) + ((z3.2 9) ((15 + x1 : Int32)).toNatClampNeg))) ((15 + x1 : Int32)).toNatClampNeg 0) ((8 + x1 : Int32)).toNatClampNeg 0) ((1 + x1 : Int32)).toNatClampNeg, (sA z3 9 (upd (upd (upd (z3.2 9) ((1 + x1 : Int32)).toNatClampNeg (((z3.2 9) ((1 + x1 : Int32)).toNatClampNeg) + ((z3.2 9) ((15 + x1 : Int32)).toNatClampNeg))) ((15 + x1 : Int32)).toNatClampNeg 0) ((8 + x1 : Int32)).toNatClampNeg 0))) := by unfold f_X8_open; try rw [if_neg c1, if_neg c2, hz3]; try unfold f_X8_open_k1; try rw [if_pos c5]; first | done | rfl
        exact ww_iret X hr rfl (congrArg (fun u9 : Int32 × St => u9.1) h6).symm (congrArg (fun u9 : Int32 × St => fl [wX8 cI cZ cQ rM u9.2]) h6.symm) dX8_open_94
      · refine ww_iconst (pc := 80) (v := 1) X dX8_open_80 (by decide) ?_
        refine ww_goto (pc := 81) (tgt := 85) X dX8_open_81 (by decide) ?_
        refine ww_iast (pc := 85) (f := upd (upd (z3.2 9) ((1 + x1 : Int32)).toNatClampNeg (((z3.2 9) ((1 + x1 : Int32)).toNatClampNeg) + ((z3.2 9) ((15 + x1 : Int32)).toNatClampNeg))) ((15 + x1 : Int32)).toNatClampNeg 0) (ws' := fl [wX8 cI cZ cQ rM (sA z3 9 (upd (upd (upd (z3.2 9) ((1 + x1 : Int32)).toNatClampNeg (((z3.2 9) ((1 + x1 : Int32)).toNatClampNeg) + ((z3.2 9) ((15 + x1 : Int32)).toNatClampNeg))) ((15 + x1 : Int32)).toNatClampNeg 0) ((8 + x1 : Int32)).toNatClampNeg 1))]) X 10 0 rfl rfl (vn (m := 8 + ((x1 : Int32).toNatClampNeg)) (nat_iadd (a := 8) (b := (x1 : Int32).toNatClampNeg) rfl (cl_of (in_X8_isPerson okM c1))) (by omega) (by decide)) rfl dX8_open_85 ?_
        refine ww_aload_n (pc := 86) X dX8_open_86 0 rfl rfl ?_
        refine ww_get (pc := 87) (ci := 8) (v := .ref (rM 10)) (C := RX8) (T := TX8) (N := 27) X inX8_open_8 0 rfl rfl 11 (by decide) (by decide +kernel) rfl dX8_open_87 ?_
        refine ww_iconst (pc := 90) (v := 1) X dX8_open_90 (by decide) ?_
        refine ww_iload_n (pc := 91) X dX8_open_91 1 rfl rfl ?_
        refine ww_iadd (pc := 92) X dX8_open_92 ?_
        refine ww_iald (pc := 93) (f := upd (upd (upd (z3.2 9) ((1 + x1 : Int32)).toNatClampNeg (((z3.2 9) ((1 + x1 : Int32)).toNatClampNeg) + ((z3.2 9) ((15 + x1 : Int32)).toNatClampNeg))) ((15 + x1 : Int32)).toNatClampNeg 0) ((8 + x1 : Int32)).toNatClampNeg 1) X 10 0 rfl rfl (vn (m := 1 + ((x1 : Int32).toNatClampNeg)) (nat_iadd (a := 1) (b := (x1 : Int32).toNatClampNeg) rfl (cl_of (in_X8_isPerson okM c1))) (by omega) (by decide)) dX8_open_93 ?_
        have h7 : f_X8_open SM x1 = ((upd (upd (upd (z3.2 9) ((1 + x1 : Int32)).toNatClampNeg (((z3.2 9) ((1 + x1 : Int32)).toNatClampNeg) + ((z3.2 9) ((15 + x1 : Int32)).toNatClampNeg))) ((15 + x1 : Int32)).toNatClampNeg 0) ((8 + x1 : Int32)).toNatClampNeg 1) ((1 + x1 : Int32)).toNatClampNeg, (sA z3 9 (upd (upd (upd (z3.2 9) ((1 + x1 : Int32)).toNatClampNeg (((z3.2 9) ((1 + x1 : Int32)).toNatClampNeg) + ((z3.2 9) ((15 + x1 : Int32)).toNatClampNeg))) ((15 + x1 : Int32)).toNatClampNeg 0) ((8 + x1 : Int32)).toNatClampNeg 1))) := by unfold f_X8_open; try rw [if_neg c1, if_neg c2, hz3]; try unfold f_X8_open_k1; try rw [if_neg c5]; first | done | rfl
        exact ww_iret X hr rfl (congrArg (fun u9 : Int32 × St => u9.1) h7).symm (congrArg (fun u9 : Int32 × St => fl [wX8 cI cZ cQ rM u9.2]) h7.symm) dX8_open_94
    · refine ww_ldc (pc := 19) (v := (-1000000003)) X (by decide +kernel) dX8_open_19 ?_
      have h8 : f_X8_open SM x1 = ((-1000000003), SM) := by unfold f_X8_open; try rw [if_neg c1, if_pos c2]; first | done | rfl
      exact ww_iret X hr rfl (congrArg (fun u9 : Int32 × St => u9.1) h8).symm (congrArg (fun u9 : Int32 × St => fl [wX8 cI cZ cQ rM u9.2]) h8.symm) dX8_open_21
  · refine ww_ldc (pc := 8) (v := (-1000000001)) X (by decide +kernel) dX8_open_8 ?_
    have h9 : f_X8_open SM x1 = ((-1000000001), SM) := by unfold f_X8_open; try rw [if_pos c1]; first | done | rfl
    exact ww_iret X hr rfl (congrArg (fun u9 : Int32 × St => u9.1) h9).symm (congrArg (fun u9 : Int32 × St => fl [wX8 cI cZ cQ rM u9.2]) h9.symm) dX8_open_10
def f_X8_take_k1 (SM : St) (x1 : Int32) (z4 : St) : Int32 × St :=
  ((z4.2 9) ((29 + x1 : Int32)).toNatClampNeg, (sA z4 9 (upd (z4.2 9) ((29 + x1 : Int32)).toNatClampNeg 0)))
def f_X8_take (SM : St) (x1 : Int32) : Int32 × St :=
  if (f_X8_isGood SM x1) = 0 then
    ((-1000000001), SM)
  else
    if ((SM.2 9) ((29 + x1 : Int32)).toNatClampNeg) = 0 then
      ((-1000000003), SM)
    else
      f_X8_take_k1 SM x1 (f_X8_notes SM)
theorem inX8_take_8 : ∀ w ∈ wsX80, w ∈ wsX8_take := by decide +kernel
theorem hd_X8_take : yX8_take.cls = RX8 ∧ yX8_take.cls ≠ "java/lang/invoke/MethodHandle" ∧ yX8_take.cls ≠ "java/lang/invoke/VarHandle" ∧ (parseMethodDescriptor yX8_take.desc).map (fun d => d.parameters.length) = some 1 := by decide +kernel
set_option maxHeartbeats 4000000 in
set_option maxRecDepth 100000 in
theorem c_X8_take (l : Launch) (D : va_G) (cI cZ cQ : ClassId) (rM : Nat → Nat) (SM : St) (x1 : Int32) (okM : okM SM) (n0 : ¬ (SM.1 2) < 0) (n1 : SM.1 2 ≤ 20) : Ci l yX8_take wsX8_take { frames := 2, cells := 0, slots := 0, locals := 43 } D (tyL cI cZ cQ) [.ref (rM 0), .int x1] (fl [wX8 cI cZ cQ rM SM]) ((f_X8_take SM x1).1) (fl [wX8 cI cZ cQ rM ((f_X8_take SM x1).2)]) := by
  refine ci_of (cc := cX8_take) (nL := 3) (ty := .int) (lv0 := [(0, .ref (rM 0)), (1, .int x1)]) (by decide) rfl (Nat.le_of_ble_eq_true rfl) rfl ?_
  intro p e s m args below meth c A X hr
  refine ww_aload_n (pc := 0) X dX8_take_0 0 rfl rfl ?_
  refine ww_iload_n (pc := 1) X dX8_take_1 1 rfl rfl ?_
  refine ww_gVi (pc := 2) (rest := []) (gsN := [wX8 cI cZ cQ rM SM]) (ci := 8) (gi := 0) (qi := 0) X (c_X8_isGood l D cI cZ cQ rM SM x1) gX8_take_X8_isGood rfl hd_X8_isGood [true] rfl rfl rfl rfl rfl rfl rfl rfl ⟨rfl, rfl⟩ ⟨Nat.le_of_ble_eq_true rfl, Nat.le_of_ble_eq_true rfl⟩ (Nat.le_of_ble_eq_true rfl) ⟨Nat.zero_le _, Nat.zero_le _⟩ dX8_take_2 ?_
  refine ww_if_ne (pc := 5) (tgt := 11) X dX8_take_5 (by decide) (fun c1 => ?_) (fun c1 => ?_)
  · refine ww_aload_n (pc := 11) X dX8_take_11 0 rfl rfl ?_
    refine ww_get (pc := 12) (ci := 8) (v := .ref (rM 10)) (C := RX8) (T := TX8) (N := 27) X inX8_take_8 0 rfl rfl 11 (by decide) (by decide +kernel) rfl dX8_take_12 ?_
    refine ww_bipush (pc := 15) (v := 29) X dX8_take_15 (by decide) ?_
    refine ww_iload_n (pc := 17) X dX8_take_17 1 rfl rfl ?_
    have hb2 := clb (in_X8_isGood okM c1)
    refine ww_iadd (pc := 18) X dX8_take_18 ?_
    refine ww_iald (pc := 19) (f := SM.2 9) X 10 0 rfl rfl (vn (m := 29 + ((x1 : Int32).toNatClampNeg)) (nat_iadd (a := 29) (b := (x1 : Int32).toNatClampNeg) rfl (cl_of (in_X8_isGood okM c1))) (by omega) (by decide)) dX8_take_19 ?_
    refine ww_if_ne (pc := 20) (tgt := 26) X dX8_take_20 (by decide) (fun c3 => ?_) (fun c3 => ?_)
    · refine ww_aload_n (pc := 26) X dX8_take_26 0 rfl rfl ?_
      refine ww_gVv (pc := 27) (rest := []) (gsN := [wX8 cI cZ cQ rM (f_X8_notes SM)]) (ci := 8) (gi := 0) (qi := 0) X (c_X8_notes l D cI cZ cQ rM SM (by assumption) (by assumption)) gX8_take_X8_notes rfl hd_X8_notes [true] rfl (acons (ad8 _ _ _ _ _ _) rfl) rfl rfl rfl rfl rfl rfl ⟨rfl, rfl⟩ ⟨Nat.le_of_ble_eq_true rfl, Nat.le_of_ble_eq_true rfl⟩ (Nat.le_of_ble_eq_true rfl) ⟨Nat.zero_le _, Nat.zero_le _⟩ dX8_take_27 ?_
      generalize hz4 : (f_X8_notes SM) = z4
      refine ww_aload_n (pc := 30) X dX8_take_30 0 rfl rfl ?_
      refine ww_get (pc := 31) (ci := 8) (v := .ref (rM 10)) (C := RX8) (T := TX8) (N := 27) X inX8_take_8 0 rfl rfl 11 (by decide) (by decide +kernel) rfl dX8_take_31 ?_
      refine ww_bipush (pc := 34) (v := 29) X dX8_take_34 (by decide) ?_
      refine ww_iload_n (pc := 36) X dX8_take_36 1 rfl rfl ?_
      refine ww_iadd (pc := 37) X dX8_take_37 ?_
      refine ww_iald (pc := 38) (f := z4.2 9) X 10 0 rfl rfl (vn (m := 29 + ((x1 : Int32).toNatClampNeg)) (nat_iadd (a := 29) (b := (x1 : Int32).toNatClampNeg) rfl (cl_of (in_X8_isGood okM c1))) (by omega) (by decide)) dX8_take_38 ?_
      refine ww_istore_n (pc := 39) (lv' := [(2, .int ((z4.2 9) ((29 + x1 : Int32)).toNatClampNeg)), (0, .ref (rM 0)), (1, .int x1)]) X dX8_take_39 rfl (by decide) rfl ?_
      refine ww_aload_n (pc := 40) X dX8_take_40 1 rfl rfl ?_
      refine ww_get (pc := 41) (ci := 8) (v := .ref (rM 10)) (C := RX8) (T := TX8) (N := 27) X inX8_take_8 0 rfl rfl 11 (by decide) (by decide +kernel) rfl dX8_take_41 ?_
      refine ww_bipush (pc := 44) (v := 29) X dX8_take_44 (by decide) ?_
      refine ww_iload_n (pc := 46) X dX8_take_46 2 rfl rfl ?_
      refine ww_iadd (pc := 47) X dX8_take_47 ?_
      refine ww_iconst (pc := 48) (v := 0) X dX8_take_48 (by decide) ?_
      refine ww_iast (pc := 49) (f := z4.2 9) (ws' := fl [wX8 cI cZ cQ rM (sA z4 9 (upd (z4.2 9) ((29 + x1 : Int32)).toNatClampNeg 0))]) X 10 0 rfl rfl (vn (m := 29 + ((x1 : Int32).toNatClampNeg)) (nat_iadd (a := 29) (b := (x1 : Int32).toNatClampNeg) rfl (cl_of (in_X8_isGood okM c1))) (by omega) (by decide)) rfl dX8_take_49 ?_
      refine ww_iload_n (pc := 50) X dX8_take_50 0 rfl rfl ?_
      have h5 : f_X8_take SM x1 = ((z4.2 9) ((29 + x1 : Int32)).toNatClampNeg, (sA z4 9 (upd (z4.2 9) ((29 + x1 : Int32)).toNatClampNeg 0))) := by unfold f_X8_take; try rw [if_neg c1, if_neg c3, hz4]; try unfold f_X8_take_k1; first | done | rfl
      exact ww_iret X hr rfl (congrArg (fun u9 : Int32 × St => u9.1) h5).symm (congrArg (fun u9 : Int32 × St => fl [wX8 cI cZ cQ rM u9.2]) h5.symm) dX8_take_51
    · refine ww_ldc (pc := 23) (v := (-1000000003)) X (by decide +kernel) dX8_take_23 ?_
      have h6 : f_X8_take SM x1 = ((-1000000003), SM) := by unfold f_X8_take; try rw [if_neg c1, if_pos c3]; first | done | rfl
      exact ww_iret X hr rfl (congrArg (fun u9 : Int32 × St => u9.1) h6).symm (congrArg (fun u9 : Int32 × St => fl [wX8 cI cZ cQ rM u9.2]) h6.symm) dX8_take_25
  · refine ww_ldc (pc := 8) (v := (-1000000001)) X (by decide +kernel) dX8_take_8 ?_
    have h7 : f_X8_take SM x1 = ((-1000000001), SM) := by unfold f_X8_take; try rw [if_pos c1]; first | done | rfl
    exact ww_iret X hr rfl (congrArg (fun u9 : Int32 × St => u9.1) h7).symm (congrArg (fun u9 : Int32 × St => fl [wX8 cI cZ cQ rM u9.2]) h7.symm) dX8_take_10
def f_X8_draw (SM : St) (x1 : Int32) : Int32 × St :=
  ((((((((((SM.1 3 : Int32)).toInt64) * 1103515245) + 12345) &&& 2147483647 : Int64)).toInt32) / 65536) - (((((((((SM.1 3 : Int32)).toInt64) * 1103515245) + 12345) &&& 2147483647 : Int64)).toInt32) / 65536) / x1 * x1, (sI SM 3 ((((((((SM.1 3 : Int32)).toInt64) * 1103515245) + 12345) &&& 2147483647 : Int64)).toInt32)))
theorem sd_nn (x : Int64) : ∃ k : Nat, k < 2 ^ 31 ∧ (x &&& 2147483647).toInt32 = nI k := by
  obtain ⟨n, -, rfl⟩ := wb_of x
  refine ⟨n % 2 ^ 31, Nat.mod_lt _ (by decide), ?_⟩
  rw [show (2147483647 : Int64) = lN (2 ^ 31 - 1) from rfl, fb_maskL, lN_i]
theorem dr_in {S : St} {n : Int32} {z : Int32 × St} (hz : f_X8_draw S n = z) (h1 : ¬ n ≤ 0) (h2 : n ≤ 7) : vp_in z.1 7 := by
  subst hz
  have h3 : ¬ n < 0 := fun h => h1 (by rw [Int32.le_iff_toInt_le]; rw [Int32.lt_iff_toInt_lt] at h; exact Int.le_of_lt h)
  obtain ⟨j, hj, rfl⟩ := nI_of h3
  have h4 : j ≤ 7 := (nI_leI hj (by decide)).mp h2
  have h5 : 0 < j := Nat.pos_of_ne_zero (fun e => h1 (by rw [e]; decide))
  obtain ⟨k, hk, e⟩ := sd_nn (((S.1 3 : Int32)).toInt64 * 1103515245 + 12345)
  unfold f_X8_draw
  simp only [e]
  rw [show (65536 : Int32) = nI 65536 from rfl, pk_div hk (by decide) (by decide), pk_rem (by omega) h5 hj]
  exact vp_mono (vp_in_nI (Nat.mod_lt _ h5) hj) h4
theorem dr_n {S : St} {n : Int32} {z : Int32 × St} (hz : f_X8_draw S n = z) (ok : okM S) : ¬ (((z.2.2 1) ((2 : Int32)).toNatClampNeg) + 2) = 0 := by
  subst hz
  show ¬ ((S.2 1) ((2 : Int32)).toNatClampNeg + 2) = 0
  obtain ⟨j, hj, e⟩ := nI_of ok.1.1
  have h4 : j ≤ 4 := (nI_leI hj (by decide)).mp (by rw [← e]; exact ok.1.2)
  rw [e, show (2 : Int32) = nI 2 from rfl, nI_add]
  exact nI_ne0 (by omega) (by omega)
theorem inX8_draw_8 : ∀ w ∈ wsX80, w ∈ wsX8_draw := by decide +kernel
theorem hd_X8_draw : yX8_draw.cls = RX8 ∧ yX8_draw.cls ≠ "java/lang/invoke/MethodHandle" ∧ yX8_draw.cls ≠ "java/lang/invoke/VarHandle" ∧ (parseMethodDescriptor yX8_draw.desc).map (fun d => d.parameters.length) = some 1 := by decide +kernel
set_option maxHeartbeats 4000000 in
set_option maxRecDepth 100000 in
theorem c_X8_draw (l : Launch) (D : va_G) (cI cZ cQ : ClassId) (rM : Nat → Nat) (SM : St) (x1 : Int32) (hn : ¬ x1 = 0) : Ci l yX8_draw wsX8_draw { frames := 0, cells := 0, slots := 0, locals := 0 } D (tyL cI cZ cQ) [.ref (rM 0), .int x1] (fl [wX8 cI cZ cQ rM SM]) ((f_X8_draw SM x1).1) (fl [wX8 cI cZ cQ rM ((f_X8_draw SM x1).2)]) := by
  refine ci_of (cc := cX8_draw) (nL := 2) (ty := .int) (lv0 := [(0, .ref (rM 0)), (1, .int x1)]) (by decide) rfl (Nat.le_of_ble_eq_true rfl) rfl ?_
  intro p e s m args below meth c A X hr
  refine ww_aload_n (pc := 0) X dX8_draw_0 0 rfl rfl ?_
  refine ww_aload_n (pc := 1) X dX8_draw_1 0 rfl rfl ?_
  refine ww_get (pc := 2) (ci := 8) (v := .int (SM.1 3)) (C := RX8) (T := TX8) (N := 27) X inX8_draw_8 0 rfl rfl 17 (by decide) (by decide +kernel) rfl dX8_draw_2 ?_
  refine ww_i2l (pc := 5) X dX8_draw_5 rfl ?_
  refine ww_ldc2 (pc := 6) (v := 1103515245) X (by decide +kernel) dX8_draw_6 ?_
  refine ww_lmul (pc := 9) X dX8_draw_9 ?_
  refine ww_ldc2 (pc := 10) (v := 12345) X (by decide +kernel) dX8_draw_10 ?_
  refine ww_ladd (pc := 13) X dX8_draw_13 ?_
  refine ww_ldc2 (pc := 14) (v := 2147483647) X (by decide +kernel) dX8_draw_14 ?_
  refine ww_land (pc := 17) X dX8_draw_17 ?_
  refine ww_l2i (pc := 18) X dX8_draw_18 rfl ?_
  refine ww_put (pc := 19) (ci := 8) (v := .int ((((((((SM.1 3 : Int32)).toInt64) * 1103515245) + 12345) &&& 2147483647 : Int64)).toInt32)) (C := RX8) (T := TX8) (N := 27) (ws' := fl [wX8 cI cZ cQ rM (sI SM 3 ((((((((SM.1 3 : Int32)).toInt64) * 1103515245) + 12345) &&& 2147483647 : Int64)).toInt32))]) X inX8_draw_8 tyX8 tyX8_ok nmX8 0 rfl rfl 17 (by decide) (by decide +kernel) rfl rfl rfl (Nat.le_of_ble_eq_true rfl) rfl dX8_draw_19 ?_
  refine ww_aload_n (pc := 22) X dX8_draw_22 0 rfl rfl ?_
  refine ww_get (pc := 23) (ci := 8) (v := .int ((((((((SM.1 3 : Int32)).toInt64) * 1103515245) + 12345) &&& 2147483647 : Int64)).toInt32)) (C := RX8) (T := TX8) (N := 27) X inX8_draw_8 0 rfl rfl 17 (by decide) (by decide +kernel) rfl dX8_draw_23 ?_
  refine ww_ldc (pc := 26) (v := 65536) X (by decide +kernel) dX8_draw_26 ?_
  refine ww_idiv (pc := 28) X dX8_draw_28 (by decide) ?_
  refine ww_iload_n (pc := 29) X dX8_draw_29 1 rfl rfl ?_
  refine ww_irem (pc := 30) X dX8_draw_30 (by assumption) ?_
  have h1 : f_X8_draw SM x1 = ((((((((((SM.1 3 : Int32)).toInt64) * 1103515245) + 12345) &&& 2147483647 : Int64)).toInt32) / 65536) - (((((((((SM.1 3 : Int32)).toInt64) * 1103515245) + 12345) &&& 2147483647 : Int64)).toInt32) / 65536) / x1 * x1, (sI SM 3 ((((((((SM.1 3 : Int32)).toInt64) * 1103515245) + 12345) &&& 2147483647 : Int64)).toInt32))) := by unfold f_X8_draw; first | done | rfl
  exact ww_iret X hr rfl (congrArg (fun u9 : Int32 × St => u9.1) h1).symm (congrArg (fun u9 : Int32 × St => fl [wX8 cI cZ cQ rM u9.2]) h1.symm) dX8_draw_31
def bd_X8_undo_22  (j : Nat) (u : St) : St :=
  (sA u 9 (upd (u.2 9) (((nI j) : Int32)).toNatClampNeg ((u.2 10) (((35 * (u.1 2)) + (nI j) : Int32)).toNatClampNeg)))
def it_X8_undo_22  (u : St) : Nat → St
  | 0 => u
  | j + 1 => bd_X8_undo_22  j (it_X8_undo_22  u j)
def f_X8_undo_k1 (SM : St) (z3 : St) : Int32 × St :=
  (z3.1 2, z3)
def f_X8_undo (SM : St) : Int32 × St :=
  if (SM.1 2) = 0 then
    ((-1000000003), SM)
  else
    f_X8_undo_k1 SM (it_X8_undo_22 (sI SM 2 ((SM.1 2) - 1)) 35)
theorem pr2_X8_undo_22 (u : St) : ∀ j : Nat, (it_X8_undo_22 u j).1 = u.1
  | 0 => rfl
  | j + 1 => pr2_X8_undo_22 u j
theorem inX8_undo_8 : ∀ w ∈ wsX80, w ∈ wsX8_undo := by decide +kernel
theorem hd_X8_undo : yX8_undo.cls = RX8 ∧ yX8_undo.cls ≠ "java/lang/invoke/MethodHandle" ∧ yX8_undo.cls ≠ "java/lang/invoke/VarHandle" ∧ (parseMethodDescriptor yX8_undo.desc).map (fun d => d.parameters.length) = some 0 := by decide +kernel
set_option maxHeartbeats 4000000 in
set_option maxRecDepth 100000 in
theorem c_X8_undo (l : Launch) (D : va_G) (cI cZ cQ : ClassId) (rM : Nat → Nat) (SM : St) (n0 : ¬ (SM.1 2) < 0) (n1 : SM.1 2 ≤ 20) : Ci l yX8_undo wsX8_undo { frames := 0, cells := 0, slots := 0, locals := 0 } D (tyL cI cZ cQ) [.ref (rM 0)] (fl [wX8 cI cZ cQ rM SM]) ((f_X8_undo SM).1) (fl [wX8 cI cZ cQ rM ((f_X8_undo SM).2)]) := by
  refine ci_of (cc := cX8_undo) (nL := 2) (ty := .int) (lv0 := [(0, .ref (rM 0))]) (by decide) rfl (Nat.le_of_ble_eq_true rfl) rfl ?_
  intro p e s m args below meth c A X hr
  refine ww_aload_n (pc := 0) X dX8_undo_0 0 rfl rfl ?_
  refine ww_get (pc := 1) (ci := 8) (v := .int (SM.1 2)) (C := RX8) (T := TX8) (N := 27) X inX8_undo_8 0 rfl rfl 13 (by decide) (by decide +kernel) rfl dX8_undo_1 ?_
  refine ww_if_ne (pc := 4) (tgt := 10) X dX8_undo_4 (by decide) (fun c1 => ?_) (fun c1 => ?_)
  · refine ww_aload_n (pc := 10) X dX8_undo_10 0 rfl rfl ?_
    refine ww_dup (pc := 11) X dX8_undo_11 rfl ?_
    refine ww_get (pc := 12) (ci := 8) (v := .int (SM.1 2)) (C := RX8) (T := TX8) (N := 27) X inX8_undo_8 0 rfl rfl 13 (by decide) (by decide +kernel) rfl dX8_undo_12 ?_
    refine ww_iconst (pc := 15) (v := 1) X dX8_undo_15 (by decide) ?_
    refine ww_isub (pc := 16) X dX8_undo_16 ?_
    refine ww_put (pc := 17) (ci := 8) (v := .int ((SM.1 2) - 1)) (C := RX8) (T := TX8) (N := 27) (ws' := fl [wX8 cI cZ cQ rM (sI SM 2 ((SM.1 2) - 1))]) X inX8_undo_8 tyX8 tyX8_ok nmX8 0 rfl rfl 13 (by decide) (by decide +kernel) rfl rfl rfl (Nat.le_of_ble_eq_true rfl) rfl dX8_undo_17 ?_
    have hdd : ∃ m : Nat, m < 20 ∧ @SM.1 2 = nI m := nt_c n0 n1 c1
    refine ww_iconst (pc := 20) (v := 0) X dX8_undo_20 (by decide) ?_
    refine ww_istore_n (pc := 21) (lv' := [(1, .int 0), (0, .ref (rM 0))]) X dX8_undo_21 rfl (by decide) rfl ?_
    have L22 : ∀ (k_22 j_22 : Nat), j_22 + k_22 = 35 → WW p l e (headSpec wsX8_undo { frames := 0, cells := 0, slots := 0, locals := 0 }).room s m args below meth c 2 D A 0 0 (RQi below args s D A ((f_X8_undo SM).1) (fl [wX8 cI cZ cQ rM ((f_X8_undo SM).2)])) (fl [wX8 cI cZ cQ rM (it_X8_undo_22 (sI SM 2 ((SM.1 2) - 1)) 35)]) [(0, .ref (rM 0)), (1, .int (nI 35))] 54 [] → WW p l e (headSpec wsX8_undo { frames := 0, cells := 0, slots := 0, locals := 0 }).room s m args below meth c 2 D A 0 0 (RQi below args s D A ((f_X8_undo SM).1) (fl [wX8 cI cZ cQ rM ((f_X8_undo SM).2)])) (fl [wX8 cI cZ cQ rM (it_X8_undo_22 (sI SM 2 ((SM.1 2) - 1)) j_22)]) [(0, .ref (rM 0)), (1, .int (nI j_22))] 22 [] := by
      intro k_22
      induction k_22 with
      | zero =>
        intro j_22 hj K
        have hjB : j_22 = 35 := by omega
        subst hjB
        refine ww_iload_n (pc := 22) X dX8_undo_22 1 rfl rfl ?_
        refine ww_bipush (pc := 23) (v := 35) X dX8_undo_23 (by decide) ?_
        exact ww_icmp_ge (pc := 25) (tgt := 54) X dX8_undo_25 (by decide) (fun _ => K) (fun c9 => absurd (lp_ge0 rfl (Nat.le_refl _) (by decide)) c9)
      | succ k_22 ih =>
        intro j_22 hj K
        have hjB : j_22 < 35 := by omega
        refine ww_iload_n (pc := 22) X dX8_undo_22 1 rfl rfl ?_
        refine ww_bipush (pc := 23) (v := 35) X dX8_undo_23 (by decide) ?_
        refine ww_icmp_ge (pc := 25) (tgt := 54) X dX8_undo_25 (by decide) (fun c9 => absurd c9 (lp_ge1 rfl hjB (by decide))) (fun _ => ?_)
        refine ww_aload_n (pc := 28) X dX8_undo_28 0 rfl rfl ?_
        refine ww_get (pc := 29) (ci := 8) (v := .ref (rM 10)) (C := RX8) (T := TX8) (N := 27) X inX8_undo_8 0 rfl rfl 11 (by decide) (by decide +kernel) rfl dX8_undo_29 ?_
        refine ww_iload_n (pc := 32) X dX8_undo_32 1 rfl rfl ?_
        refine ww_aload_n (pc := 33) X dX8_undo_33 0 rfl rfl ?_
        refine ww_get (pc := 34) (ci := 8) (v := .ref (rM 11)) (C := RX8) (T := TX8) (N := 27) X inX8_undo_8 0 rfl rfl 12 (by decide) (by decide +kernel) rfl dX8_undo_34 ?_
        refine ww_bipush (pc := 37) (v := 35) X dX8_undo_37 (by decide) ?_
        refine ww_aload_n (pc := 39) X dX8_undo_39 0 rfl rfl ?_
        refine ww_get (pc := 40) (ci := 8) (v := .int ((it_X8_undo_22 (sI SM 2 ((SM.1 2) - 1)) j_22).1 2)) (C := RX8) (T := TX8) (N := 27) X inX8_undo_8 0 rfl rfl 13 (by decide) (by decide +kernel) rfl dX8_undo_40 ?_
        refine ww_imul (pc := 43) X dX8_undo_43 ?_
        refine ww_iload_n (pc := 44) X dX8_undo_44 1 rfl rfl ?_
        refine ww_iadd (pc := 45) X dX8_undo_45 ?_
        refine ww_iald (pc := 46) (f := (it_X8_undo_22 (sI SM 2 ((SM.1 2) - 1)) j_22).2 10) X 11 0 rfl rfl (nt_in hdd (pr2_X8_undo_22 _ _) (by omega)) dX8_undo_46 ?_
        refine ww_iast (pc := 47) (f := (it_X8_undo_22 (sI SM 2 ((SM.1 2) - 1)) j_22).2 9) (ws' := fl [wX8 cI cZ cQ rM (sA (it_X8_undo_22 (sI SM 2 ((SM.1 2) - 1)) j_22) 9 (upd ((it_X8_undo_22 (sI SM 2 ((SM.1 2) - 1)) j_22).2 9) (((nI j_22) : Int32)).toNatClampNeg (((it_X8_undo_22 (sI SM 2 ((SM.1 2) - 1)) j_22).2 10) (((35 * ((it_X8_undo_22 (sI SM 2 ((SM.1 2) - 1)) j_22).1 2)) + (nI j_22) : Int32)).toNatClampNeg)))]) X 10 0 rfl rfl (vn (m := j_22) rfl (by omega) (by decide)) rfl dX8_undo_47 ?_
        refine ww_iinc (pc := 48) (v := (nI j_22) + 1) (lv' := [(1, .int ((nI j_22) + 1)), (0, .ref (rM 0))]) X dX8_undo_48 1 rfl rfl (by decide) rfl ?_
        refine ww_goto (pc := 51) (tgt := 22) X dX8_undo_51 (by decide) ?_
        have h2 : (it_X8_undo_22 (sI SM 2 ((SM.1 2) - 1)) (j_22 + 1)) = (sA (it_X8_undo_22 (sI SM 2 ((SM.1 2) - 1)) j_22) 9 (upd ((it_X8_undo_22 (sI SM 2 ((SM.1 2) - 1)) j_22).2 9) (((nI j_22) : Int32)).toNatClampNeg (((it_X8_undo_22 (sI SM 2 ((SM.1 2) - 1)) j_22).2 10) (((35 * ((it_X8_undo_22 (sI SM 2 ((SM.1 2) - 1)) j_22).1 2)) + (nI j_22) : Int32)).toNatClampNeg))) := by
          show bd_X8_undo_22  j_22 (it_X8_undo_22 (sI SM 2 ((SM.1 2) - 1)) j_22) = _; unfold bd_X8_undo_22; first | done | rfl
        refine ww_lsub [1, 0] rfl ?_
        exact ww_castI (fun u9 : St => fl [wX8 cI cZ cQ rM u9]) (fun (u9 : St) (i9 : Int32) => ([(0, .ref (rM 0)), (1, .int i9)] : List (Nat × Value))) h2 (ih (j_22 + 1) (by omega) K)
    refine ww_lsub [1, 0] rfl ?_
    refine L22 35 0 (by omega) ?_
    generalize hz3 : ((it_X8_undo_22 (sI SM 2 ((SM.1 2) - 1)) 35)) = z3
    refine ww_aload_n (pc := 54) X dX8_undo_54 0 rfl rfl ?_
    refine ww_get (pc := 55) (ci := 8) (v := .int (z3.1 2)) (C := RX8) (T := TX8) (N := 27) X inX8_undo_8 0 rfl rfl 13 (by decide) (by decide +kernel) rfl dX8_undo_55 ?_
    have h4 : f_X8_undo SM = (z3.1 2, z3) := by unfold f_X8_undo; try rw [if_neg c1, hz3]; try unfold f_X8_undo_k1; first | done | rfl
    exact ww_iret X hr rfl (congrArg (fun u9 : Int32 × St => u9.1) h4).symm (congrArg (fun u9 : Int32 × St => fl [wX8 cI cZ cQ rM u9.2]) h4.symm) dX8_undo_58
  · refine ww_ldc (pc := 7) (v := (-1000000003)) X (by decide +kernel) dX8_undo_7 ?_
    have h5 : f_X8_undo SM = ((-1000000003), SM) := by unfold f_X8_undo; try rw [if_pos c1]; first | done | rfl
    exact ww_iret X hr rfl (congrArg (fun u9 : Int32 × St => u9.1) h5).symm (congrArg (fun u9 : Int32 × St => fl [wX8 cI cZ cQ rM u9.2]) h5.symm) dX8_undo_9
def bd_X8_drift_20_k1 (x1 : Int32) (x2 : Int32) (j : Nat) (u : St) (z4 : St) : St :=
  z4
def bd_X8_drift_20_k2 (x1 : Int32) (x2 : Int32) (j : Nat) (u : St) (z6 : St) : St :=
  z6
def bd_X8_drift_20_k5 (x1 : Int32) (x2 : Int32) (j : Nat) (u : St) (z7 : Int32 × St) (z8 : Int32 × St) (z11 : St) : St :=
  z11
def bd_X8_drift_20_k6 (x1 : Int32) (x2 : Int32) (j : Nat) (u : St) (z7 : Int32 × St) (z8 : Int32 × St) (z13 : St) : St :=
  z13
def bd_X8_drift_20_k8 (x1 : Int32) (x2 : Int32) (j : Nat) (u : St) (z7 : Int32 × St) (z8 : Int32 × St) (z14 : St) (z15 : St) : St :=
  z15
def bd_X8_drift_20_k7 (x1 : Int32) (x2 : Int32) (j : Nat) (u : St) (z7 : Int32 × St) (z8 : Int32 × St) (z14 : St) : St :=
  bd_X8_drift_20_k8 x1 x2 j u z7 z8 z14 (f_X8_passes z14)
def bd_X8_drift_20_k9 (x1 : Int32) (x2 : Int32) (j : Nat) (u : St) (z7 : Int32 × St) (z8 : Int32 × St) (z18 : St) : St :=
  z18
def bd_X8_drift_20_k10 (x1 : Int32) (x2 : Int32) (j : Nat) (u : St) (z7 : Int32 × St) (z8 : Int32 × St) (z20 : St) : St :=
  z20
def bd_X8_drift_20_k12 (x1 : Int32) (x2 : Int32) (j : Nat) (u : St) (z7 : Int32 × St) (z8 : Int32 × St) (z21 : St) (z22 : St) : St :=
  z22
def bd_X8_drift_20_k11 (x1 : Int32) (x2 : Int32) (j : Nat) (u : St) (z7 : Int32 × St) (z8 : Int32 × St) (z21 : St) : St :=
  bd_X8_drift_20_k12 x1 x2 j u z7 z8 z21 (f_X8_passes z21)
def bd_X8_drift_20_k14 (x1 : Int32) (x2 : Int32) (j : Nat) (u : St) (z7 : Int32 × St) (z8 : Int32 × St) (z23 : St) (z24 : St) : St :=
  z24
def bd_X8_drift_20_k13 (x1 : Int32) (x2 : Int32) (j : Nat) (u : St) (z7 : Int32 × St) (z8 : Int32 × St) (z23 : St) : St :=
  bd_X8_drift_20_k14 x1 x2 j u z7 z8 z23 (f_X8_passes z23)
def bd_X8_drift_20_k4 (x1 : Int32) (x2 : Int32) (j : Nat) (u : St) (z7 : Int32 × St) (z8 : Int32 × St) : St :=
  if ((z8.2.2 1) ((2 : Int32)).toNatClampNeg) ≤ z8.1 then
    if z8.1 < ((z8.2.2 1) ((2 : Int32)).toNatClampNeg) then
      bd_X8_drift_20_k5 x1 x2 j u z7 z8 (f_X8_passes z8.2)
    else
      if (f_X8_isBelow z8.2 z7.1) = 0 then
        bd_X8_drift_20_k6 x1 x2 j u z7 z8 (f_X8_passes z8.2)
      else
        bd_X8_drift_20_k7 x1 x2 j u z7 z8 (f_X8_ascends z8.2 z7.1)
  else
    if (f_X8_isAbove z8.2 z7.1) = 0 then
      if z8.1 < ((z8.2.2 1) ((2 : Int32)).toNatClampNeg) then
        bd_X8_drift_20_k9 x1 x2 j u z7 z8 (f_X8_passes z8.2)
      else
        if (f_X8_isBelow z8.2 z7.1) = 0 then
          bd_X8_drift_20_k10 x1 x2 j u z7 z8 (f_X8_passes z8.2)
        else
          bd_X8_drift_20_k11 x1 x2 j u z7 z8 (f_X8_ascends z8.2 z7.1)
    else
      bd_X8_drift_20_k13 x1 x2 j u z7 z8 (f_X8_descends z8.2 z7.1 z8.1)
def bd_X8_drift_20_k3 (x1 : Int32) (x2 : Int32) (j : Nat) (u : St) (z7 : Int32 × St) : St :=
  bd_X8_drift_20_k4 x1 x2 j u z7 (f_X8_draw z7.2 (((z7.2.2 1) ((2 : Int32)).toNatClampNeg) + 2))
def bd_X8_drift_20 (x1 : Int32) (x2 : Int32) (j : Nat) (u : St) : St :=
  if ((u.2 1) ((2 : Int32)).toNatClampNeg) ≤ 0 then
    bd_X8_drift_20_k1 x1 x2 j u (f_X8_passes u)
  else
    if ((u.2 1) ((3 : Int32)).toNatClampNeg) ≤ 0 then
      bd_X8_drift_20_k2 x1 x2 j u (f_X8_passes u)
    else
      bd_X8_drift_20_k3 x1 x2 j u (f_X8_draw u ((u.2 1) ((3 : Int32)).toNatClampNeg))
def it_X8_drift_20 (x1 : Int32) (x2 : Int32) (u : St) : Nat → St
  | 0 => u
  | j + 1 => bd_X8_drift_20 x1 x2 j (it_X8_drift_20 x1 x2 u j)
def f_X8_drift_k2 (SM : St) (x1 : Int32) (z2 : St) (z56 : St) : Int32 × St :=
  ((z56.2 9) ((0 : Int32)).toNatClampNeg, z56)
def f_X8_drift_k1 (SM : St) (x1 : Int32) (z2 : St) : Int32 × St :=
  f_X8_drift_k2 SM x1 z2 (it_X8_drift_20 x1 (f_X8_barred SM x1 60) z2 x1.toNatClampNeg)
def f_X8_drift (SM : St) (x1 : Int32) : Int32 × St :=
  if (f_X8_barred SM x1 60) = 0 then
    f_X8_drift_k1 SM x1 (f_X8_notes SM)
  else
    (f_X8_barred SM x1 60, SM)
theorem df_1 (a b : Int32) (u : St) : ∀ j : Nat, (it_X8_drift_20 a b u j).2 1 = u.2 1
  | 0 => rfl
  | j + 1 => by
    have ih := df_1 a b u j
    show (bd_X8_drift_20 a b j (it_X8_drift_20 a b u j)).2 1 = _
    rw [← ih]
    generalize it_X8_drift_20 a b u j = v
    unfold bd_X8_drift_20 bd_X8_drift_20_k3 bd_X8_drift_20_k4
    repeat' split
    all_goals exact (yr_1x _).trans rfl
theorem inX8_drift_8 : ∀ w ∈ wsX80, w ∈ wsX8_drift := by decide +kernel
theorem hd_X8_drift : yX8_drift.cls = RX8 ∧ yX8_drift.cls ≠ "java/lang/invoke/MethodHandle" ∧ yX8_drift.cls ≠ "java/lang/invoke/VarHandle" ∧ (parseMethodDescriptor yX8_drift.desc).map (fun d => d.parameters.length) = some 1 := by decide +kernel
set_option maxHeartbeats 4000000 in
set_option maxRecDepth 100000 in
theorem c_X8_drift (l : Launch) (D : va_G) (cI cZ cQ : ClassId) (rM : Nat → Nat) (SM : St) (x1 : Int32) (okM : okM SM) (n0 : ¬ (SM.1 2) < 0) (n1 : SM.1 2 ≤ 20) : Ci l yX8_drift wsX8_drift { frames := 2, cells := 0, slots := 0, locals := 45 } D (tyL cI cZ cQ) [.ref (rM 0), .int x1] (fl [wX8 cI cZ cQ rM SM]) ((f_X8_drift SM x1).1) (fl [wX8 cI cZ cQ rM ((f_X8_drift SM x1).2)]) := by
  refine ci_of (cc := cX8_drift) (nL := 6) (ty := .int) (lv0 := [(0, .ref (rM 0)), (1, .int x1)]) (by decide) rfl (Nat.le_of_ble_eq_true rfl) rfl ?_
  intro p e s m args below meth c A X hr
  refine ww_aload_n (pc := 0) X dX8_drift_0 0 rfl rfl ?_
  refine ww_iload_n (pc := 1) X dX8_drift_1 1 rfl rfl ?_
  refine ww_bipush (pc := 2) (v := 60) X dX8_drift_2 (by decide) ?_
  refine ww_gVi (pc := 4) (rest := []) (gsN := [wX8 cI cZ cQ rM SM]) (ci := 8) (gi := 0) (qi := 0) X (c_X8_barred l D cI cZ cQ rM SM x1 60) gX8_drift_X8_barred rfl hd_X8_barred [true] rfl rfl rfl rfl rfl rfl rfl rfl ⟨rfl, rfl⟩ ⟨Nat.le_of_ble_eq_true rfl, Nat.le_of_ble_eq_true rfl⟩ (Nat.le_of_ble_eq_true rfl) ⟨Nat.zero_le _, Nat.zero_le _⟩ dX8_drift_4 ?_
  refine ww_istore_n (pc := 7) (lv' := [(2, .int (f_X8_barred SM x1 60)), (0, .ref (rM 0)), (1, .int x1)]) X dX8_drift_7 rfl (by decide) rfl ?_
  refine ww_iload_n (pc := 8) X dX8_drift_8 0 rfl rfl ?_
  refine ww_if_eq (pc := 9) (tgt := 14) X dX8_drift_9 (by decide) (fun c1 => ?_) (fun c1 => ?_)
  · refine ww_aload_n (pc := 14) X dX8_drift_14 1 rfl rfl ?_
    refine ww_gVv (pc := 15) (rest := []) (gsN := [wX8 cI cZ cQ rM (f_X8_notes SM)]) (ci := 8) (gi := 0) (qi := 0) X (c_X8_notes l D cI cZ cQ rM SM (by assumption) (by assumption)) gX8_drift_X8_notes rfl hd_X8_notes [true] rfl (acons (ad8 _ _ _ _ _ _) rfl) rfl rfl rfl rfl rfl rfl ⟨rfl, rfl⟩ ⟨Nat.le_of_ble_eq_true rfl, Nat.le_of_ble_eq_true rfl⟩ (Nat.le_of_ble_eq_true rfl) ⟨Nat.zero_le _, Nat.zero_le _⟩ dX8_drift_15 ?_
    generalize hz2 : (f_X8_notes SM) = z2
    have okz : okM @z := okM_of (by rw [← @Z]; exact no_2 _ 1 (by decide)) okM
    refine ww_iconst (pc := 18) (v := 0) X dX8_drift_18 (by decide) ?_
    refine ww_istore_n (pc := 19) (lv' := [(3, .int 0), (2, .int (f_X8_barred SM x1 60)), (0, .ref (rM 0)), (1, .int x1)]) X dX8_drift_19 rfl (by decide) rfl ?_
    have L20 : ∀ (k_20 j_20 : Nat), j_20 + k_20 = x1.toNatClampNeg → WW p l e (headSpec wsX8_drift { frames := 2, cells := 0, slots := 0, locals := 45 }).room s m args below meth c 6 D A 0 0 (RQi below args s D A ((f_X8_drift SM x1).1) (fl [wX8 cI cZ cQ rM ((f_X8_drift SM x1).2)])) (fl [wX8 cI cZ cQ rM (it_X8_drift_20 x1 (f_X8_barred SM x1 60) z2 x1.toNatClampNeg)]) [(0, .ref (rM 0)), (1, .int x1), (2, .int (f_X8_barred SM x1 60)), (3, .int (nI x1.toNatClampNeg))] 136 [] → WW p l e (headSpec wsX8_drift { frames := 2, cells := 0, slots := 0, locals := 45 }).room s m args below meth c 6 D A 0 0 (RQi below args s D A ((f_X8_drift SM x1).1) (fl [wX8 cI cZ cQ rM ((f_X8_drift SM x1).2)])) (fl [wX8 cI cZ cQ rM (it_X8_drift_20 x1 (f_X8_barred SM x1 60) z2 j_20)]) [(0, .ref (rM 0)), (1, .int x1), (2, .int (f_X8_barred SM x1 60)), (3, .int (nI j_20))] 20 [] := by
      intro k_20
      induction k_20 with
      | zero =>
        intro j_20 hj K
        have hjB : j_20 = x1.toNatClampNeg := by omega
        subst hjB
        refine ww_iload_n (pc := 20) X dX8_drift_20 3 rfl rfl ?_
        refine ww_iload_n (pc := 21) X dX8_drift_21 1 rfl rfl ?_
        exact ww_icmp_ge (pc := 22) (tgt := 136) X dX8_drift_22 (by decide) (fun _ => K) (fun c9 => absurd (lp_ge0c (Nat.le_refl _) (cl_lt _)) c9)
      | succ k_20 ih =>
        intro j_20 hj K
        have hjB : j_20 < x1.toNatClampNeg := by omega
        have okJ : okM (it_X8_drift_20 x1 (f_X8_barred SM x1 60) z2 j_20) := okM_of (df_1 _ _ _ _) okz
        refine ww_iload_n (pc := 20) X dX8_drift_20 3 rfl rfl ?_
        refine ww_iload_n (pc := 21) X dX8_drift_21 1 rfl rfl ?_
        refine ww_icmp_ge (pc := 22) (tgt := 136) X dX8_drift_22 (by decide) (fun c9 => absurd c9 (lp_ge1c hjB)) (fun _ => ?_)
        refine ww_aload_n (pc := 25) X dX8_drift_25 0 rfl rfl ?_
        refine ww_get (pc := 26) (ci := 8) (v := .ref (rM 2)) (C := RX8) (T := TX8) (N := 27) X inX8_drift_8 0 rfl rfl 3 (by decide) (by decide +kernel) rfl dX8_drift_26 ?_
        refine ww_iconst (pc := 29) (v := 2) X dX8_drift_29 (by decide) ?_
        refine ww_iald (pc := 30) (f := (it_X8_drift_20 x1 (f_X8_barred SM x1 60) z2 j_20).2 1) X 2 0 rfl rfl (vl_in (by decide)) dX8_drift_30 ?_
        refine ww_if_le (pc := 31) (tgt := 126) X dX8_drift_31 (by decide) (fun c25 => ?_) (fun c25 => ?_)
        · refine ww_aload_n (pc := 126) X dX8_drift_126 0 rfl rfl ?_
          refine ww_gVv (pc := 127) (rest := []) (gsN := [wX8 cI cZ cQ rM (f_X8_passes (it_X8_drift_20 x1 (f_X8_barred SM x1 60) z2 j_20))]) (ci := 8) (gi := 0) (qi := 0) X (c_X8_passes l D cI cZ cQ rM (it_X8_drift_20 x1 (f_X8_barred SM x1 60) z2 j_20) (by subst_vars; exact okM_of rfl okJ)) gX8_drift_X8_passes rfl hd_X8_passes [true] rfl (acons (ad8 _ _ _ _ _ _) rfl) rfl rfl rfl rfl rfl rfl ⟨rfl, rfl⟩ ⟨Nat.le_of_ble_eq_true rfl, Nat.le_of_ble_eq_true rfl⟩ (Nat.le_of_ble_eq_true rfl) ⟨Nat.zero_le _, Nat.zero_le _⟩ dX8_drift_127 ?_
          generalize hz26 : (f_X8_passes (it_X8_drift_20 x1 (f_X8_barred SM x1 60) z2 j_20)) = z26
          refine ww_iinc (pc := 130) (v := (nI j_20) + 1) (lv' := [(3, .int ((nI j_20) + 1)), (0, .ref (rM 0)), (1, .int x1), (2, .int (f_X8_barred SM x1 60))]) X dX8_drift_130 3 rfl rfl (by decide) rfl ?_
          refine ww_goto (pc := 133) (tgt := 20) X dX8_drift_133 (by decide) ?_
          have h27 : (it_X8_drift_20 x1 (f_X8_barred SM x1 60) z2 (j_20 + 1)) = z26 := by
            show bd_X8_drift_20 x1 (f_X8_barred SM x1 60) j_20 (it_X8_drift_20 x1 (f_X8_barred SM x1 60) z2 j_20) = _; unfold bd_X8_drift_20; try rw [if_pos c25, hz26]; try unfold bd_X8_drift_20_k1; first | done | rfl
          refine ww_lsub [1, 2, 3, 0] rfl ?_
          exact ww_castI (fun u9 : St => fl [wX8 cI cZ cQ rM u9]) (fun (u9 : St) (i9 : Int32) => ([(0, .ref (rM 0)), (1, .int x1), (2, .int (f_X8_barred SM x1 60)), (3, .int i9)] : List (Nat × Value))) h27 (ih (j_20 + 1) (by omega) K)
        · refine ww_aload_n (pc := 34) X dX8_drift_34 0 rfl rfl ?_
          refine ww_get (pc := 35) (ci := 8) (v := .ref (rM 2)) (C := RX8) (T := TX8) (N := 27) X inX8_drift_8 0 rfl rfl 3 (by decide) (by decide +kernel) rfl dX8_drift_35 ?_
          refine ww_iconst (pc := 38) (v := 3) X dX8_drift_38 (by decide) ?_
          refine ww_iald (pc := 39) (f := (it_X8_drift_20 x1 (f_X8_barred SM x1 60) z2 j_20).2 1) X 2 0 rfl rfl (vl_in (by decide)) dX8_drift_39 ?_
          refine ww_if_le (pc := 40) (tgt := 126) X dX8_drift_40 (by decide) (fun c28 => ?_) (fun c28 => ?_)
          · refine ww_aload_n (pc := 126) X dX8_drift_126 0 rfl rfl ?_
            refine ww_gVv (pc := 127) (rest := []) (gsN := [wX8 cI cZ cQ rM (f_X8_passes (it_X8_drift_20 x1 (f_X8_barred SM x1 60) z2 j_20))]) (ci := 8) (gi := 0) (qi := 0) X (c_X8_passes l D cI cZ cQ rM (it_X8_drift_20 x1 (f_X8_barred SM x1 60) z2 j_20) (by subst_vars; exact okM_of rfl okJ)) gX8_drift_X8_passes rfl hd_X8_passes [true] rfl (acons (ad8 _ _ _ _ _ _) rfl) rfl rfl rfl rfl rfl rfl ⟨rfl, rfl⟩ ⟨Nat.le_of_ble_eq_true rfl, Nat.le_of_ble_eq_true rfl⟩ (Nat.le_of_ble_eq_true rfl) ⟨Nat.zero_le _, Nat.zero_le _⟩ dX8_drift_127 ?_
            generalize hz29 : (f_X8_passes (it_X8_drift_20 x1 (f_X8_barred SM x1 60) z2 j_20)) = z29
            refine ww_iinc (pc := 130) (v := (nI j_20) + 1) (lv' := [(3, .int ((nI j_20) + 1)), (0, .ref (rM 0)), (1, .int x1), (2, .int (f_X8_barred SM x1 60))]) X dX8_drift_130 3 rfl rfl (by decide) rfl ?_
            refine ww_goto (pc := 133) (tgt := 20) X dX8_drift_133 (by decide) ?_
            have h30 : (it_X8_drift_20 x1 (f_X8_barred SM x1 60) z2 (j_20 + 1)) = z29 := by
              show bd_X8_drift_20 x1 (f_X8_barred SM x1 60) j_20 (it_X8_drift_20 x1 (f_X8_barred SM x1 60) z2 j_20) = _; unfold bd_X8_drift_20; try rw [if_neg c25, if_pos c28, hz29]; try unfold bd_X8_drift_20_k2; first | done | rfl
            refine ww_lsub [1, 2, 3, 0] rfl ?_
            exact ww_castI (fun u9 : St => fl [wX8 cI cZ cQ rM u9]) (fun (u9 : St) (i9 : Int32) => ([(0, .ref (rM 0)), (1, .int x1), (2, .int (f_X8_barred SM x1 60)), (3, .int i9)] : List (Nat × Value))) h30 (ih (j_20 + 1) (by omega) K)
          · refine ww_aload_n (pc := 43) X dX8_drift_43 0 rfl rfl ?_
            refine ww_aload_n (pc := 44) X dX8_drift_44 0 rfl rfl ?_
            refine ww_get (pc := 45) (ci := 8) (v := .ref (rM 2)) (C := RX8) (T := TX8) (N := 27) X inX8_drift_8 0 rfl rfl 3 (by decide) (by decide +kernel) rfl dX8_drift_45 ?_
            refine ww_iconst (pc := 48) (v := 3) X dX8_drift_48 (by decide) ?_
            refine ww_iald (pc := 49) (f := (it_X8_drift_20 x1 (f_X8_barred SM x1 60) z2 j_20).2 1) X 2 0 rfl rfl (vl_in (by decide)) dX8_drift_49 ?_
            refine ww_gVi (pc := 50) (rest := []) (gsN := [wX8 cI cZ cQ rM ((f_X8_draw (it_X8_drift_20 x1 (f_X8_barred SM x1 60) z2 j_20) (((it_X8_drift_20 x1 (f_X8_barred SM x1 60) z2 j_20).2 1) ((3 : Int32)).toNatClampNeg)).2)]) (ci := 8) (gi := 0) (qi := 0) X (c_X8_draw l D cI cZ cQ rM (it_X8_drift_20 x1 (f_X8_barred SM x1 60) z2 j_20) (((it_X8_drift_20 x1 (f_X8_barred SM x1 60) z2 j_20).2 1) ((3 : Int32)).toNatClampNeg) (ne_nle c28)) gX8_drift_X8_draw rfl hd_X8_draw [true] rfl (acons (ad8 _ _ _ _ _ _) rfl) rfl rfl rfl rfl rfl rfl ⟨rfl, rfl⟩ ⟨Nat.le_of_ble_eq_true rfl, Nat.le_of_ble_eq_true rfl⟩ (Nat.le_of_ble_eq_true rfl) ⟨Nat.zero_le _, Nat.zero_le _⟩ dX8_drift_50 ?_
            generalize hz31 : (f_X8_draw (it_X8_drift_20 x1 (f_X8_barred SM x1 60) z2 j_20) (((it_X8_drift_20 x1 (f_X8_barred SM x1 60) z2 j_20).2 1) ((3 : Int32)).toNatClampNeg)) = z31
            refine ww_istore (pc := 53) (lv' := [(4, .int z31.1), (0, .ref (rM 0)), (1, .int x1), (2, .int (f_X8_barred SM x1 60)), (3, .int (nI j_20))]) X dX8_drift_53 (by decide) rfl ?_
            have hpv := dr_in @Z c28 okJ.2.1.2
            refine ww_aload_n (pc := 55) X dX8_drift_55 1 rfl rfl ?_
            refine ww_aload_n (pc := 56) X dX8_drift_56 1 rfl rfl ?_
            refine ww_get (pc := 57) (ci := 8) (v := .ref (rM 2)) (C := RX8) (T := TX8) (N := 27) X inX8_drift_8 0 rfl rfl 3 (by decide) (by decide +kernel) rfl dX8_drift_57 ?_
            refine ww_iconst (pc := 60) (v := 2) X dX8_drift_60 (by decide) ?_
            refine ww_iald (pc := 61) (f := z31.2.2 1) X 2 0 rfl rfl (vl_in (by decide)) dX8_drift_61 ?_
            refine ww_iconst (pc := 62) (v := 2) X dX8_drift_62 (by decide) ?_
            refine ww_iadd (pc := 63) X dX8_drift_63 ?_
            refine ww_gVi (pc := 64) (rest := []) (gsN := [wX8 cI cZ cQ rM ((f_X8_draw z31.2 (((z31.2.2 1) ((2 : Int32)).toNatClampNeg) + 2)).2)]) (ci := 8) (gi := 0) (qi := 0) X (c_X8_draw l D cI cZ cQ rM z31.2 (((z31.2.2 1) ((2 : Int32)).toNatClampNeg) + 2) (dr_n hz31 okJ)) gX8_drift_X8_draw rfl hd_X8_draw [true] rfl (acons (ad8 _ _ _ _ _ _) rfl) rfl rfl rfl rfl rfl rfl ⟨rfl, rfl⟩ ⟨Nat.le_of_ble_eq_true rfl, Nat.le_of_ble_eq_true rfl⟩ (Nat.le_of_ble_eq_true rfl) ⟨Nat.zero_le _, Nat.zero_le _⟩ dX8_drift_64 ?_
            generalize hz32 : (f_X8_draw z31.2 (((z31.2.2 1) ((2 : Int32)).toNatClampNeg) + 2)) = z32
            refine ww_istore (pc := 67) (lv' := [(5, .int z32.1), (4, .int z31.1), (0, .ref (rM 0)), (1, .int x1), (2, .int (f_X8_barred SM x1 60)), (3, .int (nI j_20))]) X dX8_drift_67 (by decide) rfl ?_
            refine ww_iload (pc := 69) X dX8_drift_69 0 rfl ?_
            refine ww_aload_n (pc := 71) X dX8_drift_71 2 rfl rfl ?_
            refine ww_get (pc := 72) (ci := 8) (v := .ref (rM 2)) (C := RX8) (T := TX8) (N := 27) X inX8_drift_8 0 rfl rfl 3 (by decide) (by decide +kernel) rfl dX8_drift_72 ?_
            refine ww_iconst (pc := 75) (v := 2) X dX8_drift_75 (by decide) ?_
            refine ww_iald (pc := 76) (f := z32.2.2 1) X 2 0 rfl rfl (vl_in (by decide)) dX8_drift_76 ?_
            refine ww_icmp_ge (pc := 77) (tgt := 100) X dX8_drift_77 (by decide) (fun c33 => ?_) (fun c33 => ?_)
            · refine ww_iload (pc := 100) X dX8_drift_100 0 rfl ?_
              refine ww_aload_n (pc := 102) X dX8_drift_102 2 rfl rfl ?_
              refine ww_get (pc := 103) (ci := 8) (v := .ref (rM 2)) (C := RX8) (T := TX8) (N := 27) X inX8_drift_8 0 rfl rfl 3 (by decide) (by decide +kernel) rfl dX8_drift_103 ?_
              refine ww_iconst (pc := 106) (v := 2) X dX8_drift_106 (by decide) ?_
              refine ww_iald (pc := 107) (f := z32.2.2 1) X 2 0 rfl rfl (vl_in (by decide)) dX8_drift_107 ?_
              refine ww_icmp_lt (pc := 108) (tgt := 126) X dX8_drift_108 (by decide) (fun c34 => ?_) (fun c34 => ?_)
              · refine ww_aload_n (pc := 126) X dX8_drift_126 2 rfl rfl ?_
                refine ww_gVv (pc := 127) (rest := []) (gsN := [wX8 cI cZ cQ rM (f_X8_passes z32.2)]) (ci := 8) (gi := 0) (qi := 0) X (c_X8_passes l D cI cZ cQ rM z32.2 (by subst_vars; exact okM_of rfl okJ)) gX8_drift_X8_passes rfl hd_X8_passes [true] rfl (acons (ad8 _ _ _ _ _ _) rfl) rfl rfl rfl rfl rfl rfl ⟨rfl, rfl⟩ ⟨Nat.le_of_ble_eq_true rfl, Nat.le_of_ble_eq_true rfl⟩ (Nat.le_of_ble_eq_true rfl) ⟨Nat.zero_le _, Nat.zero_le _⟩ dX8_drift_127 ?_
                generalize hz35 : (f_X8_passes z32.2) = z35
                refine ww_iinc (pc := 130) (v := (nI j_20) + 1) (lv' := [(3, .int ((nI j_20) + 1)), (5, .int z32.1), (4, .int z31.1), (0, .ref (rM 0)), (1, .int x1), (2, .int (f_X8_barred SM x1 60))]) X dX8_drift_130 5 rfl rfl (by decide) rfl ?_
                refine ww_goto (pc := 133) (tgt := 20) X dX8_drift_133 (by decide) ?_
                have h36 : (it_X8_drift_20 x1 (f_X8_barred SM x1 60) z2 (j_20 + 1)) = z35 := by
                  show bd_X8_drift_20 x1 (f_X8_barred SM x1 60) j_20 (it_X8_drift_20 x1 (f_X8_barred SM x1 60) z2 j_20) = _; unfold bd_X8_drift_20; try rw [if_neg c25, if_neg c28, hz31]; try unfold bd_X8_drift_20_k3; try rw [hz32]; try unfold bd_X8_drift_20_k4; try rw [if_pos c33, if_pos c34, hz35]; try unfold bd_X8_drift_20_k5; first | done | rfl
                refine ww_lsub [3, 4, 5, 0] rfl ?_
                exact ww_castI (fun u9 : St => fl [wX8 cI cZ cQ rM u9]) (fun (u9 : St) (i9 : Int32) => ([(0, .ref (rM 0)), (1, .int x1), (2, .int (f_X8_barred SM x1 60)), (3, .int i9)] : List (Nat × Value))) h36 (ih (j_20 + 1) (by omega) K)
              · refine ww_aload_n (pc := 111) X dX8_drift_111 2 rfl rfl ?_
                refine ww_iload (pc := 112) X dX8_drift_112 1 rfl ?_
                refine ww_gVi (pc := 114) (rest := []) (gsN := [wX8 cI cZ cQ rM z32.2]) (ci := 8) (gi := 0) (qi := 0) X (c_X8_isBelow l D cI cZ cQ rM z32.2 z31.1 (by assumption)) gX8_drift_X8_isBelow rfl hd_X8_isBelow [true] rfl rfl rfl rfl rfl rfl rfl rfl ⟨rfl, rfl⟩ ⟨Nat.le_of_ble_eq_true rfl, Nat.le_of_ble_eq_true rfl⟩ (Nat.le_of_ble_eq_true rfl) ⟨Nat.zero_le _, Nat.zero_le _⟩ dX8_drift_114 ?_
                refine ww_if_eq (pc := 117) (tgt := 126) X dX8_drift_117 (by decide) (fun c37 => ?_) (fun c37 => ?_)
                · refine ww_aload_n (pc := 126) X dX8_drift_126 2 rfl rfl ?_
                  refine ww_gVv (pc := 127) (rest := []) (gsN := [wX8 cI cZ cQ rM (f_X8_passes z32.2)]) (ci := 8) (gi := 0) (qi := 0) X (c_X8_passes l D cI cZ cQ rM z32.2 (by subst_vars; exact okM_of rfl okJ)) gX8_drift_X8_passes rfl hd_X8_passes [true] rfl (acons (ad8 _ _ _ _ _ _) rfl) rfl rfl rfl rfl rfl rfl ⟨rfl, rfl⟩ ⟨Nat.le_of_ble_eq_true rfl, Nat.le_of_ble_eq_true rfl⟩ (Nat.le_of_ble_eq_true rfl) ⟨Nat.zero_le _, Nat.zero_le _⟩ dX8_drift_127 ?_
                  generalize hz38 : (f_X8_passes z32.2) = z38
                  refine ww_iinc (pc := 130) (v := (nI j_20) + 1) (lv' := [(3, .int ((nI j_20) + 1)), (5, .int z32.1), (4, .int z31.1), (0, .ref (rM 0)), (1, .int x1), (2, .int (f_X8_barred SM x1 60))]) X dX8_drift_130 5 rfl rfl (by decide) rfl ?_
                  refine ww_goto (pc := 133) (tgt := 20) X dX8_drift_133 (by decide) ?_
                  have h39 : (it_X8_drift_20 x1 (f_X8_barred SM x1 60) z2 (j_20 + 1)) = z38 := by
                    show bd_X8_drift_20 x1 (f_X8_barred SM x1 60) j_20 (it_X8_drift_20 x1 (f_X8_barred SM x1 60) z2 j_20) = _; unfold bd_X8_drift_20; try rw [if_neg c25, if_neg c28, hz31]; try unfold bd_X8_drift_20_k3; try rw [hz32]; try unfold bd_X8_drift_20_k4; try rw [if_pos c33, if_neg c34, if_pos c37, hz38]; try unfold bd_X8_drift_20_k6; first | done | rfl
                  refine ww_lsub [3, 4, 5, 0] rfl ?_
                  exact ww_castI (fun u9 : St => fl [wX8 cI cZ cQ rM u9]) (fun (u9 : St) (i9 : Int32) => ([(0, .ref (rM 0)), (1, .int x1), (2, .int (f_X8_barred SM x1 60)), (3, .int i9)] : List (Nat × Value))) h39 (ih (j_20 + 1) (by omega) K)
                · refine ww_aload_n (pc := 120) X dX8_drift_120 2 rfl rfl ?_
                  refine ww_iload (pc := 121) X dX8_drift_121 1 rfl ?_
                  refine ww_gVv (pc := 123) (rest := []) (gsN := [wX8 cI cZ cQ rM (f_X8_ascends z32.2 z31.1)]) (ci := 8) (gi := 0) (qi := 0) X (c_X8_ascends l D cI cZ cQ rM z32.2 z31.1 (by assumption)) gX8_drift_X8_ascends rfl hd_X8_ascends [true] rfl (acons (ad8 _ _ _ _ _ _) rfl) rfl rfl rfl rfl rfl rfl ⟨rfl, rfl⟩ ⟨Nat.le_of_ble_eq_true rfl, Nat.le_of_ble_eq_true rfl⟩ (Nat.le_of_ble_eq_true rfl) ⟨Nat.zero_le _, Nat.zero_le _⟩ dX8_drift_123 ?_
                  generalize hz40 : (f_X8_ascends z32.2 z31.1) = z40
                  refine ww_aload_n (pc := 126) X dX8_drift_126 2 rfl rfl ?_
                  refine ww_gVv (pc := 127) (rest := []) (gsN := [wX8 cI cZ cQ rM (f_X8_passes z40)]) (ci := 8) (gi := 0) (qi := 0) X (c_X8_passes l D cI cZ cQ rM z40 (by subst_vars; exact okM_of rfl okJ)) gX8_drift_X8_passes rfl hd_X8_passes [true] rfl (acons (ad8 _ _ _ _ _ _) rfl) rfl rfl rfl rfl rfl rfl ⟨rfl, rfl⟩ ⟨Nat.le_of_ble_eq_true rfl, Nat.le_of_ble_eq_true rfl⟩ (Nat.le_of_ble_eq_true rfl) ⟨Nat.zero_le _, Nat.zero_le _⟩ dX8_drift_127 ?_
                  generalize hz41 : (f_X8_passes z40) = z41
                  refine ww_iinc (pc := 130) (v := (nI j_20) + 1) (lv' := [(3, .int ((nI j_20) + 1)), (5, .int z32.1), (4, .int z31.1), (0, .ref (rM 0)), (1, .int x1), (2, .int (f_X8_barred SM x1 60))]) X dX8_drift_130 5 rfl rfl (by decide) rfl ?_
                  refine ww_goto (pc := 133) (tgt := 20) X dX8_drift_133 (by decide) ?_
                  have h42 : (it_X8_drift_20 x1 (f_X8_barred SM x1 60) z2 (j_20 + 1)) = z41 := by
                    show bd_X8_drift_20 x1 (f_X8_barred SM x1 60) j_20 (it_X8_drift_20 x1 (f_X8_barred SM x1 60) z2 j_20) = _; unfold bd_X8_drift_20; try rw [if_neg c25, if_neg c28, hz31]; try unfold bd_X8_drift_20_k3; try rw [hz32]; try unfold bd_X8_drift_20_k4; try rw [if_pos c33, if_neg c34, if_neg c37, hz40]; try unfold bd_X8_drift_20_k7; try rw [hz41]; try unfold bd_X8_drift_20_k8; first | done | rfl
                  refine ww_lsub [3, 4, 5, 0] rfl ?_
                  exact ww_castI (fun u9 : St => fl [wX8 cI cZ cQ rM u9]) (fun (u9 : St) (i9 : Int32) => ([(0, .ref (rM 0)), (1, .int x1), (2, .int (f_X8_barred SM x1 60)), (3, .int i9)] : List (Nat × Value))) h42 (ih (j_20 + 1) (by omega) K)
            · refine ww_aload_n (pc := 80) X dX8_drift_80 2 rfl rfl ?_
              refine ww_iload (pc := 81) X dX8_drift_81 1 rfl ?_
              refine ww_gVi (pc := 83) (rest := []) (gsN := [wX8 cI cZ cQ rM z32.2]) (ci := 8) (gi := 0) (qi := 0) X (c_X8_isAbove l D cI cZ cQ rM z32.2 z31.1 (by assumption)) gX8_drift_X8_isAbove rfl hd_X8_isAbove [true] rfl rfl rfl rfl rfl rfl rfl rfl ⟨rfl, rfl⟩ ⟨Nat.le_of_ble_eq_true rfl, Nat.le_of_ble_eq_true rfl⟩ (Nat.le_of_ble_eq_true rfl) ⟨Nat.zero_le _, Nat.zero_le _⟩ dX8_drift_83 ?_
              refine ww_if_eq (pc := 86) (tgt := 100) X dX8_drift_86 (by decide) (fun c43 => ?_) (fun c43 => ?_)
              · refine ww_iload (pc := 100) X dX8_drift_100 0 rfl ?_
                refine ww_aload_n (pc := 102) X dX8_drift_102 2 rfl rfl ?_
                refine ww_get (pc := 103) (ci := 8) (v := .ref (rM 2)) (C := RX8) (T := TX8) (N := 27) X inX8_drift_8 0 rfl rfl 3 (by decide) (by decide +kernel) rfl dX8_drift_103 ?_
                refine ww_iconst (pc := 106) (v := 2) X dX8_drift_106 (by decide) ?_
                refine ww_iald (pc := 107) (f := z32.2.2 1) X 2 0 rfl rfl (vl_in (by decide)) dX8_drift_107 ?_
                refine ww_icmp_lt (pc := 108) (tgt := 126) X dX8_drift_108 (by decide) (fun c44 => ?_) (fun c44 => ?_)
                · refine ww_aload_n (pc := 126) X dX8_drift_126 2 rfl rfl ?_
                  refine ww_gVv (pc := 127) (rest := []) (gsN := [wX8 cI cZ cQ rM (f_X8_passes z32.2)]) (ci := 8) (gi := 0) (qi := 0) X (c_X8_passes l D cI cZ cQ rM z32.2 (by subst_vars; exact okM_of rfl okJ)) gX8_drift_X8_passes rfl hd_X8_passes [true] rfl (acons (ad8 _ _ _ _ _ _) rfl) rfl rfl rfl rfl rfl rfl ⟨rfl, rfl⟩ ⟨Nat.le_of_ble_eq_true rfl, Nat.le_of_ble_eq_true rfl⟩ (Nat.le_of_ble_eq_true rfl) ⟨Nat.zero_le _, Nat.zero_le _⟩ dX8_drift_127 ?_
                  generalize hz45 : (f_X8_passes z32.2) = z45
                  refine ww_iinc (pc := 130) (v := (nI j_20) + 1) (lv' := [(3, .int ((nI j_20) + 1)), (5, .int z32.1), (4, .int z31.1), (0, .ref (rM 0)), (1, .int x1), (2, .int (f_X8_barred SM x1 60))]) X dX8_drift_130 5 rfl rfl (by decide) rfl ?_
                  refine ww_goto (pc := 133) (tgt := 20) X dX8_drift_133 (by decide) ?_
                  have h46 : (it_X8_drift_20 x1 (f_X8_barred SM x1 60) z2 (j_20 + 1)) = z45 := by
                    show bd_X8_drift_20 x1 (f_X8_barred SM x1 60) j_20 (it_X8_drift_20 x1 (f_X8_barred SM x1 60) z2 j_20) = _; unfold bd_X8_drift_20; try rw [if_neg c25, if_neg c28, hz31]; try unfold bd_X8_drift_20_k3; try rw [hz32]; try unfold bd_X8_drift_20_k4; try rw [if_neg c33, if_pos c43, if_pos c44, hz45]; try unfold bd_X8_drift_20_k9; first | done | rfl
                  refine ww_lsub [3, 4, 5, 0] rfl ?_
                  exact ww_castI (fun u9 : St => fl [wX8 cI cZ cQ rM u9]) (fun (u9 : St) (i9 : Int32) => ([(0, .ref (rM 0)), (1, .int x1), (2, .int (f_X8_barred SM x1 60)), (3, .int i9)] : List (Nat × Value))) h46 (ih (j_20 + 1) (by omega) K)
                · refine ww_aload_n (pc := 111) X dX8_drift_111 2 rfl rfl ?_
                  refine ww_iload (pc := 112) X dX8_drift_112 1 rfl ?_
                  refine ww_gVi (pc := 114) (rest := []) (gsN := [wX8 cI cZ cQ rM z32.2]) (ci := 8) (gi := 0) (qi := 0) X (c_X8_isBelow l D cI cZ cQ rM z32.2 z31.1 (by assumption)) gX8_drift_X8_isBelow rfl hd_X8_isBelow [true] rfl rfl rfl rfl rfl rfl rfl rfl ⟨rfl, rfl⟩ ⟨Nat.le_of_ble_eq_true rfl, Nat.le_of_ble_eq_true rfl⟩ (Nat.le_of_ble_eq_true rfl) ⟨Nat.zero_le _, Nat.zero_le _⟩ dX8_drift_114 ?_
                  refine ww_if_eq (pc := 117) (tgt := 126) X dX8_drift_117 (by decide) (fun c47 => ?_) (fun c47 => ?_)
                  · refine ww_aload_n (pc := 126) X dX8_drift_126 2 rfl rfl ?_
                    refine ww_gVv (pc := 127) (rest := []) (gsN := [wX8 cI cZ cQ rM (f_X8_passes z32.2)]) (ci := 8) (gi := 0) (qi := 0) X (c_X8_passes l D cI cZ cQ rM z32.2 (by subst_vars; exact okM_of rfl okJ)) gX8_drift_X8_passes rfl hd_X8_passes [true] rfl (acons (ad8 _ _ _ _ _ _) rfl) rfl rfl rfl rfl rfl rfl ⟨rfl, rfl⟩ ⟨Nat.le_of_ble_eq_true rfl, Nat.le_of_ble_eq_true rfl⟩ (Nat.le_of_ble_eq_true rfl) ⟨Nat.zero_le _, Nat.zero_le _⟩ dX8_drift_127 ?_
                    generalize hz48 : (f_X8_passes z32.2) = z48
                    refine ww_iinc (pc := 130) (v := (nI j_20) + 1) (lv' := [(3, .int ((nI j_20) + 1)), (5, .int z32.1), (4, .int z31.1), (0, .ref (rM 0)), (1, .int x1), (2, .int (f_X8_barred SM x1 60))]) X dX8_drift_130 5 rfl rfl (by decide) rfl ?_
                    refine ww_goto (pc := 133) (tgt := 20) X dX8_drift_133 (by decide) ?_
                    have h49 : (it_X8_drift_20 x1 (f_X8_barred SM x1 60) z2 (j_20 + 1)) = z48 := by
                      show bd_X8_drift_20 x1 (f_X8_barred SM x1 60) j_20 (it_X8_drift_20 x1 (f_X8_barred SM x1 60) z2 j_20) = _; unfold bd_X8_drift_20; try rw [if_neg c25, if_neg c28, hz31]; try unfold bd_X8_drift_20_k3; try rw [hz32]; try unfold bd_X8_drift_20_k4; try rw [if_neg c33, if_pos c43, if_neg c44, if_pos c47, hz48]; try unfold bd_X8_drift_20_k10; first | done | rfl
                    refine ww_lsub [3, 4, 5, 0] rfl ?_
                    exact ww_castI (fun u9 : St => fl [wX8 cI cZ cQ rM u9]) (fun (u9 : St) (i9 : Int32) => ([(0, .ref (rM 0)), (1, .int x1), (2, .int (f_X8_barred SM x1 60)), (3, .int i9)] : List (Nat × Value))) h49 (ih (j_20 + 1) (by omega) K)
                  · refine ww_aload_n (pc := 120) X dX8_drift_120 2 rfl rfl ?_
                    refine ww_iload (pc := 121) X dX8_drift_121 1 rfl ?_
                    refine ww_gVv (pc := 123) (rest := []) (gsN := [wX8 cI cZ cQ rM (f_X8_ascends z32.2 z31.1)]) (ci := 8) (gi := 0) (qi := 0) X (c_X8_ascends l D cI cZ cQ rM z32.2 z31.1 (by assumption)) gX8_drift_X8_ascends rfl hd_X8_ascends [true] rfl (acons (ad8 _ _ _ _ _ _) rfl) rfl rfl rfl rfl rfl rfl ⟨rfl, rfl⟩ ⟨Nat.le_of_ble_eq_true rfl, Nat.le_of_ble_eq_true rfl⟩ (Nat.le_of_ble_eq_true rfl) ⟨Nat.zero_le _, Nat.zero_le _⟩ dX8_drift_123 ?_
                    generalize hz50 : (f_X8_ascends z32.2 z31.1) = z50
                    refine ww_aload_n (pc := 126) X dX8_drift_126 2 rfl rfl ?_
                    refine ww_gVv (pc := 127) (rest := []) (gsN := [wX8 cI cZ cQ rM (f_X8_passes z50)]) (ci := 8) (gi := 0) (qi := 0) X (c_X8_passes l D cI cZ cQ rM z50 (by subst_vars; exact okM_of rfl okJ)) gX8_drift_X8_passes rfl hd_X8_passes [true] rfl (acons (ad8 _ _ _ _ _ _) rfl) rfl rfl rfl rfl rfl rfl ⟨rfl, rfl⟩ ⟨Nat.le_of_ble_eq_true rfl, Nat.le_of_ble_eq_true rfl⟩ (Nat.le_of_ble_eq_true rfl) ⟨Nat.zero_le _, Nat.zero_le _⟩ dX8_drift_127 ?_
                    generalize hz51 : (f_X8_passes z50) = z51
                    refine ww_iinc (pc := 130) (v := (nI j_20) + 1) (lv' := [(3, .int ((nI j_20) + 1)), (5, .int z32.1), (4, .int z31.1), (0, .ref (rM 0)), (1, .int x1), (2, .int (f_X8_barred SM x1 60))]) X dX8_drift_130 5 rfl rfl (by decide) rfl ?_
                    refine ww_goto (pc := 133) (tgt := 20) X dX8_drift_133 (by decide) ?_
                    have h52 : (it_X8_drift_20 x1 (f_X8_barred SM x1 60) z2 (j_20 + 1)) = z51 := by
                      show bd_X8_drift_20 x1 (f_X8_barred SM x1 60) j_20 (it_X8_drift_20 x1 (f_X8_barred SM x1 60) z2 j_20) = _; unfold bd_X8_drift_20; try rw [if_neg c25, if_neg c28, hz31]; try unfold bd_X8_drift_20_k3; try rw [hz32]; try unfold bd_X8_drift_20_k4; try rw [if_neg c33, if_pos c43, if_neg c44, if_neg c47, hz50]; try unfold bd_X8_drift_20_k11; try rw [hz51]; try unfold bd_X8_drift_20_k12; first | done | rfl
                    refine ww_lsub [3, 4, 5, 0] rfl ?_
                    exact ww_castI (fun u9 : St => fl [wX8 cI cZ cQ rM u9]) (fun (u9 : St) (i9 : Int32) => ([(0, .ref (rM 0)), (1, .int x1), (2, .int (f_X8_barred SM x1 60)), (3, .int i9)] : List (Nat × Value))) h52 (ih (j_20 + 1) (by omega) K)
              · refine ww_aload_n (pc := 89) X dX8_drift_89 2 rfl rfl ?_
                refine ww_iload (pc := 90) X dX8_drift_90 1 rfl ?_
                refine ww_iload (pc := 92) X dX8_drift_92 0 rfl ?_
                refine ww_gVv (pc := 94) (rest := []) (gsN := [wX8 cI cZ cQ rM (f_X8_descends z32.2 z31.1 z32.1)]) (ci := 8) (gi := 0) (qi := 0) X (c_X8_descends l D cI cZ cQ rM z32.2 z31.1 z32.1 (by assumption)) gX8_drift_X8_descends rfl hd_X8_descends [true] rfl (acons (ad8 _ _ _ _ _ _) rfl) rfl rfl rfl rfl rfl rfl ⟨rfl, rfl⟩ ⟨Nat.le_of_ble_eq_true rfl, Nat.le_of_ble_eq_true rfl⟩ (Nat.le_of_ble_eq_true rfl) ⟨Nat.zero_le _, Nat.zero_le _⟩ dX8_drift_94 ?_
                generalize hz53 : (f_X8_descends z32.2 z31.1 z32.1) = z53
                refine ww_goto (pc := 97) (tgt := 126) X dX8_drift_97 (by decide) ?_
                refine ww_aload_n (pc := 126) X dX8_drift_126 2 rfl rfl ?_
                refine ww_gVv (pc := 127) (rest := []) (gsN := [wX8 cI cZ cQ rM (f_X8_passes z53)]) (ci := 8) (gi := 0) (qi := 0) X (c_X8_passes l D cI cZ cQ rM z53 (by subst_vars; exact okM_of rfl okJ)) gX8_drift_X8_passes rfl hd_X8_passes [true] rfl (acons (ad8 _ _ _ _ _ _) rfl) rfl rfl rfl rfl rfl rfl ⟨rfl, rfl⟩ ⟨Nat.le_of_ble_eq_true rfl, Nat.le_of_ble_eq_true rfl⟩ (Nat.le_of_ble_eq_true rfl) ⟨Nat.zero_le _, Nat.zero_le _⟩ dX8_drift_127 ?_
                generalize hz54 : (f_X8_passes z53) = z54
                refine ww_iinc (pc := 130) (v := (nI j_20) + 1) (lv' := [(3, .int ((nI j_20) + 1)), (5, .int z32.1), (4, .int z31.1), (0, .ref (rM 0)), (1, .int x1), (2, .int (f_X8_barred SM x1 60))]) X dX8_drift_130 5 rfl rfl (by decide) rfl ?_
                refine ww_goto (pc := 133) (tgt := 20) X dX8_drift_133 (by decide) ?_
                have h55 : (it_X8_drift_20 x1 (f_X8_barred SM x1 60) z2 (j_20 + 1)) = z54 := by
                  show bd_X8_drift_20 x1 (f_X8_barred SM x1 60) j_20 (it_X8_drift_20 x1 (f_X8_barred SM x1 60) z2 j_20) = _; unfold bd_X8_drift_20; try rw [if_neg c25, if_neg c28, hz31]; try unfold bd_X8_drift_20_k3; try rw [hz32]; try unfold bd_X8_drift_20_k4; try rw [if_neg c33, if_neg c43, hz53]; try unfold bd_X8_drift_20_k13; try rw [hz54]; try unfold bd_X8_drift_20_k14; first | done | rfl
                refine ww_lsub [3, 4, 5, 0] rfl ?_
                exact ww_castI (fun u9 : St => fl [wX8 cI cZ cQ rM u9]) (fun (u9 : St) (i9 : Int32) => ([(0, .ref (rM 0)), (1, .int x1), (2, .int (f_X8_barred SM x1 60)), (3, .int i9)] : List (Nat × Value))) h55 (ih (j_20 + 1) (by omega) K)
    refine ww_lsub [2, 3, 1, 0] rfl ?_
    refine L20 x1.toNatClampNeg 0 (by omega) ?_
    generalize hz56 : ((it_X8_drift_20 x1 (f_X8_barred SM x1 60) z2 x1.toNatClampNeg)) = z56
    refine ww_aload_n (pc := 136) X dX8_drift_136 0 rfl rfl ?_
    refine ww_get (pc := 137) (ci := 8) (v := .ref (rM 10)) (C := RX8) (T := TX8) (N := 27) X inX8_drift_8 0 rfl rfl 11 (by decide) (by decide +kernel) rfl dX8_drift_137 ?_
    refine ww_iconst (pc := 140) (v := 0) X dX8_drift_140 (by decide) ?_
    refine ww_iald (pc := 141) (f := z56.2 9) X 10 0 rfl rfl (vl_in (by decide)) dX8_drift_141 ?_
    have h57 : f_X8_drift SM x1 = ((z56.2 9) ((0 : Int32)).toNatClampNeg, z56) := by unfold f_X8_drift; try rw [if_pos c1, hz2]; try unfold f_X8_drift_k1; try rw [hz56]; try unfold f_X8_drift_k2; first | done | rfl
    exact ww_iret X hr rfl (congrArg (fun u9 : Int32 × St => u9.1) h57).symm (congrArg (fun u9 : Int32 × St => fl [wX8 cI cZ cQ rM u9.2]) h57.symm) dX8_drift_142
  · refine ww_iload_n (pc := 12) X dX8_drift_12 0 rfl rfl ?_
    have h58 : f_X8_drift SM x1 = (f_X8_barred SM x1 60, SM) := by unfold f_X8_drift; try rw [if_neg c1]; first | done | rfl
    exact ww_iret X hr rfl (congrArg (fun u9 : Int32 × St => u9.1) h58).symm (congrArg (fun u9 : Int32 × St => fl [wX8 cI cZ cQ rM u9.2]) h58.symm) dX8_drift_13
