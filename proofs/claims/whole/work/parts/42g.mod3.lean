def bd_X8_goBack_26 (x1 : Int32) (j : Nat) (u : St) : St :=
  (sA u 9 (upd (u.2 9) (((nI j) : Int32)).toNatClampNeg ((u.2 11) (((35 * x1) + (nI j) : Int32)).toNatClampNeg)))
def it_X8_goBack_26 (x1 : Int32) (u : St) : Nat → St
  | 0 => u
  | j + 1 => bd_X8_goBack_26 x1 j (it_X8_goBack_26 x1 u j)
def f_X8_goBack_k1 (SM : St) (x1 : Int32) (z6 : St) : Int32 × St :=
  (1, (sI (sI z6 3 ((z6.2 12) ((x1 : Int32)).toNatClampNeg)) 2 0))
def f_X8_goBack (SM : St) (x1 : Int32) : Int32 × St :=
  if (f_X8_in x1 0 1) = 0 then
    ((-1000000001), SM)
  else
    if ((SM.2 13) ((x1 : Int32)).toNatClampNeg) = 0 then
      ((-1000000003), SM)
    else
      f_X8_goBack_k1 SM x1 (it_X8_goBack_26 x1 SM 35)
theorem inX8_goBack_8 : ∀ w ∈ wsX80, w ∈ wsX8_goBack := by decide +kernel
theorem hd_X8_goBack : yX8_goBack.cls = RX8 ∧ yX8_goBack.cls ≠ "java/lang/invoke/MethodHandle" ∧ yX8_goBack.cls ≠ "java/lang/invoke/VarHandle" ∧ (parseMethodDescriptor yX8_goBack.desc).map (fun d => d.parameters.length) = some 1 := by decide +kernel
set_option maxHeartbeats 4000000 in
set_option maxRecDepth 100000 in
theorem c_X8_goBack (l : Launch) (D : va_G) (cI cZ cQ : ClassId) (rM : Nat → Nat) (SM : St) (x1 : Int32) : Ci l yX8_goBack wsX8_goBack { frames := 1, cells := 0, slots := 0, locals := 22 } D (tyL cI cZ cQ) [.ref (rM 0), .int x1] (fl [wX8 cI cZ cQ rM SM]) ((f_X8_goBack SM x1).1) (fl [wX8 cI cZ cQ rM ((f_X8_goBack SM x1).2)]) := by
  refine ci_of (cc := cX8_goBack) (nL := 3) (ty := .int) (lv0 := [(0, .ref (rM 0)), (1, .int x1)]) (by decide) rfl (Nat.le_of_ble_eq_true rfl) rfl ?_
  intro p e s m args below meth c A X hr
  refine ww_iload_n (pc := 0) X dX8_goBack_0 1 rfl rfl ?_
  refine ww_iconst (pc := 1) (v := 0) X dX8_goBack_1 (by decide) ?_
  refine ww_iconst (pc := 2) (v := 1) X dX8_goBack_2 (by decide) ?_
  refine ww_gSi (pc := 3) (rest := []) (gsN := [wX8 cI cZ cQ rM SM]) X (c_X8_in l D cI cZ cQ x1 0 1) gX8_goBack_X8_in rfl hd_X8_in [false] rfl rfl rfl rfl ⟨rfl, rfl⟩ ⟨Nat.le_of_ble_eq_true rfl, Nat.le_of_ble_eq_true rfl⟩ (Nat.le_of_ble_eq_true rfl) ⟨Nat.zero_le _, Nat.zero_le _⟩ dX8_goBack_3 ?_
  refine ww_if_ne (pc := 6) (tgt := 12) X dX8_goBack_6 (by decide) (fun c1 => ?_) (fun c1 => ?_)
  · refine ww_aload_n (pc := 12) X dX8_goBack_12 0 rfl rfl ?_
    refine ww_get (pc := 13) (ci := 8) (v := .ref (rM 14)) (C := RX8) (T := TX8) (N := 27) X inX8_goBack_8 0 rfl rfl 16 (by decide) (by decide +kernel) rfl dX8_goBack_13 ?_
    refine ww_iload_n (pc := 16) X dX8_goBack_16 1 rfl rfl ?_
    refine ww_zald (pc := 17) (f := SM.2 13) X 14 1 rfl rfl (in_X8_in (n := 1) c1 rfl) dX8_goBack_17 ?_
    refine ww_if_ne (pc := 18) (tgt := 24) X dX8_goBack_18 (by decide) (fun c2 => ?_) (fun c2 => ?_)
    · refine ww_iconst (pc := 24) (v := 0) X dX8_goBack_24 (by decide) ?_
      refine ww_istore_n (pc := 25) (lv' := [(2, .int 0), (0, .ref (rM 0)), (1, .int x1)]) X dX8_goBack_25 rfl (by decide) rfl ?_
      have L26 : ∀ (k_26 j_26 : Nat), j_26 + k_26 = 35 → WW p l e (headSpec wsX8_goBack { frames := 1, cells := 0, slots := 0, locals := 22 }).room s m args below meth c 3 D A 0 0 (RQi below args s D A ((f_X8_goBack SM x1).1) (fl [wX8 cI cZ cQ rM ((f_X8_goBack SM x1).2)])) (fl [wX8 cI cZ cQ rM (it_X8_goBack_26 x1 SM 35)]) [(0, .ref (rM 0)), (1, .int x1), (2, .int (nI 35))] 55 [] → WW p l e (headSpec wsX8_goBack { frames := 1, cells := 0, slots := 0, locals := 22 }).room s m args below meth c 3 D A 0 0 (RQi below args s D A ((f_X8_goBack SM x1).1) (fl [wX8 cI cZ cQ rM ((f_X8_goBack SM x1).2)])) (fl [wX8 cI cZ cQ rM (it_X8_goBack_26 x1 SM j_26)]) [(0, .ref (rM 0)), (1, .int x1), (2, .int (nI j_26))] 26 [] := by
        intro k_26
        induction k_26 with
        | zero =>
          intro j_26 hj K
          have hjB : j_26 = 35 := by omega
          subst hjB
          refine ww_iload_n (pc := 26) X dX8_goBack_26 2 rfl rfl ?_
          refine ww_bipush (pc := 27) (v := 35) X dX8_goBack_27 (by decide) ?_
          exact ww_icmp_ge (pc := 29) (tgt := 55) X dX8_goBack_29 (by decide) (fun _ => K) (fun c9 => absurd (lp_ge0 rfl (Nat.le_refl _) (by decide)) c9)
        | succ k_26 ih =>
          intro j_26 hj K
          have hjB : j_26 < 35 := by omega
          refine ww_iload_n (pc := 26) X dX8_goBack_26 2 rfl rfl ?_
          refine ww_bipush (pc := 27) (v := 35) X dX8_goBack_27 (by decide) ?_
          refine ww_icmp_ge (pc := 29) (tgt := 55) X dX8_goBack_29 (by decide) (fun c9 => absurd c9 (lp_ge1 rfl hjB (by decide))) (fun _ => ?_)
          refine ww_aload_n (pc := 32) X dX8_goBack_32 0 rfl rfl ?_
          refine ww_get (pc := 33) (ci := 8) (v := .ref (rM 10)) (C := RX8) (T := TX8) (N := 27) X inX8_goBack_8 0 rfl rfl 11 (by decide) (by decide +kernel) rfl dX8_goBack_33 ?_
          refine ww_iload_n (pc := 36) X dX8_goBack_36 2 rfl rfl ?_
          refine ww_aload_n (pc := 37) X dX8_goBack_37 0 rfl rfl ?_
          refine ww_get (pc := 38) (ci := 8) (v := .ref (rM 12)) (C := RX8) (T := TX8) (N := 27) X inX8_goBack_8 0 rfl rfl 14 (by decide) (by decide +kernel) rfl dX8_goBack_38 ?_
          refine ww_bipush (pc := 41) (v := 35) X dX8_goBack_41 (by decide) ?_
          refine ww_iload_n (pc := 43) X dX8_goBack_43 1 rfl rfl ?_
          have hb4 := clb (n := 2) (in_X8_in (n := 1) c1 rfl)
          refine ww_imul (pc := 44) X dX8_goBack_44 ?_
          refine ww_iload_n (pc := 45) X dX8_goBack_45 2 rfl rfl ?_
          refine ww_iadd (pc := 46) X dX8_goBack_46 ?_
          refine ww_iald (pc := 47) (f := (it_X8_goBack_26 x1 SM j_26).2 11) X 12 0 rfl rfl (vn (m := (35 * ((x1 : Int32).toNatClampNeg)) + j_26) (nat_iadd (a := 35 * ((x1 : Int32).toNatClampNeg)) (b := j_26) (nat_imul (a := 35) (b := (x1 : Int32).toNatClampNeg) rfl (cl_of (in_X8_in (n := 1) c1 rfl))) rfl) (by omega) (by decide)) dX8_goBack_47 ?_
          refine ww_iast (pc := 48) (f := (it_X8_goBack_26 x1 SM j_26).2 9) (ws' := fl [wX8 cI cZ cQ rM (sA (it_X8_goBack_26 x1 SM j_26) 9 (upd ((it_X8_goBack_26 x1 SM j_26).2 9) (((nI j_26) : Int32)).toNatClampNeg (((it_X8_goBack_26 x1 SM j_26).2 11) (((35 * x1) + (nI j_26) : Int32)).toNatClampNeg)))]) X 10 0 rfl rfl (vn (m := j_26) rfl (by omega) (by decide)) (st8a_9 _ _ _ _ _ _) dX8_goBack_48 ?_
          refine ww_iinc (pc := 49) (v := (nI j_26) + 1) (lv' := [(2, .int ((nI j_26) + 1)), (0, .ref (rM 0)), (1, .int x1)]) X dX8_goBack_49 2 rfl rfl (by decide) rfl ?_
          refine ww_goto (pc := 52) (tgt := 26) X dX8_goBack_52 (by decide) ?_
          have h5 : (it_X8_goBack_26 x1 SM (j_26 + 1)) = (sA (it_X8_goBack_26 x1 SM j_26) 9 (upd ((it_X8_goBack_26 x1 SM j_26).2 9) (((nI j_26) : Int32)).toNatClampNeg (((it_X8_goBack_26 x1 SM j_26).2 11) (((35 * x1) + (nI j_26) : Int32)).toNatClampNeg))) := by
            show bd_X8_goBack_26 x1 j_26 (it_X8_goBack_26 x1 SM j_26) = _; unfold bd_X8_goBack_26; first | done | rfl
          refine ww_lsub [1, 2, 0] rfl ?_
          exact ww_castI (fun u9 : St => fl [wX8 cI cZ cQ rM u9]) (fun (u9 : St) (i9 : Int32) => ([(0, .ref (rM 0)), (1, .int x1), (2, .int i9)] : List (Nat × Value))) h5 (ih (j_26 + 1) (by omega) K)
      refine ww_lsub [1, 2, 0] rfl ?_
      refine L26 35 0 (by omega) ?_
      generalize hz6 : ((it_X8_goBack_26 x1 SM 35)) = z6
      refine ww_aload_n (pc := 55) X dX8_goBack_55 0 rfl rfl ?_
      refine ww_aload_n (pc := 56) X dX8_goBack_56 0 rfl rfl ?_
      refine ww_get (pc := 57) (ci := 8) (v := .ref (rM 13)) (C := RX8) (T := TX8) (N := 27) X inX8_goBack_8 0 rfl rfl 15 (by decide) (by decide +kernel) rfl dX8_goBack_57 ?_
      refine ww_iload_n (pc := 60) X dX8_goBack_60 1 rfl rfl ?_
      refine ww_iald (pc := 61) (f := z6.2 12) X 13 0 rfl rfl (in_X8_in (n := 1) c1 rfl) dX8_goBack_61 ?_
      refine ww_put (pc := 62) (ci := 8) (v := .int ((z6.2 12) ((x1 : Int32)).toNatClampNeg)) (C := RX8) (T := TX8) (N := 27) (ws' := fl [wX8 cI cZ cQ rM (sI z6 3 ((z6.2 12) ((x1 : Int32)).toNatClampNeg))]) X inX8_goBack_8 tyX8 tyX8_ok nmX8 0 rfl rfl 17 (by decide) (by decide +kernel) rfl rfl rfl (Nat.le_of_ble_eq_true rfl) (pt8a_3 _ _ _ _ _ _) dX8_goBack_62 ?_
      refine ww_aload_n (pc := 65) X dX8_goBack_65 0 rfl rfl ?_
      refine ww_iconst (pc := 66) (v := 0) X dX8_goBack_66 (by decide) ?_
      refine ww_put (pc := 67) (ci := 8) (v := .int 0) (C := RX8) (T := TX8) (N := 27) (ws' := fl [wX8 cI cZ cQ rM (sI (sI z6 3 ((z6.2 12) ((x1 : Int32)).toNatClampNeg)) 2 0)]) X inX8_goBack_8 tyX8 tyX8_ok nmX8 0 rfl rfl 13 (by decide) (by decide +kernel) rfl rfl rfl (Nat.le_of_ble_eq_true rfl) (pt8a_2 _ _ _ _ _ _) dX8_goBack_67 ?_
      refine ww_iconst (pc := 70) (v := 1) X dX8_goBack_70 (by decide) ?_
      have h7 : f_X8_goBack SM x1 = (1, (sI (sI z6 3 ((z6.2 12) ((x1 : Int32)).toNatClampNeg)) 2 0)) := by unfold f_X8_goBack; try rw [if_neg c1, if_neg c2, hz6]; try unfold f_X8_goBack_k1; first | done | rfl
      exact ww_iret X hr rfl (congrArg (fun u9 : Int32 × St => u9.1) h7).symm (congrArg (fun u9 : Int32 × St => fl [wX8 cI cZ cQ rM u9.2]) h7.symm) dX8_goBack_71
    · refine ww_ldc (pc := 21) (v := (-1000000003)) X (by decide +kernel) dX8_goBack_21 ?_
      have h8 : f_X8_goBack SM x1 = ((-1000000003), SM) := by unfold f_X8_goBack; try rw [if_neg c1, if_pos c2]; first | done | rfl
      exact ww_iret X hr rfl (congrArg (fun u9 : Int32 × St => u9.1) h8).symm (congrArg (fun u9 : Int32 × St => fl [wX8 cI cZ cQ rM u9.2]) h8.symm) dX8_goBack_23
  · refine ww_ldc (pc := 9) (v := (-1000000001)) X (by decide +kernel) dX8_goBack_9 ?_
    have h9 : f_X8_goBack SM x1 = ((-1000000001), SM) := by unfold f_X8_goBack; try rw [if_pos c1]; first | done | rfl
    exact ww_iret X hr rfl (congrArg (fun u9 : Int32 × St => u9.1) h9).symm (congrArg (fun u9 : Int32 × St => fl [wX8 cI cZ cQ rM u9.2]) h9.symm) dX8_goBack_11
