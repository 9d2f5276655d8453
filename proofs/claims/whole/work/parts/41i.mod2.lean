def f_X8_take_k1 (SM : St) (x1 : Int32) (z4 : St) : Int32 × St :=
  ((z4.2 9) ((29 + x1 : Int32)).toNatClampNeg, (sA z4 9 (upd (z4.2 9) ((29 + x1 : Int32)).toNatClampNeg 0)))
def f_X8_take (SM : St) (x1 : Int32) : Int32 × St :=
  if (f_X8_isGood SM x1) = 0 then
    ((-1000000001), SM)
  else
    if ((SM.2 9) ((29 + x1 : Int32)).toNatClampNeg) = 0 then
      ((-1000000003), SM)
    else
      f_X8_take_k1 SM x1 (f_X8_notes SM)
theorem inX8_take_8 : ∀ w ∈ wsX80, w ∈ wsX8_take := by decide +kernel
theorem hd_X8_take : yX8_take.cls = RX8 ∧ yX8_take.cls ≠ "java/lang/invoke/MethodHandle" ∧ yX8_take.cls ≠ "java/lang/invoke/VarHandle" ∧ (parseMethodDescriptor yX8_take.desc).map (fun d => d.parameters.length) = some 1 := by decide +kernel
set_option maxHeartbeats 4000000 in
set_option maxRecDepth 100000 in
theorem c_X8_take (l : Launch) (D : va_G) (cI cZ cQ : ClassId) (rM : Nat → Nat) (SM : St) (x1 : Int32) (okm : okM SM) (n0 : ¬ (SM.1 2) < 0) (n1 : SM.1 2 ≤ 20) : Ci l yX8_take wsX8_take { frames := 2, cells := 0, slots := 0, locals := 43 } D (tyL cI cZ cQ) [.ref (rM 0), .int x1] (fl [wX8 cI cZ cQ rM SM]) ((f_X8_take SM x1).1) (fl [wX8 cI cZ cQ rM ((f_X8_take SM x1).2)]) := by
  refine ci_of (cc := cX8_take) (nL := 3) (ty := .int) (lv0 := [(0, .ref (rM 0)), (1, .int x1)]) (by decide) rfl (Nat.le_of_ble_eq_true rfl) rfl ?_
  intro p e s m args below meth c A X hr
  refine ww_aload_n (pc := 0) X dX8_take_0 0 rfl rfl ?_
  refine ww_iload_n (pc := 1) X dX8_take_1 1 rfl rfl ?_
  refine ww_gVi (pc := 2) (rest := []) (gsN := [wX8 cI cZ cQ rM SM]) (ci := 8) (gi := 0) (qi := 0) X (c_X8_isGood l D cI cZ cQ rM SM x1) gX8_take_X8_isGood rfl hd_X8_isGood [true] rfl rfl rfl rfl rfl rfl rfl rfl ⟨rfl, rfl⟩ ⟨Nat.le_of_ble_eq_true rfl, Nat.le_of_ble_eq_true rfl⟩ (Nat.le_of_ble_eq_true rfl) ⟨Nat.zero_le _, Nat.zero_le _⟩ dX8_take_2 ?_
  refine ww_if_ne (pc := 5) (tgt := 11) X dX8_take_5 (by decide) (fun c1 => ?_) (fun c1 => ?_)
  · refine ww_aload_n (pc := 11) X dX8_take_11 0 rfl rfl ?_
    refine ww_get (pc := 12) (ci := 8) (v := .ref (rM 10)) (C := RX8) (T := TX8) (N := 27) X inX8_take_8 0 rfl rfl 11 (by decide) (by decide +kernel) rfl dX8_take_12 ?_
    refine ww_bipush (pc := 15) (v := 29) X dX8_take_15 (by decide) ?_
    refine ww_iload_n (pc := 17) X dX8_take_17 1 rfl rfl ?_
    have hb2 := clb (n := 6) (in_X8_isGood okm c1)
    refine ww_iadd (pc := 18) X dX8_take_18 ?_
    refine ww_iald (pc := 19) (f := SM.2 9) X 10 0 rfl rfl (vn (m := 29 + ((x1 : Int32).toNatClampNeg)) (nat_iadd (a := 29) (b := (x1 : Int32).toNatClampNeg) rfl (cl_of (in_X8_isGood okm c1))) (by omega) (by decide)) dX8_take_19 ?_
    refine ww_if_ne (pc := 20) (tgt := 26) X dX8_take_20 (by decide) (fun c3 => ?_) (fun c3 => ?_)
    · refine ww_aload_n (pc := 26) X dX8_take_26 0 rfl rfl ?_
      refine ww_gVv (pc := 27) (rest := []) (gsN := [wX8 cI cZ cQ rM (f_X8_notes SM)]) (ci := 8) (gi := 0) (qi := 0) X (c_X8_notes l D cI cZ cQ rM SM (by assumption) (by assumption)) gX8_take_X8_notes rfl hd_X8_notes [true] rfl (acons (ad8 _ _ _ _ _ _) rfl) rfl rfl rfl rfl rfl rfl ⟨rfl, rfl⟩ ⟨Nat.le_of_ble_eq_true rfl, Nat.le_of_ble_eq_true rfl⟩ (Nat.le_of_ble_eq_true rfl) ⟨Nat.zero_le _, Nat.zero_le _⟩ dX8_take_27 ?_
      generalize hz4 : (f_X8_notes SM) = z4
      refine ww_aload_n (pc := 30) X dX8_take_30 0 rfl rfl ?_
      refine ww_get (pc := 31) (ci := 8) (v := .ref (rM 10)) (C := RX8) (T := TX8) (N := 27) X inX8_take_8 0 rfl rfl 11 (by decide) (by decide +kernel) rfl dX8_take_31 ?_
      refine ww_bipush (pc := 34) (v := 29) X dX8_take_34 (by decide) ?_
      refine ww_iload_n (pc := 36) X dX8_take_36 1 rfl rfl ?_
      refine ww_iadd (pc := 37) X dX8_take_37 ?_
      refine ww_iald (pc := 38) (f := z4.2 9) X 10 0 rfl rfl (vn (m := 29 + ((x1 : Int32).toNatClampNeg)) (nat_iadd (a := 29) (b := (x1 : Int32).toNatClampNeg) rfl (cl_of (in_X8_isGood okm c1))) (by omega) (by decide)) dX8_take_38 ?_
      refine ww_istore_n (pc := 39) (lv' := [(2, .int ((z4.2 9) ((29 + x1 : Int32)).toNatClampNeg)), (0, .ref (rM 0)), (1, .int x1)]) X dX8_take_39 rfl (by decide) rfl ?_
      refine ww_aload_n (pc := 40) X dX8_take_40 1 rfl rfl ?_
      refine ww_get (pc := 41) (ci := 8) (v := .ref (rM 10)) (C := RX8) (T := TX8) (N := 27) X inX8_take_8 0 rfl rfl 11 (by decide) (by decide +kernel) rfl dX8_take_41 ?_
      refine ww_bipush (pc := 44) (v := 29) X dX8_take_44 (by decide) ?_
      refine ww_iload_n (pc := 46) X dX8_take_46 2 rfl rfl ?_
      refine ww_iadd (pc := 47) X dX8_take_47 ?_
      refine ww_iconst (pc := 48) (v := 0) X dX8_take_48 (by decide) ?_
      refine ww_iast (pc := 49) (f := z4.2 9) (ws' := fl [wX8 cI cZ cQ rM (sA z4 9 (upd (z4.2 9) ((29 + x1 : Int32)).toNatClampNeg 0))]) X 10 0 rfl rfl (vn (m := 29 + ((x1 : Int32).toNatClampNeg)) (nat_iadd (a := 29) (b := (x1 : Int32).toNatClampNeg) rfl (cl_of (in_X8_isGood okm c1))) (by omega) (by decide)) (st8a_9 _ _ _ _ _ _) dX8_take_49 ?_
      refine ww_iload_n (pc := 50) X dX8_take_50 0 rfl rfl ?_
      have h5 : f_X8_take SM x1 = ((z4.2 9) ((29 + x1 : Int32)).toNatClampNeg, (sA z4 9 (upd (z4.2 9) ((29 + x1 : Int32)).toNatClampNeg 0))) := by unfold f_X8_take; try rw [if_neg c1, if_neg c3, hz4]; try unfold f_X8_take_k1; first | done | rfl
      exact ww_iret X hr rfl (congrArg (fun u9 : Int32 × St => u9.1) h5).symm (congrArg (fun u9 : Int32 × St => fl [wX8 cI cZ cQ rM u9.2]) h5.symm) dX8_take_51
    · refine ww_ldc (pc := 23) (v := (-1000000003)) X (by decide +kernel) dX8_take_23 ?_
      have h6 : f_X8_take SM x1 = ((-1000000003), SM) := by unfold f_X8_take; try rw [if_neg c1, if_pos c3]; first | done | rfl
      exact ww_iret X hr rfl (congrArg (fun u9 : Int32 × St => u9.1) h6).symm (congrArg (fun u9 : Int32 × St => fl [wX8 cI cZ cQ rM u9.2]) h6.symm) dX8_take_25
  · refine ww_ldc (pc := 8) (v := (-1000000001)) X (by decide +kernel) dX8_take_8 ?_
    have h7 : f_X8_take SM x1 = ((-1000000001), SM) := by unfold f_X8_take; try rw [if_pos c1]; first | done | rfl
    exact ww_iret X hr rfl (congrArg (fun u9 : Int32 × St => u9.1) h7).symm (congrArg (fun u9 : Int32 × St => fl [wX8 cI cZ cQ rM u9.2]) h7.symm) dX8_take_10
