def f_X8_up_k2 (SM : St) (x1 : Int32) (z3 : St) (z4 : St) : Int32 × St :=
  (f_X8_daysOf z3 x1, z4)
def f_X8_up_k1 (SM : St) (x1 : Int32) (z3 : St) : Int32 × St :=
  f_X8_up_k2 SM x1 z3 (f_X8_ascends z3 x1)
def f_X8_up (SM : St) (x1 : Int32) : Int32 × St :=
  if (f_X8_isPerson SM x1) = 0 then
    ((-1000000001), SM)
  else
    if (f_X8_isBelow SM x1) = 0 then
      ((-1000000003), SM)
    else
      f_X8_up_k1 SM x1 (f_X8_notes SM)
theorem hd_X8_up : yX8_up.cls = RX8 ∧ yX8_up.cls ≠ "java/lang/invoke/MethodHandle" ∧ yX8_up.cls ≠ "java/lang/invoke/VarHandle" ∧ (parseMethodDescriptor yX8_up.desc).map (fun d => d.parameters.length) = some 1 := by decide +kernel
set_option maxHeartbeats 4000000 in
set_option maxRecDepth 100000 in
theorem c_X8_up (l : Launch) (D : va_G) (cI cZ cQ : ClassId) (rM : Nat → Nat) (SM : St) (x1 : Int32) (okm : okM SM) (n0 : ¬ (SM.1 2) < 0) (n1 : SM.1 2 ≤ 20) (okw : okW SM x1) : Ci l yX8_up wsX8_up { frames := 2, cells := 0, slots := 0, locals := 43 } D (tyL cI cZ cQ) [.ref (rM 0), .int x1] (fl [wX8 cI cZ cQ rM SM]) ((f_X8_up SM x1).1) (fl [wX8 cI cZ cQ rM ((f_X8_up SM x1).2)]) := by
  refine ci_of (cc := cX8_up) (nL := 3) (ty := .int) (lv0 := [(0, .ref (rM 0)), (1, .int x1)]) (by decide) rfl (Nat.le_of_ble_eq_true rfl) rfl ?_
  intro p e s m args below meth c A X hr
  refine ww_aload_n (pc := 0) X dX8_up_0 0 rfl rfl ?_
  refine ww_iload_n (pc := 1) X dX8_up_1 1 rfl rfl ?_
  refine ww_gVi (pc := 2) (rest := []) (gsN := [wX8 cI cZ cQ rM SM]) (ci := 8) (gi := 0) (qi := 0) X (c_X8_isPerson l D cI cZ cQ rM SM x1) gX8_up_X8_isPerson rfl hd_X8_isPerson [true] rfl rfl rfl rfl rfl rfl rfl rfl ⟨rfl, rfl⟩ ⟨Nat.le_of_ble_eq_true rfl, Nat.le_of_ble_eq_true rfl⟩ (Nat.le_of_ble_eq_true rfl) ⟨Nat.zero_le _, Nat.zero_le _⟩ dX8_up_2 ?_
  refine ww_if_ne (pc := 5) (tgt := 11) X dX8_up_5 (by decide) (fun c1 => ?_) (fun c1 => ?_)
  · refine ww_aload_n (pc := 11) X dX8_up_11 0 rfl rfl ?_
    refine ww_iload_n (pc := 12) X dX8_up_12 1 rfl rfl ?_
    refine ww_gVi (pc := 13) (rest := []) (gsN := [wX8 cI cZ cQ rM SM]) (ci := 8) (gi := 0) (qi := 0) X (c_X8_isBelow l D cI cZ cQ rM SM x1 (in_X8_isPerson okm c1)) gX8_up_X8_isBelow rfl hd_X8_isBelow [true] rfl rfl rfl rfl rfl rfl rfl rfl ⟨rfl, rfl⟩ ⟨Nat.le_of_ble_eq_true rfl, Nat.le_of_ble_eq_true rfl⟩ (Nat.le_of_ble_eq_true rfl) ⟨Nat.zero_le _, Nat.zero_le _⟩ dX8_up_13 ?_
    refine ww_if_ne (pc := 16) (tgt := 22) X dX8_up_16 (by decide) (fun c2 => ?_) (fun c2 => ?_)
    · refine ww_aload_n (pc := 22) X dX8_up_22 0 rfl rfl ?_
      refine ww_gVv (pc := 23) (rest := []) (gsN := [wX8 cI cZ cQ rM (f_X8_notes SM)]) (ci := 8) (gi := 0) (qi := 0) X (c_X8_notes l D cI cZ cQ rM SM (by assumption) (by assumption)) gX8_up_X8_notes rfl hd_X8_notes [true] rfl (acons (ad8 _ _ _ _ _ _) rfl) rfl rfl rfl rfl rfl rfl ⟨rfl, rfl⟩ ⟨Nat.le_of_ble_eq_true rfl, Nat.le_of_ble_eq_true rfl⟩ (Nat.le_of_ble_eq_true rfl) ⟨Nat.zero_le _, Nat.zero_le _⟩ dX8_up_23 ?_
      generalize hz3 : (f_X8_notes SM) = z3
      refine ww_aload_n (pc := 26) X dX8_up_26 0 rfl rfl ?_
      refine ww_iload_n (pc := 27) X dX8_up_27 1 rfl rfl ?_
      refine ww_gVi (pc := 28) (rest := []) (gsN := [wX8 cI cZ cQ rM z3]) (ci := 8) (gi := 0) (qi := 0) X (c_X8_daysOf l D cI cZ cQ rM z3 x1 (in_X8_isPerson okm c1) (up_w hz3 okw)) gX8_up_X8_daysOf rfl hd_X8_daysOf [true] rfl rfl rfl rfl rfl rfl rfl rfl ⟨rfl, rfl⟩ ⟨Nat.le_of_ble_eq_true rfl, Nat.le_of_ble_eq_true rfl⟩ (Nat.le_of_ble_eq_true rfl) ⟨Nat.zero_le _, Nat.zero_le _⟩ dX8_up_28 ?_
      refine ww_istore_n (pc := 31) (lv' := [(2, .int (f_X8_daysOf z3 x1)), (0, .ref (rM 0)), (1, .int x1)]) X dX8_up_31 rfl (by decide) rfl ?_
      refine ww_aload_n (pc := 32) X dX8_up_32 1 rfl rfl ?_
      refine ww_iload_n (pc := 33) X dX8_up_33 2 rfl rfl ?_
      refine ww_gVv (pc := 34) (rest := []) (gsN := [wX8 cI cZ cQ rM (f_X8_ascends z3 x1)]) (ci := 8) (gi := 0) (qi := 0) X (c_X8_ascends l D cI cZ cQ rM z3 x1 (in_X8_isPerson okm c1)) gX8_up_X8_ascends rfl hd_X8_ascends [true] rfl (acons (ad8 _ _ _ _ _ _) rfl) rfl rfl rfl rfl rfl rfl ⟨rfl, rfl⟩ ⟨Nat.le_of_ble_eq_true rfl, Nat.le_of_ble_eq_true rfl⟩ (Nat.le_of_ble_eq_true rfl) ⟨Nat.zero_le _, Nat.zero_le _⟩ dX8_up_34 ?_
      generalize hz4 : (f_X8_ascends z3 x1) = z4
      refine ww_iload_n (pc := 37) X dX8_up_37 0 rfl rfl ?_
      have h5 : f_X8_up SM x1 = (f_X8_daysOf z3 x1, z4) := by unfold f_X8_up; try rw [if_neg c1, if_neg c2, hz3]; try unfold f_X8_up_k1; try rw [hz4]; try unfold f_X8_up_k2; first | done | rfl
      exact ww_iret X hr rfl (congrArg (fun u9 : Int32 × St => u9.1) h5).symm (congrArg (fun u9 : Int32 × St => fl [wX8 cI cZ cQ rM u9.2]) h5.symm) dX8_up_38
    · refine ww_ldc (pc := 19) (v := (-1000000003)) X (by decide +kernel) dX8_up_19 ?_
      have h6 : f_X8_up SM x1 = ((-1000000003), SM) := by unfold f_X8_up; try rw [if_neg c1, if_pos c2]; first | done | rfl
      exact ww_iret X hr rfl (congrArg (fun u9 : Int32 × St => u9.1) h6).symm (congrArg (fun u9 : Int32 × St => fl [wX8 cI cZ cQ rM u9.2]) h6.symm) dX8_up_21
  · refine ww_ldc (pc := 8) (v := (-1000000001)) X (by decide +kernel) dX8_up_8 ?_
    have h7 : f_X8_up SM x1 = ((-1000000001), SM) := by unfold f_X8_up; try rw [if_pos c1]; first | done | rfl
    exact ww_iret X hr rfl (congrArg (fun u9 : Int32 × St => u9.1) h7).symm (congrArg (fun u9 : Int32 × St => fl [wX8 cI cZ cQ rM u9.2]) h7.symm) dX8_up_10
