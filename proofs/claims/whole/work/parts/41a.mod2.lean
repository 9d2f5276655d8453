def f_X8_later_k1 (SM : St) (x1 : Int32) (x2 : Int32) (z3 : Int32) : Int32 :=
  if ((SM.2 4) (((3 * x1) + 2 : Int32)).toNatClampNeg) < z3 then
    x2
  else
    z3
def f_X8_later (SM : St) (x1 : Int32) (x2 : Int32) : Int32 :=
  if ((SM.2 4) (((3 * x1) + 1 : Int32)).toNatClampNeg) ≤ 50 then
    f_X8_later_k1 SM x1 x2 (x2 + ((x2 * ((SM.2 4) (((3 * x1) + 1 : Int32)).toNatClampNeg)) / 100))
  else
    x2 - ((x2 * (((SM.2 4) (((3 * x1) + 1 : Int32)).toNatClampNeg) - 50)) / 100)
theorem inX8_later_8 : ∀ w ∈ wsX80, w ∈ wsX8_later := by decide +kernel
theorem hd_X8_later : yX8_later.cls = RX8 ∧ yX8_later.cls ≠ "java/lang/invoke/MethodHandle" ∧ yX8_later.cls ≠ "java/lang/invoke/VarHandle" ∧ (parseMethodDescriptor yX8_later.desc).map (fun d => d.parameters.length) = some 2 := by decide +kernel
set_option maxHeartbeats 4000000 in
set_option maxRecDepth 100000 in
theorem c_X8_later (l : Launch) (D : va_G) (cI cZ cQ : ClassId) (rM : Nat → Nat) (SM : St) (x1 : Int32) (x2 : Int32) (hg : vp_in x1 6) : Ci l yX8_later wsX8_later { frames := 0, cells := 0, slots := 0, locals := 0 } D (tyL cI cZ cQ) [.ref (rM 0), .int x1, .int x2] (fl [wX8 cI cZ cQ rM SM]) (f_X8_later SM x1 x2) (fl [wX8 cI cZ cQ rM SM]) := by
  refine ci_of (cc := cX8_later) (nL := 5) (ty := .int) (lv0 := [(0, .ref (rM 0)), (1, .int x1), (2, .int x2)]) (by decide) rfl (Nat.le_of_ble_eq_true rfl) rfl ?_
  intro p e s m args below meth c A X hr
  refine ww_aload_n (pc := 0) X dX8_later_0 0 rfl rfl ?_
  refine ww_get (pc := 1) (ci := 8) (v := .ref (rM 5)) (C := RX8) (T := TX8) (N := 27) X inX8_later_8 0 rfl rfl 6 (by decide) (by decide +kernel) rfl dX8_later_1 ?_
  refine ww_iconst (pc := 4) (v := 3) X dX8_later_4 (by decide) ?_
  refine ww_iload_n (pc := 5) X dX8_later_5 1 rfl rfl ?_
  have hb1 := clb (n := 6) hg
  refine ww_imul (pc := 6) X dX8_later_6 ?_
  refine ww_iconst (pc := 7) (v := 1) X dX8_later_7 (by decide) ?_
  refine ww_iadd (pc := 8) X dX8_later_8 ?_
  refine ww_iald (pc := 9) (f := SM.2 4) X 5 0 rfl rfl (vn (m := (3 * ((x1 : Int32).toNatClampNeg)) + 1) (nat_iadd (a := 3 * ((x1 : Int32).toNatClampNeg)) (b := 1) (nat_imul (a := 3) (b := (x1 : Int32).toNatClampNeg) rfl (cl_of hg)) rfl) (by omega) (by decide)) dX8_later_9 ?_
  refine ww_istore_n (pc := 10) (lv' := [(3, .int ((SM.2 4) (((3 * x1) + 1 : Int32)).toNatClampNeg)), (0, .ref (rM 0)), (1, .int x1), (2, .int x2)]) X dX8_later_10 rfl (by decide) rfl ?_
  refine ww_iload_n (pc := 11) X dX8_later_11 0 rfl rfl ?_
  refine ww_bipush (pc := 12) (v := 50) X dX8_later_12 (by decide) ?_
  refine ww_icmp_le (pc := 14) (tgt := 29) X dX8_later_14 (by decide) (fun c2 => ?_) (fun c2 => ?_)
  · refine ww_iload_n (pc := 29) X dX8_later_29 3 rfl rfl ?_
    refine ww_iload_n (pc := 30) X dX8_later_30 3 rfl rfl ?_
    refine ww_iload_n (pc := 31) X dX8_later_31 0 rfl rfl ?_
    refine ww_imul (pc := 32) X dX8_later_32 ?_
    refine ww_bipush (pc := 33) (v := 100) X dX8_later_33 (by decide) ?_
    refine ww_idiv (pc := 35) X dX8_later_35 (by decide) ?_
    refine ww_iadd (pc := 36) X dX8_later_36 ?_
    generalize hz3 : (x2 + ((x2 * ((SM.2 4) (((3 * x1) + 1 : Int32)).toNatClampNeg)) / 100)) = z3
    refine ww_istore (pc := 37) (lv' := [(4, .int z3), (3, .int ((SM.2 4) (((3 * x1) + 1 : Int32)).toNatClampNeg)), (0, .ref (rM 0)), (1, .int x1), (2, .int x2)]) X dX8_later_37 (by decide) rfl ?_
    refine ww_iload (pc := 39) X dX8_later_39 0 rfl ?_
    refine ww_aload_n (pc := 41) X dX8_later_41 2 rfl rfl ?_
    refine ww_get (pc := 42) (ci := 8) (v := .ref (rM 5)) (C := RX8) (T := TX8) (N := 27) X inX8_later_8 0 rfl rfl 6 (by decide) (by decide +kernel) rfl dX8_later_42 ?_
    refine ww_iconst (pc := 45) (v := 3) X dX8_later_45 (by decide) ?_
    refine ww_iload_n (pc := 46) X dX8_later_46 3 rfl rfl ?_
    refine ww_imul (pc := 47) X dX8_later_47 ?_
    refine ww_iconst (pc := 48) (v := 2) X dX8_later_48 (by decide) ?_
    refine ww_iadd (pc := 49) X dX8_later_49 ?_
    refine ww_iald (pc := 50) (f := SM.2 4) X 5 0 rfl rfl (vn (m := (3 * ((x1 : Int32).toNatClampNeg)) + 2) (nat_iadd (a := 3 * ((x1 : Int32).toNatClampNeg)) (b := 2) (nat_imul (a := 3) (b := (x1 : Int32).toNatClampNeg) rfl (cl_of hg)) rfl) (by omega) (by decide)) dX8_later_50 ?_
    refine ww_icmp_gt (pc := 51) (tgt := 59) X dX8_later_51 (by decide) (fun c4 => ?_) (fun c4 => ?_)
    · refine ww_iload_n (pc := 59) X dX8_later_59 4 rfl rfl ?_
      exact ww_iret X hr rfl (Eq.symm (by unfold f_X8_later; try rw [if_pos c2, hz3]; try unfold f_X8_later_k1; try rw [if_pos c4]; first | done | rfl)) rfl dX8_later_60
    · refine ww_iload (pc := 54) X dX8_later_54 0 rfl ?_
      refine ww_goto (pc := 56) (tgt := 60) X dX8_later_56 (by decide) ?_
      exact ww_iret X hr rfl (Eq.symm (by unfold f_X8_later; try rw [if_pos c2, hz3]; try unfold f_X8_later_k1; try rw [if_neg c4]; first | done | rfl)) rfl dX8_later_60
  · refine ww_iload_n (pc := 17) X dX8_later_17 3 rfl rfl ?_
    refine ww_iload_n (pc := 18) X dX8_later_18 3 rfl rfl ?_
    refine ww_iload_n (pc := 19) X dX8_later_19 0 rfl rfl ?_
    refine ww_bipush (pc := 20) (v := 50) X dX8_later_20 (by decide) ?_
    refine ww_isub (pc := 22) X dX8_later_22 ?_
    refine ww_imul (pc := 23) X dX8_later_23 ?_
    refine ww_bipush (pc := 24) (v := 100) X dX8_later_24 (by decide) ?_
    refine ww_idiv (pc := 26) X dX8_later_26 (by decide) ?_
    refine ww_isub (pc := 27) X dX8_later_27 ?_
    exact ww_iret X hr rfl (Eq.symm (by unfold f_X8_later; try rw [if_neg c2]; first | done | rfl)) rfl dX8_later_28
def f_X8_barred (SM : St) (x1 : Int32) (x2 : Int32) : Int32 :=
  if (f_X8_in x1 1 x2) = 0 then
    (-1000000002)
  else
    if (f_X8_isShore SM) = 0 then
      (-1000000003)
    else
      if ((SM.2 9) ((0 : Int32)).toNatClampNeg) ≤ 90000 then
        0
      else
        (-1000000004)
theorem inX8_barred_8 : ∀ w ∈ wsX80, w ∈ wsX8_barred := by decide +kernel
theorem hd_X8_barred : yX8_barred.cls = RX8 ∧ yX8_barred.cls ≠ "java/lang/invoke/MethodHandle" ∧ yX8_barred.cls ≠ "java/lang/invoke/VarHandle" ∧ (parseMethodDescriptor yX8_barred.desc).map (fun d => d.parameters.length) = some 2 := by decide +kernel
set_option maxHeartbeats 4000000 in
set_option maxRecDepth 100000 in
theorem c_X8_barred (l : Launch) (D : va_G) (cI cZ cQ : ClassId) (rM : Nat → Nat) (SM : St) (x1 : Int32) (x2 : Int32) : Ci l yX8_barred wsX8_barred { frames := 1, cells := 0, slots := 0, locals := 22 } D (tyL cI cZ cQ) [.ref (rM 0), .int x1, .int x2] (fl [wX8 cI cZ cQ rM SM]) (f_X8_barred SM x1 x2) (fl [wX8 cI cZ cQ rM SM]) := by
  refine ci_of (cc := cX8_barred) (nL := 3) (ty := .int) (lv0 := [(0, .ref (rM 0)), (1, .int x1), (2, .int x2)]) (by decide) rfl (Nat.le_of_ble_eq_true rfl) rfl ?_
  intro p e s m args below meth c A X hr
  refine ww_iload_n (pc := 0) X dX8_barred_0 1 rfl rfl ?_
  refine ww_iconst (pc := 1) (v := 1) X dX8_barred_1 (by decide) ?_
  refine ww_iload_n (pc := 2) X dX8_barred_2 2 rfl rfl ?_
  refine ww_gSi (pc := 3) (rest := []) (gsN := [wX8 cI cZ cQ rM SM]) X (c_X8_in l D cI cZ cQ x1 1 x2) gX8_barred_X8_in rfl hd_X8_in [false] rfl rfl rfl rfl ⟨rfl, rfl⟩ ⟨Nat.le_of_ble_eq_true rfl, Nat.le_of_ble_eq_true rfl⟩ (Nat.le_of_ble_eq_true rfl) ⟨Nat.zero_le _, Nat.zero_le _⟩ dX8_barred_3 ?_
  refine ww_if_ne (pc := 6) (tgt := 14) X dX8_barred_6 (by decide) (fun c1 => ?_) (fun c1 => ?_)
  · refine ww_aload_n (pc := 14) X dX8_barred_14 0 rfl rfl ?_
    refine ww_gVi (pc := 15) (rest := []) (gsN := [wX8 cI cZ cQ rM SM]) (ci := 8) (gi := 0) (qi := 0) X (c_X8_isShore l D cI cZ cQ rM SM) gX8_barred_X8_isShore rfl hd_X8_isShore [true] rfl rfl rfl rfl rfl rfl rfl rfl ⟨rfl, rfl⟩ ⟨Nat.le_of_ble_eq_true rfl, Nat.le_of_ble_eq_true rfl⟩ (Nat.le_of_ble_eq_true rfl) ⟨Nat.zero_le _, Nat.zero_le _⟩ dX8_barred_15 ?_
    refine ww_if_ne (pc := 18) (tgt := 26) X dX8_barred_18 (by decide) (fun c2 => ?_) (fun c2 => ?_)
    · refine ww_aload_n (pc := 26) X dX8_barred_26 0 rfl rfl ?_
      refine ww_get (pc := 27) (ci := 8) (v := .ref (rM 10)) (C := RX8) (T := TX8) (N := 27) X inX8_barred_8 0 rfl rfl 11 (by decide) (by decide +kernel) rfl dX8_barred_27 ?_
      refine ww_iconst (pc := 30) (v := 0) X dX8_barred_30 (by decide) ?_
      refine ww_iald (pc := 31) (f := SM.2 9) X 10 0 rfl rfl (vl_in (by decide)) dX8_barred_31 ?_
      refine ww_ldc (pc := 32) (v := 90000) X (by decide +kernel) dX8_barred_32 ?_
      refine ww_icmp_le (pc := 34) (tgt := 42) X dX8_barred_34 (by decide) (fun c3 => ?_) (fun c3 => ?_)
      · refine ww_iconst (pc := 42) (v := 0) X dX8_barred_42 (by decide) ?_
        exact ww_iret X hr rfl (Eq.symm (by unfold f_X8_barred; try rw [if_neg c1, if_neg c2, if_pos c3]; first | done | rfl)) rfl dX8_barred_43
      · refine ww_ldc (pc := 37) (v := (-1000000004)) X (by decide +kernel) dX8_barred_37 ?_
        refine ww_goto (pc := 39) (tgt := 43) X dX8_barred_39 (by decide) ?_
        exact ww_iret X hr rfl (Eq.symm (by unfold f_X8_barred; try rw [if_neg c1, if_neg c2, if_neg c3]; first | done | rfl)) rfl dX8_barred_43
    · refine ww_ldc (pc := 21) (v := (-1000000003)) X (by decide +kernel) dX8_barred_21 ?_
      refine ww_goto (pc := 23) (tgt := 43) X dX8_barred_23 (by decide) ?_
      exact ww_iret X hr rfl (Eq.symm (by unfold f_X8_barred; try rw [if_neg c1, if_pos c2]; first | done | rfl)) rfl dX8_barred_43
  · refine ww_ldc (pc := 9) (v := (-1000000002)) X (by decide +kernel) dX8_barred_9 ?_
    refine ww_goto (pc := 11) (tgt := 43) X dX8_barred_11 (by decide) ?_
    exact ww_iret X hr rfl (Eq.symm (by unfold f_X8_barred; try rw [if_pos c1]; first | done | rfl)) rfl dX8_barred_43
