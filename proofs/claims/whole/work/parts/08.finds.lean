def f_X1_empty (SN : St) : St :=
  (sI (sI SN 0 0) 3 0)
theorem inX1_empty_1 : ∀ w ∈ wsX10, w ∈ wsX1_empty := by decide +kernel
theorem hd_X1_empty : yX1_empty.cls = RX1 ∧ yX1_empty.cls ≠ "java/lang/invoke/MethodHandle" ∧ yX1_empty.cls ≠ "java/lang/invoke/VarHandle" ∧ (parseMethodDescriptor yX1_empty.desc).map (fun d => d.parameters.length) = some 0 := by decide +kernel
set_option maxHeartbeats 4000000 in
set_option maxRecDepth 100000 in
theorem c_X1_empty (l : Launch) (D : va_G) (cI cZ cQ : ClassId) (rN : Nat → Nat) (SN : St) : Cv l yX1_empty wsX1_empty { frames := 0, cells := 0, slots := 0, locals := 0 } D (tyL cI cZ cQ) [.ref (rN 0)] (fl [wX1 cI cZ cQ rN SN]) (fl [wX1 cI cZ cQ rN (f_X1_empty SN)]) := by
  refine cv_of (cc := cX1_empty) (nL := 1) (lv0 := [(0, .ref (rN 0))]) (by decide) rfl (Nat.le_of_ble_eq_true rfl) rfl ?_
  intro p e s m args below meth c A X hr
  refine ww_aload_n (pc := 0) X dX1_empty_0 0 rfl rfl ?_
  refine ww_iconst (pc := 1) (v := 0) X dX1_empty_1 (by decide) ?_
  refine ww_put (pc := 2) (ci := 1) (v := .int 0) (C := RX1) (T := TX1) (N := 9) (ws' := fl [wX1 cI cZ cQ rN (sI SN 0 0)]) X inX1_empty_1 tyX1 tyX1_ok nmX1 0 rfl rfl 3 (by decide) (by decide +kernel) rfl rfl rfl (Nat.le_of_ble_eq_true rfl) rfl dX1_empty_2 ?_
  refine ww_aload_n (pc := 5) X dX1_empty_5 0 rfl rfl ?_
  refine ww_iconst (pc := 6) (v := 0) X dX1_empty_6 (by decide) ?_
  refine ww_put (pc := 7) (ci := 1) (v := .int 0) (C := RX1) (T := TX1) (N := 9) (ws' := fl [wX1 cI cZ cQ rN (sI (sI SN 0 0) 3 0)]) X inX1_empty_1 tyX1 tyX1_ok nmX1 0 rfl rfl 8 (by decide) (by decide +kernel) rfl rfl rfl (Nat.le_of_ble_eq_true rfl) rfl dX1_empty_7 ?_
  have h1 : f_X1_empty SN = (sI (sI SN 0 0) 3 0) := by unfold f_X1_empty; first | done | rfl
  exact ww_vret X hr (congrArg (fun u9 : St => fl [wX1 cI cZ cQ rN u9]) h1.symm) dX1_empty_10
def f_X1_beginAnew_k1 (SN : St) (z1 : St) : St :=
  z1
def f_X1_beginAnew (SN : St) : St :=
  f_X1_beginAnew_k1 SN (f_X1_empty (sI SN 1 0))
theorem inX1_beginAnew_1 : ∀ w ∈ wsX10, w ∈ wsX1_beginAnew := by decide +kernel
theorem hd_X1_beginAnew : yX1_beginAnew.cls = RX1 ∧ yX1_beginAnew.cls ≠ "java/lang/invoke/MethodHandle" ∧ yX1_beginAnew.cls ≠ "java/lang/invoke/VarHandle" ∧ (parseMethodDescriptor yX1_beginAnew.desc).map (fun d => d.parameters.length) = some 0 := by decide +kernel
set_option maxHeartbeats 4000000 in
set_option maxRecDepth 100000 in
theorem c_X1_beginAnew (l : Launch) (D : va_G) (cI cZ cQ : ClassId) (rN : Nat → Nat) (SN : St) : Cv l yX1_beginAnew wsX1_beginAnew { frames := 1, cells := 0, slots := 0, locals := 20 } D (tyL cI cZ cQ) [.ref (rN 0)] (fl [wX1 cI cZ cQ rN SN]) (fl [wX1 cI cZ cQ rN (f_X1_beginAnew SN)]) := by
  refine cv_of (cc := cX1_beginAnew) (nL := 1) (lv0 := [(0, .ref (rN 0))]) (by decide) rfl (Nat.le_of_ble_eq_true rfl) rfl ?_
  intro p e s m args below meth c A X hr
  refine ww_aload_n (pc := 0) X dX1_beginAnew_0 0 rfl rfl ?_
  refine ww_iconst (pc := 1) (v := 0) X dX1_beginAnew_1 (by decide) ?_
  refine ww_put (pc := 2) (ci := 1) (v := .int 0) (C := RX1) (T := TX1) (N := 9) (ws' := fl [wX1 cI cZ cQ rN (sI SN 1 0)]) X inX1_beginAnew_1 tyX1 tyX1_ok nmX1 0 rfl rfl 5 (by decide) (by decide +kernel) rfl rfl rfl (Nat.le_of_ble_eq_true rfl) rfl dX1_beginAnew_2 ?_
  refine ww_aload_n (pc := 5) X dX1_beginAnew_5 0 rfl rfl ?_
  refine ww_gVv (pc := 6) (rest := []) (gsN := [wX1 cI cZ cQ rN (f_X1_empty (sI SN 1 0))]) (ci := 1) (gi := 0) (qi := 0) X (c_X1_empty l D cI cZ cQ rN (sI SN 1 0)) gX1_beginAnew_X1_empty rfl hd_X1_empty [true] rfl (acons (ad1 _ _ _ _ _ _) rfl) rfl rfl rfl rfl rfl rfl ⟨rfl, rfl⟩ ⟨Nat.le_of_ble_eq_true rfl, Nat.le_of_ble_eq_true rfl⟩ (Nat.le_of_ble_eq_true rfl) ⟨Nat.zero_le _, Nat.zero_le _⟩ dX1_beginAnew_6 ?_
  generalize hz1 : (f_X1_empty (sI SN 1 0)) = z1
  have h2 : f_X1_beginAnew SN = z1 := by unfold f_X1_beginAnew; try rw [hz1]; try unfold f_X1_beginAnew_k1; first | done | rfl
  exact ww_vret X hr (congrArg (fun u9 : St => fl [wX1 cI cZ cQ rN u9]) h2.symm) dX1_beginAnew_9
def f_X1_add (SN : St) (x1 : Int32) (x2 : Int32) (x3 : Int32) : St :=
  if 6 ≤ (SN.1 0) then
    SN
  else
    (sA (sA (sA (sI (sI SN 0 ((SN.1 0) + 1)) 3 0) 0 (upd (SN.2 0) ((SN.1 0 : Int32)).toNatClampNeg x1)) 1 (upd (SN.2 1) ((SN.1 0 : Int32)).toNatClampNeg x2)) 2 (upd (SN.2 2) ((SN.1 0 : Int32)).toNatClampNeg x3))
theorem inX1_add_1 : ∀ w ∈ wsX10, w ∈ wsX1_add := by decide +kernel
theorem hd_X1_add : yX1_add.cls = RX1 ∧ yX1_add.cls ≠ "java/lang/invoke/MethodHandle" ∧ yX1_add.cls ≠ "java/lang/invoke/VarHandle" ∧ (parseMethodDescriptor yX1_add.desc).map (fun d => d.parameters.length) = some 3 := by decide +kernel
set_option maxHeartbeats 4000000 in
set_option maxRecDepth 100000 in
theorem c_X1_add (l : Launch) (D : va_G) (cI cZ cQ : ClassId) (rN : Nat → Nat) (SN : St) (x1 : Int32) (x2 : Int32) (x3 : Int32) (ok0 : ¬ (SN.1 0) < 0) : Cv l yX1_add wsX1_add { frames := 0, cells := 0, slots := 0, locals := 0 } D (tyL cI cZ cQ) [.ref (rN 0), .int x1, .int x2, .int x3] (fl [wX1 cI cZ cQ rN SN]) (fl [wX1 cI cZ cQ rN (f_X1_add SN x1 x2 x3)]) := by
  refine cv_of (cc := cX1_add) (nL := 4) (lv0 := [(0, .ref (rN 0)), (1, .int x1), (2, .int x2), (3, .int x3)]) (by decide) rfl (Nat.le_of_ble_eq_true rfl) rfl ?_
  intro p e s m args below meth c A X hr
  refine ww_aload_n (pc := 0) X dX1_add_0 0 rfl rfl ?_
  refine ww_get (pc := 1) (ci := 1) (v := .int (SN.1 0)) (C := RX1) (T := TX1) (N := 9) X inX1_add_1 0 rfl rfl 3 (by decide) (by decide +kernel) rfl dX1_add_1 ?_
  refine ww_bipush (pc := 4) (v := 6) X dX1_add_4 (by decide) ?_
  refine ww_icmp_ge (pc := 6) (tgt := 54) X dX1_add_6 (by decide) (fun c1 => ?_) (fun c1 => ?_)
  · have h2 : f_X1_add SN x1 x2 x3 = SN := by unfold f_X1_add; try rw [if_pos c1]; first | done | rfl
    exact ww_vret X hr (congrArg (fun u9 : St => fl [wX1 cI cZ cQ rN u9]) h2.symm) dX1_add_54
  · refine ww_aload_n (pc := 9) X dX1_add_9 0 rfl rfl ?_
    refine ww_get (pc := 10) (ci := 1) (v := .ref (rN 1)) (C := RX1) (T := TX1) (N := 9) X inX1_add_1 0 rfl rfl 0 (by decide) (by decide +kernel) rfl dX1_add_10 ?_
    refine ww_aload_n (pc := 13) X dX1_add_13 0 rfl rfl ?_
    refine ww_get (pc := 14) (ci := 1) (v := .int (SN.1 0)) (C := RX1) (T := TX1) (N := 9) X inX1_add_1 0 rfl rfl 3 (by decide) (by decide +kernel) rfl dX1_add_14 ?_
    refine ww_iload_n (pc := 17) X dX1_add_17 1 rfl rfl ?_
    refine ww_iast (pc := 18) (f := SN.2 0) (ws' := fl [wX1 cI cZ cQ rN (sA SN 0 (upd (SN.2 0) ((SN.1 0 : Int32)).toNatClampNeg x1))]) X 1 0 rfl rfl (vin_nge ok0 c1 rfl) rfl dX1_add_18 ?_
    refine ww_aload_n (pc := 19) X dX1_add_19 0 rfl rfl ?_
    refine ww_get (pc := 20) (ci := 1) (v := .ref (rN 2)) (C := RX1) (T := TX1) (N := 9) X inX1_add_1 0 rfl rfl 1 (by decide) (by decide +kernel) rfl dX1_add_20 ?_
    refine ww_aload_n (pc := 23) X dX1_add_23 0 rfl rfl ?_
    refine ww_get (pc := 24) (ci := 1) (v := .int (SN.1 0)) (C := RX1) (T := TX1) (N := 9) X inX1_add_1 0 rfl rfl 3 (by decide) (by decide +kernel) rfl dX1_add_24 ?_
    refine ww_iload_n (pc := 27) X dX1_add_27 2 rfl rfl ?_
    refine ww_iast (pc := 28) (f := SN.2 1) (ws' := fl [wX1 cI cZ cQ rN (sA (sA SN 0 (upd (SN.2 0) ((SN.1 0 : Int32)).toNatClampNeg x1)) 1 (upd (SN.2 1) ((SN.1 0 : Int32)).toNatClampNeg x2))]) X 2 0 rfl rfl (vin_nge ok0 c1 rfl) rfl dX1_add_28 ?_
    refine ww_aload_n (pc := 29) X dX1_add_29 0 rfl rfl ?_
    refine ww_get (pc := 30) (ci := 1) (v := .ref (rN 3)) (C := RX1) (T := TX1) (N := 9) X inX1_add_1 0 rfl rfl 2 (by decide) (by decide +kernel) rfl dX1_add_30 ?_
    refine ww_aload_n (pc := 33) X dX1_add_33 0 rfl rfl ?_
    refine ww_get (pc := 34) (ci := 1) (v := .int (SN.1 0)) (C := RX1) (T := TX1) (N := 9) X inX1_add_1 0 rfl rfl 3 (by decide) (by decide +kernel) rfl dX1_add_34 ?_
    refine ww_iload_n (pc := 37) X dX1_add_37 3 rfl rfl ?_
    refine ww_iast (pc := 38) (f := SN.2 2) (ws' := fl [wX1 cI cZ cQ rN (sA (sA (sA SN 0 (upd (SN.2 0) ((SN.1 0 : Int32)).toNatClampNeg x1)) 1 (upd (SN.2 1) ((SN.1 0 : Int32)).toNatClampNeg x2)) 2 (upd (SN.2 2) ((SN.1 0 : Int32)).toNatClampNeg x3))]) X 3 0 rfl rfl (vin_nge ok0 c1 rfl) rfl dX1_add_38 ?_
    refine ww_aload_n (pc := 39) X dX1_add_39 0 rfl rfl ?_
    refine ww_dup (pc := 40) X dX1_add_40 rfl ?_
    refine ww_get (pc := 41) (ci := 1) (v := .int (SN.1 0)) (C := RX1) (T := TX1) (N := 9) X inX1_add_1 0 rfl rfl 3 (by decide) (by decide +kernel) rfl dX1_add_41 ?_
    refine ww_iconst (pc := 44) (v := 1) X dX1_add_44 (by decide) ?_
    have hb3 := clb (vin_nge ok0 c1 rfl)
    refine ww_iadd (pc := 45) X dX1_add_45 ?_
    refine ww_put (pc := 46) (ci := 1) (v := .int ((SN.1 0) + 1)) (C := RX1) (T := TX1) (N := 9) (ws' := fl [wX1 cI cZ cQ rN (sA (sA (sA (sI SN 0 ((SN.1 0) + 1)) 0 (upd (SN.2 0) ((SN.1 0 : Int32)).toNatClampNeg x1)) 1 (upd (SN.2 1) ((SN.1 0 : Int32)).toNatClampNeg x2)) 2 (upd (SN.2 2) ((SN.1 0 : Int32)).toNatClampNeg x3))]) X inX1_add_1 tyX1 tyX1_ok nmX1 0 rfl rfl 3 (by decide) (by decide +kernel) rfl rfl rfl (Nat.le_of_ble_eq_true rfl) rfl dX1_add_46 ?_
    refine ww_aload_n (pc := 49) X dX1_add_49 0 rfl rfl ?_
    refine ww_iconst (pc := 50) (v := 0) X dX1_add_50 (by decide) ?_
    refine ww_put (pc := 51) (ci := 1) (v := .int 0) (C := RX1) (T := TX1) (N := 9) (ws' := fl [wX1 cI cZ cQ rN (sA (sA (sA (sI (sI SN 0 ((SN.1 0) + 1)) 3 0) 0 (upd (SN.2 0) ((SN.1 0 : Int32)).toNatClampNeg x1)) 1 (upd (SN.2 1) ((SN.1 0 : Int32)).toNatClampNeg x2)) 2 (upd (SN.2 2) ((SN.1 0 : Int32)).toNatClampNeg x3))]) X inX1_add_1 tyX1 tyX1_ok nmX1 0 rfl rfl 8 (by decide) (by decide +kernel) rfl rfl rfl (Nat.le_of_ble_eq_true rfl) rfl dX1_add_51 ?_
    have h4 : f_X1_add SN x1 x2 x3 = (sA (sA (sA (sI (sI SN 0 ((SN.1 0) + 1)) 3 0) 0 (upd (SN.2 0) ((SN.1 0 : Int32)).toNatClampNeg x1)) 1 (upd (SN.2 1) ((SN.1 0 : Int32)).toNatClampNeg x2)) 2 (upd (SN.2 2) ((SN.1 0 : Int32)).toNatClampNeg x3)) := by unfold f_X1_add; try rw [if_neg c1]; first | done | rfl
    exact ww_vret X hr (congrArg (fun u9 : St => fl [wX1 cI cZ cQ rN u9]) h4.symm) dX1_add_54
def f_X1_worthBy (SN : St) (x1 : Int32) (x2 : Int32) : Int32 :=
  if x1 < 0 then
    0
  else
    if 6 ≤ x1 then
      0
    else
      if (((x2 / 100) * 31) + (x2 - x2 / 100 * 100)) < 0 then
        0
      else
        if (((x2 / 100) * 31) + (x2 - x2 / 100 * 100)) < 124 then
          (SN.2 (4 + (x1 : Int32).toNatClampNeg)) ((((x2 / 100) * 31) + (x2 - x2 / 100 * 100) : Int32)).toNatClampNeg
        else
          0
theorem inX1_worthBy_1 : ∀ w ∈ wsX10, w ∈ wsX1_worthBy := by decide +kernel
theorem hd_X1_worthBy : yX1_worthBy.cls = RX1 ∧ yX1_worthBy.cls ≠ "java/lang/invoke/MethodHandle" ∧ yX1_worthBy.cls ≠ "java/lang/invoke/VarHandle" ∧ (parseMethodDescriptor yX1_worthBy.desc).map (fun d => d.parameters.length) = some 2 := by decide +kernel
set_option maxHeartbeats 4000000 in
set_option maxRecDepth 100000 in
theorem c_X1_worthBy (l : Launch) (D : va_G) (cI cZ cQ : ClassId) (rN : Nat → Nat) (SN : St) (x1 : Int32) (x2 : Int32) : Ci l yX1_worthBy wsX1_worthBy { frames := 0, cells := 0, slots := 0, locals := 0 } D (tyL cI cZ cQ) [.ref (rN 0), .int x1, .int x2] (fl [wX1 cI cZ cQ rN SN]) (f_X1_worthBy SN x1 x2) (fl [wX1 cI cZ cQ rN SN]) := by
  refine ci_of (cc := cX1_worthBy) (nL := 4) (ty := .int) (lv0 := [(0, .ref (rN 0)), (1, .int x1), (2, .int x2)]) (by decide) rfl (Nat.le_of_ble_eq_true rfl) rfl ?_
  intro p e s m args below meth c A X hr
  refine ww_iload_n (pc := 0) X dX1_worthBy_0 2 rfl rfl ?_
  refine ww_bipush (pc := 1) (v := 100) X dX1_worthBy_1 (by decide) ?_
  refine ww_idiv (pc := 3) X dX1_worthBy_3 (by decide) ?_
  refine ww_bipush (pc := 4) (v := 31) X dX1_worthBy_4 (by decide) ?_
  refine ww_imul (pc := 6) X dX1_worthBy_6 ?_
  refine ww_iload_n (pc := 7) X dX1_worthBy_7 2 rfl rfl ?_
  refine ww_bipush (pc := 8) (v := 100) X dX1_worthBy_8 (by decide) ?_
  refine ww_irem (pc := 10) X dX1_worthBy_10 (by decide) ?_
  refine ww_iadd (pc := 11) X dX1_worthBy_11 ?_
  refine ww_istore_n (pc := 12) (lv' := [(3, .int (((x2 / 100) * 31) + (x2 - x2 / 100 * 100))), (0, .ref (rN 0)), (1, .int x1), (2, .int x2)]) X dX1_worthBy_12 rfl (by decide) rfl ?_
  refine ww_iload_n (pc := 13) X dX1_worthBy_13 2 rfl rfl ?_
  refine ww_if_lt (pc := 14) (tgt := 33) X dX1_worthBy_14 (by decide) (fun c1 => ?_) (fun c1 => ?_)
  · refine ww_iconst (pc := 33) (v := 0) X dX1_worthBy_33 (by decide) ?_
    refine ww_goto (pc := 34) (tgt := 45) X dX1_worthBy_34 (by decide) ?_
    exact ww_iret X hr rfl (Eq.symm (by unfold f_X1_worthBy; try rw [if_pos c1]; first | done | rfl)) rfl dX1_worthBy_45
  · refine ww_iload_n (pc := 17) X dX1_worthBy_17 2 rfl rfl ?_
    refine ww_bipush (pc := 18) (v := 6) X dX1_worthBy_18 (by decide) ?_
    refine ww_icmp_ge (pc := 20) (tgt := 33) X dX1_worthBy_20 (by decide) (fun c2 => ?_) (fun c2 => ?_)
    · refine ww_iconst (pc := 33) (v := 0) X dX1_worthBy_33 (by decide) ?_
      refine ww_goto (pc := 34) (tgt := 45) X dX1_worthBy_34 (by decide) ?_
      exact ww_iret X hr rfl (Eq.symm (by unfold f_X1_worthBy; try rw [if_neg c1, if_pos c2]; first | done | rfl)) rfl dX1_worthBy_45
    · refine ww_iload_n (pc := 23) X dX1_worthBy_23 0 rfl rfl ?_
      refine ww_if_lt (pc := 24) (tgt := 33) X dX1_worthBy_24 (by decide) (fun c3 => ?_) (fun c3 => ?_)
      · refine ww_iconst (pc := 33) (v := 0) X dX1_worthBy_33 (by decide) ?_
        refine ww_goto (pc := 34) (tgt := 45) X dX1_worthBy_34 (by decide) ?_
        exact ww_iret X hr rfl (Eq.symm (by unfold f_X1_worthBy; try rw [if_neg c1, if_neg c2, if_pos c3]; first | done | rfl)) rfl dX1_worthBy_45
      · refine ww_iload_n (pc := 27) X dX1_worthBy_27 0 rfl rfl ?_
        refine ww_bipush (pc := 28) (v := 124) X dX1_worthBy_28 (by decide) ?_
        refine ww_icmp_lt (pc := 30) (tgt := 37) X dX1_worthBy_30 (by decide) (fun c4 => ?_) (fun c4 => ?_)
        · refine ww_aload_n (pc := 37) X dX1_worthBy_37 1 rfl rfl ?_
          refine ww_get (pc := 38) (ci := 1) (v := .ref (rN 4)) (C := RX1) (T := TX1) (N := 9) X inX1_worthBy_1 0 rfl rfl 4 (by decide) (by decide +kernel) rfl dX1_worthBy_38 ?_
          refine ww_iload_n (pc := 41) X dX1_worthBy_41 2 rfl rfl ?_
          have hb5 := clb (vin_nge c1 c2 rfl)
          refine ww_aald (pc := 42) (q := rN (6 + (x1 : Int32).toNatClampNeg)) X 4 2 rfl rfl (vn (m := (x1 : Int32).toNatClampNeg) (cl_of (vin_nge c1 c2 rfl)) (by omega) (by decide)) (aq (k := (x1 : Int32).toNatClampNeg) (cl_of (vin_nge c1 c2 rfl)) (by omega)) dX1_worthBy_42 ?_
          refine ww_iload_n (pc := 43) X dX1_worthBy_43 0 rfl rfl ?_
          refine ww_iald (pc := 44) (f := SN.2 (4 + (x1 : Int32).toNatClampNeg)) (n := 124) X (6 + (x1 : Int32).toNatClampNeg) 0 (c6_ (P := fun k9 => (fl [wX1 cI cZ cQ rN SN])[6 + k9]? = some (rN (6 + k9), .inl (cI, 124, .inl (SN.2 (4 + k9))))) rfl rfl rfl rfl rfl rfl (by omega)) rfl (vin_lt c3 c4 rfl) dX1_worthBy_44 ?_
          exact ww_iret X hr rfl (Eq.symm (by unfold f_X1_worthBy; try rw [if_neg c1, if_neg c2, if_neg c3, if_pos c4]; first | done | rfl)) rfl dX1_worthBy_45
        · refine ww_iconst (pc := 33) (v := 0) X dX1_worthBy_33 (by decide) ?_
          refine ww_goto (pc := 34) (tgt := 45) X dX1_worthBy_34 (by decide) ?_
          exact ww_iret X hr rfl (Eq.symm (by unfold f_X1_worthBy; try rw [if_neg c1, if_neg c2, if_neg c3, if_neg c4]; first | done | rfl)) rfl dX1_worthBy_45
def l0_X1_fitsAll_3 (SL : St) (SN : St) (x2 : Int32) (x3 : Int32) (j : Nat) (u : Unit) : Int32 :=
  1
def lb_X1_fitsAll_3_k2 (SL : St) (SN : St) (x2 : Int32) (x3 : Int32) (rec : Nat → (Unit) → Int32) (j : Nat) (u : Unit) (z5 : Int32) : Int32 :=
  if z5 = ((SN.2 2) (((nI j) : Int32)).toNatClampNeg) then
    rec (j + 1) ()
  else
    0
def lb_X1_fitsAll_3_k1 (SL : St) (SN : St) (x2 : Int32) (x3 : Int32) (rec : Nat → (Unit) → Int32) (j : Nat) (u : Unit) (z2 : Int32) : Int32 :=
  if z2 = ((SN.2 2) (((nI j) : Int32)).toNatClampNeg) then
    rec (j + 1) ()
  else
    0
def lb_X1_fitsAll_3 (SL : St) (SN : St) (x2 : Int32) (x3 : Int32) (rec : Nat → (Unit) → Int32) (j : Nat) (u : Unit) : Int32 :=
  if ((SN.2 0) (((nI j) : Int32)).toNatClampNeg) = 0 then
    lb_X1_fitsAll_3_k2 SL SN x2 x3 rec j u (f_X1_worthBy SN ((SN.2 1) (((nI j) : Int32)).toNatClampNeg) ((100 * x2) + x3))
  else
    lb_X1_fitsAll_3_k1 SL SN x2 x3 rec j u (f_X5_kingAt SL (x3 * ((SL.2 0) ((x2 : Int32)).toNatClampNeg)))
def lp_X1_fitsAll_3 (SL : St) (SN : St) (x2 : Int32) (x3 : Int32) : Nat → Nat → (Unit) → Int32
  | 0, j, u => l0_X1_fitsAll_3 SL SN x2 x3 j u
  | k + 1, j, u => lb_X1_fitsAll_3 SL SN x2 x3 (lp_X1_fitsAll_3 SL SN x2 x3 k) j u
def f_X1_fitsAll (SL : St) (SN : St) (x2 : Int32) (x3 : Int32) : Int32 :=
  lp_X1_fitsAll_3 SL SN x2 x3 ((SN.1 0).toNatClampNeg) 0 ()
theorem inX1_fitsAll_1 : ∀ w ∈ wsX10, w ∈ wsX1_fitsAll := by decide +kernel
theorem inX1_fitsAll_5 : ∀ w ∈ wsX50, w ∈ wsX1_fitsAll := by decide +kernel
theorem hd_X1_fitsAll : yX1_fitsAll.cls = RX1 ∧ yX1_fitsAll.cls ≠ "java/lang/invoke/MethodHandle" ∧ yX1_fitsAll.cls ≠ "java/lang/invoke/VarHandle" ∧ (parseMethodDescriptor yX1_fitsAll.desc).map (fun d => d.parameters.length) = some 3 := by decide +kernel
set_option maxHeartbeats 4000000 in
set_option maxRecDepth 100000 in
theorem c_X1_fitsAll (l : Launch) (D : va_G) (cI cZ cQ : ClassId) (rL : Nat → Nat) (rN : Nat → Nat) (SL : St) (SN : St) (x2 : Int32) (x3 : Int32) (hd : vp_in x2 4) (okN : SN.1 0 ≤ 6) : Ci l yX1_fitsAll wsX1_fitsAll { frames := 1, cells := 0, slots := 0, locals := 23 } D (tyL cI cZ cQ) [.ref (rN 0), .ref (rL 0), .int x2, .int x3] (fl [wX5 cI cZ cQ rL SL, wX1 cI cZ cQ rN SN]) (f_X1_fitsAll SL SN x2 x3) (fl [wX5 cI cZ cQ rL SL, wX1 cI cZ cQ rN SN]) := by
  refine ci_of (cc := cX1_fitsAll) (nL := 6) (ty := .boolean) (lv0 := [(0, .ref (rN 0)), (1, .ref (rL 0)), (2, .int x2), (3, .int x3)]) (by decide) rfl (Nat.le_of_ble_eq_true rfl) rfl ?_
  intro p e s m args below meth c A X hr
  refine ww_iconst (pc := 0) (v := 0) X dX1_fitsAll_0 (by decide) ?_
  refine ww_istore (pc := 1) (lv' := [(4, .int 0), (0, .ref (rN 0)), (1, .ref (rL 0)), (2, .int x2), (3, .int x3)]) X dX1_fitsAll_1 (by decide) rfl ?_
  have L3 : ∀ (k_3 j_3 : Nat) (u_3 : Unit), j_3 + k_3 = (SN.1 0).toNatClampNeg → True → f_X1_fitsAll SL SN x2 x3 = lp_X1_fitsAll_3 SL SN x2 x3 k_3 j_3 u_3 → WW p l e (headSpec wsX1_fitsAll { frames := 1, cells := 0, slots := 0, locals := 23 }).room s m args below meth c 6 D A 0 0 (RQi below args s D A (f_X1_fitsAll SL SN x2 x3) (fl [wX5 cI cZ cQ rL SL, wX1 cI cZ cQ rN SN])) (fl [wX5 cI cZ cQ rL SL, wX1 cI cZ cQ rN SN]) [(0, .ref (rN 0)), (1, .ref (rL 0)), (2, .int x2), (3, .int x3), (4, .int (nI j_3))] 3 [] := by
    intro k_3
    induction k_3 with
    | zero =>
      intro j_3 u_3 hj hi hf
      have hjB : j_3 = (SN.1 0).toNatClampNeg := by omega
      subst hjB
      refine ww_iload (pc := 3) X dX1_fitsAll_3 4 rfl ?_
      refine ww_aload_n (pc := 5) X dX1_fitsAll_5 0 rfl rfl ?_
      refine ww_get (pc := 6) (ci := 1) (v := .int (SN.1 0)) (C := RX1) (T := TX1) (N := 9) X inX1_fitsAll_1 7 rfl rfl 3 (by decide) (by decide +kernel) rfl dX1_fitsAll_6 ?_
      refine ww_icmp_ge (pc := 9) (tgt := 76) X dX1_fitsAll_9 (by decide) (fun _ => ?_) (fun c9 => absurd (lp_ge0c (Nat.le_refl _) (cl_lt _)) c9)
      refine ww_iconst (pc := 76) (v := 1) X dX1_fitsAll_76 (by decide) ?_
      exact ww_iret X hr rfl (Eq.symm (by rw [hf]; show l0_X1_fitsAll_3 SL SN x2 x3 ((SN.1 0).toNatClampNeg) u_3 = _; unfold l0_X1_fitsAll_3; first | done | rfl)) rfl dX1_fitsAll_77
    | succ k_3 ih =>
      intro j_3 u_3 hj hi hf
      have hjB : j_3 < (SN.1 0).toNatClampNeg := by omega
      have hN_3 := cl_le okN (n := 6) rfl (by decide)
      refine ww_iload (pc := 3) X dX1_fitsAll_3 4 rfl ?_
      refine ww_aload_n (pc := 5) X dX1_fitsAll_5 0 rfl rfl ?_
      refine ww_get (pc := 6) (ci := 1) (v := .int (SN.1 0)) (C := RX1) (T := TX1) (N := 9) X inX1_fitsAll_1 7 rfl rfl 3 (by decide) (by decide +kernel) rfl dX1_fitsAll_6 ?_
      refine ww_icmp_ge (pc := 9) (tgt := 76) X dX1_fitsAll_9 (by decide) (fun c9 => absurd c9 (lp_ge1c hjB)) (fun _ => ?_)
      refine ww_aload_n (pc := 12) X dX1_fitsAll_12 0 rfl rfl ?_
      refine ww_get (pc := 13) (ci := 1) (v := .ref (rN 1)) (C := RX1) (T := TX1) (N := 9) X inX1_fitsAll_1 7 rfl rfl 0 (by decide) (by decide +kernel) rfl dX1_fitsAll_13 ?_
      refine ww_iload (pc := 16) X dX1_fitsAll_16 4 rfl ?_
      refine ww_iald (pc := 18) (f := SN.2 0) X 8 0 rfl rfl (vn (m := j_3) rfl (by omega) (by decide)) dX1_fitsAll_18 ?_
      refine ww_if_ne (pc := 19) (tgt := 42) X dX1_fitsAll_19 (by decide) (fun c7 => ?_) (fun c7 => ?_)
      · refine ww_aload_n (pc := 42) X dX1_fitsAll_42 1 rfl rfl ?_
        refine ww_iload_n (pc := 43) X dX1_fitsAll_43 3 rfl rfl ?_
        refine ww_aload_n (pc := 44) X dX1_fitsAll_44 1 rfl rfl ?_
        refine ww_get (pc := 45) (ci := 5) (v := .ref (rL 1)) (C := RX5) (T := TX5) (N := 11) X inX1_fitsAll_5 0 rfl rfl 5 (by decide) (by decide +kernel) rfl dX1_fitsAll_45 ?_
        refine ww_iload_n (pc := 48) X dX1_fitsAll_48 2 rfl rfl ?_
        refine ww_iald (pc := 49) (f := SL.2 0) X 1 0 rfl rfl hd dX1_fitsAll_49 ?_
        refine ww_imul (pc := 50) X dX1_fitsAll_50 ?_
        refine ww_gVi (pc := 51) (rest := []) (gsN := [wX5 cI cZ cQ rL SL, wX1 cI cZ cQ rN SN]) (ci := 5) (gi := 0) (qi := 0) X (c_X5_kingAt l D cI cZ cQ rL SL (x3 * ((SL.2 0) ((x2 : Int32)).toNatClampNeg))) gX1_fitsAll_X5_kingAt rfl hd_X5_kingAt [true, false] rfl rfl rfl rfl rfl rfl rfl rfl ⟨rfl, rfl⟩ ⟨Nat.le_of_ble_eq_true rfl, Nat.le_of_ble_eq_true rfl⟩ (Nat.le_of_ble_eq_true rfl) ⟨Nat.zero_le _, Nat.zero_le _⟩ dX1_fitsAll_51 ?_
        generalize hz8 : (f_X5_kingAt SL (x3 * ((SL.2 0) ((x2 : Int32)).toNatClampNeg))) = z8
        refine ww_istore (pc := 54) (lv' := [(5, .int z8), (0, .ref (rN 0)), (1, .ref (rL 0)), (2, .int x2), (3, .int x3), (4, .int (nI j_3))]) X dX1_fitsAll_54 (by decide) rfl ?_
        refine ww_iload (pc := 56) X dX1_fitsAll_56 0 rfl ?_
        refine ww_aload_n (pc := 58) X dX1_fitsAll_58 1 rfl rfl ?_
        refine ww_get (pc := 59) (ci := 1) (v := .ref (rN 3)) (C := RX1) (T := TX1) (N := 9) X inX1_fitsAll_1 7 rfl rfl 2 (by decide) (by decide +kernel) rfl dX1_fitsAll_59 ?_
        refine ww_iload (pc := 62) X dX1_fitsAll_62 5 rfl ?_
        refine ww_iald (pc := 64) (f := SN.2 2) X 10 0 rfl rfl (vn (m := j_3) rfl (by omega) (by decide)) dX1_fitsAll_64 ?_
        refine ww_icmp_eq (pc := 65) (tgt := 70) X dX1_fitsAll_65 (by decide) (fun c9 => ?_) (fun c9 => ?_)
        · refine ww_iinc (pc := 70) (v := (nI j_3) + 1) (lv' := [(4, .int ((nI j_3) + 1)), (5, .int z8), (0, .ref (rN 0)), (1, .ref (rL 0)), (2, .int x2), (3, .int x3)]) X dX1_fitsAll_70 5 rfl rfl (by decide) rfl ?_
          refine ww_goto (pc := 73) (tgt := 3) X dX1_fitsAll_73 (by decide) ?_
          refine ww_lsub [2, 3, 4, 5, 0] rfl ?_
          have h10 : f_X1_fitsAll SL SN x2 x3 = lp_X1_fitsAll_3 SL SN x2 x3 k_3 (j_3 + 1) () := by rw [hf]; show lb_X1_fitsAll_3 SL SN x2 x3 (lp_X1_fitsAll_3 SL SN x2 x3 k_3) j_3 u_3 = _; unfold lb_X1_fitsAll_3; try rw [if_neg c7, hz8]; try unfold lb_X1_fitsAll_3_k1; try rw [if_pos c9]; first | done | rfl
          exact ww_cast rfl (congrArg (fun (i9 : Int32) => ([(0, .ref (rN 0)), (1, .ref (rL 0)), (2, .int x2), (3, .int x3), (4, .int i9)] : List (Nat × Value))) (nI_1 j_3).symm) (ih (j_3 + 1) () (by omega) trivial h10)
        · refine ww_iconst (pc := 68) (v := 0) X dX1_fitsAll_68 (by decide) ?_
          exact ww_iret X hr rfl (Eq.symm (by rw [hf]; show lb_X1_fitsAll_3 SL SN x2 x3 (lp_X1_fitsAll_3 SL SN x2 x3 k_3) j_3 u_3 = _; unfold lb_X1_fitsAll_3; try rw [if_neg c7, hz8]; try unfold lb_X1_fitsAll_3_k1; try rw [if_neg c9]; first | done | rfl)) rfl dX1_fitsAll_69
      · refine ww_aload_n (pc := 22) X dX1_fitsAll_22 0 rfl rfl ?_
        refine ww_aload_n (pc := 23) X dX1_fitsAll_23 0 rfl rfl ?_
        refine ww_get (pc := 24) (ci := 1) (v := .ref (rN 2)) (C := RX1) (T := TX1) (N := 9) X inX1_fitsAll_1 7 rfl rfl 1 (by decide) (by decide +kernel) rfl dX1_fitsAll_24 ?_
        refine ww_iload (pc := 27) X dX1_fitsAll_27 4 rfl ?_
        refine ww_iald (pc := 29) (f := SN.2 1) X 9 0 rfl rfl (vn (m := j_3) rfl (by omega) (by decide)) dX1_fitsAll_29 ?_
        refine ww_bipush (pc := 30) (v := 100) X dX1_fitsAll_30 (by decide) ?_
        refine ww_iload_n (pc := 32) X dX1_fitsAll_32 2 rfl rfl ?_
        have hb11 := clb hd
        refine ww_imul (pc := 33) X dX1_fitsAll_33 ?_
        refine ww_iload_n (pc := 34) X dX1_fitsAll_34 3 rfl rfl ?_
        refine ww_iadd (pc := 35) X dX1_fitsAll_35 ?_
        refine ww_gVi (pc := 36) (rest := []) (gsN := [wX5 cI cZ cQ rL SL, wX1 cI cZ cQ rN SN]) (ci := 1) (gi := 0) (qi := 0) X (c_X1_worthBy l D cI cZ cQ rN SN ((SN.2 1) (((nI j_3) : Int32)).toNatClampNeg) ((100 * x2) + x3)) gX1_fitsAll_X1_worthBy rfl hd_X1_worthBy [false, true] rfl rfl rfl rfl rfl rfl rfl rfl ⟨rfl, rfl⟩ ⟨Nat.le_of_ble_eq_true rfl, Nat.le_of_ble_eq_true rfl⟩ (Nat.le_of_ble_eq_true rfl) ⟨Nat.zero_le _, Nat.zero_le _⟩ dX1_fitsAll_36 ?_
        refine ww_goto (pc := 39) (tgt := 54) X dX1_fitsAll_39 (by decide) ?_
        generalize hz12 : (f_X1_worthBy SN ((SN.2 1) (((nI j_3) : Int32)).toNatClampNeg) ((100 * x2) + x3)) = z12
        refine ww_istore (pc := 54) (lv' := [(5, .int z12), (0, .ref (rN 0)), (1, .ref (rL 0)), (2, .int x2), (3, .int x3), (4, .int (nI j_3))]) X dX1_fitsAll_54 (by decide) rfl ?_
        refine ww_iload (pc := 56) X dX1_fitsAll_56 0 rfl ?_
        refine ww_aload_n (pc := 58) X dX1_fitsAll_58 1 rfl rfl ?_
        refine ww_get (pc := 59) (ci := 1) (v := .ref (rN 3)) (C := RX1) (T := TX1) (N := 9) X inX1_fitsAll_1 7 rfl rfl 2 (by decide) (by decide +kernel) rfl dX1_fitsAll_59 ?_
        refine ww_iload (pc := 62) X dX1_fitsAll_62 5 rfl ?_
        refine ww_iald (pc := 64) (f := SN.2 2) X 10 0 rfl rfl (vn (m := j_3) rfl (by omega) (by decide)) dX1_fitsAll_64 ?_
        refine ww_icmp_eq (pc := 65) (tgt := 70) X dX1_fitsAll_65 (by decide) (fun c13 => ?_) (fun c13 => ?_)
        · refine ww_iinc (pc := 70) (v := (nI j_3) + 1) (lv' := [(4, .int ((nI j_3) + 1)), (5, .int z12), (0, .ref (rN 0)), (1, .ref (rL 0)), (2, .int x2), (3, .int x3)]) X dX1_fitsAll_70 5 rfl rfl (by decide) rfl ?_
          refine ww_goto (pc := 73) (tgt := 3) X dX1_fitsAll_73 (by decide) ?_
          refine ww_lsub [2, 3, 4, 5, 0] rfl ?_
          have h14 : f_X1_fitsAll SL SN x2 x3 = lp_X1_fitsAll_3 SL SN x2 x3 k_3 (j_3 + 1) () := by rw [hf]; show lb_X1_fitsAll_3 SL SN x2 x3 (lp_X1_fitsAll_3 SL SN x2 x3 k_3) j_3 u_3 = _; unfold lb_X1_fitsAll_3; try rw [if_pos c7, hz12]; try unfold lb_X1_fitsAll_3_k2; try rw [if_pos c13]; first | done | rfl
          exact ww_cast rfl (congrArg (fun (i9 : Int32) => ([(0, .ref (rN 0)), (1, .ref (rL 0)), (2, .int x2), (3, .int x3), (4, .int i9)] : List (Nat × Value))) (nI_1 j_3).symm) (ih (j_3 + 1) () (by omega) trivial h14)
        · refine ww_iconst (pc := 68) (v := 0) X dX1_fitsAll_68 (by decide) ?_
          exact ww_iret X hr rfl (Eq.symm (by rw [hf]; show lb_X1_fitsAll_3 SL SN x2 x3 (lp_X1_fitsAll_3 SL SN x2 x3 k_3) j_3 u_3 = _; unfold lb_X1_fitsAll_3; try rw [if_pos c7, hz12]; try unfold lb_X1_fitsAll_3_k2; try rw [if_neg c13]; first | done | rfl)) rfl dX1_fitsAll_69
  refine ww_lsub [1, 2, 3, 4, 0] rfl ?_
  exact L3 ((SN.1 0).toNatClampNeg) 0 () (by omega) trivial (by unfold f_X1_fitsAll; first | done | rfl)
def bd_X1_countWorths_39_k1 (SL : St) (j2 : Nat) (j3 : Nat) (j : Nat) (u : St × Int32) (z2 : Int32) : St × Int32 :=
  ((sA u.1 (4 + j2) (upd (u.1.2 (4 + j2)) ((((nI j3) * 31) + (nI j) : Int32)).toNatClampNeg u.2)), z2)
def bd_X1_countWorths_39 (SL : St) (j2 : Nat) (j3 : Nat) (j : Nat) (u : St × Int32) : St × Int32 :=
  bd_X1_countWorths_39_k1 SL j2 j3 j u (f_X5_worthBehind SL (nI j2) u.2 ((SL.2 0) (((nI j3) : Int32)).toNatClampNeg))
def it_X1_countWorths_39 (SL : St) (j2 : Nat) (j3 : Nat) (u : St × Int32) : Nat → St × Int32
  | 0 => u
  | j + 1 => bd_X1_countWorths_39 SL j2 j3 j (it_X1_countWorths_39 SL j2 j3 u j)
def bd_X1_countWorths_20_k1 (SL : St) (j2 : Nat) (j : Nat) (u : St) (z5 : St × Int32) : St :=
  z5.1
def bd_X1_countWorths_20 (SL : St) (j2 : Nat) (j : Nat) (u : St) : St :=
  bd_X1_countWorths_20_k1 SL j2 j u (it_X1_countWorths_39 SL j2 j (u, (SL.2 3) (((nI j2) : Int32)).toNatClampNeg) 31)
def it_X1_countWorths_20 (SL : St) (j2 : Nat) (u : St) : Nat → St
  | 0 => u
  | j + 1 => bd_X1_countWorths_20 SL j2 j (it_X1_countWorths_20 SL j2 u j)
def bd_X1_countWorths_10_k1 (SL : St) (j : Nat) (u : St) (z10 : St) : St :=
  z10
def bd_X1_countWorths_10 (SL : St) (j : Nat) (u : St) : St :=
  bd_X1_countWorths_10_k1 SL j u (it_X1_countWorths_20 SL j u ((SL.1 2).toNatClampNeg))
def it_X1_countWorths_10 (SL : St) (u : St) : Nat → St
  | 0 => u
  | j + 1 => bd_X1_countWorths_10 SL j (it_X1_countWorths_10 SL u j)
def f_X1_countWorths_k1 (SL : St) (SN : St) (z17 : St) : St :=
  (sI z17 1 1)
def f_X1_countWorths (SL : St) (SN : St) : St :=
  if (SN.1 1) = 0 then
    f_X1_countWorths_k1 SL SN (it_X1_countWorths_10 SL SN ((SL.1 4).toNatClampNeg))
  else
    SN
theorem inX1_countWorths_1 : ∀ w ∈ wsX10, w ∈ wsX1_countWorths := by decide +kernel
theorem inX1_countWorths_5 : ∀ w ∈ wsX50, w ∈ wsX1_countWorths := by decide +kernel
theorem hd_X1_countWorths : yX1_countWorths.cls = RX1 ∧ yX1_countWorths.cls ≠ "java/lang/invoke/MethodHandle" ∧ yX1_countWorths.cls ≠ "java/lang/invoke/VarHandle" ∧ (parseMethodDescriptor yX1_countWorths.desc).map (fun d => d.parameters.length) = some 1 := by decide +kernel
set_option maxHeartbeats 4000000 in
set_option maxRecDepth 100000 in
theorem c_X1_countWorths (l : Launch) (D : va_G) (cI cZ cQ : ClassId) (rL : Nat → Nat) (rN : Nat → Nat) (SL : St) (SN : St) (okL : okS SL) : Cv l yX1_countWorths wsX1_countWorths { frames := 3, cells := 0, slots := 0, locals := 70 } D (tyL cI cZ cQ) [.ref (rN 0), .ref (rL 0)] (fl [wX5 cI cZ cQ rL SL, wX1 cI cZ cQ rN SN]) (fl [wX5 cI cZ cQ rL SL, wX1 cI cZ cQ rN (f_X1_countWorths SL SN)]) := by
  refine cv_of (cc := cX1_countWorths) (nL := 6) (lv0 := [(0, .ref (rN 0)), (1, .ref (rL 0))]) (by decide) rfl (Nat.le_of_ble_eq_true rfl) rfl ?_
  intro p e s m args below meth c A X hr
  refine ww_aload_n (pc := 0) X dX1_countWorths_0 0 rfl rfl ?_
  refine ww_get (pc := 1) (ci := 1) (v := .int (SN.1 1)) (C := RX1) (T := TX1) (N := 9) X inX1_countWorths_1 7 rfl rfl 5 (by decide) (by decide +kernel) rfl dX1_countWorths_1 ?_
  refine ww_if_eq (pc := 4) (tgt := 8) X dX1_countWorths_4 (by decide) (fun c1 => ?_) (fun c1 => ?_)
  · refine ww_iconst (pc := 8) (v := 0) X dX1_countWorths_8 (by decide) ?_
    refine ww_istore_n (pc := 9) (lv' := [(2, .int 0), (0, .ref (rN 0)), (1, .ref (rL 0))]) X dX1_countWorths_9 rfl (by decide) rfl ?_
    have L10 : ∀ (k_10 j_10 : Nat), j_10 + k_10 = (SL.1 4).toNatClampNeg → WW p l e (headSpec wsX1_countWorths { frames := 3, cells := 0, slots := 0, locals := 70 }).room s m args below meth c 6 D A 0 0 (RQv below args s D A (fl [wX5 cI cZ cQ rL SL, wX1 cI cZ cQ rN (f_X1_countWorths SL SN)])) (fl [wX5 cI cZ cQ rL SL, wX1 cI cZ cQ rN (it_X1_countWorths_10 SL SN ((SL.1 4).toNatClampNeg))]) [(0, .ref (rN 0)), (1, .ref (rL 0)), (2, .int (nI ((SL.1 4).toNatClampNeg)))] 95 [] → WW p l e (headSpec wsX1_countWorths { frames := 3, cells := 0, slots := 0, locals := 70 }).room s m args below meth c 6 D A 0 0 (RQv below args s D A (fl [wX5 cI cZ cQ rL SL, wX1 cI cZ cQ rN (f_X1_countWorths SL SN)])) (fl [wX5 cI cZ cQ rL SL, wX1 cI cZ cQ rN (it_X1_countWorths_10 SL SN j_10)]) [(0, .ref (rN 0)), (1, .ref (rL 0)), (2, .int (nI j_10))] 10 [] := by
      intro k_10
      induction k_10 with
      | zero =>
        intro j_10 hj K
        have hjB : j_10 = (SL.1 4).toNatClampNeg := by omega
        subst hjB
        refine ww_iload_n (pc := 10) X dX1_countWorths_10 2 rfl rfl ?_
        refine ww_aload_n (pc := 11) X dX1_countWorths_11 1 rfl rfl ?_
        refine ww_get (pc := 12) (ci := 5) (v := .int (SL.1 4)) (C := RX5) (T := TX5) (N := 11) X inX1_countWorths_5 0 rfl rfl 4 (by decide) (by decide +kernel) rfl dX1_countWorths_12 ?_
        exact ww_icmp_ge (pc := 15) (tgt := 95) X dX1_countWorths_15 (by decide) (fun _ => K) (fun c9 => absurd (lp_ge0c (Nat.le_refl _) (cl_lt _)) c9)
      | succ k_10 ih =>
        intro j_10 hj K
        have hjB : j_10 < (SL.1 4).toNatClampNeg := by omega
        have h6_10 := okS_g okL
        refine ww_iload_n (pc := 10) X dX1_countWorths_10 2 rfl rfl ?_
        refine ww_aload_n (pc := 11) X dX1_countWorths_11 1 rfl rfl ?_
        refine ww_get (pc := 12) (ci := 5) (v := .int (SL.1 4)) (C := RX5) (T := TX5) (N := 11) X inX1_countWorths_5 0 rfl rfl 4 (by decide) (by decide +kernel) rfl dX1_countWorths_12 ?_
        refine ww_icmp_ge (pc := 15) (tgt := 95) X dX1_countWorths_15 (by decide) (fun c9 => absurd c9 (lp_ge1c hjB)) (fun _ => ?_)
        refine ww_iconst (pc := 18) (v := 0) X dX1_countWorths_18 (by decide) ?_
        refine ww_istore_n (pc := 19) (lv' := [(3, .int 0), (0, .ref (rN 0)), (1, .ref (rL 0)), (2, .int (nI j_10))]) X dX1_countWorths_19 rfl (by decide) rfl ?_
        have L20 : ∀ (k_20 j_20 : Nat), j_20 + k_20 = (SL.1 2).toNatClampNeg → WW p l e (headSpec wsX1_countWorths { frames := 3, cells := 0, slots := 0, locals := 70 }).room s m args below meth c 6 D A 0 0 (RQv below args s D A (fl [wX5 cI cZ cQ rL SL, wX1 cI cZ cQ rN (f_X1_countWorths SL SN)])) (fl [wX5 cI cZ cQ rL SL, wX1 cI cZ cQ rN (it_X1_countWorths_20 SL j_10 (it_X1_countWorths_10 SL SN j_10) ((SL.1 2).toNatClampNeg))]) [(0, .ref (rN 0)), (1, .ref (rL 0)), (2, .int (nI j_10)), (3, .int (nI ((SL.1 2).toNatClampNeg)))] 89 [] → WW p l e (headSpec wsX1_countWorths { frames := 3, cells := 0, slots := 0, locals := 70 }).room s m args below meth c 6 D A 0 0 (RQv below args s D A (fl [wX5 cI cZ cQ rL SL, wX1 cI cZ cQ rN (f_X1_countWorths SL SN)])) (fl [wX5 cI cZ cQ rL SL, wX1 cI cZ cQ rN (it_X1_countWorths_20 SL j_10 (it_X1_countWorths_10 SL SN j_10) j_20)]) [(0, .ref (rN 0)), (1, .ref (rL 0)), (2, .int (nI j_10)), (3, .int (nI j_20))] 20 [] := by
          intro k_20
          induction k_20 with
          | zero =>
            intro j_20 hj K
            have hjB : j_20 = (SL.1 2).toNatClampNeg := by omega
            subst hjB
            refine ww_iload_n (pc := 20) X dX1_countWorths_20 3 rfl rfl ?_
            refine ww_aload_n (pc := 21) X dX1_countWorths_21 1 rfl rfl ?_
            refine ww_get (pc := 22) (ci := 5) (v := .int (SL.1 2)) (C := RX5) (T := TX5) (N := 11) X inX1_countWorths_5 0 rfl rfl 2 (by decide) (by decide +kernel) rfl dX1_countWorths_22 ?_
            exact ww_icmp_ge (pc := 25) (tgt := 89) X dX1_countWorths_25 (by decide) (fun _ => K) (fun c9 => absurd (lp_ge0c (Nat.le_refl _) (cl_lt _)) c9)
          | succ k_20 ih =>
            intro j_20 hj K
            have hjB : j_20 < (SL.1 2).toNatClampNeg := by omega
            have h4_20 := okS_d okL
            refine ww_iload_n (pc := 20) X dX1_countWorths_20 3 rfl rfl ?_
            refine ww_aload_n (pc := 21) X dX1_countWorths_21 1 rfl rfl ?_
            refine ww_get (pc := 22) (ci := 5) (v := .int (SL.1 2)) (C := RX5) (T := TX5) (N := 11) X inX1_countWorths_5 0 rfl rfl 2 (by decide) (by decide +kernel) rfl dX1_countWorths_22 ?_
            refine ww_icmp_ge (pc := 25) (tgt := 89) X dX1_countWorths_25 (by decide) (fun c9 => absurd c9 (lp_ge1c hjB)) (fun _ => ?_)
            refine ww_aload_n (pc := 28) X dX1_countWorths_28 1 rfl rfl ?_
            refine ww_get (pc := 29) (ci := 5) (v := .ref (rL 4)) (C := RX5) (T := TX5) (N := 11) X inX1_countWorths_5 0 rfl rfl 8 (by decide) (by decide +kernel) rfl dX1_countWorths_29 ?_
            refine ww_iload_n (pc := 32) X dX1_countWorths_32 2 rfl rfl ?_
            refine ww_iald (pc := 33) (f := SL.2 3) X 4 0 rfl rfl (vn (m := j_10) rfl (by omega) (by decide)) dX1_countWorths_33 ?_
            refine ww_istore (pc := 34) (lv' := [(4, .int ((SL.2 3) (((nI j_10) : Int32)).toNatClampNeg)), (0, .ref (rN 0)), (1, .ref (rL 0)), (2, .int (nI j_10)), (3, .int (nI j_20))]) X dX1_countWorths_34 (by decide) rfl ?_
            refine ww_iconst (pc := 36) (v := 0) X dX1_countWorths_36 (by decide) ?_
            refine ww_istore (pc := 37) (lv' := [(5, .int 0), (4, .int ((SL.2 3) (((nI j_10) : Int32)).toNatClampNeg)), (0, .ref (rN 0)), (1, .ref (rL 0)), (2, .int (nI j_10)), (3, .int (nI j_20))]) X dX1_countWorths_37 (by decide) rfl ?_
            have L39 : ∀ (k_39 j_39 : Nat), j_39 + k_39 = 31 → WW p l e (headSpec wsX1_countWorths { frames := 3, cells := 0, slots := 0, locals := 70 }).room s m args below meth c 6 D A 0 0 (RQv below args s D A (fl [wX5 cI cZ cQ rL SL, wX1 cI cZ cQ rN (f_X1_countWorths SL SN)])) (fl [wX5 cI cZ cQ rL SL, wX1 cI cZ cQ rN ((it_X1_countWorths_39 SL j_10 j_20 ((it_X1_countWorths_20 SL j_10 (it_X1_countWorths_10 SL SN j_10) j_20), (SL.2 3) (((nI j_10) : Int32)).toNatClampNeg) 31).1)]) [(0, .ref (rN 0)), (1, .ref (rL 0)), (2, .int (nI j_10)), (3, .int (nI j_20)), (4, .int ((it_X1_countWorths_39 SL j_10 j_20 ((it_X1_countWorths_20 SL j_10 (it_X1_countWorths_10 SL SN j_10) j_20), (SL.2 3) (((nI j_10) : Int32)).toNatClampNeg) 31).2)), (5, .int (nI 31))] 83 [] → WW p l e (headSpec wsX1_countWorths { frames := 3, cells := 0, slots := 0, locals := 70 }).room s m args below meth c 6 D A 0 0 (RQv below args s D A (fl [wX5 cI cZ cQ rL SL, wX1 cI cZ cQ rN (f_X1_countWorths SL SN)])) (fl [wX5 cI cZ cQ rL SL, wX1 cI cZ cQ rN ((it_X1_countWorths_39 SL j_10 j_20 ((it_X1_countWorths_20 SL j_10 (it_X1_countWorths_10 SL SN j_10) j_20), (SL.2 3) (((nI j_10) : Int32)).toNatClampNeg) j_39).1)]) [(0, .ref (rN 0)), (1, .ref (rL 0)), (2, .int (nI j_10)), (3, .int (nI j_20)), (4, .int ((it_X1_countWorths_39 SL j_10 j_20 ((it_X1_countWorths_20 SL j_10 (it_X1_countWorths_10 SL SN j_10) j_20), (SL.2 3) (((nI j_10) : Int32)).toNatClampNeg) j_39).2)), (5, .int (nI j_39))] 39 [] := by
              intro k_39
              induction k_39 with
              | zero =>
                intro j_39 hj K
                have hjB : j_39 = 31 := by omega
                subst hjB
                refine ww_iload (pc := 39) X dX1_countWorths_39 5 rfl ?_
                refine ww_bipush (pc := 41) (v := 30) X dX1_countWorths_41 (by decide) ?_
                exact ww_icmp_gt (pc := 43) (tgt := 83) X dX1_countWorths_43 (by decide) (fun _ => K) (fun c9 => absurd (lp_gt0 rfl (Nat.le_refl _) (by decide)) c9)
              | succ k_39 ih =>
                intro j_39 hj K
                have hjB : j_39 < 31 := by omega
                refine ww_iload (pc := 39) X dX1_countWorths_39 5 rfl ?_
                refine ww_bipush (pc := 41) (v := 30) X dX1_countWorths_41 (by decide) ?_
                refine ww_icmp_gt (pc := 43) (tgt := 83) X dX1_countWorths_43 (by decide) (fun c9 => absurd c9 (lp_gt1 rfl hjB (by decide))) (fun _ => ?_)
                refine ww_aload_n (pc := 46) X dX1_countWorths_46 0 rfl rfl ?_
                refine ww_get (pc := 47) (ci := 1) (v := .ref (rN 4)) (C := RX1) (T := TX1) (N := 9) X inX1_countWorths_1 7 rfl rfl 4 (by decide) (by decide +kernel) rfl dX1_countWorths_47 ?_
                refine ww_iload_n (pc := 50) X dX1_countWorths_50 2 rfl rfl ?_
                refine ww_aald (pc := 51) (q := rN (6 + j_10)) X 11 2 rfl rfl (vn (m := j_10) rfl (by omega) (by decide)) (aq (k := j_10) rfl (by omega)) dX1_countWorths_51 ?_
                refine ww_iload_n (pc := 52) X dX1_countWorths_52 3 rfl rfl ?_
                refine ww_bipush (pc := 53) (v := 31) X dX1_countWorths_53 (by decide) ?_
                refine ww_imul (pc := 55) X dX1_countWorths_55 ?_
                refine ww_iload (pc := 56) X dX1_countWorths_56 5 rfl ?_
                refine ww_iadd (pc := 58) X dX1_countWorths_58 ?_
                refine ww_iload (pc := 59) X dX1_countWorths_59 4 rfl ?_
                refine ww_iast (pc := 61) (f := ((it_X1_countWorths_39 SL j_10 j_20 ((it_X1_countWorths_20 SL j_10 (it_X1_countWorths_10 SL SN j_10) j_20), (SL.2 3) (((nI j_10) : Int32)).toNatClampNeg) j_39).1).2 (4 + j_10)) (n := 124) (ws' := fl [wX5 cI cZ cQ rL SL, wX1 cI cZ cQ rN (sA ((it_X1_countWorths_39 SL j_10 j_20 ((it_X1_countWorths_20 SL j_10 (it_X1_countWorths_10 SL SN j_10) j_20), (SL.2 3) (((nI j_10) : Int32)).toNatClampNeg) j_39).1) (4 + j_10) (upd (((it_X1_countWorths_39 SL j_10 j_20 ((it_X1_countWorths_20 SL j_10 (it_X1_countWorths_10 SL SN j_10) j_20), (SL.2 3) (((nI j_10) : Int32)).toNatClampNeg) j_39).1).2 (4 + j_10)) ((((nI j_20) * 31) + (nI j_39) : Int32)).toNatClampNeg ((it_X1_countWorths_39 SL j_10 j_20 ((it_X1_countWorths_20 SL j_10 (it_X1_countWorths_10 SL SN j_10) j_20), (SL.2 3) (((nI j_10) : Int32)).toNatClampNeg) j_39).2)))]) X (13 + j_10) 0 (c6_ (P := fun k9 => (fl [wX5 cI cZ cQ rL SL, wX1 cI cZ cQ rN ((it_X1_countWorths_39 SL j_10 j_20 ((it_X1_countWorths_20 SL j_10 (it_X1_countWorths_10 SL SN j_10) j_20), (SL.2 3) (((nI j_10) : Int32)).toNatClampNeg) j_39).1)])[13 + k9]? = some (rN (6 + k9), .inl (cI, 124, .inl (((it_X1_countWorths_39 SL j_10 j_20 ((it_X1_countWorths_20 SL j_10 (it_X1_countWorths_10 SL SN j_10) j_20), (SL.2 3) (((nI j_10) : Int32)).toNatClampNeg) j_39).1).2 (4 + k9))))) rfl rfl rfl rfl rfl rfl (by omega)) rfl (vn (m := (j_20 * 31) + j_39) (nat_iadd (a := j_20 * 31) (b := j_39) (nat_imul (a := j_20) (b := 31) rfl rfl) rfl) (by omega) (by decide)) (c6_ (P := fun k9 => (fl [wX5 cI cZ cQ rL SL, wX1 cI cZ cQ rN ((it_X1_countWorths_39 SL j_10 j_20 ((it_X1_countWorths_20 SL j_10 (it_X1_countWorths_10 SL SN j_10) j_20), (SL.2 3) (((nI j_10) : Int32)).toNatClampNeg) j_39).1)] : va_W).set (13 + k9) (rN (6 + k9), .inl (cI, 124, .inl (upd (((it_X1_countWorths_39 SL j_10 j_20 ((it_X1_countWorths_20 SL j_10 (it_X1_countWorths_10 SL SN j_10) j_20), (SL.2 3) (((nI j_10) : Int32)).toNatClampNeg) j_39).1).2 (4 + k9)) ((((nI j_20) * 31) + (nI j_39) : Int32)).toNatClampNeg ((it_X1_countWorths_39 SL j_10 j_20 ((it_X1_countWorths_20 SL j_10 (it_X1_countWorths_10 SL SN j_10) j_20), (SL.2 3) (((nI j_10) : Int32)).toNatClampNeg) j_39).2)))) = fl [wX5 cI cZ cQ rL SL, wX1 cI cZ cQ rN (sA ((it_X1_countWorths_39 SL j_10 j_20 ((it_X1_countWorths_20 SL j_10 (it_X1_countWorths_10 SL SN j_10) j_20), (SL.2 3) (((nI j_10) : Int32)).toNatClampNeg) j_39).1) (4 + k9) (upd (((it_X1_countWorths_39 SL j_10 j_20 ((it_X1_countWorths_20 SL j_10 (it_X1_countWorths_10 SL SN j_10) j_20), (SL.2 3) (((nI j_10) : Int32)).toNatClampNeg) j_39).1).2 (4 + k9)) ((((nI j_20) * 31) + (nI j_39) : Int32)).toNatClampNeg ((it_X1_countWorths_39 SL j_10 j_20 ((it_X1_countWorths_20 SL j_10 (it_X1_countWorths_10 SL SN j_10) j_20), (SL.2 3) (((nI j_10) : Int32)).toNatClampNeg) j_39).2)))]) rfl rfl rfl rfl rfl rfl (by omega)) dX1_countWorths_61 ?_
                refine ww_aload_n (pc := 62) X dX1_countWorths_62 1 rfl rfl ?_
                refine ww_iload_n (pc := 63) X dX1_countWorths_63 2 rfl rfl ?_
                refine ww_iload (pc := 64) X dX1_countWorths_64 4 rfl ?_
                refine ww_aload_n (pc := 66) X dX1_countWorths_66 1 rfl rfl ?_
                refine ww_get (pc := 67) (ci := 5) (v := .ref (rL 1)) (C := RX5) (T := TX5) (N := 11) X inX1_countWorths_5 0 rfl rfl 5 (by decide) (by decide +kernel) rfl dX1_countWorths_67 ?_
                refine ww_iload_n (pc := 70) X dX1_countWorths_70 3 rfl rfl ?_
                refine ww_iald (pc := 71) (f := SL.2 0) X 1 0 rfl rfl (vn (m := j_20) rfl (by omega) (by decide)) dX1_countWorths_71 ?_
                refine ww_gVi (pc := 72) (rest := []) (gsN := [wX5 cI cZ cQ rL SL, wX1 cI cZ cQ rN (sA ((it_X1_countWorths_39 SL j_10 j_20 ((it_X1_countWorths_20 SL j_10 (it_X1_countWorths_10 SL SN j_10) j_20), (SL.2 3) (((nI j_10) : Int32)).toNatClampNeg) j_39).1) (4 + j_10) (upd (((it_X1_countWorths_39 SL j_10 j_20 ((it_X1_countWorths_20 SL j_10 (it_X1_countWorths_10 SL SN j_10) j_20), (SL.2 3) (((nI j_10) : Int32)).toNatClampNeg) j_39).1).2 (4 + j_10)) ((((nI j_20) * 31) + (nI j_39) : Int32)).toNatClampNeg ((it_X1_countWorths_39 SL j_10 j_20 ((it_X1_countWorths_20 SL j_10 (it_X1_countWorths_10 SL SN j_10) j_20), (SL.2 3) (((nI j_10) : Int32)).toNatClampNeg) j_39).2)))]) (ci := 5) (gi := 0) (qi := 0) X (c_X5_worthBehind l D cI cZ cQ rL SL (nI j_10) ((it_X1_countWorths_39 SL j_10 j_20 ((it_X1_countWorths_20 SL j_10 (it_X1_countWorths_10 SL SN j_10) j_20), (SL.2 3) (((nI j_10) : Int32)).toNatClampNeg) j_39).2) ((SL.2 0) (((nI j_20) : Int32)).toNatClampNeg)) gX1_countWorths_X5_worthBehind rfl hd_X5_worthBehind [true, false] rfl rfl rfl rfl rfl rfl rfl rfl ⟨rfl, rfl⟩ ⟨Nat.le_of_ble_eq_true rfl, Nat.le_of_ble_eq_true rfl⟩ (Nat.le_of_ble_eq_true rfl) ⟨Nat.zero_le _, Nat.zero_le _⟩ dX1_countWorths_72 ?_
                generalize hz11 : (f_X5_worthBehind SL (nI j_10) ((it_X1_countWorths_39 SL j_10 j_20 ((it_X1_countWorths_20 SL j_10 (it_X1_countWorths_10 SL SN j_10) j_20), (SL.2 3) (((nI j_10) : Int32)).toNatClampNeg) j_39).2) ((SL.2 0) (((nI j_20) : Int32)).toNatClampNeg)) = z11
                refine ww_istore (pc := 75) (lv' := [(4, .int z11), (0, .ref (rN 0)), (1, .ref (rL 0)), (2, .int (nI j_10)), (3, .int (nI j_20)), (5, .int (nI j_39))]) X dX1_countWorths_75 (by decide) rfl ?_
                refine ww_iinc (pc := 77) (v := (nI j_39) + 1) (lv' := [(5, .int ((nI j_39) + 1)), (4, .int z11), (0, .ref (rN 0)), (1, .ref (rL 0)), (2, .int (nI j_10)), (3, .int (nI j_20))]) X dX1_countWorths_77 5 rfl rfl (by decide) rfl ?_
                refine ww_goto (pc := 80) (tgt := 39) X dX1_countWorths_80 (by decide) ?_
                have h12 : (it_X1_countWorths_39 SL j_10 j_20 ((it_X1_countWorths_20 SL j_10 (it_X1_countWorths_10 SL SN j_10) j_20), (SL.2 3) (((nI j_10) : Int32)).toNatClampNeg) (j_39 + 1)) = ((sA ((it_X1_countWorths_39 SL j_10 j_20 ((it_X1_countWorths_20 SL j_10 (it_X1_countWorths_10 SL SN j_10) j_20), (SL.2 3) (((nI j_10) : Int32)).toNatClampNeg) j_39).1) (4 + j_10) (upd (((it_X1_countWorths_39 SL j_10 j_20 ((it_X1_countWorths_20 SL j_10 (it_X1_countWorths_10 SL SN j_10) j_20), (SL.2 3) (((nI j_10) : Int32)).toNatClampNeg) j_39).1).2 (4 + j_10)) ((((nI j_20) * 31) + (nI j_39) : Int32)).toNatClampNeg ((it_X1_countWorths_39 SL j_10 j_20 ((it_X1_countWorths_20 SL j_10 (it_X1_countWorths_10 SL SN j_10) j_20), (SL.2 3) (((nI j_10) : Int32)).toNatClampNeg) j_39).2))), z11) := by
                  show bd_X1_countWorths_39 SL j_10 j_20 j_39 (it_X1_countWorths_39 SL j_10 j_20 ((it_X1_countWorths_20 SL j_10 (it_X1_countWorths_10 SL SN j_10) j_20), (SL.2 3) (((nI j_10) : Int32)).toNatClampNeg) j_39) = _; unfold bd_X1_countWorths_39; try rw [hz11]; try unfold bd_X1_countWorths_39_k1; first | done | rfl
                refine ww_lsub [2, 3, 4, 5, 1, 0] rfl ?_
                exact ww_castI (fun u9 : St × Int32 => fl [wX5 cI cZ cQ rL SL, wX1 cI cZ cQ rN u9.1]) (fun (u9 : St × Int32) (i9 : Int32) => ([(0, .ref (rN 0)), (1, .ref (rL 0)), (2, .int (nI j_10)), (3, .int (nI j_20)), (4, .int u9.2), (5, .int i9)] : List (Nat × Value))) h12 (ih (j_39 + 1) (by omega) K)
            refine ww_lsub [2, 3, 4, 5, 1, 0] rfl ?_
            refine L39 31 0 (by omega) ?_
            generalize hz13 : ((it_X1_countWorths_39 SL j_10 j_20 ((it_X1_countWorths_20 SL j_10 (it_X1_countWorths_10 SL SN j_10) j_20), (SL.2 3) (((nI j_10) : Int32)).toNatClampNeg) 31)) = z13
            refine ww_iinc (pc := 83) (v := (nI j_20) + 1) (lv' := [(3, .int ((nI j_20) + 1)), (0, .ref (rN 0)), (1, .ref (rL 0)), (2, .int (nI j_10)), (4, .int z13.2), (5, .int (nI 31))]) X dX1_countWorths_83 3 rfl rfl (by decide) rfl ?_
            refine ww_goto (pc := 86) (tgt := 20) X dX1_countWorths_86 (by decide) ?_
            have h14 : (it_X1_countWorths_20 SL j_10 (it_X1_countWorths_10 SL SN j_10) (j_20 + 1)) = z13.1 := by
              show bd_X1_countWorths_20 SL j_10 j_20 (it_X1_countWorths_20 SL j_10 (it_X1_countWorths_10 SL SN j_10) j_20) = _; unfold bd_X1_countWorths_20; try rw [hz13]; try unfold bd_X1_countWorths_20_k1; first | done | rfl
            refine ww_lsub [1, 2, 3, 0] rfl ?_
            exact ww_castI (fun u9 : St => fl [wX5 cI cZ cQ rL SL, wX1 cI cZ cQ rN u9]) (fun (u9 : St) (i9 : Int32) => ([(0, .ref (rN 0)), (1, .ref (rL 0)), (2, .int (nI j_10)), (3, .int i9)] : List (Nat × Value))) h14 (ih (j_20 + 1) (by omega) K)
        refine ww_lsub [1, 2, 3, 0] rfl ?_
        refine L20 ((SL.1 2).toNatClampNeg) 0 (by omega) ?_
        generalize hz15 : ((it_X1_countWorths_20 SL j_10 (it_X1_countWorths_10 SL SN j_10) ((SL.1 2).toNatClampNeg))) = z15
        refine ww_iinc (pc := 89) (v := (nI j_10) + 1) (lv' := [(2, .int ((nI j_10) + 1)), (0, .ref (rN 0)), (1, .ref (rL 0)), (3, .int (nI ((SL.1 2).toNatClampNeg)))]) X dX1_countWorths_89 2 rfl rfl (by decide) rfl ?_
        refine ww_goto (pc := 92) (tgt := 10) X dX1_countWorths_92 (by decide) ?_
        have h16 : (it_X1_countWorths_10 SL SN (j_10 + 1)) = z15 := by
          show bd_X1_countWorths_10 SL j_10 (it_X1_countWorths_10 SL SN j_10) = _; unfold bd_X1_countWorths_10; try rw [hz15]; try unfold bd_X1_countWorths_10_k1; first | done | rfl
        refine ww_lsub [1, 2, 0] rfl ?_
        exact ww_castI (fun u9 : St => fl [wX5 cI cZ cQ rL SL, wX1 cI cZ cQ rN u9]) (fun (u9 : St) (i9 : Int32) => ([(0, .ref (rN 0)), (1, .ref (rL 0)), (2, .int i9)] : List (Nat × Value))) h16 (ih (j_10 + 1) (by omega) K)
    refine ww_lsub [1, 2, 0] rfl ?_
    refine L10 ((SL.1 4).toNatClampNeg) 0 (by omega) ?_
    generalize hz17 : ((it_X1_countWorths_10 SL SN ((SL.1 4).toNatClampNeg))) = z17
    refine ww_aload_n (pc := 95) X dX1_countWorths_95 0 rfl rfl ?_
    refine ww_iconst (pc := 96) (v := 1) X dX1_countWorths_96 (by decide) ?_
    refine ww_put (pc := 97) (ci := 1) (v := .int 1) (C := RX1) (T := TX1) (N := 9) (ws' := fl [wX5 cI cZ cQ rL SL, wX1 cI cZ cQ rN (sI z17 1 1)]) X inX1_countWorths_1 tyX1 tyX1_ok nmX1 7 rfl rfl 5 (by decide) (by decide +kernel) rfl rfl rfl (Nat.le_of_ble_eq_true rfl) rfl dX1_countWorths_97 ?_
    have h18 : f_X1_countWorths SL SN = (sI z17 1 1) := by unfold f_X1_countWorths; try rw [if_pos c1, hz17]; try unfold f_X1_countWorths_k1; first | done | rfl
    exact ww_vret X hr (congrArg (fun u9 : St => fl [wX5 cI cZ cQ rL SL, wX1 cI cZ cQ rN u9]) h18.symm) dX1_countWorths_100
  · have h19 : f_X1_countWorths SL SN = SN := by unfold f_X1_countWorths; try rw [if_neg c1]; first | done | rfl
    exact ww_vret X hr (congrArg (fun u9 : St => fl [wX5 cI cZ cQ rL SL, wX1 cI cZ cQ rN u9]) h19.symm) dX1_countWorths_7
def l0_X1_alikeFrom_18 (SN : St) (x1 : Int32) (j2 : Nat) (x3 : Int32) (j : Nat) (u : Int32) : Int32 :=
  u
def lb_X1_alikeFrom_18 (SN : St) (x1 : Int32) (j2 : Nat) (x3 : Int32) (rec : Nat → (Int32) → Int32) (j : Nat) (u : Int32) : Int32 :=
  if (f_X1_worthBy SN x1 ((SN.2 3) (((nI j) : Int32)).toNatClampNeg)) = x3 then
    rec (j + 1) (u + 1)
  else
    rec (j + 1) u
def lp_X1_alikeFrom_18 (SN : St) (x1 : Int32) (j2 : Nat) (x3 : Int32) : Nat → Nat → (Int32) → Int32
  | 0, j, u => l0_X1_alikeFrom_18 SN x1 j2 x3 j u
  | k + 1, j, u => lb_X1_alikeFrom_18 SN x1 j2 x3 (lp_X1_alikeFrom_18 SN x1 j2 x3 k) j u
def f_X1_alikeFrom_k1 (SN : St) (x1 : Int32) (a2 : Nat) (z1 : Int32) : Int32 :=
  lp_X1_alikeFrom_18 SN x1 a2 z1 ((SN.1 2).toNatClampNeg - a2) a2 0
def f_X1_alikeFrom (SN : St) (x1 : Int32) (a2 : Nat) : Int32 :=
  f_X1_alikeFrom_k1 SN x1 a2 (f_X1_worthBy SN x1 ((SN.2 3) (((nI a2) : Int32)).toNatClampNeg))
theorem lpA (S : St) (g : Int32) (a : Nat) (v : Int32) : ∀ (k j : Nat) (u : Int32), ∃ m : Nat, m ≤ k ∧ lp_X1_alikeFrom_18 S g a v k j u = u + nI m
  | 0, j, u => ⟨0, Nat.le_refl _, by show u = u + nI 0; rw [nI_0, Int32.add_zero]⟩
  | k + 1, j, u => by
    show ∃ m : Nat, m ≤ k + 1 ∧ lb_X1_alikeFrom_18 S g a v (lp_X1_alikeFrom_18 S g a v k) j u = u + nI m
    unfold lb_X1_alikeFrom_18
    split
    · obtain ⟨m, h1, h2⟩ := lpA S g a v k (j + 1) (u + 1)
      exact ⟨m + 1, by omega, by rw [h2, nI_succ, Int32.add_assoc, Int32.add_comm 1]⟩
    · obtain ⟨m, h1, h2⟩ := lpA S g a v k (j + 1) u
      exact ⟨m, by omega, h2⟩
theorem fA_le {S : St} {g : Int32} {a : Nat} (hF : S.1 2 ≤ 124) : ∃ m : Nat, m ≤ 124 ∧ f_X1_alikeFrom S g a = nI m := by
  have hf0 := cl_le hF (n := 124) rfl (by decide)
  obtain ⟨m, h1, h2⟩ := lpA S g a (f_X1_worthBy S g ((S.2 3) (((nI a) : Int32)).toNatClampNeg)) ((S.1 2).toNatClampNeg - a) a 0
  refine ⟨m, by omega, ?_⟩
  unfold f_X1_alikeFrom f_X1_alikeFrom_k1
  rw [h2, Int32.zero_add]
theorem gp_lt {S : St} {U : Int32} {J : Nat} (h0 : ¬ (S.1 2) < 0) (hF : S.1 2 ≤ 124) (hi : J ≤ (S.1 2).toNatClampNeg ∧ ∃ a : Nat, U = nI a ∧ a ≤ 124) (c : ¬ ((S.1 2) - U) ≤ (nI J)) : J < (S.1 2).toNatClampNeg := by
  have hf0 := cl_le hF (n := 124) rfl (by decide)
  obtain ⟨h1, a, rfl, ha⟩ := hi
  have e := cl_eq h0
  rw [Int32.le_iff_toInt_le, e, pk_sub_toInt (by omega) (by omega), nI_toInt (by omega)] at c
  omega
theorem gp_step {S : St} {g U z : Int32} {J : Nat} (h0 : ¬ (S.1 2) < 0) (hF : S.1 2 ≤ 124) (hi : J ≤ (S.1 2).toNatClampNeg ∧ ∃ a : Nat, U = nI a ∧ a ≤ 124) (c : ¬ ((S.1 2) - U) ≤ (nI J)) (hz : (if U < (f_X1_alikeFrom S g J) then (f_X1_alikeFrom S g J) else U) = z) : J + 1 ≤ (S.1 2).toNatClampNeg ∧ ∃ a : Nat, z = nI a ∧ a ≤ 124 := by
  refine ⟨gp_lt h0 hF hi c, ?_⟩
  obtain ⟨h1, a, rfl, ha⟩ := hi
  obtain ⟨m, hm, e⟩ := fA_le (g := g) (a := J) hF
  rw [← hz]
  split
  · exact ⟨m, e, hm⟩
  · exact ⟨a, rfl, ha⟩
theorem inX1_alikeFrom_1 : ∀ w ∈ wsX10, w ∈ wsX1_alikeFrom := by decide +kernel
theorem hd_X1_alikeFrom : yX1_alikeFrom.cls = RX1 ∧ yX1_alikeFrom.cls ≠ "java/lang/invoke/MethodHandle" ∧ yX1_alikeFrom.cls ≠ "java/lang/invoke/VarHandle" ∧ (parseMethodDescriptor yX1_alikeFrom.desc).map (fun d => d.parameters.length) = some 2 := by decide +kernel
set_option maxHeartbeats 4000000 in
set_option maxRecDepth 100000 in
theorem c_X1_alikeFrom (l : Launch) (D : va_G) (cI cZ cQ : ClassId) (rN : Nat → Nat) (SN : St) (x1 : Int32) (a2 : Nat) (hs : a2 < (SN.1 2).toNatClampNeg) (hF : SN.1 2 ≤ 124) : Ci l yX1_alikeFrom wsX1_alikeFrom { frames := 1, cells := 0, slots := 0, locals := 23 } D (tyL cI cZ cQ) [.ref (rN 0), .int x1, .int (nI a2)] (fl [wX1 cI cZ cQ rN SN]) (f_X1_alikeFrom SN x1 a2) (fl [wX1 cI cZ cQ rN SN]) := by
  refine ci_of (cc := cX1_alikeFrom) (nL := 6) (ty := .int) (lv0 := [(0, .ref (rN 0)), (1, .int x1), (2, .int (nI a2))]) (by decide) rfl (Nat.le_of_ble_eq_true rfl) rfl ?_
  intro p e s m args below meth c A X hr
  have hf0 := cl_le hF (n := 124) rfl (by decide)
  refine ww_aload_n (pc := 0) X dX1_alikeFrom_0 0 rfl rfl ?_
  refine ww_iload_n (pc := 1) X dX1_alikeFrom_1 1 rfl rfl ?_
  refine ww_aload_n (pc := 2) X dX1_alikeFrom_2 0 rfl rfl ?_
  refine ww_get (pc := 3) (ci := 1) (v := .ref (rN 5)) (C := RX1) (T := TX1) (N := 9) X inX1_alikeFrom_1 0 rfl rfl 6 (by decide) (by decide +kernel) rfl dX1_alikeFrom_3 ?_
  refine ww_iload_n (pc := 6) X dX1_alikeFrom_6 2 rfl rfl ?_
  refine ww_iald (pc := 7) (f := SN.2 3) X 5 0 rfl rfl (vn (m := a2) rfl (by omega) (by decide)) dX1_alikeFrom_7 ?_
  refine ww_gVi (pc := 8) (rest := []) (gsN := [wX1 cI cZ cQ rN SN]) (ci := 1) (gi := 0) (qi := 0) X (c_X1_worthBy l D cI cZ cQ rN SN x1 ((SN.2 3) (((nI a2) : Int32)).toNatClampNeg)) gX1_alikeFrom_X1_worthBy rfl hd_X1_worthBy [true] rfl rfl rfl rfl rfl rfl rfl rfl ⟨rfl, rfl⟩ ⟨Nat.le_of_ble_eq_true rfl, Nat.le_of_ble_eq_true rfl⟩ (Nat.le_of_ble_eq_true rfl) ⟨Nat.zero_le _, Nat.zero_le _⟩ dX1_alikeFrom_8 ?_
  generalize hz1 : (f_X1_worthBy SN x1 ((SN.2 3) (((nI a2) : Int32)).toNatClampNeg)) = z1
  refine ww_istore_n (pc := 11) (lv' := [(3, .int z1), (0, .ref (rN 0)), (1, .int x1), (2, .int (nI a2))]) X dX1_alikeFrom_11 rfl (by decide) rfl ?_
  refine ww_iconst (pc := 12) (v := 0) X dX1_alikeFrom_12 (by decide) ?_
  refine ww_istore (pc := 13) (lv' := [(4, .int 0), (3, .int z1), (0, .ref (rN 0)), (1, .int x1), (2, .int (nI a2))]) X dX1_alikeFrom_13 (by decide) rfl ?_
  refine ww_iload_n (pc := 15) X dX1_alikeFrom_15 4 rfl rfl ?_
  refine ww_istore (pc := 16) (lv' := [(5, .int (nI a2)), (4, .int 0), (3, .int z1), (0, .ref (rN 0)), (1, .int x1), (2, .int (nI a2))]) X dX1_alikeFrom_16 (by decide) rfl ?_
  have L18 : ∀ (k_18 j_18 : Nat) (u_18 : Int32), j_18 + k_18 = (SN.1 2).toNatClampNeg → True → f_X1_alikeFrom SN x1 a2 = lp_X1_alikeFrom_18 SN x1 a2 z1 k_18 j_18 u_18 → WW p l e (headSpec wsX1_alikeFrom { frames := 1, cells := 0, slots := 0, locals := 23 }).room s m args below meth c 6 D A 0 0 (RQi below args s D A (f_X1_alikeFrom SN x1 a2) (fl [wX1 cI cZ cQ rN SN])) (fl [wX1 cI cZ cQ rN SN]) [(0, .ref (rN 0)), (1, .int x1), (2, .int (nI a2)), (3, .int z1), (4, .int u_18), (5, .int (nI j_18))] 18 [] := by
    intro k_18
    induction k_18 with
    | zero =>
      intro j_18 u_18 hj hi hf
      have hjB : j_18 = (SN.1 2).toNatClampNeg := by omega
      subst hjB
      refine ww_iload (pc := 18) X dX1_alikeFrom_18 5 rfl ?_
      refine ww_aload_n (pc := 20) X dX1_alikeFrom_20 0 rfl rfl ?_
      refine ww_get (pc := 21) (ci := 1) (v := .int (SN.1 2)) (C := RX1) (T := TX1) (N := 9) X inX1_alikeFrom_1 0 rfl rfl 7 (by decide) (by decide +kernel) rfl dX1_alikeFrom_21 ?_
      refine ww_icmp_ge (pc := 24) (tgt := 52) X dX1_alikeFrom_24 (by decide) (fun _ => ?_) (fun c9 => absurd (lp_ge0c (Nat.le_refl _) (cl_lt _)) c9)
      refine ww_iload (pc := 52) X dX1_alikeFrom_52 4 rfl ?_
      exact ww_iret X hr rfl (Eq.symm (by rw [hf]; show l0_X1_alikeFrom_18 SN x1 a2 z1 ((SN.1 2).toNatClampNeg) u_18 = _; unfold l0_X1_alikeFrom_18; first | done | rfl)) rfl dX1_alikeFrom_54
    | succ k_18 ih =>
      intro j_18 u_18 hj hi hf
      have hjB : j_18 < (SN.1 2).toNatClampNeg := by omega
      have hN_18 := cl_le hF (n := 124) rfl (by decide)
      refine ww_iload (pc := 18) X dX1_alikeFrom_18 5 rfl ?_
      refine ww_aload_n (pc := 20) X dX1_alikeFrom_20 0 rfl rfl ?_
      refine ww_get (pc := 21) (ci := 1) (v := .int (SN.1 2)) (C := RX1) (T := TX1) (N := 9) X inX1_alikeFrom_1 0 rfl rfl 7 (by decide) (by decide +kernel) rfl dX1_alikeFrom_21 ?_
      refine ww_icmp_ge (pc := 24) (tgt := 52) X dX1_alikeFrom_24 (by decide) (fun c9 => absurd c9 (lp_ge1c hjB)) (fun _ => ?_)
      refine ww_aload_n (pc := 27) X dX1_alikeFrom_27 0 rfl rfl ?_
      refine ww_iload_n (pc := 28) X dX1_alikeFrom_28 1 rfl rfl ?_
      refine ww_aload_n (pc := 29) X dX1_alikeFrom_29 0 rfl rfl ?_
      refine ww_get (pc := 30) (ci := 1) (v := .ref (rN 5)) (C := RX1) (T := TX1) (N := 9) X inX1_alikeFrom_1 0 rfl rfl 6 (by decide) (by decide +kernel) rfl dX1_alikeFrom_30 ?_
      refine ww_iload (pc := 33) X dX1_alikeFrom_33 5 rfl ?_
      refine ww_iald (pc := 35) (f := SN.2 3) X 5 0 rfl rfl (vn (m := j_18) rfl (by omega) (by decide)) dX1_alikeFrom_35 ?_
      refine ww_gVi (pc := 36) (rest := []) (gsN := [wX1 cI cZ cQ rN SN]) (ci := 1) (gi := 0) (qi := 0) X (c_X1_worthBy l D cI cZ cQ rN SN x1 ((SN.2 3) (((nI j_18) : Int32)).toNatClampNeg)) gX1_alikeFrom_X1_worthBy rfl hd_X1_worthBy [true] rfl rfl rfl rfl rfl rfl rfl rfl ⟨rfl, rfl⟩ ⟨Nat.le_of_ble_eq_true rfl, Nat.le_of_ble_eq_true rfl⟩ (Nat.le_of_ble_eq_true rfl) ⟨Nat.zero_le _, Nat.zero_le _⟩ dX1_alikeFrom_36 ?_
      refine ww_iload_n (pc := 39) X dX1_alikeFrom_39 3 rfl rfl ?_
      refine ww_icmp_ne (pc := 40) (tgt := 46) X dX1_alikeFrom_40 (by decide) (fun c3 => ?_) (fun c3 => ?_)
      · refine ww_iinc (pc := 46) (v := (nI j_18) + 1) (lv' := [(5, .int ((nI j_18) + 1)), (0, .ref (rN 0)), (1, .int x1), (2, .int (nI a2)), (3, .int z1), (4, .int u_18)]) X dX1_alikeFrom_46 5 rfl rfl (by decide) rfl ?_
        refine ww_goto (pc := 49) (tgt := 18) X dX1_alikeFrom_49 (by decide) ?_
        refine ww_lsub [1, 2, 3, 4, 5, 0] rfl ?_
        have h4 : f_X1_alikeFrom SN x1 a2 = lp_X1_alikeFrom_18 SN x1 a2 z1 k_18 (j_18 + 1) u_18 := by rw [hf]; show lb_X1_alikeFrom_18 SN x1 a2 z1 (lp_X1_alikeFrom_18 SN x1 a2 z1 k_18) j_18 u_18 = _; unfold lb_X1_alikeFrom_18; try rw [if_neg c3]; first | done | rfl
        exact ww_cast rfl (congrArg (fun (i9 : Int32) => ([(0, .ref (rN 0)), (1, .int x1), (2, .int (nI a2)), (3, .int z1), (4, .int u_18), (5, .int i9)] : List (Nat × Value))) (nI_1 j_18).symm) (ih (j_18 + 1) u_18 (by omega) trivial h4)
      · refine ww_iinc (pc := 43) (v := u_18 + 1) (lv' := [(4, .int (u_18 + 1)), (0, .ref (rN 0)), (1, .int x1), (2, .int (nI a2)), (3, .int z1), (5, .int (nI j_18))]) X dX1_alikeFrom_43 4 rfl rfl (by decide) rfl ?_
        refine ww_iinc (pc := 46) (v := (nI j_18) + 1) (lv' := [(5, .int ((nI j_18) + 1)), (4, .int (u_18 + 1)), (0, .ref (rN 0)), (1, .int x1), (2, .int (nI a2)), (3, .int z1)]) X dX1_alikeFrom_46 5 rfl rfl (by decide) rfl ?_
        refine ww_goto (pc := 49) (tgt := 18) X dX1_alikeFrom_49 (by decide) ?_
        refine ww_lsub [2, 3, 4, 5, 1, 0] rfl ?_
        have h5 : f_X1_alikeFrom SN x1 a2 = lp_X1_alikeFrom_18 SN x1 a2 z1 k_18 (j_18 + 1) (u_18 + 1) := by rw [hf]; show lb_X1_alikeFrom_18 SN x1 a2 z1 (lp_X1_alikeFrom_18 SN x1 a2 z1 k_18) j_18 u_18 = _; unfold lb_X1_alikeFrom_18; try rw [if_pos c3]; first | done | rfl
        exact ww_cast rfl (congrArg (fun (i9 : Int32) => ([(0, .ref (rN 0)), (1, .int x1), (2, .int (nI a2)), (3, .int z1), (4, .int (u_18 + 1)), (5, .int i9)] : List (Nat × Value))) (nI_1 j_18).symm) (ih (j_18 + 1) (u_18 + 1) (by omega) trivial h5)
  refine ww_lsub [3, 4, 5, 2, 1, 0] rfl ?_
  exact L18 ((SN.1 2).toNatClampNeg - a2) a2 0 (by omega) trivial (by unfold f_X1_alikeFrom; try rw [hz1]; try unfold f_X1_alikeFrom_k1; first | done | rfl)
def lb_X1_greatestPart_4_k1 (SN : St) (x1 : Int32) (rec : Nat → (Int32) → Int32) (j : Nat) (u : Int32) (z2 : Int32) : Int32 :=
  rec (j + 1) z2
def lb_X1_greatestPart_4 (SN : St) (x1 : Int32) (rec : Nat → (Int32) → Int32) (j : Nat) (u : Int32) : Int32 :=
  if ((SN.1 2) - u) ≤ (nI j) then
    u
  else
    lb_X1_greatestPart_4_k1 SN x1 rec j u (if u < (f_X1_alikeFrom SN x1 j) then (f_X1_alikeFrom SN x1 j) else u)
def lp_X1_greatestPart_4 (SN : St) (x1 : Int32) : Nat → Nat → (Int32) → Int32
  | 0, j, u => 0
  | k + 1, j, u => lb_X1_greatestPart_4 SN x1 (lp_X1_greatestPart_4 SN x1 k) j u
def f_X1_greatestPart (SN : St) (x1 : Int32) : Int32 :=
  lp_X1_greatestPart_4 SN x1 125 0 0
theorem inX1_greatestPart_1 : ∀ w ∈ wsX10, w ∈ wsX1_greatestPart := by decide +kernel
theorem hd_X1_greatestPart : yX1_greatestPart.cls = RX1 ∧ yX1_greatestPart.cls ≠ "java/lang/invoke/MethodHandle" ∧ yX1_greatestPart.cls ≠ "java/lang/invoke/VarHandle" ∧ (parseMethodDescriptor yX1_greatestPart.desc).map (fun d => d.parameters.length) = some 1 := by decide +kernel
set_option maxHeartbeats 4000000 in
set_option maxRecDepth 100000 in
theorem c_X1_greatestPart (l : Launch) (D : va_G) (cI cZ cQ : ClassId) (rN : Nat → Nat) (SN : St) (x1 : Int32) (h0 : ¬ (SN.1 2) < 0) (hF : SN.1 2 ≤ 124) : Ci l yX1_greatestPart wsX1_greatestPart { frames := 2, cells := 0, slots := 0, locals := 48 } D (tyL cI cZ cQ) [.ref (rN 0), .int x1] (fl [wX1 cI cZ cQ rN SN]) (f_X1_greatestPart SN x1) (fl [wX1 cI cZ cQ rN SN]) := by
  refine ci_of (cc := cX1_greatestPart) (nL := 4) (ty := .int) (lv0 := [(0, .ref (rN 0)), (1, .int x1)]) (by decide) rfl (Nat.le_of_ble_eq_true rfl) rfl ?_
  intro p e s m args below meth c A X hr
  refine ww_iconst (pc := 0) (v := 0) X dX1_greatestPart_0 (by decide) ?_
  refine ww_istore_n (pc := 1) (lv' := [(2, .int 0), (0, .ref (rN 0)), (1, .int x1)]) X dX1_greatestPart_1 rfl (by decide) rfl ?_
  refine ww_iconst (pc := 2) (v := 0) X dX1_greatestPart_2 (by decide) ?_
  refine ww_istore_n (pc := 3) (lv' := [(3, .int 0), (2, .int 0), (0, .ref (rN 0)), (1, .int x1)]) X dX1_greatestPart_3 rfl (by decide) rfl ?_
  have L4 : ∀ (k_4 j_4 : Nat) (u_4 : Int32), j_4 + k_4 = 125 → (j_4 ≤ (SN.1 2).toNatClampNeg ∧ ∃ a : Nat, u_4 = nI a ∧ a ≤ 124) → f_X1_greatestPart SN x1 = lp_X1_greatestPart_4 SN x1 k_4 j_4 u_4 → WW p l e (headSpec wsX1_greatestPart { frames := 2, cells := 0, slots := 0, locals := 48 }).room s m args below meth c 4 D A 0 0 (RQi below args s D A (f_X1_greatestPart SN x1) (fl [wX1 cI cZ cQ rN SN])) (fl [wX1 cI cZ cQ rN SN]) [(0, .ref (rN 0)), (1, .int x1), (2, .int u_4), (3, .int (nI j_4))] 4 [] := by
    intro k_4
    induction k_4 with
    | zero =>
      intro j_4 u_4 hj hi hf
      have hjB : j_4 = 125 := by omega
      subst hjB
      exact absurd (cl_le hF (n := 124) rfl (by decide)) (by omega)
    | succ k_4 ih =>
      intro j_4 u_4 hj hi hf
      have hjB : j_4 < 125 := by omega
      have hf0 := cl_le hF (n := 124) rfl (by decide)
      refine ww_iload_n (pc := 4) X dX1_greatestPart_4 3 rfl rfl ?_
      refine ww_aload_n (pc := 5) X dX1_greatestPart_5 0 rfl rfl ?_
      refine ww_get (pc := 6) (ci := 1) (v := .int (SN.1 2)) (C := RX1) (T := TX1) (N := 9) X inX1_greatestPart_1 0 rfl rfl 7 (by decide) (by decide +kernel) rfl dX1_greatestPart_6 ?_
      refine ww_iload_n (pc := 9) X dX1_greatestPart_9 2 rfl rfl ?_
      refine ww_isub (pc := 10) X dX1_greatestPart_10 ?_
      refine ww_icmp_ge (pc := 11) (tgt := 31) X dX1_greatestPart_11 (by decide) (fun c3 => ?_) (fun c3 => ?_)
      · refine ww_iload_n (pc := 31) X dX1_greatestPart_31 2 rfl rfl ?_
        exact ww_iret X hr rfl (Eq.symm (by rw [hf]; show lb_X1_greatestPart_4 SN x1 (lp_X1_greatestPart_4 SN x1 k_4) j_4 u_4 = _; unfold lb_X1_greatestPart_4; try rw [if_pos c3]; first | done | rfl)) rfl dX1_greatestPart_32
      · refine ww_iload_n (pc := 14) X dX1_greatestPart_14 2 rfl rfl ?_
        refine ww_aload_n (pc := 15) X dX1_greatestPart_15 0 rfl rfl ?_
        refine ww_iload_n (pc := 16) X dX1_greatestPart_16 1 rfl rfl ?_
        refine ww_iload_n (pc := 17) X dX1_greatestPart_17 3 rfl rfl ?_
        refine ww_gVi (pc := 18) (rest := [.int u_4]) (gsN := [wX1 cI cZ cQ rN SN]) (ci := 1) (gi := 0) (qi := 0) X (c_X1_alikeFrom l D cI cZ cQ rN SN x1 j_4 (gp_lt h0 hF hi c3) (by assumption)) gX1_greatestPart_X1_alikeFrom rfl hd_X1_alikeFrom [true] rfl rfl rfl rfl rfl rfl rfl rfl ⟨rfl, rfl⟩ ⟨Nat.le_of_ble_eq_true rfl, Nat.le_of_ble_eq_true rfl⟩ (Nat.le_of_ble_eq_true rfl) ⟨Nat.zero_le _, Nat.zero_le _⟩ dX1_greatestPart_18 ?_
        refine ww_mmax (pc := 21) X (by decide +kernel) (by decide +kernel) (by decide +kernel) (by decide +kernel) (Nat.le_of_ble_eq_true rfl) (Nat.le_of_ble_eq_true rfl) (Nat.zero_le _) (Nat.zero_le _) dX1_greatestPart_21 ?_
        generalize hz4 : (if u_4 < (f_X1_alikeFrom SN x1 j_4) then (f_X1_alikeFrom SN x1 j_4) else u_4) = z4
        refine ww_istore_n (pc := 24) (lv' := [(2, .int z4), (0, .ref (rN 0)), (1, .int x1), (3, .int (nI j_4))]) X dX1_greatestPart_24 rfl (by decide) rfl ?_
        refine ww_iinc (pc := 25) (v := (nI j_4) + 1) (lv' := [(3, .int ((nI j_4) + 1)), (2, .int z4), (0, .ref (rN 0)), (1, .int x1)]) X dX1_greatestPart_25 3 rfl rfl (by decide) rfl ?_
        refine ww_goto (pc := 28) (tgt := 4) X dX1_greatestPart_28 (by decide) ?_
        refine ww_lsub [2, 3, 1, 0] rfl ?_
        have h5 : f_X1_greatestPart SN x1 = lp_X1_greatestPart_4 SN x1 k_4 (j_4 + 1) z4 := by rw [hf]; show lb_X1_greatestPart_4 SN x1 (lp_X1_greatestPart_4 SN x1 k_4) j_4 u_4 = _; unfold lb_X1_greatestPart_4; try rw [if_neg c3, hz4]; try unfold lb_X1_greatestPart_4_k1; first | done | rfl
        exact ww_cast rfl (congrArg (fun (i9 : Int32) => ([(0, .ref (rN 0)), (1, .int x1), (2, .int z4), (3, .int i9)] : List (Nat × Value))) (nI_1 j_4).symm) (ih (j_4 + 1) z4 (by omega) (gp_step h0 hF hi c3 hz4) h5)
  refine ww_lsub [2, 3, 1, 0] rfl ?_
  exact L4 125 0 0 (by omega) ⟨Nat.zero_le _, 0, rfl, Nat.zero_le _⟩ (by unfold f_X1_greatestPart; first | done | rfl)
