theorem inX3_copyTo_3 : ∀ w ∈ wsX30, w ∈ wsX3_copyTo := by decide +kernel
theorem hd_X3_copyTo : yX3_copyTo.cls = RX3 ∧ yX3_copyTo.cls ≠ "java/lang/invoke/MethodHandle" ∧ yX3_copyTo.cls ≠ "java/lang/invoke/VarHandle" ∧ (parseMethodDescriptor yX3_copyTo.desc).map (fun d => d.parameters.length) = some 1 := by decide +kernel
set_option maxHeartbeats 4000000 in
set_option maxRecDepth 100000 in
theorem c_X3_copyTo (l : Launch) (D : va_G) (cI cZ cQ : ClassId) (rF : Nat → Nat) (SF : St) (q : Nat) (f : Nat → Int32) : Cv l yX3_copyTo wsX3_copyTo { frames := 1, cells := 0, slots := 0, locals := 40 } D (tyL cI cZ cQ) [.ref (rF 0), .ref q] (fl [wX3 cI cZ cQ rF SF, [(q, .inl (cI, 35, .inl f))]]) (fl [wX3 cI cZ cQ rF SF, [(q, .inl (cI, 35, .inl (cp35 (SF.2 0) f)))]]) := by
  refine cv_of (cc := cX3_copyTo) (nL := 2) (lv0 := [(0, .ref (rF 0)), (1, .ref q)]) (by decide) rfl (Nat.le_of_ble_eq_true rfl) rfl ?_
  intro p e s m args below meth c A X hr
  refine ww_aload_n (pc := 0) X dX3_copyTo_0 0 rfl rfl ?_
  refine ww_get (pc := 1) (ci := 3) (v := .ref (rF 1)) (C := RX3) (T := TX3) (N := 1) X inX3_copyTo_3 0 rfl rfl 0 (by decide) (by decide +kernel) rfl dX3_copyTo_1 ?_
  refine ww_iconst (pc := 4) (v := 0) X dX3_copyTo_4 (by decide) ?_
  refine ww_aload_n (pc := 5) X dX3_copyTo_5 1 rfl rfl ?_
  refine ww_iconst (pc := 6) (v := 0) X dX3_copyTo_6 (by decide) ?_
  refine ww_bipush (pc := 7) (v := 35) X dX3_copyTo_7 (by decide) ?_
  refine ww_aload_n (pc := 9) X dX3_copyTo_9 1 rfl rfl ?_
  refine ww_alen (pc := 10) (v := 35) X 2 0 rfl rfl rfl dX3_copyTo_10 ?_
  refine ww_mmin (pc := 11) X (by decide +kernel) (by decide +kernel) (by decide +kernel) (by decide +kernel) (Nat.le_of_ble_eq_true rfl) (Nat.le_of_ble_eq_true rfl) (Nat.zero_le _) (Nat.zero_le _) dX3_copyTo_11 ?_
  refine ww_copyi (pc := 14) (n := 35) (ws'' := fl [wX3 cI cZ cQ rF SF, [(q, .inl (cI, 35, .inl (cp35 (SF.2 0) f)))]]) X (by decide +kernel) (by decide +kernel) (by decide +kernel) (by decide +kernel) 1 2 0 0 rfl rfl rfl rfl (by decide) (by decide) (by decide) (by decide) (by decide) (Nat.le_of_ble_eq_true rfl) (Nat.le_of_ble_eq_true rfl) rfl dX3_copyTo_14 ?_
  exact ww_vret X hr rfl dX3_copyTo_17
theorem inX3_copyFrom_3 : ∀ w ∈ wsX30, w ∈ wsX3_copyFrom := by decide +kernel
theorem hd_X3_copyFrom : yX3_copyFrom.cls = RX3 ∧ yX3_copyFrom.cls ≠ "java/lang/invoke/MethodHandle" ∧ yX3_copyFrom.cls ≠ "java/lang/invoke/VarHandle" ∧ (parseMethodDescriptor yX3_copyFrom.desc).map (fun d => d.parameters.length) = some 1 := by decide +kernel
set_option maxHeartbeats 4000000 in
set_option maxRecDepth 100000 in
theorem c_X3_copyFrom (l : Launch) (D : va_G) (cI cZ cQ : ClassId) (rF : Nat → Nat) (SF : St) (q : Nat) (f : Nat → Int32) : Cv l yX3_copyFrom wsX3_copyFrom { frames := 1, cells := 0, slots := 0, locals := 40 } D (tyL cI cZ cQ) [.ref (rF 0), .ref q] (fl [wX3 cI cZ cQ rF SF, [(q, .inl (cI, 35, .inl f))]]) (fl [wX3 cI cZ cQ rF (sA SF 0 (cp35 f (SF.2 0))), [(q, .inl (cI, 35, .inl f))]]) := by
  refine cv_of (cc := cX3_copyFrom) (nL := 2) (lv0 := [(0, .ref (rF 0)), (1, .ref q)]) (by decide) rfl (Nat.le_of_ble_eq_true rfl) rfl ?_
  intro p e s m args below meth c A X hr
  refine ww_aload_n (pc := 0) X dX3_copyFrom_0 1 rfl rfl ?_
  refine ww_iconst (pc := 1) (v := 0) X dX3_copyFrom_1 (by decide) ?_
  refine ww_aload_n (pc := 2) X dX3_copyFrom_2 0 rfl rfl ?_
  refine ww_get (pc := 3) (ci := 3) (v := .ref (rF 1)) (C := RX3) (T := TX3) (N := 1) X inX3_copyFrom_3 0 rfl rfl 0 (by decide) (by decide +kernel) rfl dX3_copyFrom_3 ?_
  refine ww_iconst (pc := 6) (v := 0) X dX3_copyFrom_6 (by decide) ?_
  refine ww_bipush (pc := 7) (v := 35) X dX3_copyFrom_7 (by decide) ?_
  refine ww_aload_n (pc := 9) X dX3_copyFrom_9 1 rfl rfl ?_
  refine ww_alen (pc := 10) (v := 35) X 2 0 rfl rfl rfl dX3_copyFrom_10 ?_
  refine ww_mmin (pc := 11) X (by decide +kernel) (by decide +kernel) (by decide +kernel) (by decide +kernel) (Nat.le_of_ble_eq_true rfl) (Nat.le_of_ble_eq_true rfl) (Nat.zero_le _) (Nat.zero_le _) dX3_copyFrom_11 ?_
  refine ww_copyi (pc := 14) (n := 35) (ws'' := fl [wX3 cI cZ cQ rF (sA SF 0 (cp35 f (SF.2 0))), [(q, .inl (cI, 35, .inl f))]]) X (by decide +kernel) (by decide +kernel) (by decide +kernel) (by decide +kernel) 2 1 0 0 rfl rfl rfl rfl (by decide) (by decide) (by decide) (by decide) (by decide) (Nat.le_of_ble_eq_true rfl) (Nat.le_of_ble_eq_true rfl) rfl dX3_copyFrom_14 ?_
  exact ww_vret X hr rfl dX3_copyFrom_17
def f_X4_remember (SF : St) (SP : St) : St :=
  (sI (sI (sA SP (0 + (SP.1 0 : Int32).toNatClampNeg) (cp35 (SF.2 0) (SP.2 (0 + (SP.1 0 : Int32).toNatClampNeg)))) 0 ((((sA SP (0 + (SP.1 0 : Int32).toNatClampNeg) (cp35 (SF.2 0) (SP.2 (0 + (SP.1 0 : Int32).toNatClampNeg)))).1 0) + 1) - (((sA SP (0 + (SP.1 0 : Int32).toNatClampNeg) (cp35 (SF.2 0) (SP.2 (0 + (SP.1 0 : Int32).toNatClampNeg)))).1 0) + 1) / 20 * 20)) 1 (if 20 < (((sA SP (0 + (SP.1 0 : Int32).toNatClampNeg) (cp35 (SF.2 0) (SP.2 (0 + (SP.1 0 : Int32).toNatClampNeg)))).1 1) + 1) then 20 else (((sA SP (0 + (SP.1 0 : Int32).toNatClampNeg) (cp35 (SF.2 0) (SP.2 (0 + (SP.1 0 : Int32).toNatClampNeg)))).1 1) + 1)))
theorem inX4_remember_4 : ∀ w ∈ wsX40, w ∈ wsX4_remember := by decide +kernel
theorem hd_X4_remember : yX4_remember.cls = RX4 ∧ yX4_remember.cls ≠ "java/lang/invoke/MethodHandle" ∧ yX4_remember.cls ≠ "java/lang/invoke/VarHandle" ∧ (parseMethodDescriptor yX4_remember.desc).map (fun d => d.parameters.length) = some 1 := by decide +kernel
set_option maxHeartbeats 4000000 in
set_option maxRecDepth 100000 in
theorem c_X4_remember (l : Launch) (D : va_G) (cI cZ cQ : ClassId) (rF : Nat → Nat) (rP : Nat → Nat) (SF : St) (SP : St) (okP : vp_in (SP.1 0) 20) : Cv l yX4_remember wsX4_remember { frames := 2, cells := 0, slots := 0, locals := 61 } D (tyL cI cZ cQ) [.ref (rP 0), .ref (rF 0)] (fl [wX3 cI cZ cQ rF SF, wX4 cI cZ cQ rP SP]) (fl [wX3 cI cZ cQ rF SF, wX4 cI cZ cQ rP (f_X4_remember SF SP)]) := by
  refine cv_of (cc := cX4_remember) (nL := 2) (lv0 := [(0, .ref (rP 0)), (1, .ref (rF 0))]) (by decide) rfl (Nat.le_of_ble_eq_true rfl) rfl ?_
  intro p e s m args below meth c A X hr
  refine ww_aload_n (pc := 0) X dX4_remember_0 1 rfl rfl ?_
  refine ww_aload_n (pc := 1) X dX4_remember_1 0 rfl rfl ?_
  refine ww_get (pc := 2) (ci := 4) (v := .ref (rP 1)) (C := RX4) (T := TX4) (N := 3) X inX4_remember_4 2 rfl rfl 0 (by decide) (by decide +kernel) rfl dX4_remember_2 ?_
  refine ww_aload_n (pc := 5) X dX4_remember_5 0 rfl rfl ?_
  refine ww_get (pc := 6) (ci := 4) (v := .int (SP.1 0)) (C := RX4) (T := TX4) (N := 3) X inX4_remember_4 2 rfl rfl 1 (by decide) (by decide +kernel) rfl dX4_remember_6 ?_
  have hb1 := clb okP
  refine ww_aald (pc := 9) (q := rP (2 + (SP.1 0 : Int32).toNatClampNeg)) X 3 2 rfl rfl (vn (m := (SP.1 0 : Int32).toNatClampNeg) (cl_of okP) (by omega) (by decide)) (aq (k := (SP.1 0 : Int32).toNatClampNeg) (cl_of okP) (by omega)) dX4_remember_9 ?_
  refine ww_cVv (rest := []) (wsN := fl [wX3 cI cZ cQ rF SF, wX4 cI cZ cQ rP (sA SP (0 + (SP.1 0 : Int32).toNatClampNeg) (cp35 (SF.2 0) (SP.2 (0 + (SP.1 0 : Int32).toNatClampNeg))))]) (ci := 3) (q0 := 0) X (c_X3_copyTo l D cI cZ cQ rF SF (rP (2 + (SP.1 0 : Int32).toNatClampNeg)) (SP.2 (0 + (SP.1 0 : Int32).toNatClampNeg))) gX4_remember_X3_copyTo rfl hd_X3_copyTo [0, 1, 4 + (SP.1 0 : Int32).toNatClampNeg] (c20_ (P := fun k9 => ([0, 1, 4 + k9]).map (fun i => (fl [wX3 cI cZ cQ rF SF, wX4 cI cZ cQ rP SP] : va_W)[i]?) = (fl [wX3 cI cZ cQ rF SF, [(rP (2 + k9), .inl (cI, 35, .inl (SP.2 (0 + k9))))]] : va_W).map some) rfl rfl rfl rfl rfl rfl rfl rfl rfl rfl rfl rfl rfl rfl rfl rfl rfl rfl rfl rfl (by omega)) (c20_ (P := fun k9 => va_nd [0, 1, 4 + k9] = true) rfl rfl rfl rfl rfl rfl rfl rfl rfl rfl rfl rfl rfl rfl rfl rfl rfl rfl rfl rfl (by omega)) rfl (c20_ (P := fun k9 => wput (fl [wX3 cI cZ cQ rF SF, wX4 cI cZ cQ rP SP]) [0, 1, 4 + k9] (fl [wX3 cI cZ cQ rF SF, [(rP (2 + k9), .inl (cI, 35, .inl (cp35 (SF.2 0) (SP.2 (0 + k9)))))]]) = fl [wX3 cI cZ cQ rF SF, wX4 cI cZ cQ rP (sA SP (0 + k9) (cp35 (SF.2 0) (SP.2 (0 + k9))))]) rfl rfl rfl rfl rfl rfl rfl rfl rfl rfl rfl rfl rfl rfl rfl rfl rfl rfl rfl rfl (by omega)) rfl rfl rfl rfl ⟨rfl, rfl⟩ ⟨Nat.le_of_ble_eq_true rfl, Nat.le_of_ble_eq_true rfl⟩ (Nat.le_of_ble_eq_true rfl) ⟨Nat.zero_le _, Nat.zero_le _⟩ dX4_remember_10 ?_
  refine ww_aload_n (pc := 13) X dX4_remember_13 0 rfl rfl ?_
  refine ww_aload_n (pc := 14) X dX4_remember_14 0 rfl rfl ?_
  refine ww_get (pc := 15) (ci := 4) (v := .int ((sA SP (0 + (SP.1 0 : Int32).toNatClampNeg) (cp35 (SF.2 0) (SP.2 (0 + (SP.1 0 : Int32).toNatClampNeg)))).1 0)) (C := RX4) (T := TX4) (N := 3) X inX4_remember_4 2 rfl rfl 1 (by decide) (by decide +kernel) rfl dX4_remember_15 ?_
  refine ww_iconst (pc := 18) (v := 1) X dX4_remember_18 (by decide) ?_
  refine ww_iadd (pc := 19) X dX4_remember_19 ?_
  refine ww_bipush (pc := 20) (v := 20) X dX4_remember_20 (by decide) ?_
  refine ww_irem (pc := 22) X dX4_remember_22 (by decide) ?_
  refine ww_put (pc := 23) (ci := 4) (v := .int ((((sA SP (0 + (SP.1 0 : Int32).toNatClampNeg) (cp35 (SF.2 0) (SP.2 (0 + (SP.1 0 : Int32).toNatClampNeg)))).1 0) + 1) - (((sA SP (0 + (SP.1 0 : Int32).toNatClampNeg) (cp35 (SF.2 0) (SP.2 (0 + (SP.1 0 : Int32).toNatClampNeg)))).1 0) + 1) / 20 * 20)) (C := RX4) (T := TX4) (N := 3) (ws' := fl [wX3 cI cZ cQ rF SF, wX4 cI cZ cQ rP (sI (sA SP (0 + (SP.1 0 : Int32).toNatClampNeg) (cp35 (SF.2 0) (SP.2 (0 + (SP.1 0 : Int32).toNatClampNeg)))) 0 ((((sA SP (0 + (SP.1 0 : Int32).toNatClampNeg) (cp35 (SF.2 0) (SP.2 (0 + (SP.1 0 : Int32).toNatClampNeg)))).1 0) + 1) - (((sA SP (0 + (SP.1 0 : Int32).toNatClampNeg) (cp35 (SF.2 0) (SP.2 (0 + (SP.1 0 : Int32).toNatClampNeg)))).1 0) + 1) / 20 * 20))]) X inX4_remember_4 tyX4 tyX4_ok nmX4 2 rfl rfl 1 (by decide) (by decide +kernel) rfl rfl rfl (Nat.le_of_ble_eq_true rfl) rfl dX4_remember_23 ?_
  refine ww_aload_n (pc := 26) X dX4_remember_26 0 rfl rfl ?_
  refine ww_aload_n (pc := 27) X dX4_remember_27 0 rfl rfl ?_
  refine ww_get (pc := 28) (ci := 4) (v := .int ((sA SP (0 + (SP.1 0 : Int32).toNatClampNeg) (cp35 (SF.2 0) (SP.2 (0 + (SP.1 0 : Int32).toNatClampNeg)))).1 1)) (C := RX4) (T := TX4) (N := 3) X inX4_remember_4 2 rfl rfl 2 (by decide) (by decide +kernel) rfl dX4_remember_28 ?_
  refine ww_iconst (pc := 31) (v := 1) X dX4_remember_31 (by decide) ?_
  refine ww_iadd (pc := 32) X dX4_remember_32 ?_
  refine ww_bipush (pc := 33) (v := 20) X dX4_remember_33 (by decide) ?_
  refine ww_mmin (pc := 35) X (by decide +kernel) (by decide +kernel) (by decide +kernel) (by decide +kernel) (Nat.le_of_ble_eq_true rfl) (Nat.le_of_ble_eq_true rfl) (Nat.zero_le _) (Nat.zero_le _) dX4_remember_35 ?_
  refine ww_put (pc := 38) (ci := 4) (v := .int (if 20 < (((sA SP (0 + (SP.1 0 : Int32).toNatClampNeg) (cp35 (SF.2 0) (SP.2 (0 + (SP.1 0 : Int32).toNatClampNeg)))).1 1) + 1) then 20 else (((sA SP (0 + (SP.1 0 : Int32).toNatClampNeg) (cp35 (SF.2 0) (SP.2 (0 + (SP.1 0 : Int32).toNatClampNeg)))).1 1) + 1))) (C := RX4) (T := TX4) (N := 3) (ws' := fl [wX3 cI cZ cQ rF SF, wX4 cI cZ cQ rP (sI (sI (sA SP (0 + (SP.1 0 : Int32).toNatClampNeg) (cp35 (SF.2 0) (SP.2 (0 + (SP.1 0 : Int32).toNatClampNeg)))) 0 ((((sA SP (0 + (SP.1 0 : Int32).toNatClampNeg) (cp35 (SF.2 0) (SP.2 (0 + (SP.1 0 : Int32).toNatClampNeg)))).1 0) + 1) - (((sA SP (0 + (SP.1 0 : Int32).toNatClampNeg) (cp35 (SF.2 0) (SP.2 (0 + (SP.1 0 : Int32).toNatClampNeg)))).1 0) + 1) / 20 * 20)) 1 (if 20 < (((sA SP (0 + (SP.1 0 : Int32).toNatClampNeg) (cp35 (SF.2 0) (SP.2 (0 + (SP.1 0 : Int32).toNatClampNeg)))).1 1) + 1) then 20 else (((sA SP (0 + (SP.1 0 : Int32).toNatClampNeg) (cp35 (SF.2 0) (SP.2 (0 + (SP.1 0 : Int32).toNatClampNeg)))).1 1) + 1)))]) X inX4_remember_4 tyX4 tyX4_ok nmX4 2 rfl rfl 2 (by decide) (by decide +kernel) rfl rfl rfl (Nat.le_of_ble_eq_true rfl) rfl dX4_remember_38 ?_
  have h2 : f_X4_remember SF SP = (sI (sI (sA SP (0 + (SP.1 0 : Int32).toNatClampNeg) (cp35 (SF.2 0) (SP.2 (0 + (SP.1 0 : Int32).toNatClampNeg)))) 0 ((((sA SP (0 + (SP.1 0 : Int32).toNatClampNeg) (cp35 (SF.2 0) (SP.2 (0 + (SP.1 0 : Int32).toNatClampNeg)))).1 0) + 1) - (((sA SP (0 + (SP.1 0 : Int32).toNatClampNeg) (cp35 (SF.2 0) (SP.2 (0 + (SP.1 0 : Int32).toNatClampNeg)))).1 0) + 1) / 20 * 20)) 1 (if 20 < (((sA SP (0 + (SP.1 0 : Int32).toNatClampNeg) (cp35 (SF.2 0) (SP.2 (0 + (SP.1 0 : Int32).toNatClampNeg)))).1 1) + 1) then 20 else (((sA SP (0 + (SP.1 0 : Int32).toNatClampNeg) (cp35 (SF.2 0) (SP.2 (0 + (SP.1 0 : Int32).toNatClampNeg)))).1 1) + 1))) := by unfold f_X4_remember; first | done | rfl
  exact ww_vret X hr (congrArg (fun u9 : St => fl [wX3 cI cZ cQ rF SF, wX4 cI cZ cQ rP u9]) h2.symm) dX4_remember_41
def f_X4_bringBack (SF : St) (SP : St) : St × St :=
  if (SP.1 1) ≤ 0 then
    (SF, SP)
  else
    ((sA SF 0 (cp35 ((sI (sI SP 0 ((((SP.1 0) + 20) - 1) - (((SP.1 0) + 20) - 1) / 20 * 20)) 1 ((SP.1 1) - 1)).2 (0 + ((((SP.1 0) + 20) - 1) - (((SP.1 0) + 20) - 1) / 20 * 20 : Int32).toNatClampNeg)) (SF.2 0))), (sI (sI SP 0 ((((SP.1 0) + 20) - 1) - (((SP.1 0) + 20) - 1) / 20 * 20)) 1 ((SP.1 1) - 1)))
theorem inX4_bringBack_4 : ∀ w ∈ wsX40, w ∈ wsX4_bringBack := by decide +kernel
theorem hd_X4_bringBack : yX4_bringBack.cls = RX4 ∧ yX4_bringBack.cls ≠ "java/lang/invoke/MethodHandle" ∧ yX4_bringBack.cls ≠ "java/lang/invoke/VarHandle" ∧ (parseMethodDescriptor yX4_bringBack.desc).map (fun d => d.parameters.length) = some 1 := by decide +kernel
set_option maxHeartbeats 4000000 in
set_option maxRecDepth 100000 in
theorem c_X4_bringBack (l : Launch) (D : va_G) (cI cZ cQ : ClassId) (rF : Nat → Nat) (rP : Nat → Nat) (SF : St) (SP : St) (okP : vp_in (SP.1 0) 20) : Cv l yX4_bringBack wsX4_bringBack { frames := 2, cells := 0, slots := 0, locals := 61 } D (tyL cI cZ cQ) [.ref (rP 0), .ref (rF 0)] (fl [wX3 cI cZ cQ rF SF, wX4 cI cZ cQ rP SP]) (fl [wX3 cI cZ cQ rF ((f_X4_bringBack SF SP).1), wX4 cI cZ cQ rP ((f_X4_bringBack SF SP).2)]) := by
  refine cv_of (cc := cX4_bringBack) (nL := 2) (lv0 := [(0, .ref (rP 0)), (1, .ref (rF 0))]) (by decide) rfl (Nat.le_of_ble_eq_true rfl) rfl ?_
  intro p e s m args below meth c A X hr
  refine ww_aload_n (pc := 0) X dX4_bringBack_0 0 rfl rfl ?_
  refine ww_get (pc := 1) (ci := 4) (v := .int (SP.1 1)) (C := RX4) (T := TX4) (N := 3) X inX4_bringBack_4 2 rfl rfl 2 (by decide) (by decide +kernel) rfl dX4_bringBack_1 ?_
  refine ww_if_le (pc := 4) (tgt := 46) X dX4_bringBack_4 (by decide) (fun c1 => ?_) (fun c1 => ?_)
  · have h2 : f_X4_bringBack SF SP = (SF, SP) := by unfold f_X4_bringBack; try rw [if_pos c1]; first | done | rfl
    exact ww_vret X hr (congrArg (fun u9 : St × St => fl [wX3 cI cZ cQ rF u9.1, wX4 cI cZ cQ rP u9.2]) h2.symm) dX4_bringBack_46
  · refine ww_aload_n (pc := 7) X dX4_bringBack_7 0 rfl rfl ?_
    refine ww_aload_n (pc := 8) X dX4_bringBack_8 0 rfl rfl ?_
    refine ww_get (pc := 9) (ci := 4) (v := .int (SP.1 0)) (C := RX4) (T := TX4) (N := 3) X inX4_bringBack_4 2 rfl rfl 1 (by decide) (by decide +kernel) rfl dX4_bringBack_9 ?_
    refine ww_bipush (pc := 12) (v := 20) X dX4_bringBack_12 (by decide) ?_
    have hb3 := clb okP
    refine ww_iadd (pc := 14) X dX4_bringBack_14 ?_
    refine ww_iconst (pc := 15) (v := 1) X dX4_bringBack_15 (by decide) ?_
    refine ww_isub (pc := 16) X dX4_bringBack_16 ?_
    refine ww_bipush (pc := 17) (v := 20) X dX4_bringBack_17 (by decide) ?_
    refine ww_irem (pc := 19) X dX4_bringBack_19 (by decide) ?_
    refine ww_put (pc := 20) (ci := 4) (v := .int ((((SP.1 0) + 20) - 1) - (((SP.1 0) + 20) - 1) / 20 * 20)) (C := RX4) (T := TX4) (N := 3) (ws' := fl [wX3 cI cZ cQ rF SF, wX4 cI cZ cQ rP (sI SP 0 ((((SP.1 0) + 20) - 1) - (((SP.1 0) + 20) - 1) / 20 * 20))]) X inX4_bringBack_4 tyX4 tyX4_ok nmX4 2 rfl rfl 1 (by decide) (by decide +kernel) rfl rfl rfl (Nat.le_of_ble_eq_true rfl) rfl dX4_bringBack_20 ?_
    refine ww_aload_n (pc := 23) X dX4_bringBack_23 0 rfl rfl ?_
    refine ww_dup (pc := 24) X dX4_bringBack_24 rfl ?_
    refine ww_get (pc := 25) (ci := 4) (v := .int (SP.1 1)) (C := RX4) (T := TX4) (N := 3) X inX4_bringBack_4 2 rfl rfl 2 (by decide) (by decide +kernel) rfl dX4_bringBack_25 ?_
    refine ww_iconst (pc := 28) (v := 1) X dX4_bringBack_28 (by decide) ?_
    refine ww_isub (pc := 29) X dX4_bringBack_29 ?_
    refine ww_put (pc := 30) (ci := 4) (v := .int ((SP.1 1) - 1)) (C := RX4) (T := TX4) (N := 3) (ws' := fl [wX3 cI cZ cQ rF SF, wX4 cI cZ cQ rP (sI (sI SP 0 ((((SP.1 0) + 20) - 1) - (((SP.1 0) + 20) - 1) / 20 * 20)) 1 ((SP.1 1) - 1))]) X inX4_bringBack_4 tyX4 tyX4_ok nmX4 2 rfl rfl 2 (by decide) (by decide +kernel) rfl rfl rfl (Nat.le_of_ble_eq_true rfl) rfl dX4_bringBack_30 ?_
    refine ww_aload_n (pc := 33) X dX4_bringBack_33 1 rfl rfl ?_
    refine ww_aload_n (pc := 34) X dX4_bringBack_34 0 rfl rfl ?_
    refine ww_get (pc := 35) (ci := 4) (v := .ref (rP 1)) (C := RX4) (T := TX4) (N := 3) X inX4_bringBack_4 2 rfl rfl 0 (by decide) (by decide +kernel) rfl dX4_bringBack_35 ?_
    refine ww_aload_n (pc := 38) X dX4_bringBack_38 0 rfl rfl ?_
    refine ww_get (pc := 39) (ci := 4) (v := .int ((((SP.1 0) + 20) - 1) - (((SP.1 0) + 20) - 1) / 20 * 20)) (C := RX4) (T := TX4) (N := 3) X inX4_bringBack_4 2 rfl rfl 1 (by decide) (by decide +kernel) rfl dX4_bringBack_39 ?_
    have hb4 := clb (pb_in okP)
    refine ww_aald (pc := 42) (q := rP (2 + ((((SP.1 0) + 20) - 1) - (((SP.1 0) + 20) - 1) / 20 * 20 : Int32).toNatClampNeg)) X 3 2 rfl rfl (vn (m := ((((SP.1 0) + 20) - 1) - (((SP.1 0) + 20) - 1) / 20 * 20 : Int32).toNatClampNeg) (cl_of (pb_in okP)) (by omega) (by decide)) (aq (k := ((((SP.1 0) + 20) - 1) - (((SP.1 0) + 20) - 1) / 20 * 20 : Int32).toNatClampNeg) (cl_of (pb_in okP)) (by omega)) dX4_bringBack_42 ?_
    refine ww_cVv (rest := []) (wsN := fl [wX3 cI cZ cQ rF (sA SF 0 (cp35 ((sI (sI SP 0 ((((SP.1 0) + 20) - 1) - (((SP.1 0) + 20) - 1) / 20 * 20)) 1 ((SP.1 1) - 1)).2 (0 + ((((SP.1 0) + 20) - 1) - (((SP.1 0) + 20) - 1) / 20 * 20 : Int32).toNatClampNeg)) (SF.2 0))), wX4 cI cZ cQ rP (sI (sI SP 0 ((((SP.1 0) + 20) - 1) - (((SP.1 0) + 20) - 1) / 20 * 20)) 1 ((SP.1 1) - 1))]) (ci := 3) (q0 := 0) X (c_X3_copyFrom l D cI cZ cQ rF SF (rP (2 + ((((SP.1 0) + 20) - 1) - (((SP.1 0) + 20) - 1) / 20 * 20 : Int32).toNatClampNeg)) ((sI (sI SP 0 ((((SP.1 0) + 20) - 1) - (((SP.1 0) + 20) - 1) / 20 * 20)) 1 ((SP.1 1) - 1)).2 (0 + ((((SP.1 0) + 20) - 1) - (((SP.1 0) + 20) - 1) / 20 * 20 : Int32).toNatClampNeg))) gX4_bringBack_X3_copyFrom rfl hd_X3_copyFrom [0, 1, 4 + ((((SP.1 0) + 20) - 1) - (((SP.1 0) + 20) - 1) / 20 * 20 : Int32).toNatClampNeg] (c20_ (P := fun k9 => ([0, 1, 4 + k9]).map (fun i => (fl [wX3 cI cZ cQ rF SF, wX4 cI cZ cQ rP (sI (sI SP 0 ((((SP.1 0) + 20) - 1) - (((SP.1 0) + 20) - 1) / 20 * 20)) 1 ((SP.1 1) - 1))] : va_W)[i]?) = (fl [wX3 cI cZ cQ rF SF, [(rP (2 + k9), .inl (cI, 35, .inl ((sI (sI SP 0 ((((SP.1 0) + 20) - 1) - (((SP.1 0) + 20) - 1) / 20 * 20)) 1 ((SP.1 1) - 1)).2 (0 + k9))))]] : va_W).map some) rfl rfl rfl rfl rfl rfl rfl rfl rfl rfl rfl rfl rfl rfl rfl rfl rfl rfl rfl rfl (by omega)) (c20_ (P := fun k9 => va_nd [0, 1, 4 + k9] = true) rfl rfl rfl rfl rfl rfl rfl rfl rfl rfl rfl rfl rfl rfl rfl rfl rfl rfl rfl rfl (by omega)) rfl (c20_ (P := fun k9 => wput (fl [wX3 cI cZ cQ rF SF, wX4 cI cZ cQ rP (sI (sI SP 0 ((((SP.1 0) + 20) - 1) - (((SP.1 0) + 20) - 1) / 20 * 20)) 1 ((SP.1 1) - 1))]) [0, 1, 4 + k9] (fl [wX3 cI cZ cQ rF (sA SF 0 (cp35 ((sI (sI SP 0 ((((SP.1 0) + 20) - 1) - (((SP.1 0) + 20) - 1) / 20 * 20)) 1 ((SP.1 1) - 1)).2 (0 + k9)) (SF.2 0))), [(rP (2 + k9), .inl (cI, 35, .inl ((sI (sI SP 0 ((((SP.1 0) + 20) - 1) - (((SP.1 0) + 20) - 1) / 20 * 20)) 1 ((SP.1 1) - 1)).2 (0 + k9))))]]) = fl [wX3 cI cZ cQ rF (sA SF 0 (cp35 ((sI (sI SP 0 ((((SP.1 0) + 20) - 1) - (((SP.1 0) + 20) - 1) / 20 * 20)) 1 ((SP.1 1) - 1)).2 (0 + k9)) (SF.2 0))), wX4 cI cZ cQ rP (sI (sI SP 0 ((((SP.1 0) + 20) - 1) - (((SP.1 0) + 20) - 1) / 20 * 20)) 1 ((SP.1 1) - 1))]) rfl rfl rfl rfl rfl rfl rfl rfl rfl rfl rfl rfl rfl rfl rfl rfl rfl rfl rfl rfl (by omega)) rfl rfl rfl rfl ⟨rfl, rfl⟩ ⟨Nat.le_of_ble_eq_true rfl, Nat.le_of_ble_eq_true rfl⟩ (Nat.le_of_ble_eq_true rfl) ⟨Nat.zero_le _, Nat.zero_le _⟩ dX4_bringBack_43 ?_
    have h5 : f_X4_bringBack SF SP = ((sA SF 0 (cp35 ((sI (sI SP 0 ((((SP.1 0) + 20) - 1) - (((SP.1 0) + 20) - 1) / 20 * 20)) 1 ((SP.1 1) - 1)).2 (0 + ((((SP.1 0) + 20) - 1) - (((SP.1 0) + 20) - 1) / 20 * 20 : Int32).toNatClampNeg)) (SF.2 0))), (sI (sI SP 0 ((((SP.1 0) + 20) - 1) - (((SP.1 0) + 20) - 1) / 20 * 20)) 1 ((SP.1 1) - 1))) := by unfold f_X4_bringBack; try rw [if_neg c1]; first | done | rfl
    exact ww_vret X hr (congrArg (fun u9 : St × St => fl [wX3 cI cZ cQ rF u9.1, wX4 cI cZ cQ rP u9.2]) h5.symm) dX4_bringBack_46
def f_X2_put (SF : St) (SI : St) (x1 : Int32) (x3 : Int32) : St :=
  if (f_X2_hasPlace SI x1) = 0 then
    SI
  else
    (sA (sA (sA SI (2 + (x1 : Int32).toNatClampNeg) (cp35 (SF.2 0) (SI.2 (2 + (x1 : Int32).toNatClampNeg)))) 0 (upd ((sA SI (2 + (x1 : Int32).toNatClampNeg) (cp35 (SF.2 0) (SI.2 (2 + (x1 : Int32).toNatClampNeg)))).2 0) ((x1 : Int32)).toNatClampNeg x3)) 1 (upd ((sA SI (2 + (x1 : Int32).toNatClampNeg) (cp35 (SF.2 0) (SI.2 (2 + (x1 : Int32).toNatClampNeg)))).2 1) ((x1 : Int32)).toNatClampNeg 1))
theorem inX2_put_2 : ∀ w ∈ wsX20, w ∈ wsX2_put := by decide +kernel
theorem hd_X2_put : yX2_put.cls = RX2 ∧ yX2_put.cls ≠ "java/lang/invoke/MethodHandle" ∧ yX2_put.cls ≠ "java/lang/invoke/VarHandle" ∧ (parseMethodDescriptor yX2_put.desc).map (fun d => d.parameters.length) = some 3 := by decide +kernel
set_option maxHeartbeats 4000000 in
set_option maxRecDepth 100000 in
theorem c_X2_put (l : Launch) (D : va_G) (cI cZ cQ : ClassId) (rF : Nat → Nat) (rI : Nat → Nat) (SF : St) (SI : St) (x1 : Int32) (x3 : Int32) : Cv l yX2_put wsX2_put { frames := 2, cells := 0, slots := 0, locals := 61 } D (tyL cI cZ cQ) [.ref (rI 0), .int x1, .ref (rF 0), .int x3] (fl [wX3 cI cZ cQ rF SF, wX2 cI cZ cQ rI SI]) (fl [wX3 cI cZ cQ rF SF, wX2 cI cZ cQ rI (f_X2_put SF SI x1 x3)]) := by
  refine cv_of (cc := cX2_put) (nL := 4) (lv0 := [(0, .ref (rI 0)), (1, .int x1), (2, .ref (rF 0)), (3, .int x3)]) (by decide) rfl (Nat.le_of_ble_eq_true rfl) rfl ?_
  intro p e s m args below meth c A X hr
  refine ww_aload_n (pc := 0) X dX2_put_0 0 rfl rfl ?_
  refine ww_iload_n (pc := 1) X dX2_put_1 1 rfl rfl ?_
  refine ww_gVi (pc := 2) (rest := []) (gsN := [wX3 cI cZ cQ rF SF, wX2 cI cZ cQ rI SI]) (ci := 2) (gi := 0) (qi := 0) X (c_X2_hasPlace l D cI cZ cQ rI SI x1) gX2_put_X2_hasPlace rfl hd_X2_hasPlace [false, true] rfl rfl rfl rfl rfl rfl rfl rfl ⟨rfl, rfl⟩ ⟨Nat.le_of_ble_eq_true rfl, Nat.le_of_ble_eq_true rfl⟩ (Nat.le_of_ble_eq_true rfl) ⟨Nat.zero_le _, Nat.zero_le _⟩ dX2_put_2 ?_
  refine ww_if_eq (pc := 5) (tgt := 32) X dX2_put_5 (by decide) (fun c1 => ?_) (fun c1 => ?_)
  · have h2 : f_X2_put SF SI x1 x3 = SI := by unfold f_X2_put; try rw [if_pos c1]; first | done | rfl
    exact ww_vret X hr (congrArg (fun u9 : St => fl [wX3 cI cZ cQ rF SF, wX2 cI cZ cQ rI u9]) h2.symm) dX2_put_32
  · refine ww_aload_n (pc := 8) X dX2_put_8 2 rfl rfl ?_
    refine ww_aload_n (pc := 9) X dX2_put_9 0 rfl rfl ?_
    refine ww_get (pc := 10) (ci := 2) (v := .ref (rI 1)) (C := RX2) (T := TX2) (N := 3) X inX2_put_2 2 rfl rfl 0 (by decide) (by decide +kernel) rfl dX2_put_10 ?_
    refine ww_iload_n (pc := 13) X dX2_put_13 1 rfl rfl ?_
    have hb3 := clb (in_X2_hasPlace c1)
    refine ww_aald (pc := 14) (q := rI (4 + (x1 : Int32).toNatClampNeg)) X 3 2 rfl rfl (vn (m := (x1 : Int32).toNatClampNeg) (cl_of (in_X2_hasPlace c1)) (by omega) (by decide)) (aq (k := (x1 : Int32).toNatClampNeg) (cl_of (in_X2_hasPlace c1)) (by omega)) dX2_put_14 ?_
    refine ww_cVv (rest := []) (wsN := fl [wX3 cI cZ cQ rF SF, wX2 cI cZ cQ rI (sA SI (2 + (x1 : Int32).toNatClampNeg) (cp35 (SF.2 0) (SI.2 (2 + (x1 : Int32).toNatClampNeg))))]) (ci := 3) (q0 := 0) X (c_X3_copyTo l D cI cZ cQ rF SF (rI (4 + (x1 : Int32).toNatClampNeg)) (SI.2 (2 + (x1 : Int32).toNatClampNeg))) gX2_put_X3_copyTo rfl hd_X3_copyTo [0, 1, 6 + (x1 : Int32).toNatClampNeg] (c2_ (P := fun k9 => ([0, 1, 6 + k9]).map (fun i => (fl [wX3 cI cZ cQ rF SF, wX2 cI cZ cQ rI SI] : va_W)[i]?) = (fl [wX3 cI cZ cQ rF SF, [(rI (4 + k9), .inl (cI, 35, .inl (SI.2 (2 + k9))))]] : va_W).map some) rfl rfl (by omega)) (c2_ (P := fun k9 => va_nd [0, 1, 6 + k9] = true) rfl rfl (by omega)) rfl (c2_ (P := fun k9 => wput (fl [wX3 cI cZ cQ rF SF, wX2 cI cZ cQ rI SI]) [0, 1, 6 + k9] (fl [wX3 cI cZ cQ rF SF, [(rI (4 + k9), .inl (cI, 35, .inl (cp35 (SF.2 0) (SI.2 (2 + k9)))))]]) = fl [wX3 cI cZ cQ rF SF, wX2 cI cZ cQ rI (sA SI (2 + k9) (cp35 (SF.2 0) (SI.2 (2 + k9))))]) rfl rfl (by omega)) rfl rfl rfl rfl ⟨rfl, rfl⟩ ⟨Nat.le_of_ble_eq_true rfl, Nat.le_of_ble_eq_true rfl⟩ (Nat.le_of_ble_eq_true rfl) ⟨Nat.zero_le _, Nat.zero_le _⟩ dX2_put_15 ?_
    refine ww_aload_n (pc := 18) X dX2_put_18 0 rfl rfl ?_
    refine ww_get (pc := 19) (ci := 2) (v := .ref (rI 2)) (C := RX2) (T := TX2) (N := 3) X inX2_put_2 2 rfl rfl 1 (by decide) (by decide +kernel) rfl dX2_put_19 ?_
    refine ww_iload_n (pc := 22) X dX2_put_22 1 rfl rfl ?_
    refine ww_iload_n (pc := 23) X dX2_put_23 3 rfl rfl ?_
    refine ww_iast (pc := 24) (f := (sA SI (2 + (x1 : Int32).toNatClampNeg) (cp35 (SF.2 0) (SI.2 (2 + (x1 : Int32).toNatClampNeg)))).2 0) (ws' := fl [wX3 cI cZ cQ rF SF, wX2 cI cZ cQ rI (sA (sA SI (2 + (x1 : Int32).toNatClampNeg) (cp35 (SF.2 0) (SI.2 (2 + (x1 : Int32).toNatClampNeg)))) 0 (upd ((sA SI (2 + (x1 : Int32).toNatClampNeg) (cp35 (SF.2 0) (SI.2 (2 + (x1 : Int32).toNatClampNeg)))).2 0) ((x1 : Int32)).toNatClampNeg x3))]) X 4 0 rfl rfl (in_X2_hasPlace c1) rfl dX2_put_24 ?_
    refine ww_aload_n (pc := 25) X dX2_put_25 0 rfl rfl ?_
    refine ww_get (pc := 26) (ci := 2) (v := .ref (rI 3)) (C := RX2) (T := TX2) (N := 3) X inX2_put_2 2 rfl rfl 2 (by decide) (by decide +kernel) rfl dX2_put_26 ?_
    refine ww_iload_n (pc := 29) X dX2_put_29 1 rfl rfl ?_
    refine ww_iconst (pc := 30) (v := 1) X dX2_put_30 (by decide) ?_
    refine ww_zast (pc := 31) (f := (sA SI (2 + (x1 : Int32).toNatClampNeg) (cp35 (SF.2 0) (SI.2 (2 + (x1 : Int32).toNatClampNeg)))).2 1) (ws' := fl [wX3 cI cZ cQ rF SF, wX2 cI cZ cQ rI (sA (sA (sA SI (2 + (x1 : Int32).toNatClampNeg) (cp35 (SF.2 0) (SI.2 (2 + (x1 : Int32).toNatClampNeg)))) 0 (upd ((sA SI (2 + (x1 : Int32).toNatClampNeg) (cp35 (SF.2 0) (SI.2 (2 + (x1 : Int32).toNatClampNeg)))).2 0) ((x1 : Int32)).toNatClampNeg x3)) 1 (upd ((sA SI (2 + (x1 : Int32).toNatClampNeg) (cp35 (SF.2 0) (SI.2 (2 + (x1 : Int32).toNatClampNeg)))).2 1) ((x1 : Int32)).toNatClampNeg 1))]) X 5 1 rfl rfl (in_X2_hasPlace c1) rfl rfl dX2_put_31 ?_
    have h4 : f_X2_put SF SI x1 x3 = (sA (sA (sA SI (2 + (x1 : Int32).toNatClampNeg) (cp35 (SF.2 0) (SI.2 (2 + (x1 : Int32).toNatClampNeg)))) 0 (upd ((sA SI (2 + (x1 : Int32).toNatClampNeg) (cp35 (SF.2 0) (SI.2 (2 + (x1 : Int32).toNatClampNeg)))).2 0) ((x1 : Int32)).toNatClampNeg x3)) 1 (upd ((sA SI (2 + (x1 : Int32).toNatClampNeg) (cp35 (SF.2 0) (SI.2 (2 + (x1 : Int32).toNatClampNeg)))).2 1) ((x1 : Int32)).toNatClampNeg 1)) := by unfold f_X2_put; try rw [if_neg c1]; first | done | rfl
    exact ww_vret X hr (congrArg (fun u9 : St => fl [wX3 cI cZ cQ rF SF, wX2 cI cZ cQ rI u9]) h4.symm) dX2_put_32
