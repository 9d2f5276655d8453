def f_X8_open_k1 (SM : St) (x1 : Int32) (z3 : St) : Int32 × St :=
  if ((upd (upd (z3.2 9) ((1 + x1 : Int32)).toNatClampNeg (((z3.2 9) ((1 + x1 : Int32)).toNatClampNeg) + ((z3.2 9) ((15 + x1 : Int32)).toNatClampNeg))) ((15 + x1 : Int32)).toNatClampNeg 0) ((1 + x1 : Int32)).toNatClampNeg) < (f_X8_end (sA z3 9 (upd (upd (z3.2 9) ((1 + x1 : Int32)).toNatClampNeg (((z3.2 9) ((1 + x1 : Int32)).toNatClampNeg) + ((z3.2 9) ((15 + x1 : Int32)).toNatClampNeg))) ((15 + x1 : Int32)).toNatClampNeg 0)) x1) then
    ((upd (upd (upd (z3.2 9) ((1 + x1 : Int32)).toNatClampNeg (((z3.2 9) ((1 + x1 : Int32)).toNatClampNeg) + ((z3.2 9) ((15 + x1 : Int32)).toNatClampNeg))) ((15 + x1 : Int32)).toNatClampNeg 0) ((8 + x1 : Int32)).toNatClampNeg 0) ((1 + x1 : Int32)).toNatClampNeg, (sA z3 9 (upd (upd (upd (z3.2 9) ((1 + x1 : Int32)).toNatClampNeg (((z3.2 9) ((1 + x1 : Int32)).toNatClampNeg) + ((z3.2 9) ((15 + x1 : Int32)).toNatClampNeg))) ((15 + x1 : Int32)).toNatClampNeg 0) ((8 + x1 : Int32)).toNatClampNeg 0)))
  else
    ((upd (upd (upd (z3.2 9) ((1 + x1 : Int32)).toNatClampNeg (((z3.2 9) ((1 + x1 : Int32)).toNatClampNeg) + ((z3.2 9) ((15 + x1 : Int32)).toNatClampNeg))) ((15 + x1 : Int32)).toNatClampNeg 0) ((8 + x1 : Int32)).toNatClampNeg 1) ((1 + x1 : Int32)).toNatClampNeg, (sA z3 9 (upd (upd (upd (z3.2 9) ((1 + x1 : Int32)).toNatClampNeg (((z3.2 9) ((1 + x1 : Int32)).toNatClampNeg) + ((z3.2 9) ((15 + x1 : Int32)).toNatClampNeg))) ((15 + x1 : Int32)).toNatClampNeg 0) ((8 + x1 : Int32)).toNatClampNeg 1)))
def f_X8_open (SM : St) (x1 : Int32) : Int32 × St :=
  if (f_X8_isPerson SM x1) = 0 then
    ((-1000000001), SM)
  else
    if (f_X8_isAbove SM x1) = 0 then
      ((-1000000003), SM)
    else
      f_X8_open_k1 SM x1 (f_X8_notes SM)
theorem inX8_open_8 : ∀ w ∈ wsX80, w ∈ wsX8_open := by decide +kernel
theorem hd_X8_open : yX8_open.cls = RX8 ∧ yX8_open.cls ≠ "java/lang/invoke/MethodHandle" ∧ yX8_open.cls ≠ "java/lang/invoke/VarHandle" ∧ (parseMethodDescriptor yX8_open.desc).map (fun d => d.parameters.length) = some 1 := by decide +kernel
set_option maxHeartbeats 4000000 in
set_option maxRecDepth 100000 in
theorem c_X8_open (l : Launch) (D : va_G) (cI cZ cQ : ClassId) (rM : Nat → Nat) (SM : St) (x1 : Int32) (okm : okM SM) (n0 : ¬ (SM.1 2) < 0) (n1 : SM.1 2 ≤ 20) : Ci l yX8_open wsX8_open { frames := 2, cells := 0, slots := 0, locals := 43 } D (tyL cI cZ cQ) [.ref (rM 0), .int x1] (fl [wX8 cI cZ cQ rM SM]) ((f_X8_open SM x1).1) (fl [wX8 cI cZ cQ rM ((f_X8_open SM x1).2)]) := by
  refine ci_of (cc := cX8_open) (nL := 2) (ty := .int) (lv0 := [(0, .ref (rM 0)), (1, .int x1)]) (by decide) rfl (Nat.le_of_ble_eq_true rfl) rfl ?_
  intro p e s m args below meth c A X hr
  refine ww_aload_n (pc := 0) X dX8_open_0 0 rfl rfl ?_
  refine ww_iload_n (pc := 1) X dX8_open_1 1 rfl rfl ?_
  refine ww_gVi (pc := 2) (rest := []) (gsN := [wX8 cI cZ cQ rM SM]) (ci := 8) (gi := 0) (qi := 0) X (c_X8_isPerson l D cI cZ cQ rM SM x1) gX8_open_X8_isPerson rfl hd_X8_isPerson [true] rfl rfl rfl rfl rfl rfl rfl rfl ⟨rfl, rfl⟩ ⟨Nat.le_of_ble_eq_true rfl, Nat.le_of_ble_eq_true rfl⟩ (Nat.le_of_ble_eq_true rfl) ⟨Nat.zero_le _, Nat.zero_le _⟩ dX8_open_2 ?_
  refine ww_if_ne (pc := 5) (tgt := 11) X dX8_open_5 (by decide) (fun c1 => ?_) (fun c1 => ?_)
  · refine ww_aload_n (pc := 11) X dX8_open_11 0 rfl rfl ?_
    refine ww_iload_n (pc := 12) X dX8_open_12 1 rfl rfl ?_
    refine ww_gVi (pc := 13) (rest := []) (gsN := [wX8 cI cZ cQ rM SM]) (ci := 8) (gi := 0) (qi := 0) X (c_X8_isAbove l D cI cZ cQ rM SM x1 (in_X8_isPerson okm c1)) gX8_open_X8_isAbove rfl hd_X8_isAbove [true] rfl rfl rfl rfl rfl rfl rfl rfl ⟨rfl, rfl⟩ ⟨Nat.le_of_ble_eq_true rfl, Nat.le_of_ble_eq_true rfl⟩ (Nat.le_of_ble_eq_true rfl) ⟨Nat.zero_le _, Nat.zero_le _⟩ dX8_open_13 ?_
    refine ww_if_ne (pc := 16) (tgt := 22) X dX8_open_16 (by decide) (fun c2 => ?_) (fun c2 => ?_)
    · refine ww_aload_n (pc := 22) X dX8_open_22 0 rfl rfl ?_
      refine ww_gVv (pc := 23) (rest := []) (gsN := [wX8 cI cZ cQ rM (f_X8_notes SM)]) (ci := 8) (gi := 0) (qi := 0) X (c_X8_notes l D cI cZ cQ rM SM (by assumption) (by assumption)) gX8_open_X8_notes rfl hd_X8_notes [true] rfl (acons (ad8 _ _ _ _ _ _) rfl) rfl rfl rfl rfl rfl rfl ⟨rfl, rfl⟩ ⟨Nat.le_of_ble_eq_true rfl, Nat.le_of_ble_eq_true rfl⟩ (Nat.le_of_ble_eq_true rfl) ⟨Nat.zero_le _, Nat.zero_le _⟩ dX8_open_23 ?_
      generalize hz3 : (f_X8_notes SM) = z3
      refine ww_aload_n (pc := 26) X dX8_open_26 0 rfl rfl ?_
      refine ww_get (pc := 27) (ci := 8) (v := .ref (rM 10)) (C := RX8) (T := TX8) (N := 27) X inX8_open_8 0 rfl rfl 11 (by decide) (by decide +kernel) rfl dX8_open_27 ?_
      refine ww_iconst (pc := 30) (v := 1) X dX8_open_30 (by decide) ?_
      refine ww_iload_n (pc := 31) X dX8_open_31 1 rfl rfl ?_
      have hb4 := clb (n := 7) (in_X8_isPerson okm c1)
      refine ww_iadd (pc := 32) X dX8_open_32 ?_
      refine ww_dup2_11 (pc := 33) X dX8_open_33 rfl rfl ?_
      refine ww_iald (pc := 34) (f := z3.2 9) X 10 0 rfl rfl (vn (m := 1 + ((x1 : Int32).toNatClampNeg)) (nat_iadd (a := 1) (b := (x1 : Int32).toNatClampNeg) rfl (cl_of (in_X8_isPerson okm c1))) (by omega) (by decide)) dX8_open_34 ?_
      refine ww_aload_n (pc := 35) X dX8_open_35 0 rfl rfl ?_
      refine ww_get (pc := 36) (ci := 8) (v := .ref (rM 10)) (C := RX8) (T := TX8) (N := 27) X inX8_open_8 0 rfl rfl 11 (by decide) (by decide +kernel) rfl dX8_open_36 ?_
      refine ww_bipush (pc := 39) (v := 15) X dX8_open_39 (by decide) ?_
      refine ww_iload_n (pc := 41) X dX8_open_41 1 rfl rfl ?_
      refine ww_iadd (pc := 42) X dX8_open_42 ?_
      refine ww_iald (pc := 43) (f := z3.2 9) X 10 0 rfl rfl (vn (m := 15 + ((x1 : Int32).toNatClampNeg)) (nat_iadd (a := 15) (b := (x1 : Int32).toNatClampNeg) rfl (cl_of (in_X8_isPerson okm c1))) (by omega) (by decide)) dX8_open_43 ?_
      refine ww_iadd (pc := 44) X dX8_open_44 ?_
      refine ww_iast (pc := 45) (f := z3.2 9) (ws' := fl [wX8 cI cZ cQ rM (sA z3 9 (upd (z3.2 9) ((1 + x1 : Int32)).toNatClampNeg (((z3.2 9) ((1 + x1 : Int32)).toNatClampNeg) + ((z3.2 9) ((15 + x1 : Int32)).toNatClampNeg))))]) X 10 0 rfl rfl (vn (m := 1 + ((x1 : Int32).toNatClampNeg)) (nat_iadd (a := 1) (b := (x1 : Int32).toNatClampNeg) rfl (cl_of (in_X8_isPerson okm c1))) (by omega) (by decide)) (st8a_9 _ _ _ _ _ _) dX8_open_45 ?_
      refine ww_aload_n (pc := 46) X dX8_open_46 0 rfl rfl ?_
      refine ww_get (pc := 47) (ci := 8) (v := .ref (rM 10)) (C := RX8) (T := TX8) (N := 27) X inX8_open_8 0 rfl rfl 11 (by decide) (by decide +kernel) rfl dX8_open_47 ?_
      refine ww_bipush (pc := 50) (v := 15) X dX8_open_50 (by decide) ?_
      refine ww_iload_n (pc := 52) X dX8_open_52 1 rfl rfl ?_
      refine ww_iadd (pc := 53) X dX8_open_53 ?_
      refine ww_iconst (pc := 54) (v := 0) X dX8_open_54 (by decide) ?_
      refine ww_iast (pc := 55) (f := upd (z3.2 9) ((1 + x1 : Int32)).toNatClampNeg (((z3.2 9) ((1 + x1 : Int32)).toNatClampNeg) + ((z3.2 9) ((15 + x1 : Int32)).toNatClampNeg))) (ws' := fl [wX8 cI cZ cQ rM (sA z3 9 (upd (upd (z3.2 9) ((1 + x1 : Int32)).toNatClampNeg (((z3.2 9) ((1 + x1 : Int32)).toNatClampNeg) + ((z3.2 9) ((15 + x1 : Int32)).toNatClampNeg))) ((15 + x1 : Int32)).toNatClampNeg 0))]) X 10 0 (ga8_9 _ _ _ _ _ sA_eq) rfl (vn (m := 15 + ((x1 : Int32).toNatClampNeg)) (nat_iadd (a := 15) (b := (x1 : Int32).toNatClampNeg) rfl (cl_of (in_X8_isPerson okm c1))) (by omega) (by decide)) (st8b_9 _ _ _ _ _ _ _) dX8_open_55 ?_
      refine ww_aload_n (pc := 56) X dX8_open_56 0 rfl rfl ?_
      refine ww_get (pc := 57) (ci := 8) (v := .ref (rM 10)) (C := RX8) (T := TX8) (N := 27) X inX8_open_8 0 rfl rfl 11 (by decide) (by decide +kernel) rfl dX8_open_57 ?_
      refine ww_bipush (pc := 60) (v := 8) X dX8_open_60 (by decide) ?_
      refine ww_iload_n (pc := 62) X dX8_open_62 1 rfl rfl ?_
      refine ww_iadd (pc := 63) X dX8_open_63 ?_
      refine ww_aload_n (pc := 64) X dX8_open_64 0 rfl rfl ?_
      refine ww_get (pc := 65) (ci := 8) (v := .ref (rM 10)) (C := RX8) (T := TX8) (N := 27) X inX8_open_8 0 rfl rfl 11 (by decide) (by decide +kernel) rfl dX8_open_65 ?_
      refine ww_iconst (pc := 68) (v := 1) X dX8_open_68 (by decide) ?_
      refine ww_iload_n (pc := 69) X dX8_open_69 1 rfl rfl ?_
      refine ww_iadd (pc := 70) X dX8_open_70 ?_
      refine ww_iald (pc := 71) (f := upd (upd (z3.2 9) ((1 + x1 : Int32)).toNatClampNeg (((z3.2 9) ((1 + x1 : Int32)).toNatClampNeg) + ((z3.2 9) ((15 + x1 : Int32)).toNatClampNeg))) ((15 + x1 : Int32)).toNatClampNeg 0) X 10 0 (ga8_9 _ _ _ _ _ sA_eq) rfl (vn (m := 1 + ((x1 : Int32).toNatClampNeg)) (nat_iadd (a := 1) (b := (x1 : Int32).toNatClampNeg) rfl (cl_of (in_X8_isPerson okm c1))) (by omega) (by decide)) dX8_open_71 ?_
      refine ww_aload_n (pc := 72) X dX8_open_72 0 rfl rfl ?_
      refine ww_iload_n (pc := 73) X dX8_open_73 1 rfl rfl ?_
      refine ww_gVi (pc := 74) (rest := [.int ((upd (upd (z3.2 9) ((1 + x1 : Int32)).toNatClampNeg (((z3.2 9) ((1 + x1 : Int32)).toNatClampNeg) + ((z3.2 9) ((15 + x1 : Int32)).toNatClampNeg))) ((15 + x1 : Int32)).toNatClampNeg 0) ((1 + x1 : Int32)).toNatClampNeg), .int (8 + x1), .ref (rM 10)]) (gsN := [wX8 cI cZ cQ rM (sA z3 9 (upd (upd (z3.2 9) ((1 + x1 : Int32)).toNatClampNeg (((z3.2 9) ((1 + x1 : Int32)).toNatClampNeg) + ((z3.2 9) ((15 + x1 : Int32)).toNatClampNeg))) ((15 + x1 : Int32)).toNatClampNeg 0))]) (ci := 8) (gi := 0) (qi := 0) X (c_X8_end l D cI cZ cQ rM (sA z3 9 (upd (upd (z3.2 9) ((1 + x1 : Int32)).toNatClampNeg (((z3.2 9) ((1 + x1 : Int32)).toNatClampNeg) + ((z3.2 9) ((15 + x1 : Int32)).toNatClampNeg))) ((15 + x1 : Int32)).toNatClampNeg 0)) x1 (in_X8_isPerson okm c1)) gX8_open_X8_end rfl hd_X8_end [true] rfl rfl rfl rfl rfl rfl rfl rfl ⟨rfl, rfl⟩ ⟨Nat.le_of_ble_eq_true rfl, Nat.le_of_ble_eq_true rfl⟩ (Nat.le_of_ble_eq_true rfl) ⟨Nat.zero_le _, Nat.zero_le _⟩ dX8_open_74 ?_
      refine ww_icmp_lt (pc := 77) (tgt := 84) X dX8_open_77 (by decide) (fun c5 => ?_) (fun c5 => ?_)
      · refine ww_iconst (pc := 84) (v := 0) X dX8_open_84 (by decide) ?_
        refine ww_iast (pc := 85) (f := upd (upd (z3.2 9) ((1 + x1 : Int32)).toNatClampNeg (((z3.2 9) ((1 + x1 : Int32)).toNatClampNeg) + ((z3.2 9) ((15 + x1 : Int32)).toNatClampNeg))) ((15 + x1 : Int32)).toNatClampNeg 0) (ws' := fl [wX8 cI cZ cQ rM (sA z3 9 (upd (upd (upd (z3.2 9) ((1 + x1 : Int32)).toNatClampNeg (((z3.2 9) ((1 + x1 : Int32)).toNatClampNeg) + ((z3.2 9) ((15 + x1 : Int32)).toNatClampNeg))) ((15 + x1 : Int32)).toNatClampNeg 0) ((8 + x1 : Int32)).toNatClampNeg 0))]) X 10 0 (ga8_9 _ _ _ _ _ sA_eq) rfl (vn (m := 8 + ((x1 : Int32).toNatClampNeg)) (nat_iadd (a := 8) (b := (x1 : Int32).toNatClampNeg) rfl (cl_of (in_X8_isPerson okm c1))) (by omega) (by decide)) (st8b_9 _ _ _ _ _ _ _) dX8_open_85 ?_
        refine ww_aload_n (pc := 86) X dX8_open_86 0 rfl rfl ?_
        refine ww_get (pc := 87) (ci := 8) (v := .ref (rM 10)) (C := RX8) (T := TX8) (N := 27) X inX8_open_8 0 rfl rfl 11 (by decide) (by decide +kernel) rfl dX8_open_87 ?_
        refine ww_iconst (pc := 90) (v := 1) X dX8_open_90 (by decide) ?_
        refine ww_iload_n (pc := 91) X dX8_open_91 1 rfl rfl ?_
        refine ww_iadd (pc := 92) X dX8_open_92 ?_
        refine ww_iald (pc := 93) (f := upd (upd (upd (z3.2 9) ((1 + x1 : Int32)).toNatClampNeg (((z3.2 9) ((1 + x1 : Int32)).toNatClampNeg) + ((z3.2 9) ((15 + x1 : Int32)).toNatClampNeg))) ((15 + x1 : Int32)).toNatClampNeg 0) ((8 + x1 : Int32)).toNatClampNeg 0) X 10 0 (ga8_9 _ _ _ _ _ sA_eq) rfl (vn (m := 1 + ((x1 : Int32).toNatClampNeg)) (nat_iadd (a := 1) (b := (x1 : Int32).toNatClampNeg) rfl (cl_of (in_X8_isPerson okm c1))) (by omega) (by decide)) dX8_open_93 ?_
        have h6 : f_X8_open SM x1 = ((upd (upd (upd (z3.2 9) ((1 + x1 : Int32)).toNatClampNeg (((z3.2 9) ((1 + x1 : Int32)).toNatClampNeg) + ((z3.2 9) ((15 + x1 : Int32)).toNatClampNeg))) ((15 + x1 : Int32)).toNatClampNeg 0) ((8 + x1 : Int32)).toNatClampNeg 0) ((1 + x1 : Int32)).toNatClampNeg, (sA z3 9 (upd (upd (upd (z3.2 9) ((1 + x1 : Int32)).toNatClampNeg (((z3.2 9) ((1 + x1 : Int32)).toNatClampNeg) + ((z3.2 9) ((15 + x1 : Int32)).toNatClampNeg))) ((15 + x1 : Int32)).toNatClampNeg 0) ((8 + x1 : Int32)).toNatClampNeg 0))) := by unfold f_X8_open; try rw [if_neg c1, if_neg c2, hz3]; try unfold f_X8_open_k1; try rw [if_pos c5]; first | done | rfl
        exact ww_iret X hr rfl (congrArg (fun u9 : Int32 × St => u9.1) h6).symm (congrArg (fun u9 : Int32 × St => fl [wX8 cI cZ cQ rM u9.2]) h6.symm) dX8_open_94
      · refine ww_iconst (pc := 80) (v := 1) X dX8_open_80 (by decide) ?_
        refine ww_goto (pc := 81) (tgt := 85) X dX8_open_81 (by decide) ?_
        refine ww_iast (pc := 85) (f := upd (upd (z3.2 9) ((1 + x1 : Int32)).toNatClampNeg (((z3.2 9) ((1 + x1 : Int32)).toNatClampNeg) + ((z3.2 9) ((15 + x1 : Int32)).toNatClampNeg))) ((15 + x1 : Int32)).toNatClampNeg 0) (ws' := fl [wX8 cI cZ cQ rM (sA z3 9 (upd (upd (upd (z3.2 9) ((1 + x1 : Int32)).toNatClampNeg (((z3.2 9) ((1 + x1 : Int32)).toNatClampNeg) + ((z3.2 9) ((15 + x1 : Int32)).toNatClampNeg))) ((15 + x1 : Int32)).toNatClampNeg 0) ((8 + x1 : Int32)).toNatClampNeg 1))]) X 10 0 (ga8_9 _ _ _ _ _ sA_eq) rfl (vn (m := 8 + ((x1 : Int32).toNatClampNeg)) (nat_iadd (a := 8) (b := (x1 : Int32).toNatClampNeg) rfl (cl_of (in_X8_isPerson okm c1))) (by omega) (by decide)) (st8b_9 _ _ _ _ _ _ _) dX8_open_85 ?_
        refine ww_aload_n (pc := 86) X dX8_open_86 0 rfl rfl ?_
        refine ww_get (pc := 87) (ci := 8) (v := .ref (rM 10)) (C := RX8) (T := TX8) (N := 27) X inX8_open_8 0 rfl rfl 11 (by decide) (by decide +kernel) rfl dX8_open_87 ?_
        refine ww_iconst (pc := 90) (v := 1) X dX8_open_90 (by decide) ?_
        refine ww_iload_n (pc := 91) X dX8_open_91 1 rfl rfl ?_
        refine ww_iadd (pc := 92) X dX8_open_92 ?_
        refine ww_iald (pc := 93) (f := upd (upd (upd (z3.2 9) ((1 + x1 : Int32)).toNatClampNeg (((z3.2 9) ((1 + x1 : Int32)).toNatClampNeg) + ((z3.2 9) ((15 + x1 : Int32)).toNatClampNeg))) ((15 + x1 : Int32)).toNatClampNeg 0) ((8 + x1 : Int32)).toNatClampNeg 1) X 10 0 (ga8_9 _ _ _ _ _ sA_eq) rfl (vn (m := 1 + ((x1 : Int32).toNatClampNeg)) (nat_iadd (a := 1) (b := (x1 : Int32).toNatClampNeg) rfl (cl_of (in_X8_isPerson okm c1))) (by omega) (by decide)) dX8_open_93 ?_
        have h7 : f_X8_open SM x1 = ((upd (upd (upd (z3.2 9) ((1 + x1 : Int32)).toNatClampNeg (((z3.2 9) ((1 + x1 : Int32)).toNatClampNeg) + ((z3.2 9) ((15 + x1 : Int32)).toNatClampNeg))) ((15 + x1 : Int32)).toNatClampNeg 0) ((8 + x1 : Int32)).toNatClampNeg 1) ((1 + x1 : Int32)).toNatClampNeg, (sA z3 9 (upd (upd (upd (z3.2 9) ((1 + x1 : Int32)).toNatClampNeg (((z3.2 9) ((1 + x1 : Int32)).toNatClampNeg) + ((z3.2 9) ((15 + x1 : Int32)).toNatClampNeg))) ((15 + x1 : Int32)).toNatClampNeg 0) ((8 + x1 : Int32)).toNatClampNeg 1))) := by unfold f_X8_open; try rw [if_neg c1, if_neg c2, hz3]; try unfold f_X8_open_k1; try rw [if_neg c5]; first | done | rfl
        exact ww_iret X hr rfl (congrArg (fun u9 : Int32 × St => u9.1) h7).symm (congrArg (fun u9 : Int32 × St => fl [wX8 cI cZ cQ rM u9.2]) h7.symm) dX8_open_94
    · refine ww_ldc (pc := 19) (v := (-1000000003)) X (by decide +kernel) dX8_open_19 ?_
      have h8 : f_X8_open SM x1 = ((-1000000003), SM) := by unfold f_X8_open; try rw [if_neg c1, if_pos c2]; first | done | rfl
      exact ww_iret X hr rfl (congrArg (fun u9 : Int32 × St => u9.1) h8).symm (congrArg (fun u9 : Int32 × St => fl [wX8 cI cZ cQ rM u9.2]) h8.symm) dX8_open_21
  · refine ww_ldc (pc := 8) (v := (-1000000001)) X (by decide +kernel) dX8_open_8 ?_
    have h9 : f_X8_open SM x1 = ((-1000000001), SM) := by unfold f_X8_open; try rw [if_pos c1]; first | done | rfl
    exact ww_iret X hr rfl (congrArg (fun u9 : Int32 × St => u9.1) h9).symm (congrArg (fun u9 : Int32 × St => fl [wX8 cI cZ cQ rM u9.2]) h9.symm) dX8_open_10
