def f_X8_find (SM : St) (x1 : Int32) (x2 : Int32) (x3 : Int32) : Int32 × St :=
  if x1 = 0 then
    if (f_X8_isGood SM x2) = 0 then
      ((-1000000001), SM)
    else
      if (f_X8_in x1 0 1) = 0 then
        ((-1000000002), SM)
      else
        if x1 = 1 then
          if x2 = 0 then
            if (f_X8_in x3 0 9999) = 0 then
              ((-1000000002), SM)
            else
              if (SM.1 4) = 6 then
                ((-1000000004), SM)
              else
                ((SM.1 4) + 1, (sI (sA SM 14 (upd (upd (upd (SM.2 14) ((3 * (SM.1 4) : Int32)).toNatClampNeg x1) (((3 * (SM.1 4)) + 1 : Int32)).toNatClampNeg x2) (((3 * (SM.1 4)) + 2 : Int32)).toNatClampNeg x3)) 4 ((SM.1 4) + 1)))
          else
            ((-1000000002), SM)
        else
          if (f_X8_in x3 0 9999) = 0 then
            ((-1000000002), SM)
          else
            if (SM.1 4) = 6 then
              ((-1000000004), SM)
            else
              ((SM.1 4) + 1, (sI (sA SM 14 (upd (upd (upd (SM.2 14) ((3 * (SM.1 4) : Int32)).toNatClampNeg x1) (((3 * (SM.1 4)) + 1 : Int32)).toNatClampNeg x2) (((3 * (SM.1 4)) + 2 : Int32)).toNatClampNeg x3)) 4 ((SM.1 4) + 1)))
  else
    if (f_X8_in x1 0 1) = 0 then
      ((-1000000002), SM)
    else
      if x1 = 1 then
        if x2 = 0 then
          if (f_X8_in x3 0 9999) = 0 then
            ((-1000000002), SM)
          else
            if (SM.1 4) = 6 then
              ((-1000000004), SM)
            else
              ((SM.1 4) + 1, (sI (sA SM 14 (upd (upd (upd (SM.2 14) ((3 * (SM.1 4) : Int32)).toNatClampNeg x1) (((3 * (SM.1 4)) + 1 : Int32)).toNatClampNeg x2) (((3 * (SM.1 4)) + 2 : Int32)).toNatClampNeg x3)) 4 ((SM.1 4) + 1)))
        else
          ((-1000000002), SM)
      else
        if (f_X8_in x3 0 9999) = 0 then
          ((-1000000002), SM)
        else
          if (SM.1 4) = 6 then
            ((-1000000004), SM)
          else
            ((SM.1 4) + 1, (sI (sA SM 14 (upd (upd (upd (SM.2 14) ((3 * (SM.1 4) : Int32)).toNatClampNeg x1) (((3 * (SM.1 4)) + 1 : Int32)).toNatClampNeg x2) (((3 * (SM.1 4)) + 2 : Int32)).toNatClampNeg x3)) 4 ((SM.1 4) + 1)))
theorem inX8_find_8 : ∀ w ∈ wsX80, w ∈ wsX8_find := by decide +kernel
theorem hd_X8_find : yX8_find.cls = RX8 ∧ yX8_find.cls ≠ "java/lang/invoke/MethodHandle" ∧ yX8_find.cls ≠ "java/lang/invoke/VarHandle" ∧ (parseMethodDescriptor yX8_find.desc).map (fun d => d.parameters.length) = some 3 := by decide +kernel
set_option maxHeartbeats 4000000 in
set_option maxRecDepth 100000 in
theorem c_X8_find (l : Launch) (D : va_G) (cI cZ cQ : ClassId) (rM : Nat → Nat) (SM : St) (x1 : Int32) (x2 : Int32) (x3 : Int32) (okm : okM SM) (e0 : ¬ (SM.1 4) < 0) (e1 : SM.1 4 ≤ 6) : Ci l yX8_find wsX8_find { frames := 2, cells := 0, slots := 0, locals := 43 } D (tyL cI cZ cQ) [.ref (rM 0), .int x1, .int x2, .int x3] (fl [wX8 cI cZ cQ rM SM]) ((f_X8_find SM x1 x2 x3).1) (fl [wX8 cI cZ cQ rM ((f_X8_find SM x1 x2 x3).2)]) := by
  refine ci_of (cc := cX8_find) (nL := 4) (ty := .int) (lv0 := [(0, .ref (rM 0)), (1, .int x1), (2, .int x2), (3, .int x3)]) (by decide) rfl (Nat.le_of_ble_eq_true rfl) rfl ?_
  intro p e s m args below meth c A X hr
  refine ww_iload_n (pc := 0) X dX8_find_0 1 rfl rfl ?_
  refine ww_if_ne (pc := 1) (tgt := 15) X dX8_find_1 (by decide) (fun c1 => ?_) (fun c1 => ?_)
  · refine ww_iload_n (pc := 15) X dX8_find_15 1 rfl rfl ?_
    refine ww_iconst (pc := 16) (v := 0) X dX8_find_16 (by decide) ?_
    refine ww_iconst (pc := 17) (v := 1) X dX8_find_17 (by decide) ?_
    refine ww_gSi (pc := 18) (rest := []) (gsN := [wX8 cI cZ cQ rM SM]) X (c_X8_in l D cI cZ cQ x1 0 1) gX8_find_X8_in rfl hd_X8_in [false] rfl rfl rfl rfl ⟨rfl, rfl⟩ ⟨Nat.le_of_ble_eq_true rfl, Nat.le_of_ble_eq_true rfl⟩ (Nat.le_of_ble_eq_true rfl) ⟨Nat.zero_le _, Nat.zero_le _⟩ dX8_find_18 ?_
    refine ww_if_eq (pc := 21) (tgt := 44) X dX8_find_21 (by decide) (fun c2 => ?_) (fun c2 => ?_)
    · refine ww_ldc (pc := 44) (v := (-1000000002)) X (by decide +kernel) dX8_find_44 ?_
      have h3 : f_X8_find SM x1 x2 x3 = ((-1000000002), SM) := by unfold f_X8_find; try rw [if_neg c1, if_pos c2]; first | done | rfl
      exact ww_iret X hr rfl (congrArg (fun u9 : Int32 × St => u9.1) h3).symm (congrArg (fun u9 : Int32 × St => fl [wX8 cI cZ cQ rM u9.2]) h3.symm) dX8_find_46
    · refine ww_iload_n (pc := 24) X dX8_find_24 1 rfl rfl ?_
      refine ww_iconst (pc := 25) (v := 1) X dX8_find_25 (by decide) ?_
      refine ww_icmp_ne (pc := 26) (tgt := 33) X dX8_find_26 (by decide) (fun c4 => ?_) (fun c4 => ?_)
      · refine ww_iload_n (pc := 33) X dX8_find_33 3 rfl rfl ?_
        refine ww_iconst (pc := 34) (v := 0) X dX8_find_34 (by decide) ?_
        refine ww_sipush (pc := 35) (v := 9999) X dX8_find_35 (by decide) ?_
        refine ww_gSi (pc := 38) (rest := []) (gsN := [wX8 cI cZ cQ rM SM]) X (c_X8_in l D cI cZ cQ x3 0 9999) gX8_find_X8_in rfl hd_X8_in [false] rfl rfl rfl rfl ⟨rfl, rfl⟩ ⟨Nat.le_of_ble_eq_true rfl, Nat.le_of_ble_eq_true rfl⟩ (Nat.le_of_ble_eq_true rfl) ⟨Nat.zero_le _, Nat.zero_le _⟩ dX8_find_38 ?_
        refine ww_if_ne (pc := 41) (tgt := 47) X dX8_find_41 (by decide) (fun c5 => ?_) (fun c5 => ?_)
        · refine ww_aload_n (pc := 47) X dX8_find_47 0 rfl rfl ?_
          refine ww_get (pc := 48) (ci := 8) (v := .int (SM.1 4)) (C := RX8) (T := TX8) (N := 27) X inX8_find_8 0 rfl rfl 19 (by decide) (by decide +kernel) rfl dX8_find_48 ?_
          refine ww_bipush (pc := 51) (v := 6) X dX8_find_51 (by decide) ?_
          refine ww_icmp_ne (pc := 53) (tgt := 59) X dX8_find_53 (by decide) (fun c6 => ?_) (fun c6 => ?_)
          · refine ww_aload_n (pc := 59) X dX8_find_59 0 rfl rfl ?_
            refine ww_get (pc := 60) (ci := 8) (v := .ref (rM 15)) (C := RX8) (T := TX8) (N := 27) X inX8_find_8 0 rfl rfl 18 (by decide) (by decide +kernel) rfl dX8_find_60 ?_
            refine ww_iconst (pc := 63) (v := 3) X dX8_find_63 (by decide) ?_
            refine ww_aload_n (pc := 64) X dX8_find_64 0 rfl rfl ?_
            refine ww_get (pc := 65) (ci := 8) (v := .int (SM.1 4)) (C := RX8) (T := TX8) (N := 27) X inX8_find_8 0 rfl rfl 19 (by decide) (by decide +kernel) rfl dX8_find_65 ?_
            have hb7 := clb (n := 6) (vin_ne (n := 6) e0 e1 c6 rfl)
            refine ww_imul (pc := 68) X dX8_find_68 ?_
            refine ww_iload_n (pc := 69) X dX8_find_69 1 rfl rfl ?_
            refine ww_iast (pc := 70) (f := SM.2 14) (ws' := fl [wX8 cI cZ cQ rM (sA SM 14 (upd (SM.2 14) ((3 * (SM.1 4) : Int32)).toNatClampNeg x1))]) X 15 0 rfl rfl (vn (m := 3 * ((SM.1 4 : Int32).toNatClampNeg)) (nat_imul (a := 3) (b := (SM.1 4 : Int32).toNatClampNeg) rfl (cl_of (vin_ne (n := 6) e0 e1 c6 rfl))) (by omega) (by decide)) (st8a_14 _ _ _ _ _ _) dX8_find_70 ?_
            refine ww_aload_n (pc := 71) X dX8_find_71 0 rfl rfl ?_
            refine ww_get (pc := 72) (ci := 8) (v := .ref (rM 15)) (C := RX8) (T := TX8) (N := 27) X inX8_find_8 0 rfl rfl 18 (by decide) (by decide +kernel) rfl dX8_find_72 ?_
            refine ww_iconst (pc := 75) (v := 3) X dX8_find_75 (by decide) ?_
            refine ww_aload_n (pc := 76) X dX8_find_76 0 rfl rfl ?_
            refine ww_get (pc := 77) (ci := 8) (v := .int (SM.1 4)) (C := RX8) (T := TX8) (N := 27) X inX8_find_8 0 rfl rfl 19 (by decide) (by decide +kernel) (gv sA_1) dX8_find_77 ?_
            refine ww_imul (pc := 80) X dX8_find_80 ?_
            refine ww_iconst (pc := 81) (v := 1) X dX8_find_81 (by decide) ?_
            refine ww_iadd (pc := 82) X dX8_find_82 ?_
            refine ww_iload_n (pc := 83) X dX8_find_83 2 rfl rfl ?_
            refine ww_iast (pc := 84) (f := upd (SM.2 14) ((3 * (SM.1 4) : Int32)).toNatClampNeg x1) (ws' := fl [wX8 cI cZ cQ rM (sA SM 14 (upd (upd (SM.2 14) ((3 * (SM.1 4) : Int32)).toNatClampNeg x1) (((3 * (SM.1 4)) + 1 : Int32)).toNatClampNeg x2))]) X 15 0 (ga8_14 _ _ _ _ _ sA_eq) rfl (vn (m := (3 * ((SM.1 4 : Int32).toNatClampNeg)) + 1) (nat_iadd (a := 3 * ((SM.1 4 : Int32).toNatClampNeg)) (b := 1) (nat_imul (a := 3) (b := (SM.1 4 : Int32).toNatClampNeg) rfl (cl_of (vin_ne (n := 6) e0 e1 c6 rfl))) rfl) (by omega) (by decide)) (st8b_14 _ _ _ _ _ _ _) dX8_find_84 ?_
            refine ww_aload_n (pc := 85) X dX8_find_85 0 rfl rfl ?_
            refine ww_get (pc := 86) (ci := 8) (v := .ref (rM 15)) (C := RX8) (T := TX8) (N := 27) X inX8_find_8 0 rfl rfl 18 (by decide) (by decide +kernel) rfl dX8_find_86 ?_
            refine ww_iconst (pc := 89) (v := 3) X dX8_find_89 (by decide) ?_
            refine ww_aload_n (pc := 90) X dX8_find_90 0 rfl rfl ?_
            refine ww_get (pc := 91) (ci := 8) (v := .int (SM.1 4)) (C := RX8) (T := TX8) (N := 27) X inX8_find_8 0 rfl rfl 19 (by decide) (by decide +kernel) (gv sA_1) dX8_find_91 ?_
            refine ww_imul (pc := 94) X dX8_find_94 ?_
            refine ww_iconst (pc := 95) (v := 2) X dX8_find_95 (by decide) ?_
            refine ww_iadd (pc := 96) X dX8_find_96 ?_
            refine ww_iload_n (pc := 97) X dX8_find_97 3 rfl rfl ?_
            refine ww_iast (pc := 98) (f := upd (upd (SM.2 14) ((3 * (SM.1 4) : Int32)).toNatClampNeg x1) (((3 * (SM.1 4)) + 1 : Int32)).toNatClampNeg x2) (ws' := fl [wX8 cI cZ cQ rM (sA SM 14 (upd (upd (upd (SM.2 14) ((3 * (SM.1 4) : Int32)).toNatClampNeg x1) (((3 * (SM.1 4)) + 1 : Int32)).toNatClampNeg x2) (((3 * (SM.1 4)) + 2 : Int32)).toNatClampNeg x3))]) X 15 0 (ga8_14 _ _ _ _ _ sA_eq) rfl (vn (m := (3 * ((SM.1 4 : Int32).toNatClampNeg)) + 2) (nat_iadd (a := 3 * ((SM.1 4 : Int32).toNatClampNeg)) (b := 2) (nat_imul (a := 3) (b := (SM.1 4 : Int32).toNatClampNeg) rfl (cl_of (vin_ne (n := 6) e0 e1 c6 rfl))) rfl) (by omega) (by decide)) (st8b_14 _ _ _ _ _ _ _) dX8_find_98 ?_
            refine ww_aload_n (pc := 99) X dX8_find_99 0 rfl rfl ?_
            refine ww_dup (pc := 100) X dX8_find_100 rfl ?_
            refine ww_get (pc := 101) (ci := 8) (v := .int (SM.1 4)) (C := RX8) (T := TX8) (N := 27) X inX8_find_8 0 rfl rfl 19 (by decide) (by decide +kernel) (gv sA_1) dX8_find_101 ?_
            refine ww_iconst (pc := 104) (v := 1) X dX8_find_104 (by decide) ?_
            refine ww_iadd (pc := 105) X dX8_find_105 ?_
            refine ww_put (pc := 106) (ci := 8) (v := .int ((SM.1 4) + 1)) (C := RX8) (T := TX8) (N := 27) (ws' := fl [wX8 cI cZ cQ rM (sI (sA SM 14 (upd (upd (upd (SM.2 14) ((3 * (SM.1 4) : Int32)).toNatClampNeg x1) (((3 * (SM.1 4)) + 1 : Int32)).toNatClampNeg x2) (((3 * (SM.1 4)) + 2 : Int32)).toNatClampNeg x3)) 4 ((SM.1 4) + 1))]) X inX8_find_8 tyX8 tyX8_ok nmX8 0 rfl rfl 19 (by decide) (by decide +kernel) rfl rfl rfl (Nat.le_of_ble_eq_true rfl) (pt8a_4 _ _ _ _ _ _) dX8_find_106 ?_
            refine ww_aload_n (pc := 109) X dX8_find_109 0 rfl rfl ?_
            refine ww_get (pc := 110) (ci := 8) (v := .int ((SM.1 4) + 1)) (C := RX8) (T := TX8) (N := 27) X inX8_find_8 0 rfl rfl 19 (by decide) (by decide +kernel) (gv sI_eq) dX8_find_110 ?_
            have h8 : f_X8_find SM x1 x2 x3 = ((SM.1 4) + 1, (sI (sA SM 14 (upd (upd (upd (SM.2 14) ((3 * (SM.1 4) : Int32)).toNatClampNeg x1) (((3 * (SM.1 4)) + 1 : Int32)).toNatClampNeg x2) (((3 * (SM.1 4)) + 2 : Int32)).toNatClampNeg x3)) 4 ((SM.1 4) + 1))) := by unfold f_X8_find; try rw [if_neg c1, if_neg c2, if_neg c4, if_neg c5, if_neg c6]; first | done | rfl
            exact ww_iret X hr rfl (congrArg (fun u9 : Int32 × St => u9.1) h8).symm (congrArg (fun u9 : Int32 × St => fl [wX8 cI cZ cQ rM u9.2]) h8.symm) dX8_find_113
          · refine ww_ldc (pc := 56) (v := (-1000000004)) X (by decide +kernel) dX8_find_56 ?_
            have h9 : f_X8_find SM x1 x2 x3 = ((-1000000004), SM) := by unfold f_X8_find; try rw [if_neg c1, if_neg c2, if_neg c4, if_neg c5, if_pos c6]; first | done | rfl
            exact ww_iret X hr rfl (congrArg (fun u9 : Int32 × St => u9.1) h9).symm (congrArg (fun u9 : Int32 × St => fl [wX8 cI cZ cQ rM u9.2]) h9.symm) dX8_find_58
        · refine ww_ldc (pc := 44) (v := (-1000000002)) X (by decide +kernel) dX8_find_44 ?_
          have h10 : f_X8_find SM x1 x2 x3 = ((-1000000002), SM) := by unfold f_X8_find; try rw [if_neg c1, if_neg c2, if_neg c4, if_pos c5]; first | done | rfl
          exact ww_iret X hr rfl (congrArg (fun u9 : Int32 × St => u9.1) h10).symm (congrArg (fun u9 : Int32 × St => fl [wX8 cI cZ cQ rM u9.2]) h10.symm) dX8_find_46
      · refine ww_iload_n (pc := 29) X dX8_find_29 2 rfl rfl ?_
        refine ww_if_ne (pc := 30) (tgt := 44) X dX8_find_30 (by decide) (fun c11 => ?_) (fun c11 => ?_)
        · refine ww_ldc (pc := 44) (v := (-1000000002)) X (by decide +kernel) dX8_find_44 ?_
          have h12 : f_X8_find SM x1 x2 x3 = ((-1000000002), SM) := by unfold f_X8_find; try rw [if_neg c1, if_neg c2, if_pos c4, if_neg c11]; first | done | rfl
          exact ww_iret X hr rfl (congrArg (fun u9 : Int32 × St => u9.1) h12).symm (congrArg (fun u9 : Int32 × St => fl [wX8 cI cZ cQ rM u9.2]) h12.symm) dX8_find_46
        · refine ww_iload_n (pc := 33) X dX8_find_33 3 rfl rfl ?_
          refine ww_iconst (pc := 34) (v := 0) X dX8_find_34 (by decide) ?_
          refine ww_sipush (pc := 35) (v := 9999) X dX8_find_35 (by decide) ?_
          refine ww_gSi (pc := 38) (rest := []) (gsN := [wX8 cI cZ cQ rM SM]) X (c_X8_in l D cI cZ cQ x3 0 9999) gX8_find_X8_in rfl hd_X8_in [false] rfl rfl rfl rfl ⟨rfl, rfl⟩ ⟨Nat.le_of_ble_eq_true rfl, Nat.le_of_ble_eq_true rfl⟩ (Nat.le_of_ble_eq_true rfl) ⟨Nat.zero_le _, Nat.zero_le _⟩ dX8_find_38 ?_
          refine ww_if_ne (pc := 41) (tgt := 47) X dX8_find_41 (by decide) (fun c13 => ?_) (fun c13 => ?_)
          · refine ww_aload_n (pc := 47) X dX8_find_47 0 rfl rfl ?_
            refine ww_get (pc := 48) (ci := 8) (v := .int (SM.1 4)) (C := RX8) (T := TX8) (N := 27) X inX8_find_8 0 rfl rfl 19 (by decide) (by decide +kernel) rfl dX8_find_48 ?_
            refine ww_bipush (pc := 51) (v := 6) X dX8_find_51 (by decide) ?_
            refine ww_icmp_ne (pc := 53) (tgt := 59) X dX8_find_53 (by decide) (fun c14 => ?_) (fun c14 => ?_)
            · refine ww_aload_n (pc := 59) X dX8_find_59 0 rfl rfl ?_
              refine ww_get (pc := 60) (ci := 8) (v := .ref (rM 15)) (C := RX8) (T := TX8) (N := 27) X inX8_find_8 0 rfl rfl 18 (by decide) (by decide +kernel) rfl dX8_find_60 ?_
              refine ww_iconst (pc := 63) (v := 3) X dX8_find_63 (by decide) ?_
              refine ww_aload_n (pc := 64) X dX8_find_64 0 rfl rfl ?_
              refine ww_get (pc := 65) (ci := 8) (v := .int (SM.1 4)) (C := RX8) (T := TX8) (N := 27) X inX8_find_8 0 rfl rfl 19 (by decide) (by decide +kernel) rfl dX8_find_65 ?_
              have hb15 := clb (n := 6) (vin_ne (n := 6) e0 e1 c14 rfl)
              refine ww_imul (pc := 68) X dX8_find_68 ?_
              refine ww_iload_n (pc := 69) X dX8_find_69 1 rfl rfl ?_
              refine ww_iast (pc := 70) (f := SM.2 14) (ws' := fl [wX8 cI cZ cQ rM (sA SM 14 (upd (SM.2 14) ((3 * (SM.1 4) : Int32)).toNatClampNeg x1))]) X 15 0 rfl rfl (vn (m := 3 * ((SM.1 4 : Int32).toNatClampNeg)) (nat_imul (a := 3) (b := (SM.1 4 : Int32).toNatClampNeg) rfl (cl_of (vin_ne (n := 6) e0 e1 c14 rfl))) (by omega) (by decide)) (st8a_14 _ _ _ _ _ _) dX8_find_70 ?_
              refine ww_aload_n (pc := 71) X dX8_find_71 0 rfl rfl ?_
              refine ww_get (pc := 72) (ci := 8) (v := .ref (rM 15)) (C := RX8) (T := TX8) (N := 27) X inX8_find_8 0 rfl rfl 18 (by decide) (by decide +kernel) rfl dX8_find_72 ?_
              refine ww_iconst (pc := 75) (v := 3) X dX8_find_75 (by decide) ?_
              refine ww_aload_n (pc := 76) X dX8_find_76 0 rfl rfl ?_
              refine ww_get (pc := 77) (ci := 8) (v := .int (SM.1 4)) (C := RX8) (T := TX8) (N := 27) X inX8_find_8 0 rfl rfl 19 (by decide) (by decide +kernel) (gv sA_1) dX8_find_77 ?_
              refine ww_imul (pc := 80) X dX8_find_80 ?_
              refine ww_iconst (pc := 81) (v := 1) X dX8_find_81 (by decide) ?_
              refine ww_iadd (pc := 82) X dX8_find_82 ?_
              refine ww_iload_n (pc := 83) X dX8_find_83 2 rfl rfl ?_
              refine ww_iast (pc := 84) (f := upd (SM.2 14) ((3 * (SM.1 4) : Int32)).toNatClampNeg x1) (ws' := fl [wX8 cI cZ cQ rM (sA SM 14 (upd (upd (SM.2 14) ((3 * (SM.1 4) : Int32)).toNatClampNeg x1) (((3 * (SM.1 4)) + 1 : Int32)).toNatClampNeg x2))]) X 15 0 (ga8_14 _ _ _ _ _ sA_eq) rfl (vn (m := (3 * ((SM.1 4 : Int32).toNatClampNeg)) + 1) (nat_iadd (a := 3 * ((SM.1 4 : Int32).toNatClampNeg)) (b := 1) (nat_imul (a := 3) (b := (SM.1 4 : Int32).toNatClampNeg) rfl (cl_of (vin_ne (n := 6) e0 e1 c14 rfl))) rfl) (by omega) (by decide)) (st8b_14 _ _ _ _ _ _ _) dX8_find_84 ?_
              refine ww_aload_n (pc := 85) X dX8_find_85 0 rfl rfl ?_
              refine ww_get (pc := 86) (ci := 8) (v := .ref (rM 15)) (C := RX8) (T := TX8) (N := 27) X inX8_find_8 0 rfl rfl 18 (by decide) (by decide +kernel) rfl dX8_find_86 ?_
              refine ww_iconst (pc := 89) (v := 3) X dX8_find_89 (by decide) ?_
              refine ww_aload_n (pc := 90) X dX8_find_90 0 rfl rfl ?_
              refine ww_get (pc := 91) (ci := 8) (v := .int (SM.1 4)) (C := RX8) (T := TX8) (N := 27) X inX8_find_8 0 rfl rfl 19 (by decide) (by decide +kernel) (gv sA_1) dX8_find_91 ?_
              refine ww_imul (pc := 94) X dX8_find_94 ?_
              refine ww_iconst (pc := 95) (v := 2) X dX8_find_95 (by decide) ?_
              refine ww_iadd (pc := 96) X dX8_find_96 ?_
              refine ww_iload_n (pc := 97) X dX8_find_97 3 rfl rfl ?_
              refine ww_iast (pc := 98) (f := upd (upd (SM.2 14) ((3 * (SM.1 4) : Int32)).toNatClampNeg x1) (((3 * (SM.1 4)) + 1 : Int32)).toNatClampNeg x2) (ws' := fl [wX8 cI cZ cQ rM (sA SM 14 (upd (upd (upd (SM.2 14) ((3 * (SM.1 4) : Int32)).toNatClampNeg x1) (((3 * (SM.1 4)) + 1 : Int32)).toNatClampNeg x2) (((3 * (SM.1 4)) + 2 : Int32)).toNatClampNeg x3))]) X 15 0 (ga8_14 _ _ _ _ _ sA_eq) rfl (vn (m := (3 * ((SM.1 4 : Int32).toNatClampNeg)) + 2) (nat_iadd (a := 3 * ((SM.1 4 : Int32).toNatClampNeg)) (b := 2) (nat_imul (a := 3) (b := (SM.1 4 : Int32).toNatClampNeg) rfl (cl_of (vin_ne (n := 6) e0 e1 c14 rfl))) rfl) (by omega) (by decide)) (st8b_14 _ _ _ _ _ _ _) dX8_find_98 ?_
              refine ww_aload_n (pc := 99) X dX8_find_99 0 rfl rfl ?_
              refine ww_dup (pc := 100) X dX8_find_100 rfl ?_
              refine ww_get (pc := 101) (ci := 8) (v := .int (SM.1 4)) (C := RX8) (T := TX8) (N := 27) X inX8_find_8 0 rfl rfl 19 (by decide) (by decide +kernel) (gv sA_1) dX8_find_101 ?_
              refine ww_iconst (pc := 104) (v := 1) X dX8_find_104 (by decide) ?_
              refine ww_iadd (pc := 105) X dX8_find_105 ?_
              refine ww_put (pc := 106) (ci := 8) (v := .int ((SM.1 4) + 1)) (C := RX8) (T := TX8) (N := 27) (ws' := fl [wX8 cI cZ cQ rM (sI (sA SM 14 (upd (upd (upd (SM.2 14) ((3 * (SM.1 4) : Int32)).toNatClampNeg x1) (((3 * (SM.1 4)) + 1 : Int32)).toNatClampNeg x2) (((3 * (SM.1 4)) + 2 : Int32)).toNatClampNeg x3)) 4 ((SM.1 4) + 1))]) X inX8_find_8 tyX8 tyX8_ok nmX8 0 rfl rfl 19 (by decide) (by decide +kernel) rfl rfl rfl (Nat.le_of_ble_eq_true rfl) (pt8a_4 _ _ _ _ _ _) dX8_find_106 ?_
              refine ww_aload_n (pc := 109) X dX8_find_109 0 rfl rfl ?_
              refine ww_get (pc := 110) (ci := 8) (v := .int ((SM.1 4) + 1)) (C := RX8) (T := TX8) (N := 27) X inX8_find_8 0 rfl rfl 19 (by decide) (by decide +kernel) (gv sI_eq) dX8_find_110 ?_
              have h16 : f_X8_find SM x1 x2 x3 = ((SM.1 4) + 1, (sI (sA SM 14 (upd (upd (upd (SM.2 14) ((3 * (SM.1 4) : Int32)).toNatClampNeg x1) (((3 * (SM.1 4)) + 1 : Int32)).toNatClampNeg x2) (((3 * (SM.1 4)) + 2 : Int32)).toNatClampNeg x3)) 4 ((SM.1 4) + 1))) := by unfold f_X8_find; try rw [if_neg c1, if_neg c2, if_pos c4, if_pos c11, if_neg c13, if_neg c14]; first | done | rfl
              exact ww_iret X hr rfl (congrArg (fun u9 : Int32 × St => u9.1) h16).symm (congrArg (fun u9 : Int32 × St => fl [wX8 cI cZ cQ rM u9.2]) h16.symm) dX8_find_113
            · refine ww_ldc (pc := 56) (v := (-1000000004)) X (by decide +kernel) dX8_find_56 ?_
              have h17 : f_X8_find SM x1 x2 x3 = ((-1000000004), SM) := by unfold f_X8_find; try rw [if_neg c1, if_neg c2, if_pos c4, if_pos c11, if_neg c13, if_pos c14]; first | done | rfl
              exact ww_iret X hr rfl (congrArg (fun u9 : Int32 × St => u9.1) h17).symm (congrArg (fun u9 : Int32 × St => fl [wX8 cI cZ cQ rM u9.2]) h17.symm) dX8_find_58
          · refine ww_ldc (pc := 44) (v := (-1000000002)) X (by decide +kernel) dX8_find_44 ?_
            have h18 : f_X8_find SM x1 x2 x3 = ((-1000000002), SM) := by unfold f_X8_find; try rw [if_neg c1, if_neg c2, if_pos c4, if_pos c11, if_pos c13]; first | done | rfl
            exact ww_iret X hr rfl (congrArg (fun u9 : Int32 × St => u9.1) h18).symm (congrArg (fun u9 : Int32 × St => fl [wX8 cI cZ cQ rM u9.2]) h18.symm) dX8_find_46
  · refine ww_aload_n (pc := 4) X dX8_find_4 0 rfl rfl ?_
    refine ww_iload_n (pc := 5) X dX8_find_5 2 rfl rfl ?_
    refine ww_gVi (pc := 6) (rest := []) (gsN := [wX8 cI cZ cQ rM SM]) (ci := 8) (gi := 0) (qi := 0) X (c_X8_isGood l D cI cZ cQ rM SM x2) gX8_find_X8_isGood rfl hd_X8_isGood [true] rfl rfl rfl rfl rfl rfl rfl rfl ⟨rfl, rfl⟩ ⟨Nat.le_of_ble_eq_true rfl, Nat.le_of_ble_eq_true rfl⟩ (Nat.le_of_ble_eq_true rfl) ⟨Nat.zero_le _, Nat.zero_le _⟩ dX8_find_6 ?_
    refine ww_if_ne (pc := 9) (tgt := 15) X dX8_find_9 (by decide) (fun c19 => ?_) (fun c19 => ?_)
    · refine ww_iload_n (pc := 15) X dX8_find_15 1 rfl rfl ?_
      refine ww_iconst (pc := 16) (v := 0) X dX8_find_16 (by decide) ?_
      refine ww_iconst (pc := 17) (v := 1) X dX8_find_17 (by decide) ?_
      refine ww_gSi (pc := 18) (rest := []) (gsN := [wX8 cI cZ cQ rM SM]) X (c_X8_in l D cI cZ cQ x1 0 1) gX8_find_X8_in rfl hd_X8_in [false] rfl rfl rfl rfl ⟨rfl, rfl⟩ ⟨Nat.le_of_ble_eq_true rfl, Nat.le_of_ble_eq_true rfl⟩ (Nat.le_of_ble_eq_true rfl) ⟨Nat.zero_le _, Nat.zero_le _⟩ dX8_find_18 ?_
      refine ww_if_eq (pc := 21) (tgt := 44) X dX8_find_21 (by decide) (fun c20 => ?_) (fun c20 => ?_)
      · refine ww_ldc (pc := 44) (v := (-1000000002)) X (by decide +kernel) dX8_find_44 ?_
        have h21 : f_X8_find SM x1 x2 x3 = ((-1000000002), SM) := by unfold f_X8_find; try rw [if_pos c1, if_neg c19, if_pos c20]; first | done | rfl
        exact ww_iret X hr rfl (congrArg (fun u9 : Int32 × St => u9.1) h21).symm (congrArg (fun u9 : Int32 × St => fl [wX8 cI cZ cQ rM u9.2]) h21.symm) dX8_find_46
      · refine ww_iload_n (pc := 24) X dX8_find_24 1 rfl rfl ?_
        refine ww_iconst (pc := 25) (v := 1) X dX8_find_25 (by decide) ?_
        refine ww_icmp_ne (pc := 26) (tgt := 33) X dX8_find_26 (by decide) (fun c22 => ?_) (fun c22 => ?_)
        · refine ww_iload_n (pc := 33) X dX8_find_33 3 rfl rfl ?_
          refine ww_iconst (pc := 34) (v := 0) X dX8_find_34 (by decide) ?_
          refine ww_sipush (pc := 35) (v := 9999) X dX8_find_35 (by decide) ?_
          refine ww_gSi (pc := 38) (rest := []) (gsN := [wX8 cI cZ cQ rM SM]) X (c_X8_in l D cI cZ cQ x3 0 9999) gX8_find_X8_in rfl hd_X8_in [false] rfl rfl rfl rfl ⟨rfl, rfl⟩ ⟨Nat.le_of_ble_eq_true rfl, Nat.le_of_ble_eq_true rfl⟩ (Nat.le_of_ble_eq_true rfl) ⟨Nat.zero_le _, Nat.zero_le _⟩ dX8_find_38 ?_
          refine ww_if_ne (pc := 41) (tgt := 47) X dX8_find_41 (by decide) (fun c23 => ?_) (fun c23 => ?_)
          · refine ww_aload_n (pc := 47) X dX8_find_47 0 rfl rfl ?_
            refine ww_get (pc := 48) (ci := 8) (v := .int (SM.1 4)) (C := RX8) (T := TX8) (N := 27) X inX8_find_8 0 rfl rfl 19 (by decide) (by decide +kernel) rfl dX8_find_48 ?_
            refine ww_bipush (pc := 51) (v := 6) X dX8_find_51 (by decide) ?_
            refine ww_icmp_ne (pc := 53) (tgt := 59) X dX8_find_53 (by decide) (fun c24 => ?_) (fun c24 => ?_)
            · refine ww_aload_n (pc := 59) X dX8_find_59 0 rfl rfl ?_
              refine ww_get (pc := 60) (ci := 8) (v := .ref (rM 15)) (C := RX8) (T := TX8) (N := 27) X inX8_find_8 0 rfl rfl 18 (by decide) (by decide +kernel) rfl dX8_find_60 ?_
              refine ww_iconst (pc := 63) (v := 3) X dX8_find_63 (by decide) ?_
              refine ww_aload_n (pc := 64) X dX8_find_64 0 rfl rfl ?_
              refine ww_get (pc := 65) (ci := 8) (v := .int (SM.1 4)) (C := RX8) (T := TX8) (N := 27) X inX8_find_8 0 rfl rfl 19 (by decide) (by decide +kernel) rfl dX8_find_65 ?_
              have hb25 := clb (n := 6) (vin_ne (n := 6) e0 e1 c24 rfl)
              refine ww_imul (pc := 68) X dX8_find_68 ?_
              refine ww_iload_n (pc := 69) X dX8_find_69 1 rfl rfl ?_
              refine ww_iast (pc := 70) (f := SM.2 14) (ws' := fl [wX8 cI cZ cQ rM (sA SM 14 (upd (SM.2 14) ((3 * (SM.1 4) : Int32)).toNatClampNeg x1))]) X 15 0 rfl rfl (vn (m := 3 * ((SM.1 4 : Int32).toNatClampNeg)) (nat_imul (a := 3) (b := (SM.1 4 : Int32).toNatClampNeg) rfl (cl_of (vin_ne (n := 6) e0 e1 c24 rfl))) (by omega) (by decide)) (st8a_14 _ _ _ _ _ _) dX8_find_70 ?_
              refine ww_aload_n (pc := 71) X dX8_find_71 0 rfl rfl ?_
              refine ww_get (pc := 72) (ci := 8) (v := .ref (rM 15)) (C := RX8) (T := TX8) (N := 27) X inX8_find_8 0 rfl rfl 18 (by decide) (by decide +kernel) rfl dX8_find_72 ?_
              refine ww_iconst (pc := 75) (v := 3) X dX8_find_75 (by decide) ?_
              refine ww_aload_n (pc := 76) X dX8_find_76 0 rfl rfl ?_
              refine ww_get (pc := 77) (ci := 8) (v := .int (SM.1 4)) (C := RX8) (T := TX8) (N := 27) X inX8_find_8 0 rfl rfl 19 (by decide) (by decide +kernel) (gv sA_1) dX8_find_77 ?_
              refine ww_imul (pc := 80) X dX8_find_80 ?_
              refine ww_iconst (pc := 81) (v := 1) X dX8_find_81 (by decide) ?_
              refine ww_iadd (pc := 82) X dX8_find_82 ?_
              refine ww_iload_n (pc := 83) X dX8_find_83 2 rfl rfl ?_
              refine ww_iast (pc := 84) (f := upd (SM.2 14) ((3 * (SM.1 4) : Int32)).toNatClampNeg x1) (ws' := fl [wX8 cI cZ cQ rM (sA SM 14 (upd (upd (SM.2 14) ((3 * (SM.1 4) : Int32)).toNatClampNeg x1) (((3 * (SM.1 4)) + 1 : Int32)).toNatClampNeg x2))]) X 15 0 (ga8_14 _ _ _ _ _ sA_eq) rfl (vn (m := (3 * ((SM.1 4 : Int32).toNatClampNeg)) + 1) (nat_iadd (a := 3 * ((SM.1 4 : Int32).toNatClampNeg)) (b := 1) (nat_imul (a := 3) (b := (SM.1 4 : Int32).toNatClampNeg) rfl (cl_of (vin_ne (n := 6) e0 e1 c24 rfl))) rfl) (by omega) (by decide)) (st8b_14 _ _ _ _ _ _ _) dX8_find_84 ?_
              refine ww_aload_n (pc := 85) X dX8_find_85 0 rfl rfl ?_
              refine ww_get (pc := 86) (ci := 8) (v := .ref (rM 15)) (C := RX8) (T := TX8) (N := 27) X inX8_find_8 0 rfl rfl 18 (by decide) (by decide +kernel) rfl dX8_find_86 ?_
              refine ww_iconst (pc := 89) (v := 3) X dX8_find_89 (by decide) ?_
              refine ww_aload_n (pc := 90) X dX8_find_90 0 rfl rfl ?_
              refine ww_get (pc := 91) (ci := 8) (v := .int (SM.1 4)) (C := RX8) (T := TX8) (N := 27) X inX8_find_8 0 rfl rfl 19 (by decide) (by decide +kernel) (gv sA_1) dX8_find_91 ?_
              refine ww_imul (pc := 94) X dX8_find_94 ?_
              refine ww_iconst (pc := 95) (v := 2) X dX8_find_95 (by decide) ?_
              refine ww_iadd (pc := 96) X dX8_find_96 ?_
              refine ww_iload_n (pc := 97) X dX8_find_97 3 rfl rfl ?_
              refine ww_iast (pc := 98) (f := upd (upd (SM.2 14) ((3 * (SM.1 4) : Int32)).toNatClampNeg x1) (((3 * (SM.1 4)) + 1 : Int32)).toNatClampNeg x2) (ws' := fl [wX8 cI cZ cQ rM (sA SM 14 (upd (upd (upd (SM.2 14) ((3 * (SM.1 4) : Int32)).toNatClampNeg x1) (((3 * (SM.1 4)) + 1 : Int32)).toNatClampNeg x2) (((3 * (SM.1 4)) + 2 : Int32)).toNatClampNeg x3))]) X 15 0 (ga8_14 _ _ _ _ _ sA_eq) rfl (vn (m := (3 * ((SM.1 4 : Int32).toNatClampNeg)) + 2) (nat_iadd (a := 3 * ((SM.1 4 : Int32).toNatClampNeg)) (b := 2) (nat_imul (a := 3) (b := (SM.1 4 : Int32).toNatClampNeg) rfl (cl_of (vin_ne (n := 6) e0 e1 c24 rfl))) rfl) (by omega) (by decide)) (st8b_14 _ _ _ _ _ _ _) dX8_find_98 ?_
              refine ww_aload_n (pc := 99) X dX8_find_99 0 rfl rfl ?_
              refine ww_dup (pc := 100) X dX8_find_100 rfl ?_
              refine ww_get (pc := 101) (ci := 8) (v := .int (SM.1 4)) (C := RX8) (T := TX8) (N := 27) X inX8_find_8 0 rfl rfl 19 (by decide) (by decide +kernel) (gv sA_1) dX8_find_101 ?_
              refine ww_iconst (pc := 104) (v := 1) X dX8_find_104 (by decide) ?_
              refine ww_iadd (pc := 105) X dX8_find_105 ?_
              refine ww_put (pc := 106) (ci := 8) (v := .int ((SM.1 4) + 1)) (C := RX8) (T := TX8) (N := 27) (ws' := fl [wX8 cI cZ cQ rM (sI (sA SM 14 (upd (upd (upd (SM.2 14) ((3 * (SM.1 4) : Int32)).toNatClampNeg x1) (((3 * (SM.1 4)) + 1 : Int32)).toNatClampNeg x2) (((3 * (SM.1 4)) + 2 : Int32)).toNatClampNeg x3)) 4 ((SM.1 4) + 1))]) X inX8_find_8 tyX8 tyX8_ok nmX8 0 rfl rfl 19 (by decide) (by decide +kernel) rfl rfl rfl (Nat.le_of_ble_eq_true rfl) (pt8a_4 _ _ _ _ _ _) dX8_find_106 ?_
              refine ww_aload_n (pc := 109) X dX8_find_109 0 rfl rfl ?_
              refine ww_get (pc := 110) (ci := 8) (v := .int ((SM.1 4) + 1)) (C := RX8) (T := TX8) (N := 27) X inX8_find_8 0 rfl rfl 19 (by decide) (by decide +kernel) (gv sI_eq) dX8_find_110 ?_
              have h26 : f_X8_find SM x1 x2 x3 = ((SM.1 4) + 1, (sI (sA SM 14 (upd (upd (upd (SM.2 14) ((3 * (SM.1 4) : Int32)).toNatClampNeg x1) (((3 * (SM.1 4)) + 1 : Int32)).toNatClampNeg x2) (((3 * (SM.1 4)) + 2 : Int32)).toNatClampNeg x3)) 4 ((SM.1 4) + 1))) := by unfold f_X8_find; try rw [if_pos c1, if_neg c19, if_neg c20, if_neg c22, if_neg c23, if_neg c24]; first | done | rfl
              exact ww_iret X hr rfl (congrArg (fun u9 : Int32 × St => u9.1) h26).symm (congrArg (fun u9 : Int32 × St => fl [wX8 cI cZ cQ rM u9.2]) h26.symm) dX8_find_113
            · refine ww_ldc (pc := 56) (v := (-1000000004)) X (by decide +kernel) dX8_find_56 ?_
              have h27 : f_X8_find SM x1 x2 x3 = ((-1000000004), SM) := by unfold f_X8_find; try rw [if_pos c1, if_neg c19, if_neg c20, if_neg c22, if_neg c23, if_pos c24]; first | done | rfl
              exact ww_iret X hr rfl (congrArg (fun u9 : Int32 × St => u9.1) h27).symm (congrArg (fun u9 : Int32 × St => fl [wX8 cI cZ cQ rM u9.2]) h27.symm) dX8_find_58
          · refine ww_ldc (pc := 44) (v := (-1000000002)) X (by decide +kernel) dX8_find_44 ?_
            have h28 : f_X8_find SM x1 x2 x3 = ((-1000000002), SM) := by unfold f_X8_find; try rw [if_pos c1, if_neg c19, if_neg c20, if_neg c22, if_pos c23]; first | done | rfl
            exact ww_iret X hr rfl (congrArg (fun u9 : Int32 × St => u9.1) h28).symm (congrArg (fun u9 : Int32 × St => fl [wX8 cI cZ cQ rM u9.2]) h28.symm) dX8_find_46
        · refine ww_iload_n (pc := 29) X dX8_find_29 2 rfl rfl ?_
          refine ww_if_ne (pc := 30) (tgt := 44) X dX8_find_30 (by decide) (fun c29 => ?_) (fun c29 => ?_)
          · refine ww_ldc (pc := 44) (v := (-1000000002)) X (by decide +kernel) dX8_find_44 ?_
            have h30 : f_X8_find SM x1 x2 x3 = ((-1000000002), SM) := by unfold f_X8_find; try rw [if_pos c1, if_neg c19, if_neg c20, if_pos c22, if_neg c29]; first | done | rfl
            exact ww_iret X hr rfl (congrArg (fun u9 : Int32 × St => u9.1) h30).symm (congrArg (fun u9 : Int32 × St => fl [wX8 cI cZ cQ rM u9.2]) h30.symm) dX8_find_46
          · refine ww_iload_n (pc := 33) X dX8_find_33 3 rfl rfl ?_
            refine ww_iconst (pc := 34) (v := 0) X dX8_find_34 (by decide) ?_
            refine ww_sipush (pc := 35) (v := 9999) X dX8_find_35 (by decide) ?_
            refine ww_gSi (pc := 38) (rest := []) (gsN := [wX8 cI cZ cQ rM SM]) X (c_X8_in l D cI cZ cQ x3 0 9999) gX8_find_X8_in rfl hd_X8_in [false] rfl rfl rfl rfl ⟨rfl, rfl⟩ ⟨Nat.le_of_ble_eq_true rfl, Nat.le_of_ble_eq_true rfl⟩ (Nat.le_of_ble_eq_true rfl) ⟨Nat.zero_le _, Nat.zero_le _⟩ dX8_find_38 ?_
            refine ww_if_ne (pc := 41) (tgt := 47) X dX8_find_41 (by decide) (fun c31 => ?_) (fun c31 => ?_)
            · refine ww_aload_n (pc := 47) X dX8_find_47 0 rfl rfl ?_
              refine ww_get (pc := 48) (ci := 8) (v := .int (SM.1 4)) (C := RX8) (T := TX8) (N := 27) X inX8_find_8 0 rfl rfl 19 (by decide) (by decide +kernel) rfl dX8_find_48 ?_
              refine ww_bipush (pc := 51) (v := 6) X dX8_find_51 (by decide) ?_
              refine ww_icmp_ne (pc := 53) (tgt := 59) X dX8_find_53 (by decide) (fun c32 => ?_) (fun c32 => ?_)
              · refine ww_aload_n (pc := 59) X dX8_find_59 0 rfl rfl ?_
                refine ww_get (pc := 60) (ci := 8) (v := .ref (rM 15)) (C := RX8) (T := TX8) (N := 27) X inX8_find_8 0 rfl rfl 18 (by decide) (by decide +kernel) rfl dX8_find_60 ?_
                refine ww_iconst (pc := 63) (v := 3) X dX8_find_63 (by decide) ?_
                refine ww_aload_n (pc := 64) X dX8_find_64 0 rfl rfl ?_
                refine ww_get (pc := 65) (ci := 8) (v := .int (SM.1 4)) (C := RX8) (T := TX8) (N := 27) X inX8_find_8 0 rfl rfl 19 (by decide) (by decide +kernel) rfl dX8_find_65 ?_
                have hb33 := clb (n := 6) (vin_ne (n := 6) e0 e1 c32 rfl)
                refine ww_imul (pc := 68) X dX8_find_68 ?_
                refine ww_iload_n (pc := 69) X dX8_find_69 1 rfl rfl ?_
                refine ww_iast (pc := 70) (f := SM.2 14) (ws' := fl [wX8 cI cZ cQ rM (sA SM 14 (upd (SM.2 14) ((3 * (SM.1 4) : Int32)).toNatClampNeg x1))]) X 15 0 rfl rfl (vn (m := 3 * ((SM.1 4 : Int32).toNatClampNeg)) (nat_imul (a := 3) (b := (SM.1 4 : Int32).toNatClampNeg) rfl (cl_of (vin_ne (n := 6) e0 e1 c32 rfl))) (by omega) (by decide)) (st8a_14 _ _ _ _ _ _) dX8_find_70 ?_
                refine ww_aload_n (pc := 71) X dX8_find_71 0 rfl rfl ?_
                refine ww_get (pc := 72) (ci := 8) (v := .ref (rM 15)) (C := RX8) (T := TX8) (N := 27) X inX8_find_8 0 rfl rfl 18 (by decide) (by decide +kernel) rfl dX8_find_72 ?_
                refine ww_iconst (pc := 75) (v := 3) X dX8_find_75 (by decide) ?_
                refine ww_aload_n (pc := 76) X dX8_find_76 0 rfl rfl ?_
                refine ww_get (pc := 77) (ci := 8) (v := .int (SM.1 4)) (C := RX8) (T := TX8) (N := 27) X inX8_find_8 0 rfl rfl 19 (by decide) (by decide +kernel) (gv sA_1) dX8_find_77 ?_
                refine ww_imul (pc := 80) X dX8_find_80 ?_
                refine ww_iconst (pc := 81) (v := 1) X dX8_find_81 (by decide) ?_
                refine ww_iadd (pc := 82) X dX8_find_82 ?_
                refine ww_iload_n (pc := 83) X dX8_find_83 2 rfl rfl ?_
                refine ww_iast (pc := 84) (f := upd (SM.2 14) ((3 * (SM.1 4) : Int32)).toNatClampNeg x1) (ws' := fl [wX8 cI cZ cQ rM (sA SM 14 (upd (upd (SM.2 14) ((3 * (SM.1 4) : Int32)).toNatClampNeg x1) (((3 * (SM.1 4)) + 1 : Int32)).toNatClampNeg x2))]) X 15 0 (ga8_14 _ _ _ _ _ sA_eq) rfl (vn (m := (3 * ((SM.1 4 : Int32).toNatClampNeg)) + 1) (nat_iadd (a := 3 * ((SM.1 4 : Int32).toNatClampNeg)) (b := 1) (nat_imul (a := 3) (b := (SM.1 4 : Int32).toNatClampNeg) rfl (cl_of (vin_ne (n := 6) e0 e1 c32 rfl))) rfl) (by omega) (by decide)) (st8b_14 _ _ _ _ _ _ _) dX8_find_84 ?_
                refine ww_aload_n (pc := 85) X dX8_find_85 0 rfl rfl ?_
                refine ww_get (pc := 86) (ci := 8) (v := .ref (rM 15)) (C := RX8) (T := TX8) (N := 27) X inX8_find_8 0 rfl rfl 18 (by decide) (by decide +kernel) rfl dX8_find_86 ?_
                refine ww_iconst (pc := 89) (v := 3) X dX8_find_89 (by decide) ?_
                refine ww_aload_n (pc := 90) X dX8_find_90 0 rfl rfl ?_
                refine ww_get (pc := 91) (ci := 8) (v := .int (SM.1 4)) (C := RX8) (T := TX8) (N := 27) X inX8_find_8 0 rfl rfl 19 (by decide) (by decide +kernel) (gv sA_1) dX8_find_91 ?_
                refine ww_imul (pc := 94) X dX8_find_94 ?_
                refine ww_iconst (pc := 95) (v := 2) X dX8_find_95 (by decide) ?_
                refine ww_iadd (pc := 96) X dX8_find_96 ?_
                refine ww_iload_n (pc := 97) X dX8_find_97 3 rfl rfl ?_
                refine ww_iast (pc := 98) (f := upd (upd (SM.2 14) ((3 * (SM.1 4) : Int32)).toNatClampNeg x1) (((3 * (SM.1 4)) + 1 : Int32)).toNatClampNeg x2) (ws' := fl [wX8 cI cZ cQ rM (sA SM 14 (upd (upd (upd (SM.2 14) ((3 * (SM.1 4) : Int32)).toNatClampNeg x1) (((3 * (SM.1 4)) + 1 : Int32)).toNatClampNeg x2) (((3 * (SM.1 4)) + 2 : Int32)).toNatClampNeg x3))]) X 15 0 (ga8_14 _ _ _ _ _ sA_eq) rfl (vn (m := (3 * ((SM.1 4 : Int32).toNatClampNeg)) + 2) (nat_iadd (a := 3 * ((SM.1 4 : Int32).toNatClampNeg)) (b := 2) (nat_imul (a := 3) (b := (SM.1 4 : Int32).toNatClampNeg) rfl (cl_of (vin_ne (n := 6) e0 e1 c32 rfl))) rfl) (by omega) (by decide)) (st8b_14 _ _ _ _ _ _ _) dX8_find_98 ?_
                refine ww_aload_n (pc := 99) X dX8_find_99 0 rfl rfl ?_
                refine ww_dup (pc := 100) X dX8_find_100 rfl ?_
                refine ww_get (pc := 101) (ci := 8) (v := .int (SM.1 4)) (C := RX8) (T := TX8) (N := 27) X inX8_find_8 0 rfl rfl 19 (by decide) (by decide +kernel) (gv sA_1) dX8_find_101 ?_
                refine ww_iconst (pc := 104) (v := 1) X dX8_find_104 (by decide) ?_
                refine ww_iadd (pc := 105) X dX8_find_105 ?_
                refine ww_put (pc := 106) (ci := 8) (v := .int ((SM.1 4) + 1)) (C := RX8) (T := TX8) (N := 27) (ws' := fl [wX8 cI cZ cQ rM (sI (sA SM 14 (upd (upd (upd (SM.2 14) ((3 * (SM.1 4) : Int32)).toNatClampNeg x1) (((3 * (SM.1 4)) + 1 : Int32)).toNatClampNeg x2) (((3 * (SM.1 4)) + 2 : Int32)).toNatClampNeg x3)) 4 ((SM.1 4) + 1))]) X inX8_find_8 tyX8 tyX8_ok nmX8 0 rfl rfl 19 (by decide) (by decide +kernel) rfl rfl rfl (Nat.le_of_ble_eq_true rfl) (pt8a_4 _ _ _ _ _ _) dX8_find_106 ?_
                refine ww_aload_n (pc := 109) X dX8_find_109 0 rfl rfl ?_
                refine ww_get (pc := 110) (ci := 8) (v := .int ((SM.1 4) + 1)) (C := RX8) (T := TX8) (N := 27) X inX8_find_8 0 rfl rfl 19 (by decide) (by decide +kernel) (gv sI_eq) dX8_find_110 ?_
                have h34 : f_X8_find SM x1 x2 x3 = ((SM.1 4) + 1, (sI (sA SM 14 (upd (upd (upd (SM.2 14) ((3 * (SM.1 4) : Int32)).toNatClampNeg x1) (((3 * (SM.1 4)) + 1 : Int32)).toNatClampNeg x2) (((3 * (SM.1 4)) + 2 : Int32)).toNatClampNeg x3)) 4 ((SM.1 4) + 1))) := by unfold f_X8_find; try rw [if_pos c1, if_neg c19, if_neg c20, if_pos c22, if_pos c29, if_neg c31, if_neg c32]; first | done | rfl
                exact ww_iret X hr rfl (congrArg (fun u9 : Int32 × St => u9.1) h34).symm (congrArg (fun u9 : Int32 × St => fl [wX8 cI cZ cQ rM u9.2]) h34.symm) dX8_find_113
              · refine ww_ldc (pc := 56) (v := (-1000000004)) X (by decide +kernel) dX8_find_56 ?_
                have h35 : f_X8_find SM x1 x2 x3 = ((-1000000004), SM) := by unfold f_X8_find; try rw [if_pos c1, if_neg c19, if_neg c20, if_pos c22, if_pos c29, if_neg c31, if_pos c32]; first | done | rfl
                exact ww_iret X hr rfl (congrArg (fun u9 : Int32 × St => u9.1) h35).symm (congrArg (fun u9 : Int32 × St => fl [wX8 cI cZ cQ rM u9.2]) h35.symm) dX8_find_58
            · refine ww_ldc (pc := 44) (v := (-1000000002)) X (by decide +kernel) dX8_find_44 ?_
              have h36 : f_X8_find SM x1 x2 x3 = ((-1000000002), SM) := by unfold f_X8_find; try rw [if_pos c1, if_neg c19, if_neg c20, if_pos c22, if_pos c29, if_pos c31]; first | done | rfl
              exact ww_iret X hr rfl (congrArg (fun u9 : Int32 × St => u9.1) h36).symm (congrArg (fun u9 : Int32 × St => fl [wX8 cI cZ cQ rM u9.2]) h36.symm) dX8_find_46
    · refine ww_ldc (pc := 12) (v := (-1000000001)) X (by decide +kernel) dX8_find_12 ?_
      have h37 : f_X8_find SM x1 x2 x3 = ((-1000000001), SM) := by unfold f_X8_find; try rw [if_pos c1, if_pos c19]; first | done | rfl
      exact ww_iret X hr rfl (congrArg (fun u9 : Int32 × St => u9.1) h37).symm (congrArg (fun u9 : Int32 × St => fl [wX8 cI cZ cQ rM u9.2]) h37.symm) dX8_find_14
def f_X8_write (SM : St) (x1 : Int32) (x2 : Int32) : Int32 × St :=
  if (f_X8_isPerson SM x1) = 0 then
    ((-1000000001), SM)
  else
    if (f_X8_in x2 0 9999) = 0 then
      ((-1000000002), SM)
    else
      if (SM.1 5) = 15 then
        ((-1000000004), SM)
      else
        ((SM.1 5) + 1, (sI (sA SM 15 (upd (upd (SM.2 15) ((2 * (SM.1 5) : Int32)).toNatClampNeg x1) (((2 * (SM.1 5)) + 1 : Int32)).toNatClampNeg x2)) 5 ((SM.1 5) + 1)))
theorem inX8_write_8 : ∀ w ∈ wsX80, w ∈ wsX8_write := by decide +kernel
theorem hd_X8_write : yX8_write.cls = RX8 ∧ yX8_write.cls ≠ "java/lang/invoke/MethodHandle" ∧ yX8_write.cls ≠ "java/lang/invoke/VarHandle" ∧ (parseMethodDescriptor yX8_write.desc).map (fun d => d.parameters.length) = some 2 := by decide +kernel
set_option maxHeartbeats 4000000 in
set_option maxRecDepth 100000 in
theorem c_X8_write (l : Launch) (D : va_G) (cI cZ cQ : ClassId) (rM : Nat → Nat) (SM : St) (x1 : Int32) (x2 : Int32) (okm : okM SM) (e0 : ¬ (SM.1 5) < 0) (e1 : SM.1 5 ≤ 15) : Ci l yX8_write wsX8_write { frames := 2, cells := 0, slots := 0, locals := 43 } D (tyL cI cZ cQ) [.ref (rM 0), .int x1, .int x2] (fl [wX8 cI cZ cQ rM SM]) ((f_X8_write SM x1 x2).1) (fl [wX8 cI cZ cQ rM ((f_X8_write SM x1 x2).2)]) := by
  refine ci_of (cc := cX8_write) (nL := 3) (ty := .int) (lv0 := [(0, .ref (rM 0)), (1, .int x1), (2, .int x2)]) (by decide) rfl (Nat.le_of_ble_eq_true rfl) rfl ?_
  intro p e s m args below meth c A X hr
  refine ww_aload_n (pc := 0) X dX8_write_0 0 rfl rfl ?_
  refine ww_iload_n (pc := 1) X dX8_write_1 1 rfl rfl ?_
  refine ww_gVi (pc := 2) (rest := []) (gsN := [wX8 cI cZ cQ rM SM]) (ci := 8) (gi := 0) (qi := 0) X (c_X8_isPerson l D cI cZ cQ rM SM x1) gX8_write_X8_isPerson rfl hd_X8_isPerson [true] rfl rfl rfl rfl rfl rfl rfl rfl ⟨rfl, rfl⟩ ⟨Nat.le_of_ble_eq_true rfl, Nat.le_of_ble_eq_true rfl⟩ (Nat.le_of_ble_eq_true rfl) ⟨Nat.zero_le _, Nat.zero_le _⟩ dX8_write_2 ?_
  refine ww_if_ne (pc := 5) (tgt := 11) X dX8_write_5 (by decide) (fun c1 => ?_) (fun c1 => ?_)
  · refine ww_iload_n (pc := 11) X dX8_write_11 2 rfl rfl ?_
    refine ww_iconst (pc := 12) (v := 0) X dX8_write_12 (by decide) ?_
    refine ww_sipush (pc := 13) (v := 9999) X dX8_write_13 (by decide) ?_
    refine ww_gSi (pc := 16) (rest := []) (gsN := [wX8 cI cZ cQ rM SM]) X (c_X8_in l D cI cZ cQ x2 0 9999) gX8_write_X8_in rfl hd_X8_in [false] rfl rfl rfl rfl ⟨rfl, rfl⟩ ⟨Nat.le_of_ble_eq_true rfl, Nat.le_of_ble_eq_true rfl⟩ (Nat.le_of_ble_eq_true rfl) ⟨Nat.zero_le _, Nat.zero_le _⟩ dX8_write_16 ?_
    refine ww_if_ne (pc := 19) (tgt := 25) X dX8_write_19 (by decide) (fun c2 => ?_) (fun c2 => ?_)
    · refine ww_aload_n (pc := 25) X dX8_write_25 0 rfl rfl ?_
      refine ww_get (pc := 26) (ci := 8) (v := .int (SM.1 5)) (C := RX8) (T := TX8) (N := 27) X inX8_write_8 0 rfl rfl 21 (by decide) (by decide +kernel) rfl dX8_write_26 ?_
      refine ww_bipush (pc := 29) (v := 15) X dX8_write_29 (by decide) ?_
      refine ww_icmp_ne (pc := 31) (tgt := 37) X dX8_write_31 (by decide) (fun c3 => ?_) (fun c3 => ?_)
      · refine ww_aload_n (pc := 37) X dX8_write_37 0 rfl rfl ?_
        refine ww_get (pc := 38) (ci := 8) (v := .ref (rM 16)) (C := RX8) (T := TX8) (N := 27) X inX8_write_8 0 rfl rfl 20 (by decide) (by decide +kernel) rfl dX8_write_38 ?_
        refine ww_iconst (pc := 41) (v := 2) X dX8_write_41 (by decide) ?_
        refine ww_aload_n (pc := 42) X dX8_write_42 0 rfl rfl ?_
        refine ww_get (pc := 43) (ci := 8) (v := .int (SM.1 5)) (C := RX8) (T := TX8) (N := 27) X inX8_write_8 0 rfl rfl 21 (by decide) (by decide +kernel) rfl dX8_write_43 ?_
        have hb4 := clb (n := 15) (vin_ne (n := 15) e0 e1 c3 rfl)
        refine ww_imul (pc := 46) X dX8_write_46 ?_
        refine ww_iload_n (pc := 47) X dX8_write_47 1 rfl rfl ?_
        refine ww_iast (pc := 48) (f := SM.2 15) (ws' := fl [wX8 cI cZ cQ rM (sA SM 15 (upd (SM.2 15) ((2 * (SM.1 5) : Int32)).toNatClampNeg x1))]) X 16 0 rfl rfl (vn (m := 2 * ((SM.1 5 : Int32).toNatClampNeg)) (nat_imul (a := 2) (b := (SM.1 5 : Int32).toNatClampNeg) rfl (cl_of (vin_ne (n := 15) e0 e1 c3 rfl))) (by omega) (by decide)) (st8a_15 _ _ _ _ _ _) dX8_write_48 ?_
        refine ww_aload_n (pc := 49) X dX8_write_49 0 rfl rfl ?_
        refine ww_get (pc := 50) (ci := 8) (v := .ref (rM 16)) (C := RX8) (T := TX8) (N := 27) X inX8_write_8 0 rfl rfl 20 (by decide) (by decide +kernel) rfl dX8_write_50 ?_
        refine ww_iconst (pc := 53) (v := 2) X dX8_write_53 (by decide) ?_
        refine ww_aload_n (pc := 54) X dX8_write_54 0 rfl rfl ?_
        refine ww_get (pc := 55) (ci := 8) (v := .int (SM.1 5)) (C := RX8) (T := TX8) (N := 27) X inX8_write_8 0 rfl rfl 21 (by decide) (by decide +kernel) (gv sA_1) dX8_write_55 ?_
        refine ww_imul (pc := 58) X dX8_write_58 ?_
        refine ww_iconst (pc := 59) (v := 1) X dX8_write_59 (by decide) ?_
        refine ww_iadd (pc := 60) X dX8_write_60 ?_
        refine ww_iload_n (pc := 61) X dX8_write_61 2 rfl rfl ?_
        refine ww_iast (pc := 62) (f := upd (SM.2 15) ((2 * (SM.1 5) : Int32)).toNatClampNeg x1) (ws' := fl [wX8 cI cZ cQ rM (sA SM 15 (upd (upd (SM.2 15) ((2 * (SM.1 5) : Int32)).toNatClampNeg x1) (((2 * (SM.1 5)) + 1 : Int32)).toNatClampNeg x2))]) X 16 0 (ga8_15 _ _ _ _ _ sA_eq) rfl (vn (m := (2 * ((SM.1 5 : Int32).toNatClampNeg)) + 1) (nat_iadd (a := 2 * ((SM.1 5 : Int32).toNatClampNeg)) (b := 1) (nat_imul (a := 2) (b := (SM.1 5 : Int32).toNatClampNeg) rfl (cl_of (vin_ne (n := 15) e0 e1 c3 rfl))) rfl) (by omega) (by decide)) (st8b_15 _ _ _ _ _ _ _) dX8_write_62 ?_
        refine ww_aload_n (pc := 63) X dX8_write_63 0 rfl rfl ?_
        refine ww_dup (pc := 64) X dX8_write_64 rfl ?_
        refine ww_get (pc := 65) (ci := 8) (v := .int (SM.1 5)) (C := RX8) (T := TX8) (N := 27) X inX8_write_8 0 rfl rfl 21 (by decide) (by decide +kernel) (gv sA_1) dX8_write_65 ?_
        refine ww_iconst (pc := 68) (v := 1) X dX8_write_68 (by decide) ?_
        refine ww_iadd (pc := 69) X dX8_write_69 ?_
        refine ww_put (pc := 70) (ci := 8) (v := .int ((SM.1 5) + 1)) (C := RX8) (T := TX8) (N := 27) (ws' := fl [wX8 cI cZ cQ rM (sI (sA SM 15 (upd (upd (SM.2 15) ((2 * (SM.1 5) : Int32)).toNatClampNeg x1) (((2 * (SM.1 5)) + 1 : Int32)).toNatClampNeg x2)) 5 ((SM.1 5) + 1))]) X inX8_write_8 tyX8 tyX8_ok nmX8 0 rfl rfl 21 (by decide) (by decide +kernel) rfl rfl rfl (Nat.le_of_ble_eq_true rfl) (pt8a_5 _ _ _ _ _ _) dX8_write_70 ?_
        refine ww_aload_n (pc := 73) X dX8_write_73 0 rfl rfl ?_
        refine ww_get (pc := 74) (ci := 8) (v := .int ((SM.1 5) + 1)) (C := RX8) (T := TX8) (N := 27) X inX8_write_8 0 rfl rfl 21 (by decide) (by decide +kernel) (gv sI_eq) dX8_write_74 ?_
        have h5 : f_X8_write SM x1 x2 = ((SM.1 5) + 1, (sI (sA SM 15 (upd (upd (SM.2 15) ((2 * (SM.1 5) : Int32)).toNatClampNeg x1) (((2 * (SM.1 5)) + 1 : Int32)).toNatClampNeg x2)) 5 ((SM.1 5) + 1))) := by unfold f_X8_write; try rw [if_neg c1, if_neg c2, if_neg c3]; first | done | rfl
        exact ww_iret X hr rfl (congrArg (fun u9 : Int32 × St => u9.1) h5).symm (congrArg (fun u9 : Int32 × St => fl [wX8 cI cZ cQ rM u9.2]) h5.symm) dX8_write_77
      · refine ww_ldc (pc := 34) (v := (-1000000004)) X (by decide +kernel) dX8_write_34 ?_
        have h6 : f_X8_write SM x1 x2 = ((-1000000004), SM) := by unfold f_X8_write; try rw [if_neg c1, if_neg c2, if_pos c3]; first | done | rfl
        exact ww_iret X hr rfl (congrArg (fun u9 : Int32 × St => u9.1) h6).symm (congrArg (fun u9 : Int32 × St => fl [wX8 cI cZ cQ rM u9.2]) h6.symm) dX8_write_36
    · refine ww_ldc (pc := 22) (v := (-1000000002)) X (by decide +kernel) dX8_write_22 ?_
      have h7 : f_X8_write SM x1 x2 = ((-1000000002), SM) := by unfold f_X8_write; try rw [if_neg c1, if_pos c2]; first | done | rfl
      exact ww_iret X hr rfl (congrArg (fun u9 : Int32 × St => u9.1) h7).symm (congrArg (fun u9 : Int32 × St => fl [wX8 cI cZ cQ rM u9.2]) h7.symm) dX8_write_24
  · refine ww_ldc (pc := 8) (v := (-1000000001)) X (by decide +kernel) dX8_write_8 ?_
    have h8 : f_X8_write SM x1 x2 = ((-1000000001), SM) := by unfold f_X8_write; try rw [if_pos c1]; first | done | rfl
    exact ww_iret X hr rfl (congrArg (fun u9 : Int32 × St => u9.1) h8).symm (congrArg (fun u9 : Int32 × St => fl [wX8 cI cZ cQ rM u9.2]) h8.symm) dX8_write_10
def f_X8_tear (SM : St) : Int32 × St :=
  ((SM.1 4) + (SM.1 5), (sI (sI SM 4 0) 5 0))
theorem inX8_tear_8 : ∀ w ∈ wsX80, w ∈ wsX8_tear := by decide +kernel
theorem hd_X8_tear : yX8_tear.cls = RX8 ∧ yX8_tear.cls ≠ "java/lang/invoke/MethodHandle" ∧ yX8_tear.cls ≠ "java/lang/invoke/VarHandle" ∧ (parseMethodDescriptor yX8_tear.desc).map (fun d => d.parameters.length) = some 0 := by decide +kernel
set_option maxHeartbeats 4000000 in
set_option maxRecDepth 100000 in
theorem c_X8_tear (l : Launch) (D : va_G) (cI cZ cQ : ClassId) (rM : Nat → Nat) (SM : St) : Ci l yX8_tear wsX8_tear { frames := 0, cells := 0, slots := 0, locals := 0 } D (tyL cI cZ cQ) [.ref (rM 0)] (fl [wX8 cI cZ cQ rM SM]) ((f_X8_tear SM).1) (fl [wX8 cI cZ cQ rM ((f_X8_tear SM).2)]) := by
  refine ci_of (cc := cX8_tear) (nL := 2) (ty := .int) (lv0 := [(0, .ref (rM 0))]) (by decide) rfl (Nat.le_of_ble_eq_true rfl) rfl ?_
  intro p e s m args below meth c A X hr
  refine ww_aload_n (pc := 0) X dX8_tear_0 0 rfl rfl ?_
  refine ww_get (pc := 1) (ci := 8) (v := .int (SM.1 4)) (C := RX8) (T := TX8) (N := 27) X inX8_tear_8 0 rfl rfl 19 (by decide) (by decide +kernel) rfl dX8_tear_1 ?_
  refine ww_aload_n (pc := 4) X dX8_tear_4 0 rfl rfl ?_
  refine ww_get (pc := 5) (ci := 8) (v := .int (SM.1 5)) (C := RX8) (T := TX8) (N := 27) X inX8_tear_8 0 rfl rfl 21 (by decide) (by decide +kernel) rfl dX8_tear_5 ?_
  refine ww_iadd (pc := 8) X dX8_tear_8 ?_
  refine ww_istore_n (pc := 9) (lv' := [(1, .int ((SM.1 4) + (SM.1 5))), (0, .ref (rM 0))]) X dX8_tear_9 rfl (by decide) rfl ?_
  refine ww_aload_n (pc := 10) X dX8_tear_10 1 rfl rfl ?_
  refine ww_iconst (pc := 11) (v := 0) X dX8_tear_11 (by decide) ?_
  refine ww_put (pc := 12) (ci := 8) (v := .int 0) (C := RX8) (T := TX8) (N := 27) (ws' := fl [wX8 cI cZ cQ rM (sI SM 4 0)]) X inX8_tear_8 tyX8 tyX8_ok nmX8 0 rfl rfl 19 (by decide) (by decide +kernel) rfl rfl rfl (Nat.le_of_ble_eq_true rfl) (pt8a_4 _ _ _ _ _ _) dX8_tear_12 ?_
  refine ww_aload_n (pc := 15) X dX8_tear_15 1 rfl rfl ?_
  refine ww_iconst (pc := 16) (v := 0) X dX8_tear_16 (by decide) ?_
  refine ww_put (pc := 17) (ci := 8) (v := .int 0) (C := RX8) (T := TX8) (N := 27) (ws' := fl [wX8 cI cZ cQ rM (sI (sI SM 4 0) 5 0)]) X inX8_tear_8 tyX8 tyX8_ok nmX8 0 rfl rfl 21 (by decide) (by decide +kernel) rfl rfl rfl (Nat.le_of_ble_eq_true rfl) (pt8a_5 _ _ _ _ _ _) dX8_tear_17 ?_
  refine ww_iload_n (pc := 20) X dX8_tear_20 0 rfl rfl ?_
  have h1 : f_X8_tear SM = ((SM.1 4) + (SM.1 5), (sI (sI SM 4 0) 5 0)) := by unfold f_X8_tear; first | done | rfl
  exact ww_iret X hr rfl (congrArg (fun u9 : Int32 × St => u9.1) h1).symm (congrArg (fun u9 : Int32 × St => fl [wX8 cI cZ cQ rM u9.2]) h1.symm) dX8_tear_21
def f_X8_seed (SM : St) (x1 : Int32) : Int32 × St :=
  if 0 ≤ x1 then
    (SM.1 3, (sI SM 3 x1))
  else
    ((-1000000002), SM)
theorem inX8_seed_8 : ∀ w ∈ wsX80, w ∈ wsX8_seed := by decide +kernel
theorem hd_X8_seed : yX8_seed.cls = RX8 ∧ yX8_seed.cls ≠ "java/lang/invoke/MethodHandle" ∧ yX8_seed.cls ≠ "java/lang/invoke/VarHandle" ∧ (parseMethodDescriptor yX8_seed.desc).map (fun d => d.parameters.length) = some 1 := by decide +kernel
set_option maxHeartbeats 4000000 in
set_option maxRecDepth 100000 in
theorem c_X8_seed (l : Launch) (D : va_G) (cI cZ cQ : ClassId) (rM : Nat → Nat) (SM : St) (x1 : Int32) : Ci l yX8_seed wsX8_seed { frames := 0, cells := 0, slots := 0, locals := 0 } D (tyL cI cZ cQ) [.ref (rM 0), .int x1] (fl [wX8 cI cZ cQ rM SM]) ((f_X8_seed SM x1).1) (fl [wX8 cI cZ cQ rM ((f_X8_seed SM x1).2)]) := by
  refine ci_of (cc := cX8_seed) (nL := 3) (ty := .int) (lv0 := [(0, .ref (rM 0)), (1, .int x1)]) (by decide) rfl (Nat.le_of_ble_eq_true rfl) rfl ?_
  intro p e s m args below meth c A X hr
  refine ww_iload_n (pc := 0) X dX8_seed_0 1 rfl rfl ?_
  refine ww_if_ge (pc := 1) (tgt := 7) X dX8_seed_1 (by decide) (fun c1 => ?_) (fun c1 => ?_)
  · refine ww_aload_n (pc := 7) X dX8_seed_7 0 rfl rfl ?_
    refine ww_get (pc := 8) (ci := 8) (v := .int (SM.1 3)) (C := RX8) (T := TX8) (N := 27) X inX8_seed_8 0 rfl rfl 17 (by decide) (by decide +kernel) rfl dX8_seed_8 ?_
    refine ww_istore_n (pc := 11) (lv' := [(2, .int (SM.1 3)), (0, .ref (rM 0)), (1, .int x1)]) X dX8_seed_11 rfl (by decide) rfl ?_
    refine ww_aload_n (pc := 12) X dX8_seed_12 1 rfl rfl ?_
    refine ww_iload_n (pc := 13) X dX8_seed_13 2 rfl rfl ?_
    refine ww_put (pc := 14) (ci := 8) (v := .int x1) (C := RX8) (T := TX8) (N := 27) (ws' := fl [wX8 cI cZ cQ rM (sI SM 3 x1)]) X inX8_seed_8 tyX8 tyX8_ok nmX8 0 rfl rfl 17 (by decide) (by decide +kernel) rfl rfl rfl (Nat.le_of_ble_eq_true rfl) (pt8a_3 _ _ _ _ _ _) dX8_seed_14 ?_
    refine ww_iload_n (pc := 17) X dX8_seed_17 0 rfl rfl ?_
    have h2 : f_X8_seed SM x1 = (SM.1 3, (sI SM 3 x1)) := by unfold f_X8_seed; try rw [if_pos c1]; first | done | rfl
    exact ww_iret X hr rfl (congrArg (fun u9 : Int32 × St => u9.1) h2).symm (congrArg (fun u9 : Int32 × St => fl [wX8 cI cZ cQ rM u9.2]) h2.symm) dX8_seed_18
  · refine ww_ldc (pc := 4) (v := (-1000000002)) X (by decide +kernel) dX8_seed_4 ?_
    have h3 : f_X8_seed SM x1 = ((-1000000002), SM) := by unfold f_X8_seed; try rw [if_neg c1]; first | done | rfl
    exact ww_iret X hr rfl (congrArg (fun u9 : Int32 × St => u9.1) h3).symm (congrArg (fun u9 : Int32 × St => fl [wX8 cI cZ cQ rM u9.2]) h3.symm) dX8_seed_6
