def bd_X8_keep_14 (x1 : Int32) (j : Nat) (u : St) : St :=
  (sA u 11 (upd (u.2 11) (((35 * x1) + (nI j) : Int32)).toNatClampNeg ((u.2 9) (((nI j) : Int32)).toNatClampNeg)))
def it_X8_keep_14 (x1 : Int32) (u : St) : Nat → St
  | 0 => u
  | j + 1 => bd_X8_keep_14 x1 j (it_X8_keep_14 x1 u j)
def f_X8_keep_k1 (SM : St) (x1 : Int32) (z5 : St) : Int32 × St :=
  (1, (sI (sA (sA z5 12 (upd (z5.2 12) ((x1 : Int32)).toNatClampNeg (z5.1 3))) 13 (upd (z5.2 13) ((x1 : Int32)).toNatClampNeg 1)) 2 0))
def f_X8_keep (SM : St) (x1 : Int32) : Int32 × St :=
  if (f_X8_in x1 0 1) = 0 then
    ((-1000000001), SM)
  else
    f_X8_keep_k1 SM x1 (it_X8_keep_14 x1 SM 35)
theorem inX8_keep_8 : ∀ w ∈ wsX80, w ∈ wsX8_keep := by decide +kernel
theorem hd_X8_keep : yX8_keep.cls = RX8 ∧ yX8_keep.cls ≠ "java/lang/invoke/MethodHandle" ∧ yX8_keep.cls ≠ "java/lang/invoke/VarHandle" ∧ (parseMethodDescriptor yX8_keep.desc).map (fun d => d.parameters.length) = some 1 := by decide +kernel
set_option maxHeartbeats 4000000 in
set_option maxRecDepth 100000 in
theorem c_X8_keep (l : Launch) (D : va_G) (cI cZ cQ : ClassId) (rM : Nat → Nat) (SM : St) (x1 : Int32) : Ci l yX8_keep wsX8_keep { frames := 1, cells := 0, slots := 0, locals := 22 } D (tyL cI cZ cQ) [.ref (rM 0), .int x1] (fl [wX8 cI cZ cQ rM SM]) ((f_X8_keep SM x1).1) (fl [wX8 cI cZ cQ rM ((f_X8_keep SM x1).2)]) := by
  refine ci_of (cc := cX8_keep) (nL := 3) (ty := .int) (lv0 := [(0, .ref (rM 0)), (1, .int x1)]) (by decide) rfl (Nat.le_of_ble_eq_true rfl) rfl ?_
  intro p e s m args below meth c A X hr
  refine ww_iload_n (pc := 0) X dX8_keep_0 1 rfl rfl ?_
  refine ww_iconst (pc := 1) (v := 0) X dX8_keep_1 (by decide) ?_
  refine ww_iconst (pc := 2) (v := 1) X dX8_keep_2 (by decide) ?_
  refine ww_gSi (pc := 3) (rest := []) (gsN := [wX8 cI cZ cQ rM SM]) X (c_X8_in l D cI cZ cQ x1 0 1) gX8_keep_X8_in rfl hd_X8_in [false] rfl rfl rfl rfl ⟨rfl, rfl⟩ ⟨Nat.le_of_ble_eq_true rfl, Nat.le_of_ble_eq_true rfl⟩ (Nat.le_of_ble_eq_true rfl) ⟨Nat.zero_le _, Nat.zero_le _⟩ dX8_keep_3 ?_
  refine ww_if_ne (pc := 6) (tgt := 12) X dX8_keep_6 (by decide) (fun c1 => ?_) (fun c1 => ?_)
  · refine ww_iconst (pc := 12) (v := 0) X dX8_keep_12 (by decide) ?_
    refine ww_istore_n (pc := 13) (lv' := [(2, .int 0), (0, .ref (rM 0)), (1, .int x1)]) X dX8_keep_13 rfl (by decide) rfl ?_
    have L14 : ∀ (k_14 j_14 : Nat), j_14 + k_14 = 35 → WW p l e (headSpec wsX8_keep { frames := 1, cells := 0, slots := 0, locals := 22 }).room s m args below meth c 3 D A 0 0 (RQi below args s D A ((f_X8_keep SM x1).1) (fl [wX8 cI cZ cQ rM ((f_X8_keep SM x1).2)])) (fl [wX8 cI cZ cQ rM (it_X8_keep_14 x1 SM 35)]) [(0, .ref (rM 0)), (1, .int x1), (2, .int (nI 35))] 43 [] → WW p l e (headSpec wsX8_keep { frames := 1, cells := 0, slots := 0, locals := 22 }).room s m args below meth c 3 D A 0 0 (RQi below args s D A ((f_X8_keep SM x1).1) (fl [wX8 cI cZ cQ rM ((f_X8_keep SM x1).2)])) (fl [wX8 cI cZ cQ rM (it_X8_keep_14 x1 SM j_14)]) [(0, .ref (rM 0)), (1, .int x1), (2, .int (nI j_14))] 14 [] := by
      intro k_14
      induction k_14 with
      | zero =>
        intro j_14 hj K
        have hjB : j_14 = 35 := by omega
        subst hjB
        refine ww_iload_n (pc := 14) X dX8_keep_14 2 rfl rfl ?_
        refine ww_bipush (pc := 15) (v := 35) X dX8_keep_15 (by decide) ?_
        exact ww_icmp_ge (pc := 17) (tgt := 43) X dX8_keep_17 (by decide) (fun _ => K) (fun c9 => absurd (lp_ge0 rfl (Nat.le_refl _) (by decide)) c9)
      | succ k_14 ih =>
        intro j_14 hj K
        have hjB : j_14 < 35 := by omega
        refine ww_iload_n (pc := 14) X dX8_keep_14 2 rfl rfl ?_
        refine ww_bipush (pc := 15) (v := 35) X dX8_keep_15 (by decide) ?_
        refine ww_icmp_ge (pc := 17) (tgt := 43) X dX8_keep_17 (by decide) (fun c9 => absurd c9 (lp_ge1 rfl hjB (by decide))) (fun _ => ?_)
        refine ww_aload_n (pc := 20) X dX8_keep_20 0 rfl rfl ?_
        refine ww_get (pc := 21) (ci := 8) (v := .ref (rM 12)) (C := RX8) (T := TX8) (N := 27) X inX8_keep_8 0 rfl rfl 14 (by decide) (by decide +kernel) rfl dX8_keep_21 ?_
        refine ww_bipush (pc := 24) (v := 35) X dX8_keep_24 (by decide) ?_
        refine ww_iload_n (pc := 26) X dX8_keep_26 1 rfl rfl ?_
        have hb3 := clb (n := 2) (in_X8_in (n := 1) c1 rfl)
        refine ww_imul (pc := 27) X dX8_keep_27 ?_
        refine ww_iload_n (pc := 28) X dX8_keep_28 2 rfl rfl ?_
        refine ww_iadd (pc := 29) X dX8_keep_29 ?_
        refine ww_aload_n (pc := 30) X dX8_keep_30 0 rfl rfl ?_
        refine ww_get (pc := 31) (ci := 8) (v := .ref (rM 10)) (C := RX8) (T := TX8) (N := 27) X inX8_keep_8 0 rfl rfl 11 (by decide) (by decide +kernel) rfl dX8_keep_31 ?_
        refine ww_iload_n (pc := 34) X dX8_keep_34 2 rfl rfl ?_
        refine ww_iald (pc := 35) (f := (it_X8_keep_14 x1 SM j_14).2 9) X 10 0 rfl rfl (vn (m := j_14) rfl (by omega) (by decide)) dX8_keep_35 ?_
        refine ww_iast (pc := 36) (f := (it_X8_keep_14 x1 SM j_14).2 11) (ws' := fl [wX8 cI cZ cQ rM (sA (it_X8_keep_14 x1 SM j_14) 11 (upd ((it_X8_keep_14 x1 SM j_14).2 11) (((35 * x1) + (nI j_14) : Int32)).toNatClampNeg (((it_X8_keep_14 x1 SM j_14).2 9) (((nI j_14) : Int32)).toNatClampNeg)))]) X 12 0 rfl rfl (vn (m := (35 * ((x1 : Int32).toNatClampNeg)) + j_14) (nat_iadd (a := 35 * ((x1 : Int32).toNatClampNeg)) (b := j_14) (nat_imul (a := 35) (b := (x1 : Int32).toNatClampNeg) rfl (cl_of (in_X8_in (n := 1) c1 rfl))) rfl) (by omega) (by decide)) (st8a_11 _ _ _ _ _ _) dX8_keep_36 ?_
        refine ww_iinc (pc := 37) (v := (nI j_14) + 1) (lv' := [(2, .int ((nI j_14) + 1)), (0, .ref (rM 0)), (1, .int x1)]) X dX8_keep_37 2 rfl rfl (by decide) rfl ?_
        refine ww_goto (pc := 40) (tgt := 14) X dX8_keep_40 (by decide) ?_
        have h4 : (it_X8_keep_14 x1 SM (j_14 + 1)) = (sA (it_X8_keep_14 x1 SM j_14) 11 (upd ((it_X8_keep_14 x1 SM j_14).2 11) (((35 * x1) + (nI j_14) : Int32)).toNatClampNeg (((it_X8_keep_14 x1 SM j_14).2 9) (((nI j_14) : Int32)).toNatClampNeg))) := by
          show bd_X8_keep_14 x1 j_14 (it_X8_keep_14 x1 SM j_14) = _; unfold bd_X8_keep_14; first | done | rfl
        refine ww_lsub [1, 2, 0] rfl ?_
        exact ww_castI (fun u9 : St => fl [wX8 cI cZ cQ rM u9]) (fun (u9 : St) (i9 : Int32) => ([(0, .ref (rM 0)), (1, .int x1), (2, .int i9)] : List (Nat × Value))) h4 (ih (j_14 + 1) (by omega) K)
    refine ww_lsub [1, 2, 0] rfl ?_
    refine L14 35 0 (by omega) ?_
    generalize hz5 : ((it_X8_keep_14 x1 SM 35)) = z5
    refine ww_aload_n (pc := 43) X dX8_keep_43 0 rfl rfl ?_
    refine ww_get (pc := 44) (ci := 8) (v := .ref (rM 13)) (C := RX8) (T := TX8) (N := 27) X inX8_keep_8 0 rfl rfl 15 (by decide) (by decide +kernel) rfl dX8_keep_44 ?_
    refine ww_iload_n (pc := 47) X dX8_keep_47 1 rfl rfl ?_
    refine ww_aload_n (pc := 48) X dX8_keep_48 0 rfl rfl ?_
    refine ww_get (pc := 49) (ci := 8) (v := .int (z5.1 3)) (C := RX8) (T := TX8) (N := 27) X inX8_keep_8 0 rfl rfl 17 (by decide) (by decide +kernel) rfl dX8_keep_49 ?_
    refine ww_iast (pc := 52) (f := z5.2 12) (ws' := fl [wX8 cI cZ cQ rM (sA z5 12 (upd (z5.2 12) ((x1 : Int32)).toNatClampNeg (z5.1 3)))]) X 13 0 rfl rfl (in_X8_in (n := 1) c1 rfl) (st8a_12 _ _ _ _ _ _) dX8_keep_52 ?_
    refine ww_aload_n (pc := 53) X dX8_keep_53 0 rfl rfl ?_
    refine ww_get (pc := 54) (ci := 8) (v := .ref (rM 14)) (C := RX8) (T := TX8) (N := 27) X inX8_keep_8 0 rfl rfl 16 (by decide) (by decide +kernel) rfl dX8_keep_54 ?_
    refine ww_iload_n (pc := 57) X dX8_keep_57 1 rfl rfl ?_
    refine ww_iconst (pc := 58) (v := 1) X dX8_keep_58 (by decide) ?_
    refine ww_zast (pc := 59) (f := z5.2 13) (ws' := fl [wX8 cI cZ cQ rM (sA (sA z5 12 (upd (z5.2 12) ((x1 : Int32)).toNatClampNeg (z5.1 3))) 13 (upd (z5.2 13) ((x1 : Int32)).toNatClampNeg 1))]) X 14 1 (ga8_13 _ _ _ _ _ (sA_ne (by decide))) rfl (in_X8_in (n := 1) c1 rfl) rfl (st8a_13 _ _ _ _ _ _) dX8_keep_59 ?_
    refine ww_aload_n (pc := 60) X dX8_keep_60 0 rfl rfl ?_
    refine ww_iconst (pc := 61) (v := 0) X dX8_keep_61 (by decide) ?_
    refine ww_put (pc := 62) (ci := 8) (v := .int 0) (C := RX8) (T := TX8) (N := 27) (ws' := fl [wX8 cI cZ cQ rM (sI (sA (sA z5 12 (upd (z5.2 12) ((x1 : Int32)).toNatClampNeg (z5.1 3))) 13 (upd (z5.2 13) ((x1 : Int32)).toNatClampNeg 1)) 2 0)]) X inX8_keep_8 tyX8 tyX8_ok nmX8 0 rfl rfl 13 (by decide) (by decide +kernel) rfl rfl rfl (Nat.le_of_ble_eq_true rfl) (pt8a_2 _ _ _ _ _ _) dX8_keep_62 ?_
    refine ww_iconst (pc := 65) (v := 1) X dX8_keep_65 (by decide) ?_
    have h6 : f_X8_keep SM x1 = (1, (sI (sA (sA z5 12 (upd (z5.2 12) ((x1 : Int32)).toNatClampNeg (z5.1 3))) 13 (upd (z5.2 13) ((x1 : Int32)).toNatClampNeg 1)) 2 0)) := by unfold f_X8_keep; try rw [if_neg c1, hz5]; try unfold f_X8_keep_k1; first | done | rfl
    exact ww_iret X hr rfl (congrArg (fun u9 : Int32 × St => u9.1) h6).symm (congrArg (fun u9 : Int32 × St => fl [wX8 cI cZ cQ rM u9.2]) h6.symm) dX8_keep_66
  · refine ww_ldc (pc := 9) (v := (-1000000001)) X (by decide +kernel) dX8_keep_9 ?_
    have h7 : f_X8_keep SM x1 = ((-1000000001), SM) := by unfold f_X8_keep; try rw [if_pos c1]; first | done | rfl
    exact ww_iret X hr rfl (congrArg (fun u9 : Int32 × St => u9.1) h7).symm (congrArg (fun u9 : Int32 × St => fl [wX8 cI cZ cQ rM u9.2]) h7.symm) dX8_keep_11
