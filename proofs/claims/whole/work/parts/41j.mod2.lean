def bd_X8_undo_22  (j : Nat) (u : St) : St :=
  (sA u 9 (upd (u.2 9) (((nI j) : Int32)).toNatClampNeg ((u.2 10) (((35 * (u.1 2)) + (nI j) : Int32)).toNatClampNeg)))
def it_X8_undo_22  (u : St) : Nat → St
  | 0 => u
  | j + 1 => bd_X8_undo_22  j (it_X8_undo_22  u j)
def f_X8_undo_k1 (SM : St) (z3 : St) : Int32 × St :=
  (z3.1 2, z3)
def f_X8_undo (SM : St) : Int32 × St :=
  if (SM.1 2) = 0 then
    ((-1000000003), SM)
  else
    f_X8_undo_k1 SM (it_X8_undo_22 (sI SM 2 ((SM.1 2) - 1)) 35)
theorem pr2_X8_undo_22 (u : St) : ∀ j : Nat, (it_X8_undo_22 u j).1 = u.1
  | 0 => rfl
  | j + 1 => pr2_X8_undo_22 u j
theorem inX8_undo_8 : ∀ w ∈ wsX80, w ∈ wsX8_undo := by decide +kernel
theorem hd_X8_undo : yX8_undo.cls = RX8 ∧ yX8_undo.cls ≠ "java/lang/invoke/MethodHandle" ∧ yX8_undo.cls ≠ "java/lang/invoke/VarHandle" ∧ (parseMethodDescriptor yX8_undo.desc).map (fun d => d.parameters.length) = some 0 := by decide +kernel
set_option maxHeartbeats 4000000 in
set_option maxRecDepth 100000 in
theorem c_X8_undo (l : Launch) (D : va_G) (cI cZ cQ : ClassId) (rM : Nat → Nat) (SM : St) (n0 : ¬ (SM.1 2) < 0) (n1 : SM.1 2 ≤ 20) : Ci l yX8_undo wsX8_undo { frames := 0, cells := 0, slots := 0, locals := 0 } D (tyL cI cZ cQ) [.ref (rM 0)] (fl [wX8 cI cZ cQ rM SM]) ((f_X8_undo SM).1) (fl [wX8 cI cZ cQ rM ((f_X8_undo SM).2)]) := by
  refine ci_of (cc := cX8_undo) (nL := 2) (ty := .int) (lv0 := [(0, .ref (rM 0))]) (by decide) rfl (Nat.le_of_ble_eq_true rfl) rfl ?_
  intro p e s m args below meth c A X hr
  refine ww_aload_n (pc := 0) X dX8_undo_0 0 rfl rfl ?_
  refine ww_get (pc := 1) (ci := 8) (v := .int (SM.1 2)) (C := RX8) (T := TX8) (N := 27) X inX8_undo_8 0 rfl rfl 13 (by decide) (by decide +kernel) rfl dX8_undo_1 ?_
  refine ww_if_ne (pc := 4) (tgt := 10) X dX8_undo_4 (by decide) (fun c1 => ?_) (fun c1 => ?_)
  · refine ww_aload_n (pc := 10) X dX8_undo_10 0 rfl rfl ?_
    refine ww_dup (pc := 11) X dX8_undo_11 rfl ?_
    refine ww_get (pc := 12) (ci := 8) (v := .int (SM.1 2)) (C := RX8) (T := TX8) (N := 27) X inX8_undo_8 0 rfl rfl 13 (by decide) (by decide +kernel) rfl dX8_undo_12 ?_
    refine ww_iconst (pc := 15) (v := 1) X dX8_undo_15 (by decide) ?_
    refine ww_isub (pc := 16) X dX8_undo_16 ?_
    refine ww_put (pc := 17) (ci := 8) (v := .int ((SM.1 2) - 1)) (C := RX8) (T := TX8) (N := 27) (ws' := fl [wX8 cI cZ cQ rM (sI SM 2 ((SM.1 2) - 1))]) X inX8_undo_8 tyX8 tyX8_ok nmX8 0 rfl rfl 13 (by decide) (by decide +kernel) rfl rfl rfl (Nat.le_of_ble_eq_true rfl) (pt8a_2 _ _ _ _ _ _) dX8_undo_17 ?_
    have hdd : ∃ m : Nat, m < 20 ∧ (sI SM 2 ((SM.1 2) - 1)).1 2 = nI m := nt_c n0 n1 c1
    refine ww_iconst (pc := 20) (v := 0) X dX8_undo_20 (by decide) ?_
    refine ww_istore_n (pc := 21) (lv' := [(1, .int 0), (0, .ref (rM 0))]) X dX8_undo_21 rfl (by decide) rfl ?_
    have L22 : ∀ (k_22 j_22 : Nat), j_22 + k_22 = 35 → WW p l e (headSpec wsX8_undo { frames := 0, cells := 0, slots := 0, locals := 0 }).room s m args below meth c 2 D A 0 0 (RQi below args s D A ((f_X8_undo SM).1) (fl [wX8 cI cZ cQ rM ((f_X8_undo SM).2)])) (fl [wX8 cI cZ cQ rM (it_X8_undo_22 (sI SM 2 ((SM.1 2) - 1)) 35)]) [(0, .ref (rM 0)), (1, .int (nI 35))] 54 [] → WW p l e (headSpec wsX8_undo { frames := 0, cells := 0, slots := 0, locals := 0 }).room s m args below meth c 2 D A 0 0 (RQi below args s D A ((f_X8_undo SM).1) (fl [wX8 cI cZ cQ rM ((f_X8_undo SM).2)])) (fl [wX8 cI cZ cQ rM (it_X8_undo_22 (sI SM 2 ((SM.1 2) - 1)) j_22)]) [(0, .ref (rM 0)), (1, .int (nI j_22))] 22 [] := by
      intro k_22
      induction k_22 with
      | zero =>
        intro j_22 hj K
        have hjB : j_22 = 35 := by omega
        subst hjB
        refine ww_iload_n (pc := 22) X dX8_undo_22 1 rfl rfl ?_
        refine ww_bipush (pc := 23) (v := 35) X dX8_undo_23 (by decide) ?_
        exact ww_icmp_ge (pc := 25) (tgt := 54) X dX8_undo_25 (by decide) (fun _ => K) (fun c9 => absurd (lp_ge0 rfl (Nat.le_refl _) (by decide)) c9)
      | succ k_22 ih =>
        intro j_22 hj K
        have hjB : j_22 < 35 := by omega
        refine ww_iload_n (pc := 22) X dX8_undo_22 1 rfl rfl ?_
        refine ww_bipush (pc := 23) (v := 35) X dX8_undo_23 (by decide) ?_
        refine ww_icmp_ge (pc := 25) (tgt := 54) X dX8_undo_25 (by decide) (fun c9 => absurd c9 (lp_ge1 rfl hjB (by decide))) (fun _ => ?_)
        refine ww_aload_n (pc := 28) X dX8_undo_28 0 rfl rfl ?_
        refine ww_get (pc := 29) (ci := 8) (v := .ref (rM 10)) (C := RX8) (T := TX8) (N := 27) X inX8_undo_8 0 rfl rfl 11 (by decide) (by decide +kernel) rfl dX8_undo_29 ?_
        refine ww_iload_n (pc := 32) X dX8_undo_32 1 rfl rfl ?_
        refine ww_aload_n (pc := 33) X dX8_undo_33 0 rfl rfl ?_
        refine ww_get (pc := 34) (ci := 8) (v := .ref (rM 11)) (C := RX8) (T := TX8) (N := 27) X inX8_undo_8 0 rfl rfl 12 (by decide) (by decide +kernel) rfl dX8_undo_34 ?_
        refine ww_bipush (pc := 37) (v := 35) X dX8_undo_37 (by decide) ?_
        refine ww_aload_n (pc := 39) X dX8_undo_39 0 rfl rfl ?_
        refine ww_get (pc := 40) (ci := 8) (v := .int ((it_X8_undo_22 (sI SM 2 ((SM.1 2) - 1)) j_22).1 2)) (C := RX8) (T := TX8) (N := 27) X inX8_undo_8 0 rfl rfl 13 (by decide) (by decide +kernel) rfl dX8_undo_40 ?_
        refine ww_imul (pc := 43) X dX8_undo_43 ?_
        refine ww_iload_n (pc := 44) X dX8_undo_44 1 rfl rfl ?_
        refine ww_iadd (pc := 45) X dX8_undo_45 ?_
        refine ww_iald (pc := 46) (f := (it_X8_undo_22 (sI SM 2 ((SM.1 2) - 1)) j_22).2 10) X 11 0 rfl rfl (nt_in hdd (pr2_X8_undo_22 _ _) (by omega)) dX8_undo_46 ?_
        refine ww_iast (pc := 47) (f := (it_X8_undo_22 (sI SM 2 ((SM.1 2) - 1)) j_22).2 9) (ws' := fl [wX8 cI cZ cQ rM (sA (it_X8_undo_22 (sI SM 2 ((SM.1 2) - 1)) j_22) 9 (upd ((it_X8_undo_22 (sI SM 2 ((SM.1 2) - 1)) j_22).2 9) (((nI j_22) : Int32)).toNatClampNeg (((it_X8_undo_22 (sI SM 2 ((SM.1 2) - 1)) j_22).2 10) (((35 * ((it_X8_undo_22 (sI SM 2 ((SM.1 2) - 1)) j_22).1 2)) + (nI j_22) : Int32)).toNatClampNeg)))]) X 10 0 rfl rfl (vn (m := j_22) rfl (by omega) (by decide)) (st8a_9 _ _ _ _ _ _) dX8_undo_47 ?_
        refine ww_iinc (pc := 48) (v := (nI j_22) + 1) (lv' := [(1, .int ((nI j_22) + 1)), (0, .ref (rM 0))]) X dX8_undo_48 1 rfl rfl (by decide) rfl ?_
        refine ww_goto (pc := 51) (tgt := 22) X dX8_undo_51 (by decide) ?_
        have h2 : (it_X8_undo_22 (sI SM 2 ((SM.1 2) - 1)) (j_22 + 1)) = (sA (it_X8_undo_22 (sI SM 2 ((SM.1 2) - 1)) j_22) 9 (upd ((it_X8_undo_22 (sI SM 2 ((SM.1 2) - 1)) j_22).2 9) (((nI j_22) : Int32)).toNatClampNeg (((it_X8_undo_22 (sI SM 2 ((SM.1 2) - 1)) j_22).2 10) (((35 * ((it_X8_undo_22 (sI SM 2 ((SM.1 2) - 1)) j_22).1 2)) + (nI j_22) : Int32)).toNatClampNeg))) := by
          show bd_X8_undo_22  j_22 (it_X8_undo_22 (sI SM 2 ((SM.1 2) - 1)) j_22) = _; unfold bd_X8_undo_22; first | done | rfl
        refine ww_lsub [1, 0] rfl ?_
        exact ww_castI (fun u9 : St => fl [wX8 cI cZ cQ rM u9]) (fun (u9 : St) (i9 : Int32) => ([(0, .ref (rM 0)), (1, .int i9)] : List (Nat × Value))) h2 (ih (j_22 + 1) (by omega) K)
    refine ww_lsub [1, 0] rfl ?_
    refine L22 35 0 (by omega) ?_
    generalize hz3 : ((it_X8_undo_22 (sI SM 2 ((SM.1 2) - 1)) 35)) = z3
    refine ww_aload_n (pc := 54) X dX8_undo_54 0 rfl rfl ?_
    refine ww_get (pc := 55) (ci := 8) (v := .int (z3.1 2)) (C := RX8) (T := TX8) (N := 27) X inX8_undo_8 0 rfl rfl 13 (by decide) (by decide +kernel) rfl dX8_undo_55 ?_
    have h4 : f_X8_undo SM = (z3.1 2, z3) := by unfold f_X8_undo; try rw [if_neg c1, hz3]; try unfold f_X8_undo_k1; first | done | rfl
    exact ww_iret X hr rfl (congrArg (fun u9 : Int32 × St => u9.1) h4).symm (congrArg (fun u9 : Int32 × St => fl [wX8 cI cZ cQ rM u9.2]) h4.symm) dX8_undo_58
  · refine ww_ldc (pc := 7) (v := (-1000000003)) X (by decide +kernel) dX8_undo_7 ?_
    have h5 : f_X8_undo SM = ((-1000000003), SM) := by unfold f_X8_undo; try rw [if_pos c1]; first | done | rfl
    exact ww_iret X hr rfl (congrArg (fun u9 : Int32 × St => u9.1) h5).symm (congrArg (fun u9 : Int32 × St => fl [wX8 cI cZ cQ rM u9.2]) h5.symm) dX8_undo_9
