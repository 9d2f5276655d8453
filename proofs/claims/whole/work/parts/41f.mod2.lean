def f_X8_down_k2 (SM : St) (x1 : Int32) (x2 : Int32) (z5 : St) (z6 : St) : Int32 × St :=
  ((z6.2 9) ((1 + x1 : Int32)).toNatClampNeg, z6)
def f_X8_down_k1 (SM : St) (x1 : Int32) (x2 : Int32) (z5 : St) : Int32 × St :=
  f_X8_down_k2 SM x1 x2 z5 (f_X8_descends z5 x1 x2)
def f_X8_down (SM : St) (x1 : Int32) (x2 : Int32) : Int32 × St :=
  if (f_X8_isPerson SM x1) = 0 then
    ((-1000000001), SM)
  else
    if (f_X8_isDepth SM x2) = 0 then
      ((-1000000001), SM)
    else
      if (f_X8_isAbove SM x1) = 0 then
        ((-1000000003), SM)
      else
        f_X8_down_k1 SM x1 x2 (f_X8_notes SM)
theorem inX8_down_8 : ∀ w ∈ wsX80, w ∈ wsX8_down := by decide +kernel
theorem hd_X8_down : yX8_down.cls = RX8 ∧ yX8_down.cls ≠ "java/lang/invoke/MethodHandle" ∧ yX8_down.cls ≠ "java/lang/invoke/VarHandle" ∧ (parseMethodDescriptor yX8_down.desc).map (fun d => d.parameters.length) = some 2 := by decide +kernel
set_option maxHeartbeats 4000000 in
set_option maxRecDepth 100000 in
theorem c_X8_down (l : Launch) (D : va_G) (cI cZ cQ : ClassId) (rM : Nat → Nat) (SM : St) (x1 : Int32) (x2 : Int32) (okm : okM SM) (n0 : ¬ (SM.1 2) < 0) (n1 : SM.1 2 ≤ 20) : Ci l yX8_down wsX8_down { frames := 2, cells := 0, slots := 0, locals := 43 } D (tyL cI cZ cQ) [.ref (rM 0), .int x1, .int x2] (fl [wX8 cI cZ cQ rM SM]) ((f_X8_down SM x1 x2).1) (fl [wX8 cI cZ cQ rM ((f_X8_down SM x1 x2).2)]) := by
  refine ci_of (cc := cX8_down) (nL := 3) (ty := .int) (lv0 := [(0, .ref (rM 0)), (1, .int x1), (2, .int x2)]) (by decide) rfl (Nat.le_of_ble_eq_true rfl) rfl ?_
  intro p e s m args below meth c A X hr
  refine ww_aload_n (pc := 0) X dX8_down_0 0 rfl rfl ?_
  refine ww_iload_n (pc := 1) X dX8_down_1 1 rfl rfl ?_
  refine ww_gVi (pc := 2) (rest := []) (gsN := [wX8 cI cZ cQ rM SM]) (ci := 8) (gi := 0) (qi := 0) X (c_X8_isPerson l D cI cZ cQ rM SM x1) gX8_down_X8_isPerson rfl hd_X8_isPerson [true] rfl rfl rfl rfl rfl rfl rfl rfl ⟨rfl, rfl⟩ ⟨Nat.le_of_ble_eq_true rfl, Nat.le_of_ble_eq_true rfl⟩ (Nat.le_of_ble_eq_true rfl) ⟨Nat.zero_le _, Nat.zero_le _⟩ dX8_down_2 ?_
  refine ww_if_eq (pc := 5) (tgt := 16) X dX8_down_5 (by decide) (fun c1 => ?_) (fun c1 => ?_)
  · refine ww_ldc (pc := 16) (v := (-1000000001)) X (by decide +kernel) dX8_down_16 ?_
    have h2 : f_X8_down SM x1 x2 = ((-1000000001), SM) := by unfold f_X8_down; try rw [if_pos c1]; first | done | rfl
    exact ww_iret X hr rfl (congrArg (fun u9 : Int32 × St => u9.1) h2).symm (congrArg (fun u9 : Int32 × St => fl [wX8 cI cZ cQ rM u9.2]) h2.symm) dX8_down_18
  · refine ww_aload_n (pc := 8) X dX8_down_8 0 rfl rfl ?_
    refine ww_iload_n (pc := 9) X dX8_down_9 2 rfl rfl ?_
    refine ww_gVi (pc := 10) (rest := []) (gsN := [wX8 cI cZ cQ rM SM]) (ci := 8) (gi := 0) (qi := 0) X (c_X8_isDepth l D cI cZ cQ rM SM x2) gX8_down_X8_isDepth rfl hd_X8_isDepth [true] rfl rfl rfl rfl rfl rfl rfl rfl ⟨rfl, rfl⟩ ⟨Nat.le_of_ble_eq_true rfl, Nat.le_of_ble_eq_true rfl⟩ (Nat.le_of_ble_eq_true rfl) ⟨Nat.zero_le _, Nat.zero_le _⟩ dX8_down_10 ?_
    refine ww_if_ne (pc := 13) (tgt := 19) X dX8_down_13 (by decide) (fun c3 => ?_) (fun c3 => ?_)
    · refine ww_aload_n (pc := 19) X dX8_down_19 0 rfl rfl ?_
      refine ww_iload_n (pc := 20) X dX8_down_20 1 rfl rfl ?_
      refine ww_gVi (pc := 21) (rest := []) (gsN := [wX8 cI cZ cQ rM SM]) (ci := 8) (gi := 0) (qi := 0) X (c_X8_isAbove l D cI cZ cQ rM SM x1 (in_X8_isPerson okm c1)) gX8_down_X8_isAbove rfl hd_X8_isAbove [true] rfl rfl rfl rfl rfl rfl rfl rfl ⟨rfl, rfl⟩ ⟨Nat.le_of_ble_eq_true rfl, Nat.le_of_ble_eq_true rfl⟩ (Nat.le_of_ble_eq_true rfl) ⟨Nat.zero_le _, Nat.zero_le _⟩ dX8_down_21 ?_
      refine ww_if_ne (pc := 24) (tgt := 30) X dX8_down_24 (by decide) (fun c4 => ?_) (fun c4 => ?_)
      · refine ww_aload_n (pc := 30) X dX8_down_30 0 rfl rfl ?_
        refine ww_gVv (pc := 31) (rest := []) (gsN := [wX8 cI cZ cQ rM (f_X8_notes SM)]) (ci := 8) (gi := 0) (qi := 0) X (c_X8_notes l D cI cZ cQ rM SM (by assumption) (by assumption)) gX8_down_X8_notes rfl hd_X8_notes [true] rfl (acons (ad8 _ _ _ _ _ _) rfl) rfl rfl rfl rfl rfl rfl ⟨rfl, rfl⟩ ⟨Nat.le_of_ble_eq_true rfl, Nat.le_of_ble_eq_true rfl⟩ (Nat.le_of_ble_eq_true rfl) ⟨Nat.zero_le _, Nat.zero_le _⟩ dX8_down_31 ?_
        generalize hz5 : (f_X8_notes SM) = z5
        refine ww_aload_n (pc := 34) X dX8_down_34 0 rfl rfl ?_
        refine ww_iload_n (pc := 35) X dX8_down_35 1 rfl rfl ?_
        refine ww_iload_n (pc := 36) X dX8_down_36 2 rfl rfl ?_
        refine ww_gVv (pc := 37) (rest := []) (gsN := [wX8 cI cZ cQ rM (f_X8_descends z5 x1 x2)]) (ci := 8) (gi := 0) (qi := 0) X (c_X8_descends l D cI cZ cQ rM z5 x1 x2 (in_X8_isPerson okm c1)) gX8_down_X8_descends rfl hd_X8_descends [true] rfl (acons (ad8 _ _ _ _ _ _) rfl) rfl rfl rfl rfl rfl rfl ⟨rfl, rfl⟩ ⟨Nat.le_of_ble_eq_true rfl, Nat.le_of_ble_eq_true rfl⟩ (Nat.le_of_ble_eq_true rfl) ⟨Nat.zero_le _, Nat.zero_le _⟩ dX8_down_37 ?_
        generalize hz6 : (f_X8_descends z5 x1 x2) = z6
        refine ww_aload_n (pc := 40) X dX8_down_40 0 rfl rfl ?_
        refine ww_get (pc := 41) (ci := 8) (v := .ref (rM 10)) (C := RX8) (T := TX8) (N := 27) X inX8_down_8 0 rfl rfl 11 (by decide) (by decide +kernel) rfl dX8_down_41 ?_
        refine ww_iconst (pc := 44) (v := 1) X dX8_down_44 (by decide) ?_
        refine ww_iload_n (pc := 45) X dX8_down_45 1 rfl rfl ?_
        have hb7 := clb (n := 7) (in_X8_isPerson okm c1)
        refine ww_iadd (pc := 46) X dX8_down_46 ?_
        refine ww_iald (pc := 47) (f := z6.2 9) X 10 0 rfl rfl (vn (m := 1 + ((x1 : Int32).toNatClampNeg)) (nat_iadd (a := 1) (b := (x1 : Int32).toNatClampNeg) rfl (cl_of (in_X8_isPerson okm c1))) (by omega) (by decide)) dX8_down_47 ?_
        have h8 : f_X8_down SM x1 x2 = ((z6.2 9) ((1 + x1 : Int32)).toNatClampNeg, z6) := by unfold f_X8_down; try rw [if_neg c1, if_neg c3, if_neg c4, hz5]; try unfold f_X8_down_k1; try rw [hz6]; try unfold f_X8_down_k2; first | done | rfl
        exact ww_iret X hr rfl (congrArg (fun u9 : Int32 × St => u9.1) h8).symm (congrArg (fun u9 : Int32 × St => fl [wX8 cI cZ cQ rM u9.2]) h8.symm) dX8_down_48
      · refine ww_ldc (pc := 27) (v := (-1000000003)) X (by decide +kernel) dX8_down_27 ?_
        have h9 : f_X8_down SM x1 x2 = ((-1000000003), SM) := by unfold f_X8_down; try rw [if_neg c1, if_neg c3, if_pos c4]; first | done | rfl
        exact ww_iret X hr rfl (congrArg (fun u9 : Int32 × St => u9.1) h9).symm (congrArg (fun u9 : Int32 × St => fl [wX8 cI cZ cQ rM u9.2]) h9.symm) dX8_down_29
    · refine ww_ldc (pc := 16) (v := (-1000000001)) X (by decide +kernel) dX8_down_16 ?_
      have h10 : f_X8_down SM x1 x2 = ((-1000000001), SM) := by unfold f_X8_down; try rw [if_neg c1, if_pos c3]; first | done | rfl
      exact ww_iret X hr rfl (congrArg (fun u9 : Int32 × St => u9.1) h10).symm (congrArg (fun u9 : Int32 × St => fl [wX8 cI cZ cQ rM u9.2]) h10.symm) dX8_down_18
