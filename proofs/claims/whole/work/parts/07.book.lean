def f_X0_empty (SB : St) : St :=
  (sI SB 0 0)
theorem inX0_empty_0 : ∀ w ∈ wsX00, w ∈ wsX0_empty := by decide +kernel
theorem hd_X0_empty : yX0_empty.cls = RX0 ∧ yX0_empty.cls ≠ "java/lang/invoke/MethodHandle" ∧ yX0_empty.cls ≠ "java/lang/invoke/VarHandle" ∧ (parseMethodDescriptor yX0_empty.desc).map (fun d => d.parameters.length) = some 0 := by decide +kernel
set_option maxHeartbeats 4000000 in
set_option maxRecDepth 100000 in
theorem c_X0_empty (l : Launch) (D : va_G) (cI cZ cQ : ClassId) (rB : Nat → Nat) (SB : St) : Cv l yX0_empty wsX0_empty { frames := 0, cells := 0, slots := 0, locals := 0 } D (tyL cI cZ cQ) [.ref (rB 0)] (fl [wX0 cI cZ cQ rB SB]) (fl [wX0 cI cZ cQ rB (f_X0_empty SB)]) := by
  refine cv_of (cc := cX0_empty) (nL := 1) (lv0 := [(0, .ref (rB 0))]) (by decide) rfl (Nat.le_of_ble_eq_true rfl) rfl ?_
  intro p e s m args below meth c A X hr
  refine ww_aload_n (pc := 0) X dX0_empty_0 0 rfl rfl ?_
  refine ww_iconst (pc := 1) (v := 0) X dX0_empty_1 (by decide) ?_
  refine ww_put (pc := 2) (ci := 0) (v := .int 0) (C := RX0) (T := TX0) (N := 3) (ws' := fl [wX0 cI cZ cQ rB (sI SB 0 0)]) X inX0_empty_0 tyX0 tyX0_ok nmX0 0 rfl rfl 2 (by decide) (by decide +kernel) rfl rfl rfl (Nat.le_of_ble_eq_true rfl) rfl dX0_empty_2 ?_
  have h1 : f_X0_empty SB = (sI SB 0 0) := by unfold f_X0_empty; first | done | rfl
  exact ww_vret X hr (congrArg (fun u9 : St => fl [wX0 cI cZ cQ rB u9]) h1.symm) dX0_empty_5
def f_X0_add (SB : St) (x1 : Int32) (x2 : Int32) : St :=
  if 15 ≤ (SB.1 0) then
    SB
  else
    (sA (sA (sI SB 0 ((SB.1 0) + 1)) 0 (upd (SB.2 0) ((SB.1 0 : Int32)).toNatClampNeg x1)) 1 (upd (SB.2 1) ((SB.1 0 : Int32)).toNatClampNeg x2))
theorem inX0_add_0 : ∀ w ∈ wsX00, w ∈ wsX0_add := by decide +kernel
theorem hd_X0_add : yX0_add.cls = RX0 ∧ yX0_add.cls ≠ "java/lang/invoke/MethodHandle" ∧ yX0_add.cls ≠ "java/lang/invoke/VarHandle" ∧ (parseMethodDescriptor yX0_add.desc).map (fun d => d.parameters.length) = some 2 := by decide +kernel
set_option maxHeartbeats 4000000 in
set_option maxRecDepth 100000 in
theorem c_X0_add (l : Launch) (D : va_G) (cI cZ cQ : ClassId) (rB : Nat → Nat) (SB : St) (x1 : Int32) (x2 : Int32) (ok0 : ¬ (SB.1 0) < 0) : Cv l yX0_add wsX0_add { frames := 0, cells := 0, slots := 0, locals := 0 } D (tyL cI cZ cQ) [.ref (rB 0), .int x1, .int x2] (fl [wX0 cI cZ cQ rB SB]) (fl [wX0 cI cZ cQ rB (f_X0_add SB x1 x2)]) := by
  refine cv_of (cc := cX0_add) (nL := 3) (lv0 := [(0, .ref (rB 0)), (1, .int x1), (2, .int x2)]) (by decide) rfl (Nat.le_of_ble_eq_true rfl) rfl ?_
  intro p e s m args below meth c A X hr
  refine ww_aload_n (pc := 0) X dX0_add_0 0 rfl rfl ?_
  refine ww_get (pc := 1) (ci := 0) (v := .int (SB.1 0)) (C := RX0) (T := TX0) (N := 3) X inX0_add_0 0 rfl rfl 2 (by decide) (by decide +kernel) rfl dX0_add_1 ?_
  refine ww_bipush (pc := 4) (v := 15) X dX0_add_4 (by decide) ?_
  refine ww_icmp_ge (pc := 6) (tgt := 39) X dX0_add_6 (by decide) (fun c1 => ?_) (fun c1 => ?_)
  · have h2 : f_X0_add SB x1 x2 = SB := by unfold f_X0_add; try rw [if_pos c1]; first | done | rfl
    exact ww_vret X hr (congrArg (fun u9 : St => fl [wX0 cI cZ cQ rB u9]) h2.symm) dX0_add_39
  · refine ww_aload_n (pc := 9) X dX0_add_9 0 rfl rfl ?_
    refine ww_get (pc := 10) (ci := 0) (v := .ref (rB 1)) (C := RX0) (T := TX0) (N := 3) X inX0_add_0 0 rfl rfl 0 (by decide) (by decide +kernel) rfl dX0_add_10 ?_
    refine ww_aload_n (pc := 13) X dX0_add_13 0 rfl rfl ?_
    refine ww_get (pc := 14) (ci := 0) (v := .int (SB.1 0)) (C := RX0) (T := TX0) (N := 3) X inX0_add_0 0 rfl rfl 2 (by decide) (by decide +kernel) rfl dX0_add_14 ?_
    refine ww_iload_n (pc := 17) X dX0_add_17 1 rfl rfl ?_
    refine ww_iast (pc := 18) (f := SB.2 0) (ws' := fl [wX0 cI cZ cQ rB (sA SB 0 (upd (SB.2 0) ((SB.1 0 : Int32)).toNatClampNeg x1))]) X 1 0 rfl rfl (vin_nge ok0 c1 rfl) rfl dX0_add_18 ?_
    refine ww_aload_n (pc := 19) X dX0_add_19 0 rfl rfl ?_
    refine ww_get (pc := 20) (ci := 0) (v := .ref (rB 2)) (C := RX0) (T := TX0) (N := 3) X inX0_add_0 0 rfl rfl 1 (by decide) (by decide +kernel) rfl dX0_add_20 ?_
    refine ww_aload_n (pc := 23) X dX0_add_23 0 rfl rfl ?_
    refine ww_get (pc := 24) (ci := 0) (v := .int (SB.1 0)) (C := RX0) (T := TX0) (N := 3) X inX0_add_0 0 rfl rfl 2 (by decide) (by decide +kernel) rfl dX0_add_24 ?_
    refine ww_iload_n (pc := 27) X dX0_add_27 2 rfl rfl ?_
    refine ww_iast (pc := 28) (f := SB.2 1) (ws' := fl [wX0 cI cZ cQ rB (sA (sA SB 0 (upd (SB.2 0) ((SB.1 0 : Int32)).toNatClampNeg x1)) 1 (upd (SB.2 1) ((SB.1 0 : Int32)).toNatClampNeg x2))]) X 2 0 rfl rfl (vin_nge ok0 c1 rfl) rfl dX0_add_28 ?_
    refine ww_aload_n (pc := 29) X dX0_add_29 0 rfl rfl ?_
    refine ww_dup (pc := 30) X dX0_add_30 rfl ?_
    refine ww_get (pc := 31) (ci := 0) (v := .int (SB.1 0)) (C := RX0) (T := TX0) (N := 3) X inX0_add_0 0 rfl rfl 2 (by decide) (by decide +kernel) rfl dX0_add_31 ?_
    refine ww_iconst (pc := 34) (v := 1) X dX0_add_34 (by decide) ?_
    have hb3 := clb (vin_nge ok0 c1 rfl)
    refine ww_iadd (pc := 35) X dX0_add_35 ?_
    refine ww_put (pc := 36) (ci := 0) (v := .int ((SB.1 0) + 1)) (C := RX0) (T := TX0) (N := 3) (ws' := fl [wX0 cI cZ cQ rB (sA (sA (sI SB 0 ((SB.1 0) + 1)) 0 (upd (SB.2 0) ((SB.1 0 : Int32)).toNatClampNeg x1)) 1 (upd (SB.2 1) ((SB.1 0 : Int32)).toNatClampNeg x2))]) X inX0_add_0 tyX0 tyX0_ok nmX0 0 rfl rfl 2 (by decide) (by decide +kernel) rfl rfl rfl (Nat.le_of_ble_eq_true rfl) rfl dX0_add_36 ?_
    have h4 : f_X0_add SB x1 x2 = (sA (sA (sI SB 0 ((SB.1 0) + 1)) 0 (upd (SB.2 0) ((SB.1 0 : Int32)).toNatClampNeg x1)) 1 (upd (SB.2 1) ((SB.1 0 : Int32)).toNatClampNeg x2)) := by unfold f_X0_add; try rw [if_neg c1]; first | done | rfl
    exact ww_vret X hr (congrArg (fun u9 : St => fl [wX0 cI cZ cQ rB u9]) h4.symm) dX0_add_39
def l0_X0_firstWrong_2 (SF : St) (SB : St) (j : Nat) (u : Unit) : Int32 :=
  (-1)
def lb_X0_firstWrong_2 (SF : St) (SB : St) (rec : Nat → (Unit) → Int32) (j : Nat) (u : Unit) : Int32 :=
  if 15 ≤ (nI j) then
    (-1)
  else
    if (f_X3_age SF ((SB.2 0) (((nI j) : Int32)).toNatClampNeg)) = ((SB.2 1) (((nI j) : Int32)).toNatClampNeg) then
      rec (j + 1) ()
    else
      (nI j)
def lp_X0_firstWrong_2 (SF : St) (SB : St) : Nat → Nat → (Unit) → Int32
  | 0, j, u => l0_X0_firstWrong_2 SF SB j u
  | k + 1, j, u => lb_X0_firstWrong_2 SF SB (lp_X0_firstWrong_2 SF SB k) j u
def f_X0_firstWrong (SF : St) (SB : St) : Int32 :=
  lp_X0_firstWrong_2 SF SB ((SB.1 0).toNatClampNeg) 0 ()
theorem inX0_firstWrong_0 : ∀ w ∈ wsX00, w ∈ wsX0_firstWrong := by decide +kernel
theorem hd_X0_firstWrong : yX0_firstWrong.cls = RX0 ∧ yX0_firstWrong.cls ≠ "java/lang/invoke/MethodHandle" ∧ yX0_firstWrong.cls ≠ "java/lang/invoke/VarHandle" ∧ (parseMethodDescriptor yX0_firstWrong.desc).map (fun d => d.parameters.length) = some 1 := by decide +kernel
set_option maxHeartbeats 4000000 in
set_option maxRecDepth 100000 in
theorem c_X0_firstWrong (l : Launch) (D : va_G) (cI cZ cQ : ClassId) (rF : Nat → Nat) (rB : Nat → Nat) (SF : St) (SB : St) (okB : SB.1 0 ≤ 15) : Ci l yX0_firstWrong wsX0_firstWrong { frames := 2, cells := 0, slots := 0, locals := 41 } D (tyL cI cZ cQ) [.ref (rB 0), .ref (rF 0)] (fl [wX3 cI cZ cQ rF SF, wX0 cI cZ cQ rB SB]) (f_X0_firstWrong SF SB) (fl [wX3 cI cZ cQ rF SF, wX0 cI cZ cQ rB SB]) := by
  refine ci_of (cc := cX0_firstWrong) (nL := 3) (ty := .int) (lv0 := [(0, .ref (rB 0)), (1, .ref (rF 0))]) (by decide) rfl (Nat.le_of_ble_eq_true rfl) rfl ?_
  intro p e s m args below meth c A X hr
  refine ww_iconst (pc := 0) (v := 0) X dX0_firstWrong_0 (by decide) ?_
  refine ww_istore_n (pc := 1) (lv' := [(2, .int 0), (0, .ref (rB 0)), (1, .ref (rF 0))]) X dX0_firstWrong_1 rfl (by decide) rfl ?_
  have L2 : ∀ (k_2 j_2 : Nat) (u_2 : Unit), j_2 + k_2 = (SB.1 0).toNatClampNeg → True → f_X0_firstWrong SF SB = lp_X0_firstWrong_2 SF SB k_2 j_2 u_2 → WW p l e (headSpec wsX0_firstWrong { frames := 2, cells := 0, slots := 0, locals := 41 }).room s m args below meth c 3 D A 0 0 (RQi below args s D A (f_X0_firstWrong SF SB) (fl [wX3 cI cZ cQ rF SF, wX0 cI cZ cQ rB SB])) (fl [wX3 cI cZ cQ rF SF, wX0 cI cZ cQ rB SB]) [(0, .ref (rB 0)), (1, .ref (rF 0)), (2, .int (nI j_2))] 2 [] := by
    intro k_2
    induction k_2 with
    | zero =>
      intro j_2 u_2 hj hi hf
      have hjB : j_2 = (SB.1 0).toNatClampNeg := by omega
      subst hjB
      refine ww_iload_n (pc := 2) X dX0_firstWrong_2 2 rfl rfl ?_
      refine ww_aload_n (pc := 3) X dX0_firstWrong_3 0 rfl rfl ?_
      refine ww_get (pc := 4) (ci := 0) (v := .int (SB.1 0)) (C := RX0) (T := TX0) (N := 3) X inX0_firstWrong_0 2 rfl rfl 2 (by decide) (by decide +kernel) rfl dX0_firstWrong_4 ?_
      refine ww_icmp_ge (pc := 7) (tgt := 43) X dX0_firstWrong_7 (by decide) (fun _ => ?_) (fun c9 => absurd (lp_ge0c (Nat.le_refl _) (cl_lt _)) c9)
      refine ww_iconst (pc := 43) (v := (-1)) X dX0_firstWrong_43 (by decide) ?_
      exact ww_iret X hr rfl (Eq.symm (by rw [hf]; show l0_X0_firstWrong_2 SF SB ((SB.1 0).toNatClampNeg) u_2 = _; unfold l0_X0_firstWrong_2; first | done | rfl)) rfl dX0_firstWrong_44
    | succ k_2 ih =>
      intro j_2 u_2 hj hi hf
      have hjB : j_2 < (SB.1 0).toNatClampNeg := by omega
      have hN_2 := cl_le okB (n := 15) rfl (by decide)
      refine ww_iload_n (pc := 2) X dX0_firstWrong_2 2 rfl rfl ?_
      refine ww_aload_n (pc := 3) X dX0_firstWrong_3 0 rfl rfl ?_
      refine ww_get (pc := 4) (ci := 0) (v := .int (SB.1 0)) (C := RX0) (T := TX0) (N := 3) X inX0_firstWrong_0 2 rfl rfl 2 (by decide) (by decide +kernel) rfl dX0_firstWrong_4 ?_
      refine ww_icmp_ge (pc := 7) (tgt := 43) X dX0_firstWrong_7 (by decide) (fun c9 => absurd c9 (lp_ge1c hjB)) (fun _ => ?_)
      refine ww_iload_n (pc := 10) X dX0_firstWrong_10 2 rfl rfl ?_
      refine ww_bipush (pc := 11) (v := 15) X dX0_firstWrong_11 (by decide) ?_
      refine ww_icmp_ge (pc := 13) (tgt := 43) X dX0_firstWrong_13 (by decide) (fun c3 => ?_) (fun c3 => ?_)
      · refine ww_iconst (pc := 43) (v := (-1)) X dX0_firstWrong_43 (by decide) ?_
        exact ww_iret X hr rfl (Eq.symm (by rw [hf]; show lb_X0_firstWrong_2 SF SB (lp_X0_firstWrong_2 SF SB k_2) j_2 u_2 = _; unfold lb_X0_firstWrong_2; try rw [if_pos c3]; first | done | rfl)) rfl dX0_firstWrong_44
      · refine ww_aload_n (pc := 16) X dX0_firstWrong_16 1 rfl rfl ?_
        refine ww_aload_n (pc := 17) X dX0_firstWrong_17 0 rfl rfl ?_
        refine ww_get (pc := 18) (ci := 0) (v := .ref (rB 1)) (C := RX0) (T := TX0) (N := 3) X inX0_firstWrong_0 2 rfl rfl 0 (by decide) (by decide +kernel) rfl dX0_firstWrong_18 ?_
        refine ww_iload_n (pc := 21) X dX0_firstWrong_21 2 rfl rfl ?_
        refine ww_iald (pc := 22) (f := SB.2 0) X 3 0 rfl rfl (vn (m := j_2) rfl (by omega) (by decide)) dX0_firstWrong_22 ?_
        refine ww_gVi (pc := 23) (rest := []) (gsN := [wX3 cI cZ cQ rF SF, wX0 cI cZ cQ rB SB]) (ci := 3) (gi := 0) (qi := 0) X (c_X3_age l D cI cZ cQ rF SF ((SB.2 0) (((nI j_2) : Int32)).toNatClampNeg)) gX0_firstWrong_X3_age rfl hd_X3_age [true, false] rfl rfl rfl rfl rfl rfl rfl rfl ⟨rfl, rfl⟩ ⟨Nat.le_of_ble_eq_true rfl, Nat.le_of_ble_eq_true rfl⟩ (Nat.le_of_ble_eq_true rfl) ⟨Nat.zero_le _, Nat.zero_le _⟩ dX0_firstWrong_23 ?_
        refine ww_aload_n (pc := 26) X dX0_firstWrong_26 0 rfl rfl ?_
        refine ww_get (pc := 27) (ci := 0) (v := .ref (rB 2)) (C := RX0) (T := TX0) (N := 3) X inX0_firstWrong_0 2 rfl rfl 1 (by decide) (by decide +kernel) rfl dX0_firstWrong_27 ?_
        refine ww_iload_n (pc := 30) X dX0_firstWrong_30 2 rfl rfl ?_
        refine ww_iald (pc := 31) (f := SB.2 1) X 4 0 rfl rfl (vn (m := j_2) rfl (by omega) (by decide)) dX0_firstWrong_31 ?_
        refine ww_icmp_eq (pc := 32) (tgt := 37) X dX0_firstWrong_32 (by decide) (fun c4 => ?_) (fun c4 => ?_)
        · refine ww_iinc (pc := 37) (v := (nI j_2) + 1) (lv' := [(2, .int ((nI j_2) + 1)), (0, .ref (rB 0)), (1, .ref (rF 0))]) X dX0_firstWrong_37 2 rfl rfl (by decide) rfl ?_
          refine ww_goto (pc := 40) (tgt := 2) X dX0_firstWrong_40 (by decide) ?_
          refine ww_lsub [1, 2, 0] rfl ?_
          have h5 : f_X0_firstWrong SF SB = lp_X0_firstWrong_2 SF SB k_2 (j_2 + 1) () := by rw [hf]; show lb_X0_firstWrong_2 SF SB (lp_X0_firstWrong_2 SF SB k_2) j_2 u_2 = _; unfold lb_X0_firstWrong_2; try rw [if_neg c3, if_pos c4]; first | done | rfl
          exact ww_cast rfl (congrArg (fun (i9 : Int32) => ([(0, .ref (rB 0)), (1, .ref (rF 0)), (2, .int i9)] : List (Nat × Value))) (nI_1 j_2).symm) (ih (j_2 + 1) () (by omega) trivial h5)
        · refine ww_iload_n (pc := 35) X dX0_firstWrong_35 2 rfl rfl ?_
          exact ww_iret X hr rfl (Eq.symm (by rw [hf]; show lb_X0_firstWrong_2 SF SB (lp_X0_firstWrong_2 SF SB k_2) j_2 u_2 = _; unfold lb_X0_firstWrong_2; try rw [if_neg c3, if_neg c4]; first | done | rfl)) rfl dX0_firstWrong_36
  refine ww_lsub [1, 2, 0] rfl ?_
  exact L2 ((SB.1 0).toNatClampNeg) 0 () (by omega) trivial (by unfold f_X0_firstWrong; first | done | rfl)
def f_X2_hasPlace (SI : St) (x1 : Int32) : Int32 :=
  if x1 < 0 then
    0
  else
    if 2 ≤ x1 then
      0
    else
      1
theorem in_X2_hasPlace {S : St} {x : Int32} (h : ¬ f_X2_hasPlace S x = 0) : vp_in x 2 := by
  unfold f_X2_hasPlace at h
  split at h
  · exact absurd rfl h
  split at h
  · exact absurd rfl h
  exact vin_nge (by assumption) (by assumption) rfl
theorem hd_X2_hasPlace : yX2_hasPlace.cls = RX2 ∧ yX2_hasPlace.cls ≠ "java/lang/invoke/MethodHandle" ∧ yX2_hasPlace.cls ≠ "java/lang/invoke/VarHandle" ∧ (parseMethodDescriptor yX2_hasPlace.desc).map (fun d => d.parameters.length) = some 1 := by decide +kernel
set_option maxHeartbeats 4000000 in
set_option maxRecDepth 100000 in
theorem c_X2_hasPlace (l : Launch) (D : va_G) (cI cZ cQ : ClassId) (rI : Nat → Nat) (SI : St) (x1 : Int32) : Ci l yX2_hasPlace wsX2_hasPlace { frames := 0, cells := 0, slots := 0, locals := 0 } D (tyL cI cZ cQ) [.ref (rI 0), .int x1] (fl [wX2 cI cZ cQ rI SI]) (f_X2_hasPlace SI x1) (fl [wX2 cI cZ cQ rI SI]) := by
  refine ci_of (cc := cX2_hasPlace) (nL := 2) (ty := .boolean) (lv0 := [(0, .ref (rI 0)), (1, .int x1)]) (by decide) rfl (Nat.le_of_ble_eq_true rfl) rfl ?_
  intro p e s m args below meth c A X hr
  refine ww_iload_n (pc := 0) X dX2_hasPlace_0 1 rfl rfl ?_
  refine ww_if_lt (pc := 1) (tgt := 13) X dX2_hasPlace_1 (by decide) (fun c1 => ?_) (fun c1 => ?_)
  · refine ww_iconst (pc := 13) (v := 0) X dX2_hasPlace_13 (by decide) ?_
    exact ww_iret X hr rfl (Eq.symm (by unfold f_X2_hasPlace; try rw [if_pos c1]; first | done | rfl)) rfl dX2_hasPlace_14
  · refine ww_iload_n (pc := 4) X dX2_hasPlace_4 1 rfl rfl ?_
    refine ww_iconst (pc := 5) (v := 2) X dX2_hasPlace_5 (by decide) ?_
    refine ww_icmp_ge (pc := 6) (tgt := 13) X dX2_hasPlace_6 (by decide) (fun c2 => ?_) (fun c2 => ?_)
    · refine ww_iconst (pc := 13) (v := 0) X dX2_hasPlace_13 (by decide) ?_
      exact ww_iret X hr rfl (Eq.symm (by unfold f_X2_hasPlace; try rw [if_neg c1, if_pos c2]; first | done | rfl)) rfl dX2_hasPlace_14
    · refine ww_iconst (pc := 9) (v := 1) X dX2_hasPlace_9 (by decide) ?_
      refine ww_goto (pc := 10) (tgt := 14) X dX2_hasPlace_10 (by decide) ?_
      exact ww_iret X hr rfl (Eq.symm (by unfold f_X2_hasPlace; try rw [if_neg c1, if_neg c2]; first | done | rfl)) rfl dX2_hasPlace_14
def bd_X2_forget_2  (j : Nat) (u : St) : St :=
  (sA u 1 (upd (u.2 1) (((nI j) : Int32)).toNatClampNeg 0))
def it_X2_forget_2  (u : St) : Nat → St
  | 0 => u
  | j + 1 => bd_X2_forget_2  j (it_X2_forget_2  u j)
def f_X2_forget_k1 (SI : St) (z2 : St) : St :=
  z2
def f_X2_forget (SI : St) : St :=
  f_X2_forget_k1 SI (it_X2_forget_2 SI 2)
theorem inX2_forget_2 : ∀ w ∈ wsX20, w ∈ wsX2_forget := by decide +kernel
theorem hd_X2_forget : yX2_forget.cls = RX2 ∧ yX2_forget.cls ≠ "java/lang/invoke/MethodHandle" ∧ yX2_forget.cls ≠ "java/lang/invoke/VarHandle" ∧ (parseMethodDescriptor yX2_forget.desc).map (fun d => d.parameters.length) = some 0 := by decide +kernel
set_option maxHeartbeats 4000000 in
set_option maxRecDepth 100000 in
theorem c_X2_forget (l : Launch) (D : va_G) (cI cZ cQ : ClassId) (rI : Nat → Nat) (SI : St) : Cv l yX2_forget wsX2_forget { frames := 0, cells := 0, slots := 0, locals := 0 } D (tyL cI cZ cQ) [.ref (rI 0)] (fl [wX2 cI cZ cQ rI SI]) (fl [wX2 cI cZ cQ rI (f_X2_forget SI)]) := by
  refine cv_of (cc := cX2_forget) (nL := 2) (lv0 := [(0, .ref (rI 0))]) (by decide) rfl (Nat.le_of_ble_eq_true rfl) rfl ?_
  intro p e s m args below meth c A X hr
  refine ww_iconst (pc := 0) (v := 0) X dX2_forget_0 (by decide) ?_
  refine ww_istore_n (pc := 1) (lv' := [(1, .int 0), (0, .ref (rI 0))]) X dX2_forget_1 rfl (by decide) rfl ?_
  have L2 : ∀ (k_2 j_2 : Nat), j_2 + k_2 = 2 → WW p l e (headSpec wsX2_forget { frames := 0, cells := 0, slots := 0, locals := 0 }).room s m args below meth c 2 D A 0 0 (RQv below args s D A (fl [wX2 cI cZ cQ rI (f_X2_forget SI)])) (fl [wX2 cI cZ cQ rI (it_X2_forget_2 SI 2)]) [(0, .ref (rI 0)), (1, .int (nI 2))] 20 [] → WW p l e (headSpec wsX2_forget { frames := 0, cells := 0, slots := 0, locals := 0 }).room s m args below meth c 2 D A 0 0 (RQv below args s D A (fl [wX2 cI cZ cQ rI (f_X2_forget SI)])) (fl [wX2 cI cZ cQ rI (it_X2_forget_2 SI j_2)]) [(0, .ref (rI 0)), (1, .int (nI j_2))] 2 [] := by
    intro k_2
    induction k_2 with
    | zero =>
      intro j_2 hj K
      have hjB : j_2 = 2 := by omega
      subst hjB
      refine ww_iload_n (pc := 2) X dX2_forget_2 1 rfl rfl ?_
      refine ww_iconst (pc := 3) (v := 2) X dX2_forget_3 (by decide) ?_
      exact ww_icmp_ge (pc := 4) (tgt := 20) X dX2_forget_4 (by decide) (fun _ => K) (fun c9 => absurd (lp_ge0 rfl (Nat.le_refl _) (by decide)) c9)
    | succ k_2 ih =>
      intro j_2 hj K
      have hjB : j_2 < 2 := by omega
      refine ww_iload_n (pc := 2) X dX2_forget_2 1 rfl rfl ?_
      refine ww_iconst (pc := 3) (v := 2) X dX2_forget_3 (by decide) ?_
      refine ww_icmp_ge (pc := 4) (tgt := 20) X dX2_forget_4 (by decide) (fun c9 => absurd c9 (lp_ge1 rfl hjB (by decide))) (fun _ => ?_)
      refine ww_aload_n (pc := 7) X dX2_forget_7 0 rfl rfl ?_
      refine ww_get (pc := 8) (ci := 2) (v := .ref (rI 3)) (C := RX2) (T := TX2) (N := 3) X inX2_forget_2 0 rfl rfl 2 (by decide) (by decide +kernel) rfl dX2_forget_8 ?_
      refine ww_iload_n (pc := 11) X dX2_forget_11 1 rfl rfl ?_
      refine ww_iconst (pc := 12) (v := 0) X dX2_forget_12 (by decide) ?_
      refine ww_zast (pc := 13) (f := (it_X2_forget_2 SI j_2).2 1) (ws' := fl [wX2 cI cZ cQ rI (sA (it_X2_forget_2 SI j_2) 1 (upd ((it_X2_forget_2 SI j_2).2 1) (((nI j_2) : Int32)).toNatClampNeg 0))]) X 3 1 rfl rfl (vn (m := j_2) rfl (by omega) (by decide)) rfl rfl dX2_forget_13 ?_
      refine ww_iinc (pc := 14) (v := (nI j_2) + 1) (lv' := [(1, .int ((nI j_2) + 1)), (0, .ref (rI 0))]) X dX2_forget_14 1 rfl rfl (by decide) rfl ?_
      refine ww_goto (pc := 17) (tgt := 2) X dX2_forget_17 (by decide) ?_
      have h1 : (it_X2_forget_2 SI (j_2 + 1)) = (sA (it_X2_forget_2 SI j_2) 1 (upd ((it_X2_forget_2 SI j_2).2 1) (((nI j_2) : Int32)).toNatClampNeg 0)) := by
        show bd_X2_forget_2  j_2 (it_X2_forget_2 SI j_2) = _; unfold bd_X2_forget_2; first | done | rfl
      refine ww_lsub [1, 0] rfl ?_
      exact ww_castI (fun u9 : St => fl [wX2 cI cZ cQ rI u9]) (fun (u9 : St) (i9 : Int32) => ([(0, .ref (rI 0)), (1, .int i9)] : List (Nat × Value))) h1 (ih (j_2 + 1) (by omega) K)
  refine ww_lsub [1, 0] rfl ?_
  refine L2 2 0 (by omega) ?_
  generalize hz2 : ((it_X2_forget_2 SI 2)) = z2
  have h3 : f_X2_forget SI = z2 := by unfold f_X2_forget; try rw [hz2]; try unfold f_X2_forget_k1; first | done | rfl
  exact ww_vret X hr (congrArg (fun u9 : St => fl [wX2 cI cZ cQ rI u9]) h3.symm) dX2_forget_20
def f_X6_add (SX : St) (x1 : Int32) : St :=
  if 240 ≤ (SX.1 0) then
    SX
  else
    (sA (sI SX 0 ((SX.1 0) + 1)) 0 (upd (SX.2 0) ((SX.1 0 : Int32)).toNatClampNeg x1))
theorem inX6_add_6 : ∀ w ∈ wsX60, w ∈ wsX6_add := by decide +kernel
theorem hd_X6_add : yX6_add.cls = RX6 ∧ yX6_add.cls ≠ "java/lang/invoke/MethodHandle" ∧ yX6_add.cls ≠ "java/lang/invoke/VarHandle" ∧ (parseMethodDescriptor yX6_add.desc).map (fun d => d.parameters.length) = some 1 := by decide +kernel
set_option maxHeartbeats 4000000 in
set_option maxRecDepth 100000 in
theorem c_X6_add (l : Launch) (D : va_G) (cI cZ cQ : ClassId) (rX : Nat → Nat) (SX : St) (x1 : Int32) (ok0 : ¬ (SX.1 0) < 0) : Cv l yX6_add wsX6_add { frames := 0, cells := 0, slots := 0, locals := 0 } D (tyL cI cZ cQ) [.ref (rX 0), .int x1] (fl [wX6 cI cZ cQ rX SX]) (fl [wX6 cI cZ cQ rX (f_X6_add SX x1)]) := by
  refine cv_of (cc := cX6_add) (nL := 2) (lv0 := [(0, .ref (rX 0)), (1, .int x1)]) (by decide) rfl (Nat.le_of_ble_eq_true rfl) rfl ?_
  intro p e s m args below meth c A X hr
  refine ww_aload_n (pc := 0) X dX6_add_0 0 rfl rfl ?_
  refine ww_get (pc := 1) (ci := 6) (v := .int (SX.1 0)) (C := RX6) (T := TX6) (N := 6) X inX6_add_6 0 rfl rfl 2 (by decide) (by decide +kernel) rfl dX6_add_1 ?_
  refine ww_sipush (pc := 4) (v := 240) X dX6_add_4 (by decide) ?_
  refine ww_icmp_ge (pc := 7) (tgt := 30) X dX6_add_7 (by decide) (fun c1 => ?_) (fun c1 => ?_)
  · have h2 : f_X6_add SX x1 = SX := by unfold f_X6_add; try rw [if_pos c1]; first | done | rfl
    exact ww_vret X hr (congrArg (fun u9 : St => fl [wX6 cI cZ cQ rX u9]) h2.symm) dX6_add_30
  · refine ww_aload_n (pc := 10) X dX6_add_10 0 rfl rfl ?_
    refine ww_get (pc := 11) (ci := 6) (v := .ref (rX 1)) (C := RX6) (T := TX6) (N := 6) X inX6_add_6 0 rfl rfl 0 (by decide) (by decide +kernel) rfl dX6_add_11 ?_
    refine ww_aload_n (pc := 14) X dX6_add_14 0 rfl rfl ?_
    refine ww_get (pc := 15) (ci := 6) (v := .int (SX.1 0)) (C := RX6) (T := TX6) (N := 6) X inX6_add_6 0 rfl rfl 2 (by decide) (by decide +kernel) rfl dX6_add_15 ?_
    refine ww_iload_n (pc := 18) X dX6_add_18 1 rfl rfl ?_
    refine ww_iast (pc := 19) (f := SX.2 0) (ws' := fl [wX6 cI cZ cQ rX (sA SX 0 (upd (SX.2 0) ((SX.1 0 : Int32)).toNatClampNeg x1))]) X 1 0 rfl rfl (vin_nge ok0 c1 rfl) rfl dX6_add_19 ?_
    refine ww_aload_n (pc := 20) X dX6_add_20 0 rfl rfl ?_
    refine ww_dup (pc := 21) X dX6_add_21 rfl ?_
    refine ww_get (pc := 22) (ci := 6) (v := .int (SX.1 0)) (C := RX6) (T := TX6) (N := 6) X inX6_add_6 0 rfl rfl 2 (by decide) (by decide +kernel) rfl dX6_add_22 ?_
    refine ww_iconst (pc := 25) (v := 1) X dX6_add_25 (by decide) ?_
    have hb3 := clb (vin_nge ok0 c1 rfl)
    refine ww_iadd (pc := 26) X dX6_add_26 ?_
    refine ww_put (pc := 27) (ci := 6) (v := .int ((SX.1 0) + 1)) (C := RX6) (T := TX6) (N := 6) (ws' := fl [wX6 cI cZ cQ rX (sA (sI SX 0 ((SX.1 0) + 1)) 0 (upd (SX.2 0) ((SX.1 0 : Int32)).toNatClampNeg x1))]) X inX6_add_6 tyX6 tyX6_ok nmX6 0 rfl rfl 2 (by decide) (by decide +kernel) rfl rfl rfl (Nat.le_of_ble_eq_true rfl) rfl dX6_add_27 ?_
    have h4 : f_X6_add SX x1 = (sA (sI SX 0 ((SX.1 0) + 1)) 0 (upd (SX.2 0) ((SX.1 0 : Int32)).toNatClampNeg x1)) := by unfold f_X6_add; try rw [if_neg c1]; first | done | rfl
    exact ww_vret X hr (congrArg (fun u9 : St => fl [wX6 cI cZ cQ rX u9]) h4.symm) dX6_add_30
def f_X6_empty (SX : St) : St :=
  (sI SX 0 0)
theorem inX6_empty_6 : ∀ w ∈ wsX60, w ∈ wsX6_empty := by decide +kernel
theorem hd_X6_empty : yX6_empty.cls = RX6 ∧ yX6_empty.cls ≠ "java/lang/invoke/MethodHandle" ∧ yX6_empty.cls ≠ "java/lang/invoke/VarHandle" ∧ (parseMethodDescriptor yX6_empty.desc).map (fun d => d.parameters.length) = some 0 := by decide +kernel
set_option maxHeartbeats 4000000 in
set_option maxRecDepth 100000 in
theorem c_X6_empty (l : Launch) (D : va_G) (cI cZ cQ : ClassId) (rX : Nat → Nat) (SX : St) : Cv l yX6_empty wsX6_empty { frames := 0, cells := 0, slots := 0, locals := 0 } D (tyL cI cZ cQ) [.ref (rX 0)] (fl [wX6 cI cZ cQ rX SX]) (fl [wX6 cI cZ cQ rX (f_X6_empty SX)]) := by
  refine cv_of (cc := cX6_empty) (nL := 1) (lv0 := [(0, .ref (rX 0))]) (by decide) rfl (Nat.le_of_ble_eq_true rfl) rfl ?_
  intro p e s m args below meth c A X hr
  refine ww_aload_n (pc := 0) X dX6_empty_0 0 rfl rfl ?_
  refine ww_iconst (pc := 1) (v := 0) X dX6_empty_1 (by decide) ?_
  refine ww_put (pc := 2) (ci := 6) (v := .int 0) (C := RX6) (T := TX6) (N := 6) (ws' := fl [wX6 cI cZ cQ rX (sI SX 0 0)]) X inX6_empty_6 tyX6 tyX6_ok nmX6 0 rfl rfl 2 (by decide) (by decide +kernel) rfl rfl rfl (Nat.le_of_ble_eq_true rfl) rfl dX6_empty_2 ?_
  have h1 : f_X6_empty SX = (sI SX 0 0) := by unfold f_X6_empty; first | done | rfl
  exact ww_vret X hr (congrArg (fun u9 : St => fl [wX6 cI cZ cQ rX u9]) h1.symm) dX6_empty_5
def f_X6_here (SX : St) : Int32 :=
  if (SX.1 0) ≤ (SX.1 1) then
    (-1)
  else
    if 240 ≤ (SX.1 1) then
      (-1)
    else
      (SX.2 0) ((SX.1 1 : Int32)).toNatClampNeg
theorem inX6_here_6 : ∀ w ∈ wsX60, w ∈ wsX6_here := by decide +kernel
theorem hd_X6_here : yX6_here.cls = RX6 ∧ yX6_here.cls ≠ "java/lang/invoke/MethodHandle" ∧ yX6_here.cls ≠ "java/lang/invoke/VarHandle" ∧ (parseMethodDescriptor yX6_here.desc).map (fun d => d.parameters.length) = some 0 := by decide +kernel
set_option maxHeartbeats 4000000 in
set_option maxRecDepth 100000 in
theorem c_X6_here (l : Launch) (D : va_G) (cI cZ cQ : ClassId) (rX : Nat → Nat) (SX : St) (ok1 : ¬ (SX.1 1) < 0) : Ci l yX6_here wsX6_here { frames := 0, cells := 0, slots := 0, locals := 0 } D (tyL cI cZ cQ) [.ref (rX 0)] (fl [wX6 cI cZ cQ rX SX]) (f_X6_here SX) (fl [wX6 cI cZ cQ rX SX]) := by
  refine ci_of (cc := cX6_here) (nL := 1) (ty := .int) (lv0 := [(0, .ref (rX 0))]) (by decide) rfl (Nat.le_of_ble_eq_true rfl) rfl ?_
  intro p e s m args below meth c A X hr
  refine ww_aload_n (pc := 0) X dX6_here_0 0 rfl rfl ?_
  refine ww_get (pc := 1) (ci := 6) (v := .int (SX.1 1)) (C := RX6) (T := TX6) (N := 6) X inX6_here_6 0 rfl rfl 3 (by decide) (by decide +kernel) rfl dX6_here_1 ?_
  refine ww_aload_n (pc := 4) X dX6_here_4 0 rfl rfl ?_
  refine ww_get (pc := 5) (ci := 6) (v := .int (SX.1 0)) (C := RX6) (T := TX6) (N := 6) X inX6_here_6 0 rfl rfl 2 (by decide) (by decide +kernel) rfl dX6_here_5 ?_
  refine ww_icmp_ge (pc := 8) (tgt := 33) X dX6_here_8 (by decide) (fun c1 => ?_) (fun c1 => ?_)
  · refine ww_iconst (pc := 33) (v := (-1)) X dX6_here_33 (by decide) ?_
    exact ww_iret X hr rfl (Eq.symm (by unfold f_X6_here; try rw [if_pos c1]; first | done | rfl)) rfl dX6_here_34
  · refine ww_aload_n (pc := 11) X dX6_here_11 0 rfl rfl ?_
    refine ww_get (pc := 12) (ci := 6) (v := .int (SX.1 1)) (C := RX6) (T := TX6) (N := 6) X inX6_here_6 0 rfl rfl 3 (by decide) (by decide +kernel) rfl dX6_here_12 ?_
    refine ww_sipush (pc := 15) (v := 240) X dX6_here_15 (by decide) ?_
    refine ww_icmp_ge (pc := 18) (tgt := 33) X dX6_here_18 (by decide) (fun c2 => ?_) (fun c2 => ?_)
    · refine ww_iconst (pc := 33) (v := (-1)) X dX6_here_33 (by decide) ?_
      exact ww_iret X hr rfl (Eq.symm (by unfold f_X6_here; try rw [if_neg c1, if_pos c2]; first | done | rfl)) rfl dX6_here_34
    · refine ww_aload_n (pc := 21) X dX6_here_21 0 rfl rfl ?_
      refine ww_get (pc := 22) (ci := 6) (v := .ref (rX 1)) (C := RX6) (T := TX6) (N := 6) X inX6_here_6 0 rfl rfl 0 (by decide) (by decide +kernel) rfl dX6_here_22 ?_
      refine ww_aload_n (pc := 25) X dX6_here_25 0 rfl rfl ?_
      refine ww_get (pc := 26) (ci := 6) (v := .int (SX.1 1)) (C := RX6) (T := TX6) (N := 6) X inX6_here_6 0 rfl rfl 3 (by decide) (by decide +kernel) rfl dX6_here_26 ?_
      refine ww_iald (pc := 29) (f := SX.2 0) X 1 0 rfl rfl (vin_nge ok1 c2 rfl) dX6_here_29 ?_
      refine ww_goto (pc := 30) (tgt := 34) X dX6_here_30 (by decide) ?_
      exact ww_iret X hr rfl (Eq.symm (by unfold f_X6_here; try rw [if_neg c1, if_neg c2]; first | done | rfl)) rfl dX6_here_34
def f_X6_isFigure (SX : St) (x1 : Int32) : Int32 :=
  if x1 < 48 then
    0
  else
    if 57 < x1 then
      0
    else
      1
theorem hd_X6_isFigure : yX6_isFigure.cls = RX6 ∧ yX6_isFigure.cls ≠ "java/lang/invoke/MethodHandle" ∧ yX6_isFigure.cls ≠ "java/lang/invoke/VarHandle" ∧ (parseMethodDescriptor yX6_isFigure.desc).map (fun d => d.parameters.length) = some 1 := by decide +kernel
set_option maxHeartbeats 4000000 in
set_option maxRecDepth 100000 in
theorem c_X6_isFigure (l : Launch) (D : va_G) (cI cZ cQ : ClassId) (rX : Nat → Nat) (SX : St) (x1 : Int32) : Ci l yX6_isFigure wsX6_isFigure { frames := 0, cells := 0, slots := 0, locals := 0 } D (tyL cI cZ cQ) [.ref (rX 0), .int x1] (fl [wX6 cI cZ cQ rX SX]) (f_X6_isFigure SX x1) (fl [wX6 cI cZ cQ rX SX]) := by
  refine ci_of (cc := cX6_isFigure) (nL := 2) (ty := .boolean) (lv0 := [(0, .ref (rX 0)), (1, .int x1)]) (by decide) rfl (Nat.le_of_ble_eq_true rfl) rfl ?_
  intro p e s m args below meth c A X hr
  refine ww_iload_n (pc := 0) X dX6_isFigure_0 1 rfl rfl ?_
  refine ww_bipush (pc := 1) (v := 48) X dX6_isFigure_1 (by decide) ?_
  refine ww_icmp_lt (pc := 3) (tgt := 16) X dX6_isFigure_3 (by decide) (fun c1 => ?_) (fun c1 => ?_)
  · refine ww_iconst (pc := 16) (v := 0) X dX6_isFigure_16 (by decide) ?_
    exact ww_iret X hr rfl (Eq.symm (by unfold f_X6_isFigure; try rw [if_pos c1]; first | done | rfl)) rfl dX6_isFigure_17
  · refine ww_iload_n (pc := 6) X dX6_isFigure_6 1 rfl rfl ?_
    refine ww_bipush (pc := 7) (v := 57) X dX6_isFigure_7 (by decide) ?_
    refine ww_icmp_gt (pc := 9) (tgt := 16) X dX6_isFigure_9 (by decide) (fun c2 => ?_) (fun c2 => ?_)
    · refine ww_iconst (pc := 16) (v := 0) X dX6_isFigure_16 (by decide) ?_
      exact ww_iret X hr rfl (Eq.symm (by unfold f_X6_isFigure; try rw [if_neg c1, if_pos c2]; first | done | rfl)) rfl dX6_isFigure_17
    · refine ww_iconst (pc := 12) (v := 1) X dX6_isFigure_12 (by decide) ?_
      refine ww_goto (pc := 13) (tgt := 17) X dX6_isFigure_13 (by decide) ?_
      exact ww_iret X hr rfl (Eq.symm (by unfold f_X6_isFigure; try rw [if_neg c1, if_neg c2]; first | done | rfl)) rfl dX6_isFigure_17
def f_X6_blame (SX : St) (x1 : Int32) (x2 : Int32) : St :=
  (sI (sI SX 2 x1) 3 x2)
theorem inX6_blame_6 : ∀ w ∈ wsX60, w ∈ wsX6_blame := by decide +kernel
theorem hd_X6_blame : yX6_blame.cls = RX6 ∧ yX6_blame.cls ≠ "java/lang/invoke/MethodHandle" ∧ yX6_blame.cls ≠ "java/lang/invoke/VarHandle" ∧ (parseMethodDescriptor yX6_blame.desc).map (fun d => d.parameters.length) = some 2 := by decide +kernel
set_option maxHeartbeats 4000000 in
set_option maxRecDepth 100000 in
theorem c_X6_blame (l : Launch) (D : va_G) (cI cZ cQ : ClassId) (rX : Nat → Nat) (SX : St) (x1 : Int32) (x2 : Int32) : Cv l yX6_blame wsX6_blame { frames := 0, cells := 0, slots := 0, locals := 0 } D (tyL cI cZ cQ) [.ref (rX 0), .int x1, .int x2] (fl [wX6 cI cZ cQ rX SX]) (fl [wX6 cI cZ cQ rX (f_X6_blame SX x1 x2)]) := by
  refine cv_of (cc := cX6_blame) (nL := 3) (lv0 := [(0, .ref (rX 0)), (1, .int x1), (2, .int x2)]) (by decide) rfl (Nat.le_of_ble_eq_true rfl) rfl ?_
  intro p e s m args below meth c A X hr
  refine ww_aload_n (pc := 0) X dX6_blame_0 0 rfl rfl ?_
  refine ww_iload_n (pc := 1) X dX6_blame_1 1 rfl rfl ?_
  refine ww_put (pc := 2) (ci := 6) (v := .int x1) (C := RX6) (T := TX6) (N := 6) (ws' := fl [wX6 cI cZ cQ rX (sI SX 2 x1)]) X inX6_blame_6 tyX6 tyX6_ok nmX6 0 rfl rfl 4 (by decide) (by decide +kernel) rfl rfl rfl (Nat.le_of_ble_eq_true rfl) rfl dX6_blame_2 ?_
  refine ww_aload_n (pc := 5) X dX6_blame_5 0 rfl rfl ?_
  refine ww_iload_n (pc := 6) X dX6_blame_6 2 rfl rfl ?_
  refine ww_put (pc := 7) (ci := 6) (v := .int x2) (C := RX6) (T := TX6) (N := 6) (ws' := fl [wX6 cI cZ cQ rX (sI (sI SX 2 x1) 3 x2)]) X inX6_blame_6 tyX6 tyX6_ok nmX6 0 rfl rfl 5 (by decide) (by decide +kernel) rfl rfl rfl (Nat.le_of_ble_eq_true rfl) rfl dX6_blame_7 ?_
  have h1 : f_X6_blame SX x1 x2 = (sI (sI SX 2 x1) 3 x2) := by unfold f_X6_blame; first | done | rfl
  exact ww_vret X hr (congrArg (fun u9 : St => fl [wX6 cI cZ cQ rX u9]) h1.symm) dX6_blame_10
def f_X4_forget (SP : St) : St :=
  (sI SP 1 0)
theorem inX4_forget_4 : ∀ w ∈ wsX40, w ∈ wsX4_forget := by decide +kernel
theorem hd_X4_forget : yX4_forget.cls = RX4 ∧ yX4_forget.cls ≠ "java/lang/invoke/MethodHandle" ∧ yX4_forget.cls ≠ "java/lang/invoke/VarHandle" ∧ (parseMethodDescriptor yX4_forget.desc).map (fun d => d.parameters.length) = some 0 := by decide +kernel
set_option maxHeartbeats 4000000 in
set_option maxRecDepth 100000 in
theorem c_X4_forget (l : Launch) (D : va_G) (cI cZ cQ : ClassId) (rP : Nat → Nat) (SP : St) : Cv l yX4_forget wsX4_forget { frames := 0, cells := 0, slots := 0, locals := 0 } D (tyL cI cZ cQ) [.ref (rP 0)] (fl [wX4 cI cZ cQ rP SP]) (fl [wX4 cI cZ cQ rP (f_X4_forget SP)]) := by
  refine cv_of (cc := cX4_forget) (nL := 1) (lv0 := [(0, .ref (rP 0))]) (by decide) rfl (Nat.le_of_ble_eq_true rfl) rfl ?_
  intro p e s m args below meth c A X hr
  refine ww_aload_n (pc := 0) X dX4_forget_0 0 rfl rfl ?_
  refine ww_iconst (pc := 1) (v := 0) X dX4_forget_1 (by decide) ?_
  refine ww_put (pc := 2) (ci := 4) (v := .int 0) (C := RX4) (T := TX4) (N := 3) (ws' := fl [wX4 cI cZ cQ rP (sI SP 1 0)]) X inX4_forget_4 tyX4 tyX4_ok nmX4 0 rfl rfl 2 (by decide) (by decide +kernel) rfl rfl rfl (Nat.le_of_ble_eq_true rfl) rfl dX4_forget_2 ?_
  have h1 : f_X4_forget SP = (sI SP 1 0) := by unfold f_X4_forget; first | done | rfl
  exact ww_vret X hr (congrArg (fun u9 : St => fl [wX4 cI cZ cQ rP u9]) h1.symm) dX4_forget_5
