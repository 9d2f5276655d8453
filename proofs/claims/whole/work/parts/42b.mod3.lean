def bd_X8_leave_31_k1 (SM : St) (x1 : Int32) (x2 : Int32) (j : Nat) (u : Int32 × Int32) (z3 : Int32) : Int32 × Int32 :=
  if z3 ≤ u.2 then
    (u.1, u.2)
  else
    ((nI j), z3)
def bd_X8_leave_31 (SM : St) (x1 : Int32) (x2 : Int32) (j : Nat) (u : Int32 × Int32) : Int32 × Int32 :=
  bd_X8_leave_31_k1 SM x1 x2 j u (f_X8_worthIn SM (nI j) ((SM.2 9) ((29 + (nI j) : Int32)).toNatClampNeg) x1)
def it_X8_leave_31 (SM : St) (x1 : Int32) (x2 : Int32) (u : Int32 × Int32) : Nat → Int32 × Int32
  | 0 => u
  | j + 1 => bd_X8_leave_31 SM x1 x2 j (it_X8_leave_31 SM x1 x2 u j)
def f_X8_leave_k1 (SM : St) (x1 : Int32) (x2 : Int32) (z13 : Int32 × Int32) : Int32 :=
  if x2 = 0 then
    z13.1
  else
    z13.2
def f_X8_leave (SM : St) (x1 : Int32) (x2 : Int32) : Int32 :=
  if (f_X8_in x1 0 300) = 0 then
    (-1000000002)
  else
    if (f_X8_in x2 0 1) = 0 then
      (-1000000002)
    else
      f_X8_leave_k1 SM x1 x2 (it_X8_leave_31 SM x1 x2 ((-1), (-1)) (((SM.2 1) ((4 : Int32)).toNatClampNeg).toNatClampNeg))
theorem inX8_leave_8 : ∀ w ∈ wsX80, w ∈ wsX8_leave := by decide +kernel
theorem hd_X8_leave : yX8_leave.cls = RX8 ∧ yX8_leave.cls ≠ "java/lang/invoke/MethodHandle" ∧ yX8_leave.cls ≠ "java/lang/invoke/VarHandle" ∧ (parseMethodDescriptor yX8_leave.desc).map (fun d => d.parameters.length) = some 2 := by decide +kernel
set_option maxHeartbeats 4000000 in
set_option maxRecDepth 100000 in
theorem c_X8_leave (l : Launch) (D : va_G) (cI cZ cQ : ClassId) (rM : Nat → Nat) (SM : St) (x1 : Int32) (x2 : Int32) (okm : okM SM) : Ci l yX8_leave wsX8_leave { frames := 2, cells := 0, slots := 0, locals := 49 } D (tyL cI cZ cQ) [.ref (rM 0), .int x1, .int x2] (fl [wX8 cI cZ cQ rM SM]) (f_X8_leave SM x1 x2) (fl [wX8 cI cZ cQ rM SM]) := by
  refine ci_of (cc := cX8_leave) (nL := 7) (ty := .int) (lv0 := [(0, .ref (rM 0)), (1, .int x1), (2, .int x2)]) (by decide) rfl (Nat.le_of_ble_eq_true rfl) rfl ?_
  intro p e s m args below meth c A X hr
  refine ww_iload_n (pc := 0) X dX8_leave_0 1 rfl rfl ?_
  refine ww_iconst (pc := 1) (v := 0) X dX8_leave_1 (by decide) ?_
  refine ww_sipush (pc := 2) (v := 300) X dX8_leave_2 (by decide) ?_
  refine ww_gSi (pc := 5) (rest := []) (gsN := [wX8 cI cZ cQ rM SM]) X (c_X8_in l D cI cZ cQ x1 0 300) gX8_leave_X8_in rfl hd_X8_in [false] rfl rfl rfl rfl ⟨rfl, rfl⟩ ⟨Nat.le_of_ble_eq_true rfl, Nat.le_of_ble_eq_true rfl⟩ (Nat.le_of_ble_eq_true rfl) ⟨Nat.zero_le _, Nat.zero_le _⟩ dX8_leave_5 ?_
  refine ww_if_eq (pc := 8) (tgt := 20) X dX8_leave_8 (by decide) (fun c1 => ?_) (fun c1 => ?_)
  · refine ww_ldc (pc := 20) (v := (-1000000002)) X (by decide +kernel) dX8_leave_20 ?_
    exact ww_iret X hr rfl (Eq.symm (by unfold f_X8_leave; try rw [if_pos c1]; first | done | rfl)) rfl dX8_leave_22
  · refine ww_iload_n (pc := 11) X dX8_leave_11 2 rfl rfl ?_
    refine ww_iconst (pc := 12) (v := 0) X dX8_leave_12 (by decide) ?_
    refine ww_iconst (pc := 13) (v := 1) X dX8_leave_13 (by decide) ?_
    refine ww_gSi (pc := 14) (rest := []) (gsN := [wX8 cI cZ cQ rM SM]) X (c_X8_in l D cI cZ cQ x2 0 1) gX8_leave_X8_in rfl hd_X8_in [false] rfl rfl rfl rfl ⟨rfl, rfl⟩ ⟨Nat.le_of_ble_eq_true rfl, Nat.le_of_ble_eq_true rfl⟩ (Nat.le_of_ble_eq_true rfl) ⟨Nat.zero_le _, Nat.zero_le _⟩ dX8_leave_14 ?_
    refine ww_if_ne (pc := 17) (tgt := 23) X dX8_leave_17 (by decide) (fun c2 => ?_) (fun c2 => ?_)
    · refine ww_iconst (pc := 23) (v := (-1)) X dX8_leave_23 (by decide) ?_
      refine ww_istore_n (pc := 24) (lv' := [(3, .int (-1)), (0, .ref (rM 0)), (1, .int x1), (2, .int x2)]) X dX8_leave_24 rfl (by decide) rfl ?_
      refine ww_iconst (pc := 25) (v := (-1)) X dX8_leave_25 (by decide) ?_
      refine ww_istore (pc := 26) (lv' := [(4, .int (-1)), (3, .int (-1)), (0, .ref (rM 0)), (1, .int x1), (2, .int x2)]) X dX8_leave_26 (by decide) rfl ?_
      refine ww_iconst (pc := 28) (v := 0) X dX8_leave_28 (by decide) ?_
      refine ww_istore (pc := 29) (lv' := [(5, .int 0), (4, .int (-1)), (3, .int (-1)), (0, .ref (rM 0)), (1, .int x1), (2, .int x2)]) X dX8_leave_29 (by decide) rfl ?_
      have L31 : ∀ (k_31 j_31 : Nat), j_31 + k_31 = ((SM.2 1) ((4 : Int32)).toNatClampNeg).toNatClampNeg → WW p l e (headSpec wsX8_leave { frames := 2, cells := 0, slots := 0, locals := 49 }).room s m args below meth c 7 D A 0 0 (RQi below args s D A (f_X8_leave SM x1 x2) (fl [wX8 cI cZ cQ rM SM])) (fl [wX8 cI cZ cQ rM SM]) [(0, .ref (rM 0)), (1, .int x1), (2, .int x2), (3, .int ((it_X8_leave_31 SM x1 x2 ((-1), (-1)) (((SM.2 1) ((4 : Int32)).toNatClampNeg).toNatClampNeg)).1)), (4, .int ((it_X8_leave_31 SM x1 x2 ((-1), (-1)) (((SM.2 1) ((4 : Int32)).toNatClampNeg).toNatClampNeg)).2)), (5, .int (nI (((SM.2 1) ((4 : Int32)).toNatClampNeg).toNatClampNeg)))] 97 [] → WW p l e (headSpec wsX8_leave { frames := 2, cells := 0, slots := 0, locals := 49 }).room s m args below meth c 7 D A 0 0 (RQi below args s D A (f_X8_leave SM x1 x2) (fl [wX8 cI cZ cQ rM SM])) (fl [wX8 cI cZ cQ rM SM]) [(0, .ref (rM 0)), (1, .int x1), (2, .int x2), (3, .int ((it_X8_leave_31 SM x1 x2 ((-1), (-1)) j_31).1)), (4, .int ((it_X8_leave_31 SM x1 x2 ((-1), (-1)) j_31).2)), (5, .int (nI j_31))] 31 [] := by
        intro k_31
        induction k_31 with
        | zero =>
          intro j_31 hj K
          have hjB : j_31 = ((SM.2 1) ((4 : Int32)).toNatClampNeg).toNatClampNeg := by omega
          subst hjB
          refine ww_iload (pc := 31) X dX8_leave_31 5 rfl ?_
          refine ww_aload_n (pc := 33) X dX8_leave_33 0 rfl rfl ?_
          refine ww_get (pc := 34) (ci := 8) (v := .ref (rM 2)) (C := RX8) (T := TX8) (N := 27) X inX8_leave_8 0 rfl rfl 3 (by decide) (by decide +kernel) rfl dX8_leave_34 ?_
          refine ww_iconst (pc := 37) (v := 4) X dX8_leave_37 (by decide) ?_
          refine ww_iald (pc := 38) (f := SM.2 1) X 2 0 rfl rfl (vl_in (by decide)) dX8_leave_38 ?_
          exact ww_icmp_ge (pc := 39) (tgt := 97) X dX8_leave_39 (by decide) (fun _ => K) (fun c9 => absurd (lp_ge0c (Nat.le_refl _) (cl_lt _)) c9)
        | succ k_31 ih =>
          intro j_31 hj K
          have hjB : j_31 < ((SM.2 1) ((4 : Int32)).toNatClampNeg).toNatClampNeg := by omega
          have h6_31 := okM_g okm
          refine ww_iload (pc := 31) X dX8_leave_31 5 rfl ?_
          refine ww_aload_n (pc := 33) X dX8_leave_33 0 rfl rfl ?_
          refine ww_get (pc := 34) (ci := 8) (v := .ref (rM 2)) (C := RX8) (T := TX8) (N := 27) X inX8_leave_8 0 rfl rfl 3 (by decide) (by decide +kernel) rfl dX8_leave_34 ?_
          refine ww_iconst (pc := 37) (v := 4) X dX8_leave_37 (by decide) ?_
          refine ww_iald (pc := 38) (f := SM.2 1) X 2 0 rfl rfl (vl_in (by decide)) dX8_leave_38 ?_
          refine ww_icmp_ge (pc := 39) (tgt := 97) X dX8_leave_39 (by decide) (fun c9 => absurd c9 (lp_ge1c hjB)) (fun _ => ?_)
          refine ww_aload_n (pc := 42) X dX8_leave_42 0 rfl rfl ?_
          refine ww_iload (pc := 43) X dX8_leave_43 5 rfl ?_
          refine ww_aload_n (pc := 45) X dX8_leave_45 0 rfl rfl ?_
          refine ww_get (pc := 46) (ci := 8) (v := .ref (rM 10)) (C := RX8) (T := TX8) (N := 27) X inX8_leave_8 0 rfl rfl 11 (by decide) (by decide +kernel) rfl dX8_leave_46 ?_
          refine ww_bipush (pc := 49) (v := 29) X dX8_leave_49 (by decide) ?_
          refine ww_iload (pc := 51) X dX8_leave_51 5 rfl ?_
          refine ww_iadd (pc := 53) X dX8_leave_53 ?_
          refine ww_iald (pc := 54) (f := SM.2 9) X 10 0 rfl rfl (vn (m := 29 + j_31) (nat_iadd (a := 29) (b := j_31) rfl rfl) (by omega) (by decide)) dX8_leave_54 ?_
          refine ww_iload_n (pc := 55) X dX8_leave_55 1 rfl rfl ?_
          refine ww_gVi (pc := 56) (rest := []) (gsN := [wX8 cI cZ cQ rM SM]) (ci := 8) (gi := 0) (qi := 0) X (c_X8_worthIn l D cI cZ cQ rM SM (nI j_31) ((SM.2 9) ((29 + (nI j_31) : Int32)).toNatClampNeg) x1 (vn (m := j_31) rfl (by omega) (by decide))) gX8_leave_X8_worthIn rfl hd_X8_worthIn [true] rfl rfl rfl rfl rfl rfl rfl rfl ⟨rfl, rfl⟩ ⟨Nat.le_of_ble_eq_true rfl, Nat.le_of_ble_eq_true rfl⟩ (Nat.le_of_ble_eq_true rfl) ⟨Nat.zero_le _, Nat.zero_le _⟩ dX8_leave_56 ?_
          generalize hz7 : (f_X8_worthIn SM (nI j_31) ((SM.2 9) ((29 + (nI j_31) : Int32)).toNatClampNeg) x1) = z7
          refine ww_istore (pc := 59) (lv' := [(6, .int z7), (0, .ref (rM 0)), (1, .int x1), (2, .int x2), (3, .int ((it_X8_leave_31 SM x1 x2 ((-1), (-1)) j_31).1)), (4, .int ((it_X8_leave_31 SM x1 x2 ((-1), (-1)) j_31).2)), (5, .int (nI j_31))]) X dX8_leave_59 (by decide) rfl ?_
          refine ww_iload (pc := 61) X dX8_leave_61 0 rfl ?_
          refine ww_iload (pc := 63) X dX8_leave_63 5 rfl ?_
          refine ww_icmp_le (pc := 65) (tgt := 73) X dX8_leave_65 (by decide) (fun c8 => ?_) (fun c8 => ?_)
          · refine ww_iload_n (pc := 73) X dX8_leave_73 4 rfl rfl ?_
            refine ww_istore_n (pc := 74) (lv' := [(3, .int ((it_X8_leave_31 SM x1 x2 ((-1), (-1)) j_31).1)), (6, .int z7), (0, .ref (rM 0)), (1, .int x1), (2, .int x2), (4, .int ((it_X8_leave_31 SM x1 x2 ((-1), (-1)) j_31).2)), (5, .int (nI j_31))]) X dX8_leave_74 rfl (by decide) rfl ?_
            refine ww_iload (pc := 75) X dX8_leave_75 1 rfl ?_
            refine ww_iload (pc := 77) X dX8_leave_77 5 rfl ?_
            refine ww_icmp_le (pc := 79) (tgt := 87) X dX8_leave_79 (by decide) (fun _ => ?_) (fun c9 => absurd c8 c9)
            refine ww_iload (pc := 87) X dX8_leave_87 5 rfl ?_
            refine ww_istore (pc := 89) (lv' := [(4, .int ((it_X8_leave_31 SM x1 x2 ((-1), (-1)) j_31).2)), (3, .int ((it_X8_leave_31 SM x1 x2 ((-1), (-1)) j_31).1)), (6, .int z7), (0, .ref (rM 0)), (1, .int x1), (2, .int x2), (5, .int (nI j_31))]) X dX8_leave_89 (by decide) rfl ?_
            refine ww_iinc (pc := 91) (v := (nI j_31) + 1) (lv' := [(5, .int ((nI j_31) + 1)), (4, .int ((it_X8_leave_31 SM x1 x2 ((-1), (-1)) j_31).2)), (3, .int ((it_X8_leave_31 SM x1 x2 ((-1), (-1)) j_31).1)), (6, .int z7), (0, .ref (rM 0)), (1, .int x1), (2, .int x2)]) X dX8_leave_91 6 rfl rfl (by decide) rfl ?_
            refine ww_goto (pc := 94) (tgt := 31) X dX8_leave_94 (by decide) ?_
            have h10 : (it_X8_leave_31 SM x1 x2 ((-1), (-1)) (j_31 + 1)) = ((it_X8_leave_31 SM x1 x2 ((-1), (-1)) j_31).1, (it_X8_leave_31 SM x1 x2 ((-1), (-1)) j_31).2) := by
              show bd_X8_leave_31 SM x1 x2 j_31 (it_X8_leave_31 SM x1 x2 ((-1), (-1)) j_31) = _; unfold bd_X8_leave_31; try rw [hz7]; try unfold bd_X8_leave_31_k1; try rw [if_pos c8]; first | done | rfl
            refine ww_lsub [4, 5, 6, 2, 1, 0] rfl ?_
            exact ww_castI (fun u9 : Int32 × Int32 => fl [wX8 cI cZ cQ rM SM]) (fun (u9 : Int32 × Int32) (i9 : Int32) => ([(0, .ref (rM 0)), (1, .int x1), (2, .int x2), (3, .int u9.1), (4, .int u9.2), (5, .int i9)] : List (Nat × Value))) h10 (ih (j_31 + 1) (by omega) K)
          · refine ww_iload (pc := 68) X dX8_leave_68 6 rfl ?_
            refine ww_goto (pc := 70) (tgt := 74) X dX8_leave_70 (by decide) ?_
            refine ww_istore_n (pc := 74) (lv' := [(3, .int (nI j_31)), (6, .int z7), (0, .ref (rM 0)), (1, .int x1), (2, .int x2), (4, .int ((it_X8_leave_31 SM x1 x2 ((-1), (-1)) j_31).2)), (5, .int (nI j_31))]) X dX8_leave_74 rfl (by decide) rfl ?_
            refine ww_iload (pc := 75) X dX8_leave_75 1 rfl ?_
            refine ww_iload (pc := 77) X dX8_leave_77 5 rfl ?_
            refine ww_icmp_le (pc := 79) (tgt := 87) X dX8_leave_79 (by decide) (fun c11 => absurd c11 c8) (fun _ => ?_)
            refine ww_iload (pc := 82) X dX8_leave_82 1 rfl ?_
            refine ww_goto (pc := 84) (tgt := 89) X dX8_leave_84 (by decide) ?_
            refine ww_istore (pc := 89) (lv' := [(4, .int z7), (3, .int (nI j_31)), (6, .int z7), (0, .ref (rM 0)), (1, .int x1), (2, .int x2), (5, .int (nI j_31))]) X dX8_leave_89 (by decide) rfl ?_
            refine ww_iinc (pc := 91) (v := (nI j_31) + 1) (lv' := [(5, .int ((nI j_31) + 1)), (4, .int z7), (3, .int (nI j_31)), (6, .int z7), (0, .ref (rM 0)), (1, .int x1), (2, .int x2)]) X dX8_leave_91 6 rfl rfl (by decide) rfl ?_
            refine ww_goto (pc := 94) (tgt := 31) X dX8_leave_94 (by decide) ?_
            have h12 : (it_X8_leave_31 SM x1 x2 ((-1), (-1)) (j_31 + 1)) = ((nI j_31), z7) := by
              show bd_X8_leave_31 SM x1 x2 j_31 (it_X8_leave_31 SM x1 x2 ((-1), (-1)) j_31) = _; unfold bd_X8_leave_31; try rw [hz7]; try unfold bd_X8_leave_31_k1; try rw [if_neg c8]; first | done | rfl
            refine ww_lsub [4, 5, 6, 2, 1, 0] rfl ?_
            exact ww_castI (fun u9 : Int32 × Int32 => fl [wX8 cI cZ cQ rM SM]) (fun (u9 : Int32 × Int32) (i9 : Int32) => ([(0, .ref (rM 0)), (1, .int x1), (2, .int x2), (3, .int u9.1), (4, .int u9.2), (5, .int i9)] : List (Nat × Value))) h12 (ih (j_31 + 1) (by omega) K)
      refine ww_lsub [3, 4, 5, 2, 1, 0] rfl ?_
      refine L31 (((SM.2 1) ((4 : Int32)).toNatClampNeg).toNatClampNeg) 0 (by omega) ?_
      generalize hz13 : ((it_X8_leave_31 SM x1 x2 ((-1), (-1)) (((SM.2 1) ((4 : Int32)).toNatClampNeg).toNatClampNeg))) = z13
      refine ww_iload_n (pc := 97) X dX8_leave_97 2 rfl rfl ?_
      refine ww_if_ne (pc := 98) (tgt := 105) X dX8_leave_98 (by decide) (fun c14 => ?_) (fun c14 => ?_)
      · refine ww_iload (pc := 105) X dX8_leave_105 4 rfl ?_
        exact ww_iret X hr rfl (Eq.symm (by unfold f_X8_leave; try rw [if_neg c1, if_neg c2, hz13]; try unfold f_X8_leave_k1; try rw [if_neg c14]; first | done | rfl)) rfl dX8_leave_107
      · refine ww_iload_n (pc := 101) X dX8_leave_101 3 rfl rfl ?_
        refine ww_goto (pc := 102) (tgt := 107) X dX8_leave_102 (by decide) ?_
        exact ww_iret X hr rfl (Eq.symm (by unfold f_X8_leave; try rw [if_neg c1, if_neg c2, hz13]; try unfold f_X8_leave_k1; try rw [if_pos c14]; first | done | rfl)) rfl dX8_leave_107
    · refine ww_ldc (pc := 20) (v := (-1000000002)) X (by decide +kernel) dX8_leave_20 ?_
      exact ww_iret X hr rfl (Eq.symm (by unfold f_X8_leave; try rw [if_neg c1, if_pos c2]; first | done | rfl)) rfl dX8_leave_22
def l0_X8_when_38 (SM : St) (x1 : Int32) (x2 : Int32) (j : Nat) (u : Int32) : Int32 :=
  (-1)
def lb_X8_when_38 (SM : St) (x1 : Int32) (x2 : Int32) (rec : Nat → (Int32) → Int32) (j : Nat) (u : Int32) : Int32 :=
  if u < x2 then
    rec (j + 1) (f_X8_later SM x1 u)
  else
    (nI j)
def lp_X8_when_38 (SM : St) (x1 : Int32) (x2 : Int32) : Nat → Nat → (Int32) → Int32
  | 0, j, u => l0_X8_when_38 SM x1 x2 j u
  | k + 1, j, u => lb_X8_when_38 SM x1 x2 (lp_X8_when_38 SM x1 x2 k) j u
def f_X8_when (SM : St) (x1 : Int32) (x2 : Int32) : Int32 :=
  if (f_X8_isGood SM x1) = 0 then
    (-1000000001)
  else
    if (f_X8_in x2 0 9999) = 0 then
      (-1000000002)
    else
      lp_X8_when_38 SM x1 x2 301 0 ((SM.2 9) ((29 + x1 : Int32)).toNatClampNeg)
theorem inX8_when_8 : ∀ w ∈ wsX80, w ∈ wsX8_when := by decide +kernel
theorem hd_X8_when : yX8_when.cls = RX8 ∧ yX8_when.cls ≠ "java/lang/invoke/MethodHandle" ∧ yX8_when.cls ≠ "java/lang/invoke/VarHandle" ∧ (parseMethodDescriptor yX8_when.desc).map (fun d => d.parameters.length) = some 2 := by decide +kernel
set_option maxHeartbeats 4000000 in
set_option maxRecDepth 100000 in
theorem c_X8_when (l : Launch) (D : va_G) (cI cZ cQ : ClassId) (rM : Nat → Nat) (SM : St) (x1 : Int32) (x2 : Int32) (okm : okM SM) : Ci l yX8_when wsX8_when { frames := 2, cells := 0, slots := 0, locals := 43 } D (tyL cI cZ cQ) [.ref (rM 0), .int x1, .int x2] (fl [wX8 cI cZ cQ rM SM]) (f_X8_when SM x1 x2) (fl [wX8 cI cZ cQ rM SM]) := by
  refine ci_of (cc := cX8_when) (nL := 5) (ty := .int) (lv0 := [(0, .ref (rM 0)), (1, .int x1), (2, .int x2)]) (by decide) rfl (Nat.le_of_ble_eq_true rfl) rfl ?_
  intro p e s m args below meth c A X hr
  refine ww_aload_n (pc := 0) X dX8_when_0 0 rfl rfl ?_
  refine ww_iload_n (pc := 1) X dX8_when_1 1 rfl rfl ?_
  refine ww_gVi (pc := 2) (rest := []) (gsN := [wX8 cI cZ cQ rM SM]) (ci := 8) (gi := 0) (qi := 0) X (c_X8_isGood l D cI cZ cQ rM SM x1) gX8_when_X8_isGood rfl hd_X8_isGood [true] rfl rfl rfl rfl rfl rfl rfl rfl ⟨rfl, rfl⟩ ⟨Nat.le_of_ble_eq_true rfl, Nat.le_of_ble_eq_true rfl⟩ (Nat.le_of_ble_eq_true rfl) ⟨Nat.zero_le _, Nat.zero_le _⟩ dX8_when_2 ?_
  refine ww_if_ne (pc := 5) (tgt := 11) X dX8_when_5 (by decide) (fun c1 => ?_) (fun c1 => ?_)
  · refine ww_iload_n (pc := 11) X dX8_when_11 2 rfl rfl ?_
    refine ww_iconst (pc := 12) (v := 0) X dX8_when_12 (by decide) ?_
    refine ww_sipush (pc := 13) (v := 9999) X dX8_when_13 (by decide) ?_
    refine ww_gSi (pc := 16) (rest := []) (gsN := [wX8 cI cZ cQ rM SM]) X (c_X8_in l D cI cZ cQ x2 0 9999) gX8_when_X8_in rfl hd_X8_in [false] rfl rfl rfl rfl ⟨rfl, rfl⟩ ⟨Nat.le_of_ble_eq_true rfl, Nat.le_of_ble_eq_true rfl⟩ (Nat.le_of_ble_eq_true rfl) ⟨Nat.zero_le _, Nat.zero_le _⟩ dX8_when_16 ?_
    refine ww_if_ne (pc := 19) (tgt := 25) X dX8_when_19 (by decide) (fun c2 => ?_) (fun c2 => ?_)
    · refine ww_aload_n (pc := 25) X dX8_when_25 0 rfl rfl ?_
      refine ww_get (pc := 26) (ci := 8) (v := .ref (rM 10)) (C := RX8) (T := TX8) (N := 27) X inX8_when_8 0 rfl rfl 11 (by decide) (by decide +kernel) rfl dX8_when_26 ?_
      refine ww_bipush (pc := 29) (v := 29) X dX8_when_29 (by decide) ?_
      refine ww_iload_n (pc := 31) X dX8_when_31 1 rfl rfl ?_
      have hb3 := clb (n := 6) (in_X8_isGood okm c1)
      refine ww_iadd (pc := 32) X dX8_when_32 ?_
      refine ww_iald (pc := 33) (f := SM.2 9) X 10 0 rfl rfl (vn (m := 29 + ((x1 : Int32).toNatClampNeg)) (nat_iadd (a := 29) (b := (x1 : Int32).toNatClampNeg) rfl (cl_of (in_X8_isGood okm c1))) (by omega) (by decide)) dX8_when_33 ?_
      refine ww_istore_n (pc := 34) (lv' := [(3, .int ((SM.2 9) ((29 + x1 : Int32)).toNatClampNeg)), (0, .ref (rM 0)), (1, .int x1), (2, .int x2)]) X dX8_when_34 rfl (by decide) rfl ?_
      refine ww_iconst (pc := 35) (v := 0) X dX8_when_35 (by decide) ?_
      refine ww_istore (pc := 36) (lv' := [(4, .int 0), (3, .int ((SM.2 9) ((29 + x1 : Int32)).toNatClampNeg)), (0, .ref (rM 0)), (1, .int x1), (2, .int x2)]) X dX8_when_36 (by decide) rfl ?_
      have L38 : ∀ (k_38 j_38 : Nat) (u_38 : Int32), j_38 + k_38 = 301 → True → f_X8_when SM x1 x2 = lp_X8_when_38 SM x1 x2 k_38 j_38 u_38 → WW p l e (headSpec wsX8_when { frames := 2, cells := 0, slots := 0, locals := 43 }).room s m args below meth c 5 D A 0 0 (RQi below args s D A (f_X8_when SM x1 x2) (fl [wX8 cI cZ cQ rM SM])) (fl [wX8 cI cZ cQ rM SM]) [(0, .ref (rM 0)), (1, .int x1), (2, .int x2), (3, .int u_38), (4, .int (nI j_38))] 38 [] := by
        intro k_38
        induction k_38 with
        | zero =>
          intro j_38 u_38 hj hi hf
          have hjB : j_38 = 301 := by omega
          subst hjB
          refine ww_iload (pc := 38) X dX8_when_38 4 rfl ?_
          refine ww_sipush (pc := 40) (v := 301) X dX8_when_40 (by decide) ?_
          refine ww_icmp_ge (pc := 43) (tgt := 67) X dX8_when_43 (by decide) (fun _ => ?_) (fun c9 => absurd (lp_ge0 rfl (Nat.le_refl _) (by decide)) c9)
          refine ww_iconst (pc := 67) (v := (-1)) X dX8_when_67 (by decide) ?_
          exact ww_iret X hr rfl (Eq.symm (by rw [hf]; show l0_X8_when_38 SM x1 x2 301 u_38 = _; unfold l0_X8_when_38; first | done | rfl)) rfl dX8_when_68
        | succ k_38 ih =>
          intro j_38 u_38 hj hi hf
          have hjB : j_38 < 301 := by omega
          refine ww_iload (pc := 38) X dX8_when_38 4 rfl ?_
          refine ww_sipush (pc := 40) (v := 301) X dX8_when_40 (by decide) ?_
          refine ww_icmp_ge (pc := 43) (tgt := 67) X dX8_when_43 (by decide) (fun c9 => absurd c9 (lp_ge1 rfl hjB (by decide))) (fun _ => ?_)
          refine ww_iload_n (pc := 46) X dX8_when_46 3 rfl rfl ?_
          refine ww_iload_n (pc := 47) X dX8_when_47 2 rfl rfl ?_
          refine ww_icmp_lt (pc := 48) (tgt := 54) X dX8_when_48 (by decide) (fun c5 => ?_) (fun c5 => ?_)
          · refine ww_aload_n (pc := 54) X dX8_when_54 0 rfl rfl ?_
            refine ww_iload_n (pc := 55) X dX8_when_55 1 rfl rfl ?_
            refine ww_iload_n (pc := 56) X dX8_when_56 3 rfl rfl ?_
            refine ww_gVi (pc := 57) (rest := []) (gsN := [wX8 cI cZ cQ rM SM]) (ci := 8) (gi := 0) (qi := 0) X (c_X8_later l D cI cZ cQ rM SM x1 u_38 (in_X8_isGood okm c1)) gX8_when_X8_later rfl hd_X8_later [true] rfl rfl rfl rfl rfl rfl rfl rfl ⟨rfl, rfl⟩ ⟨Nat.le_of_ble_eq_true rfl, Nat.le_of_ble_eq_true rfl⟩ (Nat.le_of_ble_eq_true rfl) ⟨Nat.zero_le _, Nat.zero_le _⟩ dX8_when_57 ?_
            refine ww_istore_n (pc := 60) (lv' := [(3, .int (f_X8_later SM x1 u_38)), (0, .ref (rM 0)), (1, .int x1), (2, .int x2), (4, .int (nI j_38))]) X dX8_when_60 rfl (by decide) rfl ?_
            refine ww_iinc (pc := 61) (v := (nI j_38) + 1) (lv' := [(4, .int ((nI j_38) + 1)), (3, .int (f_X8_later SM x1 u_38)), (0, .ref (rM 0)), (1, .int x1), (2, .int x2)]) X dX8_when_61 4 rfl rfl (by decide) rfl ?_
            refine ww_goto (pc := 64) (tgt := 38) X dX8_when_64 (by decide) ?_
            refine ww_lsub [2, 3, 4, 1, 0] rfl ?_
            have h6 : f_X8_when SM x1 x2 = lp_X8_when_38 SM x1 x2 k_38 (j_38 + 1) (f_X8_later SM x1 u_38) := by rw [hf]; show lb_X8_when_38 SM x1 x2 (lp_X8_when_38 SM x1 x2 k_38) j_38 u_38 = _; unfold lb_X8_when_38; try rw [if_pos c5]; first | done | rfl
            exact ww_cast rfl (congrArg (fun (i9 : Int32) => ([(0, .ref (rM 0)), (1, .int x1), (2, .int x2), (3, .int (f_X8_later SM x1 u_38)), (4, .int i9)] : List (Nat × Value))) (nI_1 j_38).symm) (ih (j_38 + 1) (f_X8_later SM x1 u_38) (by omega) trivial h6)
          · refine ww_iload (pc := 51) X dX8_when_51 4 rfl ?_
            exact ww_iret X hr rfl (Eq.symm (by rw [hf]; show lb_X8_when_38 SM x1 x2 (lp_X8_when_38 SM x1 x2 k_38) j_38 u_38 = _; unfold lb_X8_when_38; try rw [if_neg c5]; first | done | rfl)) rfl dX8_when_53
      refine ww_lsub [2, 3, 4, 1, 0] rfl ?_
      exact L38 301 0 ((SM.2 9) ((29 + x1 : Int32)).toNatClampNeg) (by omega) trivial (by unfold f_X8_when; try rw [if_neg c1, if_neg c2]; first | done | rfl)
    · refine ww_ldc (pc := 22) (v := (-1000000002)) X (by decide +kernel) dX8_when_22 ?_
      exact ww_iret X hr rfl (Eq.symm (by unfold f_X8_when; try rw [if_neg c1, if_pos c2]; first | done | rfl)) rfl dX8_when_24
  · refine ww_ldc (pc := 8) (v := (-1000000001)) X (by decide +kernel) dX8_when_8 ?_
    exact ww_iret X hr rfl (Eq.symm (by unfold f_X8_when; try rw [if_pos c1]; first | done | rfl)) rfl dX8_when_10
def f_X8_letters (SM : St) (x1 : Int32) (x2 : Int32) : Int32 :=
  if (f_X8_isDepth SM x1) = 0 then
    (-1000000001)
  else
    if (f_X8_in x2 1 9) = 0 then
      (-1000000002)
    else
      (((((SM.2 9) ((0 : Int32)).toNatClampNeg) / ((SM.2 2) ((x1 : Int32)).toNatClampNeg)) + x2) * ((SM.2 2) ((x1 : Int32)).toNatClampNeg)) - ((SM.2 9) ((0 : Int32)).toNatClampNeg)
theorem inX8_letters_8 : ∀ w ∈ wsX80, w ∈ wsX8_letters := by decide +kernel
theorem hd_X8_letters : yX8_letters.cls = RX8 ∧ yX8_letters.cls ≠ "java/lang/invoke/MethodHandle" ∧ yX8_letters.cls ≠ "java/lang/invoke/VarHandle" ∧ (parseMethodDescriptor yX8_letters.desc).map (fun d => d.parameters.length) = some 2 := by decide +kernel
set_option maxHeartbeats 4000000 in
set_option maxRecDepth 100000 in
theorem c_X8_letters (l : Launch) (D : va_G) (cI cZ cQ : ClassId) (rM : Nat → Nat) (SM : St) (x1 : Int32) (x2 : Int32) (okm : okM SM) (okd : okD SM) : Ci l yX8_letters wsX8_letters { frames := 2, cells := 0, slots := 0, locals := 43 } D (tyL cI cZ cQ) [.ref (rM 0), .int x1, .int x2] (fl [wX8 cI cZ cQ rM SM]) (f_X8_letters SM x1 x2) (fl [wX8 cI cZ cQ rM SM]) := by
  refine ci_of (cc := cX8_letters) (nL := 3) (ty := .int) (lv0 := [(0, .ref (rM 0)), (1, .int x1), (2, .int x2)]) (by decide) rfl (Nat.le_of_ble_eq_true rfl) rfl ?_
  intro p e s m args below meth c A X hr
  refine ww_aload_n (pc := 0) X dX8_letters_0 0 rfl rfl ?_
  refine ww_iload_n (pc := 1) X dX8_letters_1 1 rfl rfl ?_
  refine ww_gVi (pc := 2) (rest := []) (gsN := [wX8 cI cZ cQ rM SM]) (ci := 8) (gi := 0) (qi := 0) X (c_X8_isDepth l D cI cZ cQ rM SM x1) gX8_letters_X8_isDepth rfl hd_X8_isDepth [true] rfl rfl rfl rfl rfl rfl rfl rfl ⟨rfl, rfl⟩ ⟨Nat.le_of_ble_eq_true rfl, Nat.le_of_ble_eq_true rfl⟩ (Nat.le_of_ble_eq_true rfl) ⟨Nat.zero_le _, Nat.zero_le _⟩ dX8_letters_2 ?_
  refine ww_if_ne (pc := 5) (tgt := 11) X dX8_letters_5 (by decide) (fun c1 => ?_) (fun c1 => ?_)
  · refine ww_iload_n (pc := 11) X dX8_letters_11 2 rfl rfl ?_
    refine ww_iconst (pc := 12) (v := 1) X dX8_letters_12 (by decide) ?_
    refine ww_bipush (pc := 13) (v := 9) X dX8_letters_13 (by decide) ?_
    refine ww_gSi (pc := 15) (rest := []) (gsN := [wX8 cI cZ cQ rM SM]) X (c_X8_in l D cI cZ cQ x2 1 9) gX8_letters_X8_in rfl hd_X8_in [false] rfl rfl rfl rfl ⟨rfl, rfl⟩ ⟨Nat.le_of_ble_eq_true rfl, Nat.le_of_ble_eq_true rfl⟩ (Nat.le_of_ble_eq_true rfl) ⟨Nat.zero_le _, Nat.zero_le _⟩ dX8_letters_15 ?_
    refine ww_if_ne (pc := 18) (tgt := 24) X dX8_letters_18 (by decide) (fun c2 => ?_) (fun c2 => ?_)
    · refine ww_aload_n (pc := 24) X dX8_letters_24 0 rfl rfl ?_
      refine ww_get (pc := 25) (ci := 8) (v := .ref (rM 10)) (C := RX8) (T := TX8) (N := 27) X inX8_letters_8 0 rfl rfl 11 (by decide) (by decide +kernel) rfl dX8_letters_25 ?_
      refine ww_iconst (pc := 28) (v := 0) X dX8_letters_28 (by decide) ?_
      refine ww_iald (pc := 29) (f := SM.2 9) X 10 0 rfl rfl (vl_in (by decide)) dX8_letters_29 ?_
      refine ww_aload_n (pc := 30) X dX8_letters_30 0 rfl rfl ?_
      refine ww_get (pc := 31) (ci := 8) (v := .ref (rM 3)) (C := RX8) (T := TX8) (N := 27) X inX8_letters_8 0 rfl rfl 4 (by decide) (by decide +kernel) rfl dX8_letters_31 ?_
      refine ww_iload_n (pc := 34) X dX8_letters_34 1 rfl rfl ?_
      refine ww_iald (pc := 35) (f := SM.2 2) X 3 0 rfl rfl (in_X8_isDepth okm c1) dX8_letters_35 ?_
      refine ww_idiv (pc := 36) X dX8_letters_36 (okd x1 c1) ?_
      refine ww_iload_n (pc := 37) X dX8_letters_37 2 rfl rfl ?_
      refine ww_iadd (pc := 38) X dX8_letters_38 ?_
      refine ww_aload_n (pc := 39) X dX8_letters_39 0 rfl rfl ?_
      refine ww_get (pc := 40) (ci := 8) (v := .ref (rM 3)) (C := RX8) (T := TX8) (N := 27) X inX8_letters_8 0 rfl rfl 4 (by decide) (by decide +kernel) rfl dX8_letters_40 ?_
      refine ww_iload_n (pc := 43) X dX8_letters_43 1 rfl rfl ?_
      refine ww_iald (pc := 44) (f := SM.2 2) X 3 0 rfl rfl (in_X8_isDepth okm c1) dX8_letters_44 ?_
      refine ww_imul (pc := 45) X dX8_letters_45 ?_
      refine ww_aload_n (pc := 46) X dX8_letters_46 0 rfl rfl ?_
      refine ww_get (pc := 47) (ci := 8) (v := .ref (rM 10)) (C := RX8) (T := TX8) (N := 27) X inX8_letters_8 0 rfl rfl 11 (by decide) (by decide +kernel) rfl dX8_letters_47 ?_
      refine ww_iconst (pc := 50) (v := 0) X dX8_letters_50 (by decide) ?_
      refine ww_iald (pc := 51) (f := SM.2 9) X 10 0 rfl rfl (vl_in (by decide)) dX8_letters_51 ?_
      refine ww_isub (pc := 52) X dX8_letters_52 ?_
      exact ww_iret X hr rfl (Eq.symm (by unfold f_X8_letters; try rw [if_neg c1, if_neg c2]; first | done | rfl)) rfl dX8_letters_53
    · refine ww_ldc (pc := 21) (v := (-1000000002)) X (by decide +kernel) dX8_letters_21 ?_
      exact ww_iret X hr rfl (Eq.symm (by unfold f_X8_letters; try rw [if_neg c1, if_pos c2]; first | done | rfl)) rfl dX8_letters_23
  · refine ww_ldc (pc := 8) (v := (-1000000001)) X (by decide +kernel) dX8_letters_8 ?_
    exact ww_iret X hr rfl (Eq.symm (by unfold f_X8_letters; try rw [if_pos c1]; first | done | rfl)) rfl dX8_letters_10
def f_X8_wouldOpen_k1 (SM : St) (x1 : Int32) (z4 : Int32) : Int32 :=
  if (f_X8_end SM x1) ≤ z4 then
    (-1)
  else
    z4
def f_X8_wouldOpen (SM : St) (x1 : Int32) : Int32 :=
  if (f_X8_isPerson SM x1) = 0 then
    (-1000000001)
  else
    if (f_X8_isAbove SM x1) = 0 then
      (-1000000003)
    else
      f_X8_wouldOpen_k1 SM x1 (((SM.2 9) ((1 + x1 : Int32)).toNatClampNeg) + ((SM.2 9) ((15 + x1 : Int32)).toNatClampNeg))
theorem inX8_wouldOpen_8 : ∀ w ∈ wsX80, w ∈ wsX8_wouldOpen := by decide +kernel
theorem hd_X8_wouldOpen : yX8_wouldOpen.cls = RX8 ∧ yX8_wouldOpen.cls ≠ "java/lang/invoke/MethodHandle" ∧ yX8_wouldOpen.cls ≠ "java/lang/invoke/VarHandle" ∧ (parseMethodDescriptor yX8_wouldOpen.desc).map (fun d => d.parameters.length) = some 1 := by decide +kernel
set_option maxHeartbeats 4000000 in
set_option maxRecDepth 100000 in
theorem c_X8_wouldOpen (l : Launch) (D : va_G) (cI cZ cQ : ClassId) (rM : Nat → Nat) (SM : St) (x1 : Int32) (okm : okM SM) : Ci l yX8_wouldOpen wsX8_wouldOpen { frames := 2, cells := 0, slots := 0, locals := 43 } D (tyL cI cZ cQ) [.ref (rM 0), .int x1] (fl [wX8 cI cZ cQ rM SM]) (f_X8_wouldOpen SM x1) (fl [wX8 cI cZ cQ rM SM]) := by
  refine ci_of (cc := cX8_wouldOpen) (nL := 3) (ty := .int) (lv0 := [(0, .ref (rM 0)), (1, .int x1)]) (by decide) rfl (Nat.le_of_ble_eq_true rfl) rfl ?_
  intro p e s m args below meth c A X hr
  refine ww_aload_n (pc := 0) X dX8_wouldOpen_0 0 rfl rfl ?_
  refine ww_iload_n (pc := 1) X dX8_wouldOpen_1 1 rfl rfl ?_
  refine ww_gVi (pc := 2) (rest := []) (gsN := [wX8 cI cZ cQ rM SM]) (ci := 8) (gi := 0) (qi := 0) X (c_X8_isPerson l D cI cZ cQ rM SM x1) gX8_wouldOpen_X8_isPerson rfl hd_X8_isPerson [true] rfl rfl rfl rfl rfl rfl rfl rfl ⟨rfl, rfl⟩ ⟨Nat.le_of_ble_eq_true rfl, Nat.le_of_ble_eq_true rfl⟩ (Nat.le_of_ble_eq_true rfl) ⟨Nat.zero_le _, Nat.zero_le _⟩ dX8_wouldOpen_2 ?_
  refine ww_if_ne (pc := 5) (tgt := 11) X dX8_wouldOpen_5 (by decide) (fun c1 => ?_) (fun c1 => ?_)
  · refine ww_aload_n (pc := 11) X dX8_wouldOpen_11 0 rfl rfl ?_
    refine ww_iload_n (pc := 12) X dX8_wouldOpen_12 1 rfl rfl ?_
    refine ww_gVi (pc := 13) (rest := []) (gsN := [wX8 cI cZ cQ rM SM]) (ci := 8) (gi := 0) (qi := 0) X (c_X8_isAbove l D cI cZ cQ rM SM x1 (in_X8_isPerson okm c1)) gX8_wouldOpen_X8_isAbove rfl hd_X8_isAbove [true] rfl rfl rfl rfl rfl rfl rfl rfl ⟨rfl, rfl⟩ ⟨Nat.le_of_ble_eq_true rfl, Nat.le_of_ble_eq_true rfl⟩ (Nat.le_of_ble_eq_true rfl) ⟨Nat.zero_le _, Nat.zero_le _⟩ dX8_wouldOpen_13 ?_
    refine ww_if_ne (pc := 16) (tgt := 22) X dX8_wouldOpen_16 (by decide) (fun c2 => ?_) (fun c2 => ?_)
    · refine ww_aload_n (pc := 22) X dX8_wouldOpen_22 0 rfl rfl ?_
      refine ww_get (pc := 23) (ci := 8) (v := .ref (rM 10)) (C := RX8) (T := TX8) (N := 27) X inX8_wouldOpen_8 0 rfl rfl 11 (by decide) (by decide +kernel) rfl dX8_wouldOpen_23 ?_
      refine ww_iconst (pc := 26) (v := 1) X dX8_wouldOpen_26 (by decide) ?_
      refine ww_iload_n (pc := 27) X dX8_wouldOpen_27 1 rfl rfl ?_
      have hb3 := clb (n := 7) (in_X8_isPerson okm c1)
      refine ww_iadd (pc := 28) X dX8_wouldOpen_28 ?_
      refine ww_iald (pc := 29) (f := SM.2 9) X 10 0 rfl rfl (vn (m := 1 + ((x1 : Int32).toNatClampNeg)) (nat_iadd (a := 1) (b := (x1 : Int32).toNatClampNeg) rfl (cl_of (in_X8_isPerson okm c1))) (by omega) (by decide)) dX8_wouldOpen_29 ?_
      refine ww_aload_n (pc := 30) X dX8_wouldOpen_30 0 rfl rfl ?_
      refine ww_get (pc := 31) (ci := 8) (v := .ref (rM 10)) (C := RX8) (T := TX8) (N := 27) X inX8_wouldOpen_8 0 rfl rfl 11 (by decide) (by decide +kernel) rfl dX8_wouldOpen_31 ?_
      refine ww_bipush (pc := 34) (v := 15) X dX8_wouldOpen_34 (by decide) ?_
      refine ww_iload_n (pc := 36) X dX8_wouldOpen_36 1 rfl rfl ?_
      refine ww_iadd (pc := 37) X dX8_wouldOpen_37 ?_
      refine ww_iald (pc := 38) (f := SM.2 9) X 10 0 rfl rfl (vn (m := 15 + ((x1 : Int32).toNatClampNeg)) (nat_iadd (a := 15) (b := (x1 : Int32).toNatClampNeg) rfl (cl_of (in_X8_isPerson okm c1))) (by omega) (by decide)) dX8_wouldOpen_38 ?_
      refine ww_iadd (pc := 39) X dX8_wouldOpen_39 ?_
      generalize hz4 : (((SM.2 9) ((1 + x1 : Int32)).toNatClampNeg) + ((SM.2 9) ((15 + x1 : Int32)).toNatClampNeg)) = z4
      refine ww_istore_n (pc := 40) (lv' := [(2, .int z4), (0, .ref (rM 0)), (1, .int x1)]) X dX8_wouldOpen_40 rfl (by decide) rfl ?_
      refine ww_iload_n (pc := 41) X dX8_wouldOpen_41 0 rfl rfl ?_
      refine ww_aload_n (pc := 42) X dX8_wouldOpen_42 1 rfl rfl ?_
      refine ww_iload_n (pc := 43) X dX8_wouldOpen_43 2 rfl rfl ?_
      refine ww_gVi (pc := 44) (rest := [.int z4]) (gsN := [wX8 cI cZ cQ rM SM]) (ci := 8) (gi := 0) (qi := 0) X (c_X8_end l D cI cZ cQ rM SM x1 (in_X8_isPerson okm c1)) gX8_wouldOpen_X8_end rfl hd_X8_end [true] rfl rfl rfl rfl rfl rfl rfl rfl ⟨rfl, rfl⟩ ⟨Nat.le_of_ble_eq_true rfl, Nat.le_of_ble_eq_true rfl⟩ (Nat.le_of_ble_eq_true rfl) ⟨Nat.zero_le _, Nat.zero_le _⟩ dX8_wouldOpen_44 ?_
      refine ww_icmp_ge (pc := 47) (tgt := 54) X dX8_wouldOpen_47 (by decide) (fun c5 => ?_) (fun c5 => ?_)
      · refine ww_iconst (pc := 54) (v := (-1)) X dX8_wouldOpen_54 (by decide) ?_
        exact ww_iret X hr rfl (Eq.symm (by unfold f_X8_wouldOpen; try rw [if_neg c1, if_neg c2, hz4]; try unfold f_X8_wouldOpen_k1; try rw [if_pos c5]; first | done | rfl)) rfl dX8_wouldOpen_55
      · refine ww_iload_n (pc := 50) X dX8_wouldOpen_50 0 rfl rfl ?_
        refine ww_goto (pc := 51) (tgt := 55) X dX8_wouldOpen_51 (by decide) ?_
        exact ww_iret X hr rfl (Eq.symm (by unfold f_X8_wouldOpen; try rw [if_neg c1, if_neg c2, hz4]; try unfold f_X8_wouldOpen_k1; try rw [if_neg c5]; first | done | rfl)) rfl dX8_wouldOpen_55
    · refine ww_ldc (pc := 19) (v := (-1000000003)) X (by decide +kernel) dX8_wouldOpen_19 ?_
      exact ww_iret X hr rfl (Eq.symm (by unfold f_X8_wouldOpen; try rw [if_neg c1, if_pos c2]; first | done | rfl)) rfl dX8_wouldOpen_21
  · refine ww_ldc (pc := 8) (v := (-1000000001)) X (by decide +kernel) dX8_wouldOpen_8 ?_
    exact ww_iret X hr rfl (Eq.symm (by unfold f_X8_wouldOpen; try rw [if_pos c1]; first | done | rfl)) rfl dX8_wouldOpen_10
def f_X8_yearsLeft (SM : St) (x1 : Int32) : Int32 :=
  if (f_X8_isPerson SM x1) = 0 then
    (-1000000001)
  else
    if (f_X8_isAbove SM x1) = 0 then
      (-1000000003)
    else
      (f_X8_end SM x1) - ((SM.2 9) ((1 + x1 : Int32)).toNatClampNeg)
theorem inX8_yearsLeft_8 : ∀ w ∈ wsX80, w ∈ wsX8_yearsLeft := by decide +kernel
theorem hd_X8_yearsLeft : yX8_yearsLeft.cls = RX8 ∧ yX8_yearsLeft.cls ≠ "java/lang/invoke/MethodHandle" ∧ yX8_yearsLeft.cls ≠ "java/lang/invoke/VarHandle" ∧ (parseMethodDescriptor yX8_yearsLeft.desc).map (fun d => d.parameters.length) = some 1 := by decide +kernel
set_option maxHeartbeats 4000000 in
set_option maxRecDepth 100000 in
theorem c_X8_yearsLeft (l : Launch) (D : va_G) (cI cZ cQ : ClassId) (rM : Nat → Nat) (SM : St) (x1 : Int32) (okm : okM SM) : Ci l yX8_yearsLeft wsX8_yearsLeft { frames := 2, cells := 0, slots := 0, locals := 43 } D (tyL cI cZ cQ) [.ref (rM 0), .int x1] (fl [wX8 cI cZ cQ rM SM]) (f_X8_yearsLeft SM x1) (fl [wX8 cI cZ cQ rM SM]) := by
  refine ci_of (cc := cX8_yearsLeft) (nL := 2) (ty := .int) (lv0 := [(0, .ref (rM 0)), (1, .int x1)]) (by decide) rfl (Nat.le_of_ble_eq_true rfl) rfl ?_
  intro p e s m args below meth c A X hr
  refine ww_aload_n (pc := 0) X dX8_yearsLeft_0 0 rfl rfl ?_
  refine ww_iload_n (pc := 1) X dX8_yearsLeft_1 1 rfl rfl ?_
  refine ww_gVi (pc := 2) (rest := []) (gsN := [wX8 cI cZ cQ rM SM]) (ci := 8) (gi := 0) (qi := 0) X (c_X8_isPerson l D cI cZ cQ rM SM x1) gX8_yearsLeft_X8_isPerson rfl hd_X8_isPerson [true] rfl rfl rfl rfl rfl rfl rfl rfl ⟨rfl, rfl⟩ ⟨Nat.le_of_ble_eq_true rfl, Nat.le_of_ble_eq_true rfl⟩ (Nat.le_of_ble_eq_true rfl) ⟨Nat.zero_le _, Nat.zero_le _⟩ dX8_yearsLeft_2 ?_
  refine ww_if_ne (pc := 5) (tgt := 13) X dX8_yearsLeft_5 (by decide) (fun c1 => ?_) (fun c1 => ?_)
  · refine ww_aload_n (pc := 13) X dX8_yearsLeft_13 0 rfl rfl ?_
    refine ww_iload_n (pc := 14) X dX8_yearsLeft_14 1 rfl rfl ?_
    refine ww_gVi (pc := 15) (rest := []) (gsN := [wX8 cI cZ cQ rM SM]) (ci := 8) (gi := 0) (qi := 0) X (c_X8_isAbove l D cI cZ cQ rM SM x1 (in_X8_isPerson okm c1)) gX8_yearsLeft_X8_isAbove rfl hd_X8_isAbove [true] rfl rfl rfl rfl rfl rfl rfl rfl ⟨rfl, rfl⟩ ⟨Nat.le_of_ble_eq_true rfl, Nat.le_of_ble_eq_true rfl⟩ (Nat.le_of_ble_eq_true rfl) ⟨Nat.zero_le _, Nat.zero_le _⟩ dX8_yearsLeft_15 ?_
    refine ww_if_ne (pc := 18) (tgt := 26) X dX8_yearsLeft_18 (by decide) (fun c2 => ?_) (fun c2 => ?_)
    · refine ww_aload_n (pc := 26) X dX8_yearsLeft_26 0 rfl rfl ?_
      refine ww_iload_n (pc := 27) X dX8_yearsLeft_27 1 rfl rfl ?_
      refine ww_gVi (pc := 28) (rest := []) (gsN := [wX8 cI cZ cQ rM SM]) (ci := 8) (gi := 0) (qi := 0) X (c_X8_end l D cI cZ cQ rM SM x1 (in_X8_isPerson okm c1)) gX8_yearsLeft_X8_end rfl hd_X8_end [true] rfl rfl rfl rfl rfl rfl rfl rfl ⟨rfl, rfl⟩ ⟨Nat.le_of_ble_eq_true rfl, Nat.le_of_ble_eq_true rfl⟩ (Nat.le_of_ble_eq_true rfl) ⟨Nat.zero_le _, Nat.zero_le _⟩ dX8_yearsLeft_28 ?_
      refine ww_aload_n (pc := 31) X dX8_yearsLeft_31 0 rfl rfl ?_
      refine ww_get (pc := 32) (ci := 8) (v := .ref (rM 10)) (C := RX8) (T := TX8) (N := 27) X inX8_yearsLeft_8 0 rfl rfl 11 (by decide) (by decide +kernel) rfl dX8_yearsLeft_32 ?_
      refine ww_iconst (pc := 35) (v := 1) X dX8_yearsLeft_35 (by decide) ?_
      refine ww_iload_n (pc := 36) X dX8_yearsLeft_36 1 rfl rfl ?_
      have hb3 := clb (n := 7) (in_X8_isPerson okm c1)
      refine ww_iadd (pc := 37) X dX8_yearsLeft_37 ?_
      refine ww_iald (pc := 38) (f := SM.2 9) X 10 0 rfl rfl (vn (m := 1 + ((x1 : Int32).toNatClampNeg)) (nat_iadd (a := 1) (b := (x1 : Int32).toNatClampNeg) rfl (cl_of (in_X8_isPerson okm c1))) (by omega) (by decide)) dX8_yearsLeft_38 ?_
      refine ww_isub (pc := 39) X dX8_yearsLeft_39 ?_
      exact ww_iret X hr rfl (Eq.symm (by unfold f_X8_yearsLeft; try rw [if_neg c1, if_neg c2]; first | done | rfl)) rfl dX8_yearsLeft_40
    · refine ww_ldc (pc := 21) (v := (-1000000003)) X (by decide +kernel) dX8_yearsLeft_21 ?_
      refine ww_goto (pc := 23) (tgt := 40) X dX8_yearsLeft_23 (by decide) ?_
      exact ww_iret X hr rfl (Eq.symm (by unfold f_X8_yearsLeft; try rw [if_neg c1, if_pos c2]; first | done | rfl)) rfl dX8_yearsLeft_40
  · refine ww_ldc (pc := 8) (v := (-1000000001)) X (by decide +kernel) dX8_yearsLeft_8 ?_
    refine ww_goto (pc := 10) (tgt := 40) X dX8_yearsLeft_10 (by decide) ?_
    exact ww_iret X hr rfl (Eq.symm (by unfold f_X8_yearsLeft; try rw [if_pos c1]; first | done | rfl)) rfl dX8_yearsLeft_40
def bd_X8_latest_6_k1 (SM : St) (j : Nat) (u : Int32 × Int32) (z5 : Int32) : Int32 × Int32 :=
  if z5 ≤ u.2 then
    (u.1, u.2)
  else
    ((nI j), z5)
def bd_X8_latest_6 (SM : St) (j : Nat) (u : Int32 × Int32) : Int32 × Int32 :=
  if (f_X8_isAbove SM (nI j)) = 0 then
    if 0 ≤ u.2 then
      (u.1, u.2)
    else
      ((nI j), 0)
  else
    bd_X8_latest_6_k1 SM j u ((f_X8_end SM (nI j)) - ((SM.2 9) ((1 + (nI j) : Int32)).toNatClampNeg))
def it_X8_latest_6 (SM : St) (u : Int32 × Int32) : Nat → Int32 × Int32
  | 0 => u
  | j + 1 => bd_X8_latest_6 SM j (it_X8_latest_6 SM u j)
def f_X8_latest_k1 (SM : St) (z21 : Int32 × Int32) : Int32 :=
  z21.1
def f_X8_latest (SM : St) : Int32 :=
  f_X8_latest_k1 SM (it_X8_latest_6 SM ((-1), 0) (((SM.2 1) ((3 : Int32)).toNatClampNeg).toNatClampNeg))
theorem inX8_latest_8 : ∀ w ∈ wsX80, w ∈ wsX8_latest := by decide +kernel
theorem hd_X8_latest : yX8_latest.cls = RX8 ∧ yX8_latest.cls ≠ "java/lang/invoke/MethodHandle" ∧ yX8_latest.cls ≠ "java/lang/invoke/VarHandle" ∧ (parseMethodDescriptor yX8_latest.desc).map (fun d => d.parameters.length) = some 0 := by decide +kernel
set_option maxHeartbeats 4000000 in
set_option maxRecDepth 100000 in
theorem c_X8_latest (l : Launch) (D : va_G) (cI cZ cQ : ClassId) (rM : Nat → Nat) (SM : St) (okm : okM SM) : Ci l yX8_latest wsX8_latest { frames := 1, cells := 0, slots := 0, locals := 21 } D (tyL cI cZ cQ) [.ref (rM 0)] (fl [wX8 cI cZ cQ rM SM]) (f_X8_latest SM) (fl [wX8 cI cZ cQ rM SM]) := by
  refine ci_of (cc := cX8_latest) (nL := 5) (ty := .int) (lv0 := [(0, .ref (rM 0))]) (by decide) rfl (Nat.le_of_ble_eq_true rfl) rfl ?_
  intro p e s m args below meth c A X hr
  refine ww_iconst (pc := 0) (v := (-1)) X dX8_latest_0 (by decide) ?_
  refine ww_istore_n (pc := 1) (lv' := [(1, .int (-1)), (0, .ref (rM 0))]) X dX8_latest_1 rfl (by decide) rfl ?_
  refine ww_iconst (pc := 2) (v := 0) X dX8_latest_2 (by decide) ?_
  refine ww_istore_n (pc := 3) (lv' := [(2, .int 0), (1, .int (-1)), (0, .ref (rM 0))]) X dX8_latest_3 rfl (by decide) rfl ?_
  refine ww_iconst (pc := 4) (v := 0) X dX8_latest_4 (by decide) ?_
  refine ww_istore_n (pc := 5) (lv' := [(3, .int 0), (2, .int 0), (1, .int (-1)), (0, .ref (rM 0))]) X dX8_latest_5 rfl (by decide) rfl ?_
  have L6 : ∀ (k_6 j_6 : Nat), j_6 + k_6 = ((SM.2 1) ((3 : Int32)).toNatClampNeg).toNatClampNeg → WW p l e (headSpec wsX8_latest { frames := 1, cells := 0, slots := 0, locals := 21 }).room s m args below meth c 5 D A 0 0 (RQi below args s D A (f_X8_latest SM) (fl [wX8 cI cZ cQ rM SM])) (fl [wX8 cI cZ cQ rM SM]) [(0, .ref (rM 0)), (1, .int ((it_X8_latest_6 SM ((-1), 0) (((SM.2 1) ((3 : Int32)).toNatClampNeg).toNatClampNeg)).1)), (2, .int ((it_X8_latest_6 SM ((-1), 0) (((SM.2 1) ((3 : Int32)).toNatClampNeg).toNatClampNeg)).2)), (3, .int (nI (((SM.2 1) ((3 : Int32)).toNatClampNeg).toNatClampNeg)))] 75 [] → WW p l e (headSpec wsX8_latest { frames := 1, cells := 0, slots := 0, locals := 21 }).room s m args below meth c 5 D A 0 0 (RQi below args s D A (f_X8_latest SM) (fl [wX8 cI cZ cQ rM SM])) (fl [wX8 cI cZ cQ rM SM]) [(0, .ref (rM 0)), (1, .int ((it_X8_latest_6 SM ((-1), 0) j_6).1)), (2, .int ((it_X8_latest_6 SM ((-1), 0) j_6).2)), (3, .int (nI j_6))] 6 [] := by
    intro k_6
    induction k_6 with
    | zero =>
      intro j_6 hj K
      have hjB : j_6 = ((SM.2 1) ((3 : Int32)).toNatClampNeg).toNatClampNeg := by omega
      subst hjB
      refine ww_iload_n (pc := 6) X dX8_latest_6 3 rfl rfl ?_
      refine ww_aload_n (pc := 7) X dX8_latest_7 0 rfl rfl ?_
      refine ww_get (pc := 8) (ci := 8) (v := .ref (rM 2)) (C := RX8) (T := TX8) (N := 27) X inX8_latest_8 0 rfl rfl 3 (by decide) (by decide +kernel) rfl dX8_latest_8 ?_
      refine ww_iconst (pc := 11) (v := 3) X dX8_latest_11 (by decide) ?_
      refine ww_iald (pc := 12) (f := SM.2 1) X 2 0 rfl rfl (vl_in (by decide)) dX8_latest_12 ?_
      exact ww_icmp_ge (pc := 13) (tgt := 75) X dX8_latest_13 (by decide) (fun _ => K) (fun c9 => absurd (lp_ge0c (Nat.le_refl _) (cl_lt _)) c9)
    | succ k_6 ih =>
      intro j_6 hj K
      have hjB : j_6 < ((SM.2 1) ((3 : Int32)).toNatClampNeg).toNatClampNeg := by omega
      have h7_6 := okM_p okm
      refine ww_iload_n (pc := 6) X dX8_latest_6 3 rfl rfl ?_
      refine ww_aload_n (pc := 7) X dX8_latest_7 0 rfl rfl ?_
      refine ww_get (pc := 8) (ci := 8) (v := .ref (rM 2)) (C := RX8) (T := TX8) (N := 27) X inX8_latest_8 0 rfl rfl 3 (by decide) (by decide +kernel) rfl dX8_latest_8 ?_
      refine ww_iconst (pc := 11) (v := 3) X dX8_latest_11 (by decide) ?_
      refine ww_iald (pc := 12) (f := SM.2 1) X 2 0 rfl rfl (vl_in (by decide)) dX8_latest_12 ?_
      refine ww_icmp_ge (pc := 13) (tgt := 75) X dX8_latest_13 (by decide) (fun c9 => absurd c9 (lp_ge1c hjB)) (fun _ => ?_)
      refine ww_aload_n (pc := 16) X dX8_latest_16 0 rfl rfl ?_
      refine ww_iload_n (pc := 17) X dX8_latest_17 3 rfl rfl ?_
      refine ww_gVi (pc := 18) (rest := []) (gsN := [wX8 cI cZ cQ rM SM]) (ci := 8) (gi := 0) (qi := 0) X (c_X8_isAbove l D cI cZ cQ rM SM (nI j_6) (vn (m := j_6) rfl (by omega) (by decide))) gX8_latest_X8_isAbove rfl hd_X8_isAbove [true] rfl rfl rfl rfl rfl rfl rfl rfl ⟨rfl, rfl⟩ ⟨Nat.le_of_ble_eq_true rfl, Nat.le_of_ble_eq_true rfl⟩ (Nat.le_of_ble_eq_true rfl) ⟨Nat.zero_le _, Nat.zero_le _⟩ dX8_latest_18 ?_
      refine ww_if_eq (pc := 21) (tgt := 41) X dX8_latest_21 (by decide) (fun c9 => ?_) (fun c9 => ?_)
      · refine ww_iconst (pc := 41) (v := 0) X dX8_latest_41 (by decide) ?_
        refine ww_istore (pc := 42) (lv' := [(4, .int 0), (0, .ref (rM 0)), (1, .int ((it_X8_latest_6 SM ((-1), 0) j_6).1)), (2, .int ((it_X8_latest_6 SM ((-1), 0) j_6).2)), (3, .int (nI j_6))]) X dX8_latest_42 (by decide) rfl ?_
        refine ww_iload (pc := 44) X dX8_latest_44 0 rfl ?_
        refine ww_iload_n (pc := 46) X dX8_latest_46 3 rfl rfl ?_
        refine ww_icmp_le (pc := 47) (tgt := 54) X dX8_latest_47 (by decide) (fun c10 => ?_) (fun c10 => ?_)
        · refine ww_iload_n (pc := 54) X dX8_latest_54 2 rfl rfl ?_
          refine ww_istore_n (pc := 55) (lv' := [(1, .int ((it_X8_latest_6 SM ((-1), 0) j_6).1)), (4, .int 0), (0, .ref (rM 0)), (2, .int ((it_X8_latest_6 SM ((-1), 0) j_6).2)), (3, .int (nI j_6))]) X dX8_latest_55 rfl (by decide) rfl ?_
          refine ww_iload (pc := 56) X dX8_latest_56 1 rfl ?_
          refine ww_iload_n (pc := 58) X dX8_latest_58 3 rfl rfl ?_
          refine ww_icmp_le (pc := 59) (tgt := 67) X dX8_latest_59 (by decide) (fun _ => ?_) (fun c11 => absurd c10 c11)
          refine ww_iload_n (pc := 67) X dX8_latest_67 3 rfl rfl ?_
          refine ww_istore_n (pc := 68) (lv' := [(2, .int ((it_X8_latest_6 SM ((-1), 0) j_6).2)), (1, .int ((it_X8_latest_6 SM ((-1), 0) j_6).1)), (4, .int 0), (0, .ref (rM 0)), (3, .int (nI j_6))]) X dX8_latest_68 rfl (by decide) rfl ?_
          refine ww_iinc (pc := 69) (v := (nI j_6) + 1) (lv' := [(3, .int ((nI j_6) + 1)), (2, .int ((it_X8_latest_6 SM ((-1), 0) j_6).2)), (1, .int ((it_X8_latest_6 SM ((-1), 0) j_6).1)), (4, .int 0), (0, .ref (rM 0))]) X dX8_latest_69 4 rfl rfl (by decide) rfl ?_
          refine ww_goto (pc := 72) (tgt := 6) X dX8_latest_72 (by decide) ?_
          have h12 : (it_X8_latest_6 SM ((-1), 0) (j_6 + 1)) = ((it_X8_latest_6 SM ((-1), 0) j_6).1, (it_X8_latest_6 SM ((-1), 0) j_6).2) := by
            show bd_X8_latest_6 SM j_6 (it_X8_latest_6 SM ((-1), 0) j_6) = _; unfold bd_X8_latest_6; try rw [if_pos c9, if_pos c10]; first | done | rfl
          refine ww_lsub [4, 2, 1, 0] rfl ?_
          exact ww_castI (fun u9 : Int32 × Int32 => fl [wX8 cI cZ cQ rM SM]) (fun (u9 : Int32 × Int32) (i9 : Int32) => ([(0, .ref (rM 0)), (1, .int u9.1), (2, .int u9.2), (3, .int i9)] : List (Nat × Value))) h12 (ih (j_6 + 1) (by omega) K)
        · refine ww_iload_n (pc := 50) X dX8_latest_50 4 rfl rfl ?_
          refine ww_goto (pc := 51) (tgt := 55) X dX8_latest_51 (by decide) ?_
          refine ww_istore_n (pc := 55) (lv' := [(1, .int (nI j_6)), (4, .int 0), (0, .ref (rM 0)), (2, .int ((it_X8_latest_6 SM ((-1), 0) j_6).2)), (3, .int (nI j_6))]) X dX8_latest_55 rfl (by decide) rfl ?_
          refine ww_iload (pc := 56) X dX8_latest_56 1 rfl ?_
          refine ww_iload_n (pc := 58) X dX8_latest_58 3 rfl rfl ?_
          refine ww_icmp_le (pc := 59) (tgt := 67) X dX8_latest_59 (by decide) (fun c13 => absurd c13 c10) (fun _ => ?_)
          refine ww_iload (pc := 62) X dX8_latest_62 1 rfl ?_
          refine ww_goto (pc := 64) (tgt := 68) X dX8_latest_64 (by decide) ?_
          refine ww_istore_n (pc := 68) (lv' := [(2, .int 0), (1, .int (nI j_6)), (4, .int 0), (0, .ref (rM 0)), (3, .int (nI j_6))]) X dX8_latest_68 rfl (by decide) rfl ?_
          refine ww_iinc (pc := 69) (v := (nI j_6) + 1) (lv' := [(3, .int ((nI j_6) + 1)), (2, .int 0), (1, .int (nI j_6)), (4, .int 0), (0, .ref (rM 0))]) X dX8_latest_69 4 rfl rfl (by decide) rfl ?_
          refine ww_goto (pc := 72) (tgt := 6) X dX8_latest_72 (by decide) ?_
          have h14 : (it_X8_latest_6 SM ((-1), 0) (j_6 + 1)) = ((nI j_6), 0) := by
            show bd_X8_latest_6 SM j_6 (it_X8_latest_6 SM ((-1), 0) j_6) = _; unfold bd_X8_latest_6; try rw [if_pos c9, if_neg c10]; first | done | rfl
          refine ww_lsub [4, 2, 1, 0] rfl ?_
          exact ww_castI (fun u9 : Int32 × Int32 => fl [wX8 cI cZ cQ rM SM]) (fun (u9 : Int32 × Int32) (i9 : Int32) => ([(0, .ref (rM 0)), (1, .int u9.1), (2, .int u9.2), (3, .int i9)] : List (Nat × Value))) h14 (ih (j_6 + 1) (by omega) K)
      · refine ww_aload_n (pc := 24) X dX8_latest_24 0 rfl rfl ?_
        refine ww_iload_n (pc := 25) X dX8_latest_25 3 rfl rfl ?_
        refine ww_gVi (pc := 26) (rest := []) (gsN := [wX8 cI cZ cQ rM SM]) (ci := 8) (gi := 0) (qi := 0) X (c_X8_end l D cI cZ cQ rM SM (nI j_6) (vn (m := j_6) rfl (by omega) (by decide))) gX8_latest_X8_end rfl hd_X8_end [true] rfl rfl rfl rfl rfl rfl rfl rfl ⟨rfl, rfl⟩ ⟨Nat.le_of_ble_eq_true rfl, Nat.le_of_ble_eq_true rfl⟩ (Nat.le_of_ble_eq_true rfl) ⟨Nat.zero_le _, Nat.zero_le _⟩ dX8_latest_26 ?_
        refine ww_aload_n (pc := 29) X dX8_latest_29 0 rfl rfl ?_
        refine ww_get (pc := 30) (ci := 8) (v := .ref (rM 10)) (C := RX8) (T := TX8) (N := 27) X inX8_latest_8 0 rfl rfl 11 (by decide) (by decide +kernel) rfl dX8_latest_30 ?_
        refine ww_iconst (pc := 33) (v := 1) X dX8_latest_33 (by decide) ?_
        refine ww_iload_n (pc := 34) X dX8_latest_34 3 rfl rfl ?_
        refine ww_iadd (pc := 35) X dX8_latest_35 ?_
        refine ww_iald (pc := 36) (f := SM.2 9) X 10 0 rfl rfl (vn (m := 1 + j_6) (nat_iadd (a := 1) (b := j_6) rfl rfl) (by omega) (by decide)) dX8_latest_36 ?_
        refine ww_isub (pc := 37) X dX8_latest_37 ?_
        refine ww_goto (pc := 38) (tgt := 42) X dX8_latest_38 (by decide) ?_
        generalize hz15 : ((f_X8_end SM (nI j_6)) - ((SM.2 9) ((1 + (nI j_6) : Int32)).toNatClampNeg)) = z15
        refine ww_istore (pc := 42) (lv' := [(4, .int z15), (0, .ref (rM 0)), (1, .int ((it_X8_latest_6 SM ((-1), 0) j_6).1)), (2, .int ((it_X8_latest_6 SM ((-1), 0) j_6).2)), (3, .int (nI j_6))]) X dX8_latest_42 (by decide) rfl ?_
        refine ww_iload (pc := 44) X dX8_latest_44 0 rfl ?_
        refine ww_iload_n (pc := 46) X dX8_latest_46 3 rfl rfl ?_
        refine ww_icmp_le (pc := 47) (tgt := 54) X dX8_latest_47 (by decide) (fun c16 => ?_) (fun c16 => ?_)
        · refine ww_iload_n (pc := 54) X dX8_latest_54 2 rfl rfl ?_
          refine ww_istore_n (pc := 55) (lv' := [(1, .int ((it_X8_latest_6 SM ((-1), 0) j_6).1)), (4, .int z15), (0, .ref (rM 0)), (2, .int ((it_X8_latest_6 SM ((-1), 0) j_6).2)), (3, .int (nI j_6))]) X dX8_latest_55 rfl (by decide) rfl ?_
          refine ww_iload (pc := 56) X dX8_latest_56 1 rfl ?_
          refine ww_iload_n (pc := 58) X dX8_latest_58 3 rfl rfl ?_
          refine ww_icmp_le (pc := 59) (tgt := 67) X dX8_latest_59 (by decide) (fun _ => ?_) (fun c17 => absurd c16 c17)
          refine ww_iload_n (pc := 67) X dX8_latest_67 3 rfl rfl ?_
          refine ww_istore_n (pc := 68) (lv' := [(2, .int ((it_X8_latest_6 SM ((-1), 0) j_6).2)), (1, .int ((it_X8_latest_6 SM ((-1), 0) j_6).1)), (4, .int z15), (0, .ref (rM 0)), (3, .int (nI j_6))]) X dX8_latest_68 rfl (by decide) rfl ?_
          refine ww_iinc (pc := 69) (v := (nI j_6) + 1) (lv' := [(3, .int ((nI j_6) + 1)), (2, .int ((it_X8_latest_6 SM ((-1), 0) j_6).2)), (1, .int ((it_X8_latest_6 SM ((-1), 0) j_6).1)), (4, .int z15), (0, .ref (rM 0))]) X dX8_latest_69 4 rfl rfl (by decide) rfl ?_
          refine ww_goto (pc := 72) (tgt := 6) X dX8_latest_72 (by decide) ?_
          have h18 : (it_X8_latest_6 SM ((-1), 0) (j_6 + 1)) = ((it_X8_latest_6 SM ((-1), 0) j_6).1, (it_X8_latest_6 SM ((-1), 0) j_6).2) := by
            show bd_X8_latest_6 SM j_6 (it_X8_latest_6 SM ((-1), 0) j_6) = _; unfold bd_X8_latest_6; try rw [if_neg c9, hz15]; try unfold bd_X8_latest_6_k1; try rw [if_pos c16]; first | done | rfl
          refine ww_lsub [4, 2, 1, 0] rfl ?_
          exact ww_castI (fun u9 : Int32 × Int32 => fl [wX8 cI cZ cQ rM SM]) (fun (u9 : Int32 × Int32) (i9 : Int32) => ([(0, .ref (rM 0)), (1, .int u9.1), (2, .int u9.2), (3, .int i9)] : List (Nat × Value))) h18 (ih (j_6 + 1) (by omega) K)
        · refine ww_iload_n (pc := 50) X dX8_latest_50 4 rfl rfl ?_
          refine ww_goto (pc := 51) (tgt := 55) X dX8_latest_51 (by decide) ?_
          refine ww_istore_n (pc := 55) (lv' := [(1, .int (nI j_6)), (4, .int z15), (0, .ref (rM 0)), (2, .int ((it_X8_latest_6 SM ((-1), 0) j_6).2)), (3, .int (nI j_6))]) X dX8_latest_55 rfl (by decide) rfl ?_
          refine ww_iload (pc := 56) X dX8_latest_56 1 rfl ?_
          refine ww_iload_n (pc := 58) X dX8_latest_58 3 rfl rfl ?_
          refine ww_icmp_le (pc := 59) (tgt := 67) X dX8_latest_59 (by decide) (fun c19 => absurd c19 c16) (fun _ => ?_)
          refine ww_iload (pc := 62) X dX8_latest_62 1 rfl ?_
          refine ww_goto (pc := 64) (tgt := 68) X dX8_latest_64 (by decide) ?_
          refine ww_istore_n (pc := 68) (lv' := [(2, .int z15), (1, .int (nI j_6)), (4, .int z15), (0, .ref (rM 0)), (3, .int (nI j_6))]) X dX8_latest_68 rfl (by decide) rfl ?_
          refine ww_iinc (pc := 69) (v := (nI j_6) + 1) (lv' := [(3, .int ((nI j_6) + 1)), (2, .int z15), (1, .int (nI j_6)), (4, .int z15), (0, .ref (rM 0))]) X dX8_latest_69 4 rfl rfl (by decide) rfl ?_
          refine ww_goto (pc := 72) (tgt := 6) X dX8_latest_72 (by decide) ?_
          have h20 : (it_X8_latest_6 SM ((-1), 0) (j_6 + 1)) = ((nI j_6), z15) := by
            show bd_X8_latest_6 SM j_6 (it_X8_latest_6 SM ((-1), 0) j_6) = _; unfold bd_X8_latest_6; try rw [if_neg c9, hz15]; try unfold bd_X8_latest_6_k1; try rw [if_neg c16]; first | done | rfl
          refine ww_lsub [4, 2, 1, 0] rfl ?_
          exact ww_castI (fun u9 : Int32 × Int32 => fl [wX8 cI cZ cQ rM SM]) (fun (u9 : Int32 × Int32) (i9 : Int32) => ([(0, .ref (rM 0)), (1, .int u9.1), (2, .int u9.2), (3, .int i9)] : List (Nat × Value))) h20 (ih (j_6 + 1) (by omega) K)
  refine ww_lsub [3, 2, 1, 0] rfl ?_
  refine L6 (((SM.2 1) ((3 : Int32)).toNatClampNeg).toNatClampNeg) 0 (by omega) ?_
  generalize hz21 : ((it_X8_latest_6 SM ((-1), 0) (((SM.2 1) ((3 : Int32)).toNatClampNeg).toNatClampNeg))) = z21
  refine ww_iload_n (pc := 75) X dX8_latest_75 1 rfl rfl ?_
  exact ww_iret X hr rfl (Eq.symm (by unfold f_X8_latest; try rw [hz21]; try unfold f_X8_latest_k1; first | done | rfl)) rfl dX8_latest_76
def bd_X8_storm_30 (SM : St) (x1 : Int32) (x2 : Int32) (j : Nat) (u : Int64) : Int64 :=
  (u * (((100 - x2 : Int32)).toInt64)) / 100
def it_X8_storm_30 (SM : St) (x1 : Int32) (x2 : Int32) (u : Int64) : Nat → Int64
  | 0 => u
  | j + 1 => bd_X8_storm_30 SM x1 x2 j (it_X8_storm_30 SM x1 x2 u j)
def f_X8_storm_k1 (SM : St) (x1 : Int32) (x2 : Int32) (z4 : Int64) : Int32 :=
  ((z4 : Int64)).toInt32
def f_X8_storm (SM : St) (x1 : Int32) (x2 : Int32) : Int32 :=
  if (f_X8_in x1 0 60) = 0 then
    (-1000000002)
  else
    if (f_X8_in x2 0 100) = 0 then
      (-1000000002)
    else
      f_X8_storm_k1 SM x1 x2 (it_X8_storm_30 SM x1 x2 (1000000000 : Int64) x1.toNatClampNeg)
theorem hd_X8_storm : yX8_storm.cls = RX8 ∧ yX8_storm.cls ≠ "java/lang/invoke/MethodHandle" ∧ yX8_storm.cls ≠ "java/lang/invoke/VarHandle" ∧ (parseMethodDescriptor yX8_storm.desc).map (fun d => d.parameters.length) = some 2 := by decide +kernel
set_option maxHeartbeats 4000000 in
set_option maxRecDepth 100000 in
theorem c_X8_storm (l : Launch) (D : va_G) (cI cZ cQ : ClassId) (rM : Nat → Nat) (SM : St) (x1 : Int32) (x2 : Int32) : Ci l yX8_storm wsX8_storm { frames := 1, cells := 0, slots := 0, locals := 22 } D (tyL cI cZ cQ) [.ref (rM 0), .int x1, .int x2] (fl [wX8 cI cZ cQ rM SM]) (f_X8_storm SM x1 x2) (fl [wX8 cI cZ cQ rM SM]) := by
  refine ci_of (cc := cX8_storm) (nL := 6) (ty := .int) (lv0 := [(0, .ref (rM 0)), (1, .int x1), (2, .int x2)]) (by decide) rfl (Nat.le_of_ble_eq_true rfl) rfl ?_
  intro p e s m args below meth c A X hr
  refine ww_iload_n (pc := 0) X dX8_storm_0 1 rfl rfl ?_
  refine ww_iconst (pc := 1) (v := 0) X dX8_storm_1 (by decide) ?_
  refine ww_bipush (pc := 2) (v := 60) X dX8_storm_2 (by decide) ?_
  refine ww_gSi (pc := 4) (rest := []) (gsN := [wX8 cI cZ cQ rM SM]) X (c_X8_in l D cI cZ cQ x1 0 60) gX8_storm_X8_in rfl hd_X8_in [false] rfl rfl rfl rfl ⟨rfl, rfl⟩ ⟨Nat.le_of_ble_eq_true rfl, Nat.le_of_ble_eq_true rfl⟩ (Nat.le_of_ble_eq_true rfl) ⟨Nat.zero_le _, Nat.zero_le _⟩ dX8_storm_4 ?_
  refine ww_if_eq (pc := 7) (tgt := 20) X dX8_storm_7 (by decide) (fun c1 => ?_) (fun c1 => ?_)
  · refine ww_ldc (pc := 20) (v := (-1000000002)) X (by decide +kernel) dX8_storm_20 ?_
    exact ww_iret X hr rfl (Eq.symm (by unfold f_X8_storm; try rw [if_pos c1]; first | done | rfl)) rfl dX8_storm_22
  · refine ww_iload_n (pc := 10) X dX8_storm_10 2 rfl rfl ?_
    refine ww_iconst (pc := 11) (v := 0) X dX8_storm_11 (by decide) ?_
    refine ww_bipush (pc := 12) (v := 100) X dX8_storm_12 (by decide) ?_
    refine ww_gSi (pc := 14) (rest := []) (gsN := [wX8 cI cZ cQ rM SM]) X (c_X8_in l D cI cZ cQ x2 0 100) gX8_storm_X8_in rfl hd_X8_in [false] rfl rfl rfl rfl ⟨rfl, rfl⟩ ⟨Nat.le_of_ble_eq_true rfl, Nat.le_of_ble_eq_true rfl⟩ (Nat.le_of_ble_eq_true rfl) ⟨Nat.zero_le _, Nat.zero_le _⟩ dX8_storm_14 ?_
    refine ww_if_ne (pc := 17) (tgt := 23) X dX8_storm_17 (by decide) (fun c2 => ?_) (fun c2 => ?_)
    · refine ww_ldc2 (pc := 23) (v := 1000000000) X (by decide +kernel) dX8_storm_23 ?_
      refine ww_lstore_n (pc := 26) (lv' := [(3, .long 1000000000), (0, .ref (rM 0)), (1, .int x1), (2, .int x2)]) X dX8_storm_26 rfl (by decide) rfl ?_
      refine ww_iconst (pc := 27) (v := 0) X dX8_storm_27 (by decide) ?_
      refine ww_istore (pc := 28) (lv' := [(5, .int 0), (3, .long 1000000000), (0, .ref (rM 0)), (1, .int x1), (2, .int x2)]) X dX8_storm_28 (by decide) rfl ?_
      have L30 : ∀ (k_30 j_30 : Nat), j_30 + k_30 = x1.toNatClampNeg → WW p l e (headSpec wsX8_storm { frames := 1, cells := 0, slots := 0, locals := 22 }).room s m args below meth c 6 D A 0 0 (RQi below args s D A (f_X8_storm SM x1 x2) (fl [wX8 cI cZ cQ rM SM])) (fl [wX8 cI cZ cQ rM SM]) [(0, .ref (rM 0)), (1, .int x1), (2, .int x2), (3, .long (it_X8_storm_30 SM x1 x2 (1000000000 : Int64) x1.toNatClampNeg)), (5, .int (nI x1.toNatClampNeg))] 54 [] → WW p l e (headSpec wsX8_storm { frames := 1, cells := 0, slots := 0, locals := 22 }).room s m args below meth c 6 D A 0 0 (RQi below args s D A (f_X8_storm SM x1 x2) (fl [wX8 cI cZ cQ rM SM])) (fl [wX8 cI cZ cQ rM SM]) [(0, .ref (rM 0)), (1, .int x1), (2, .int x2), (3, .long (it_X8_storm_30 SM x1 x2 (1000000000 : Int64) j_30)), (5, .int (nI j_30))] 30 [] := by
        intro k_30
        induction k_30 with
        | zero =>
          intro j_30 hj K
          have hjB : j_30 = x1.toNatClampNeg := by omega
          subst hjB
          refine ww_iload (pc := 30) X dX8_storm_30 4 rfl ?_
          refine ww_iload_n (pc := 32) X dX8_storm_32 1 rfl rfl ?_
          exact ww_icmp_ge (pc := 33) (tgt := 54) X dX8_storm_33 (by decide) (fun _ => K) (fun c9 => absurd (lp_ge0c (Nat.le_refl _) (cl_lt _)) c9)
        | succ k_30 ih =>
          intro j_30 hj K
          have hjB : j_30 < x1.toNatClampNeg := by omega
          refine ww_iload (pc := 30) X dX8_storm_30 4 rfl ?_
          refine ww_iload_n (pc := 32) X dX8_storm_32 1 rfl rfl ?_
          refine ww_icmp_ge (pc := 33) (tgt := 54) X dX8_storm_33 (by decide) (fun c9 => absurd c9 (lp_ge1c hjB)) (fun _ => ?_)
          refine ww_lload_n (pc := 36) X dX8_storm_36 3 rfl rfl ?_
          refine ww_bipush (pc := 37) (v := 100) X dX8_storm_37 (by decide) ?_
          refine ww_iload_n (pc := 39) X dX8_storm_39 2 rfl rfl ?_
          refine ww_isub (pc := 40) X dX8_storm_40 ?_
          refine ww_i2l (pc := 41) X dX8_storm_41 rfl ?_
          refine ww_lmul (pc := 42) X dX8_storm_42 ?_
          refine ww_ldc2 (pc := 43) (v := 100) X (by decide +kernel) dX8_storm_43 ?_
          refine ww_ldiv (pc := 46) X dX8_storm_46 (by decide) ?_
          refine ww_lstore_n (pc := 47) (lv' := [(3, .long (((it_X8_storm_30 SM x1 x2 (1000000000 : Int64) j_30) * (((100 - x2 : Int32)).toInt64)) / 100)), (0, .ref (rM 0)), (1, .int x1), (2, .int x2), (5, .int (nI j_30))]) X dX8_storm_47 rfl (by decide) rfl ?_
          refine ww_iinc (pc := 48) (v := (nI j_30) + 1) (lv' := [(5, .int ((nI j_30) + 1)), (3, .long (((it_X8_storm_30 SM x1 x2 (1000000000 : Int64) j_30) * (((100 - x2 : Int32)).toInt64)) / 100)), (0, .ref (rM 0)), (1, .int x1), (2, .int x2)]) X dX8_storm_48 4 rfl rfl (by decide) rfl ?_
          refine ww_goto (pc := 51) (tgt := 30) X dX8_storm_51 (by decide) ?_
          have h3 : (it_X8_storm_30 SM x1 x2 (1000000000 : Int64) (j_30 + 1)) = ((it_X8_storm_30 SM x1 x2 (1000000000 : Int64) j_30) * (((100 - x2 : Int32)).toInt64)) / 100 := by
            show bd_X8_storm_30 SM x1 x2 j_30 (it_X8_storm_30 SM x1 x2 (1000000000 : Int64) j_30) = _; unfold bd_X8_storm_30; first | done | rfl
          refine ww_lsub [2, 3, 4, 1, 0] rfl ?_
          exact ww_castI (fun u9 : Int64 => fl [wX8 cI cZ cQ rM SM]) (fun (u9 : Int64) (i9 : Int32) => ([(0, .ref (rM 0)), (1, .int x1), (2, .int x2), (3, .long u9), (5, .int i9)] : List (Nat × Value))) h3 (ih (j_30 + 1) (by omega) K)
      refine ww_lsub [2, 3, 4, 1, 0] rfl ?_
      refine L30 x1.toNatClampNeg 0 (by omega) ?_
      generalize hz4 : ((it_X8_storm_30 SM x1 x2 (1000000000 : Int64) x1.toNatClampNeg)) = z4
      refine ww_lload_n (pc := 54) X dX8_storm_54 3 rfl rfl ?_
      refine ww_l2i (pc := 55) X dX8_storm_55 rfl ?_
      exact ww_iret X hr rfl (Eq.symm (by unfold f_X8_storm; try rw [if_neg c1, if_neg c2, hz4]; try unfold f_X8_storm_k1; first | done | rfl)) rfl dX8_storm_56
    · refine ww_ldc (pc := 20) (v := (-1000000002)) X (by decide +kernel) dX8_storm_20 ?_
      exact ww_iret X hr rfl (Eq.symm (by unfold f_X8_storm; try rw [if_neg c1, if_pos c2]; first | done | rfl)) rfl dX8_storm_22
