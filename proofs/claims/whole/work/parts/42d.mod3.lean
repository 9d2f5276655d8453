def bd_X8_meet_87_k2 (SM : St) (x1 : Int32) (x2 : Int32) (x3 : Int32) (x4 : Int32) (x5 : Int32) (j : Nat) (u : Int32 × Int32) (z10 : Int32) (z12 : Int32) : Int32 × Int32 :=
  if (f_X8_end SM x1) ≤ z10 then
    (u.1, u.2)
  else
    if u.1 = (-1) then
      ((nI j), z12)
    else
      if u.2 ≤ z12 then
        (u.1, u.2)
      else
        ((nI j), z12)
def bd_X8_meet_87_k1 (SM : St) (x1 : Int32) (x2 : Int32) (x3 : Int32) (x4 : Int32) (x5 : Int32) (j : Nat) (u : Int32 × Int32) (z10 : Int32) : Int32 × Int32 :=
  bd_X8_meet_87_k2 SM x1 x2 x3 x4 x5 j u z10 (f_X8_off (z10 - ((SM.2 9) ((1 + x2 : Int32)).toNatClampNeg)) x4)
def bd_X8_meet_87 (SM : St) (x1 : Int32) (x2 : Int32) (x3 : Int32) (x4 : Int32) (x5 : Int32) (j : Nat) (u : Int32 × Int32) : Int32 × Int32 :=
  bd_X8_meet_87_k1 SM x1 x2 x3 x4 x5 j u (((SM.2 9) ((1 + x1 : Int32)).toNatClampNeg) + ((nI j) * ((SM.2 2) ((x3 : Int32)).toNatClampNeg)))
def it_X8_meet_87 (SM : St) (x1 : Int32) (x2 : Int32) (x3 : Int32) (x4 : Int32) (x5 : Int32) (u : Int32 × Int32) : Nat → Int32 × Int32
  | 0 => u
  | j + 1 => bd_X8_meet_87 SM x1 x2 x3 x4 x5 j (it_X8_meet_87 SM x1 x2 x3 x4 x5 u j)
def f_X8_meet_k1 (SM : St) (x1 : Int32) (x2 : Int32) (x3 : Int32) (x4 : Int32) (x5 : Int32) (z43 : Int32 × Int32) : Int32 :=
  if x5 = 0 then
    z43.1
  else
    z43.2
def f_X8_meet (SM : St) (x1 : Int32) (x2 : Int32) (x3 : Int32) (x4 : Int32) (x5 : Int32) : Int32 :=
  if (f_X8_isPerson SM x1) = 0 then
    (-1000000001)
  else
    if (f_X8_isPerson SM x2) = 0 then
      (-1000000001)
    else
      if x1 = x2 then
        (-1000000001)
      else
        if (f_X8_isDepth SM x3) = 0 then
          (-1000000001)
        else
          if (f_X8_in x4 (-199) 199) = 0 then
            (-1000000002)
          else
            if (f_X8_in x5 0 1) = 0 then
              (-1000000002)
            else
              if (f_X8_isAbove SM x1) = 0 then
                (-1000000003)
              else
                if (f_X8_isAbove SM x2) = 0 then
                  (-1000000003)
                else
                  f_X8_meet_k1 SM x1 x2 x3 x4 x5 (it_X8_meet_87 SM x1 x2 x3 x4 x5 ((-1), (-1)) 100)
theorem inX8_meet_8 : ∀ w ∈ wsX80, w ∈ wsX8_meet := by decide +kernel
theorem hd_X8_meet : yX8_meet.cls = RX8 ∧ yX8_meet.cls ≠ "java/lang/invoke/MethodHandle" ∧ yX8_meet.cls ≠ "java/lang/invoke/VarHandle" ∧ (parseMethodDescriptor yX8_meet.desc).map (fun d => d.parameters.length) = some 5 := by decide +kernel
set_option maxHeartbeats 4000000 in
set_option maxRecDepth 100000 in
theorem c_X8_meet (l : Launch) (D : va_G) (cI cZ cQ : ClassId) (rM : Nat → Nat) (SM : St) (x1 : Int32) (x2 : Int32) (x3 : Int32) (x4 : Int32) (x5 : Int32) (okm : okM SM) : Ci l yX8_meet wsX8_meet { frames := 2, cells := 0, slots := 0, locals := 43 } D (tyL cI cZ cQ) [.ref (rM 0), .int x1, .int x2, .int x3, .int x4, .int x5] (fl [wX8 cI cZ cQ rM SM]) (f_X8_meet SM x1 x2 x3 x4 x5) (fl [wX8 cI cZ cQ rM SM]) := by
  refine ci_of (cc := cX8_meet) (nL := 12) (ty := .int) (lv0 := [(0, .ref (rM 0)), (1, .int x1), (2, .int x2), (3, .int x3), (4, .int x4), (5, .int x5)]) (by decide) rfl (Nat.le_of_ble_eq_true rfl) rfl ?_
  intro p e s m args below meth c A X hr
  refine ww_aload_n (pc := 0) X dX8_meet_0 0 rfl rfl ?_
  refine ww_iload_n (pc := 1) X dX8_meet_1 1 rfl rfl ?_
  refine ww_gVi (pc := 2) (rest := []) (gsN := [wX8 cI cZ cQ rM SM]) (ci := 8) (gi := 0) (qi := 0) X (c_X8_isPerson l D cI cZ cQ rM SM x1) gX8_meet_X8_isPerson rfl hd_X8_isPerson [true] rfl rfl rfl rfl rfl rfl rfl rfl ⟨rfl, rfl⟩ ⟨Nat.le_of_ble_eq_true rfl, Nat.le_of_ble_eq_true rfl⟩ (Nat.le_of_ble_eq_true rfl) ⟨Nat.zero_le _, Nat.zero_le _⟩ dX8_meet_2 ?_
  refine ww_if_eq (pc := 5) (tgt := 29) X dX8_meet_5 (by decide) (fun c1 => ?_) (fun c1 => ?_)
  · refine ww_ldc (pc := 29) (v := (-1000000001)) X (by decide +kernel) dX8_meet_29 ?_
    exact ww_iret X hr rfl (Eq.symm (by unfold f_X8_meet; try rw [if_pos c1]; first | done | rfl)) rfl dX8_meet_31
  · refine ww_aload_n (pc := 8) X dX8_meet_8 0 rfl rfl ?_
    refine ww_iload_n (pc := 9) X dX8_meet_9 2 rfl rfl ?_
    refine ww_gVi (pc := 10) (rest := []) (gsN := [wX8 cI cZ cQ rM SM]) (ci := 8) (gi := 0) (qi := 0) X (c_X8_isPerson l D cI cZ cQ rM SM x2) gX8_meet_X8_isPerson rfl hd_X8_isPerson [true] rfl rfl rfl rfl rfl rfl rfl rfl ⟨rfl, rfl⟩ ⟨Nat.le_of_ble_eq_true rfl, Nat.le_of_ble_eq_true rfl⟩ (Nat.le_of_ble_eq_true rfl) ⟨Nat.zero_le _, Nat.zero_le _⟩ dX8_meet_10 ?_
    refine ww_if_eq (pc := 13) (tgt := 29) X dX8_meet_13 (by decide) (fun c2 => ?_) (fun c2 => ?_)
    · refine ww_ldc (pc := 29) (v := (-1000000001)) X (by decide +kernel) dX8_meet_29 ?_
      exact ww_iret X hr rfl (Eq.symm (by unfold f_X8_meet; try rw [if_neg c1, if_pos c2]; first | done | rfl)) rfl dX8_meet_31
    · refine ww_iload_n (pc := 16) X dX8_meet_16 1 rfl rfl ?_
      refine ww_iload_n (pc := 17) X dX8_meet_17 2 rfl rfl ?_
      refine ww_icmp_eq (pc := 18) (tgt := 29) X dX8_meet_18 (by decide) (fun c3 => ?_) (fun c3 => ?_)
      · refine ww_ldc (pc := 29) (v := (-1000000001)) X (by decide +kernel) dX8_meet_29 ?_
        exact ww_iret X hr rfl (Eq.symm (by unfold f_X8_meet; try rw [if_neg c1, if_neg c2, if_pos c3]; first | done | rfl)) rfl dX8_meet_31
      · refine ww_aload_n (pc := 21) X dX8_meet_21 0 rfl rfl ?_
        refine ww_iload_n (pc := 22) X dX8_meet_22 3 rfl rfl ?_
        refine ww_gVi (pc := 23) (rest := []) (gsN := [wX8 cI cZ cQ rM SM]) (ci := 8) (gi := 0) (qi := 0) X (c_X8_isDepth l D cI cZ cQ rM SM x3) gX8_meet_X8_isDepth rfl hd_X8_isDepth [true] rfl rfl rfl rfl rfl rfl rfl rfl ⟨rfl, rfl⟩ ⟨Nat.le_of_ble_eq_true rfl, Nat.le_of_ble_eq_true rfl⟩ (Nat.le_of_ble_eq_true rfl) ⟨Nat.zero_le _, Nat.zero_le _⟩ dX8_meet_23 ?_
        refine ww_if_ne (pc := 26) (tgt := 32) X dX8_meet_26 (by decide) (fun c4 => ?_) (fun c4 => ?_)
        · refine ww_iload (pc := 32) X dX8_meet_32 4 rfl ?_
          refine ww_sipush (pc := 34) (v := (-199)) X dX8_meet_34 (by decide) ?_
          refine ww_sipush (pc := 37) (v := 199) X dX8_meet_37 (by decide) ?_
          refine ww_gSi (pc := 40) (rest := []) (gsN := [wX8 cI cZ cQ rM SM]) X (c_X8_in l D cI cZ cQ x4 (-199) 199) gX8_meet_X8_in rfl hd_X8_in [false] rfl rfl rfl rfl ⟨rfl, rfl⟩ ⟨Nat.le_of_ble_eq_true rfl, Nat.le_of_ble_eq_true rfl⟩ (Nat.le_of_ble_eq_true rfl) ⟨Nat.zero_le _, Nat.zero_le _⟩ dX8_meet_40 ?_
          refine ww_if_eq (pc := 43) (tgt := 56) X dX8_meet_43 (by decide) (fun c5 => ?_) (fun c5 => ?_)
          · refine ww_ldc (pc := 56) (v := (-1000000002)) X (by decide +kernel) dX8_meet_56 ?_
            exact ww_iret X hr rfl (Eq.symm (by unfold f_X8_meet; try rw [if_neg c1, if_neg c2, if_neg c3, if_neg c4, if_pos c5]; first | done | rfl)) rfl dX8_meet_58
          · refine ww_iload (pc := 46) X dX8_meet_46 5 rfl ?_
            refine ww_iconst (pc := 48) (v := 0) X dX8_meet_48 (by decide) ?_
            refine ww_iconst (pc := 49) (v := 1) X dX8_meet_49 (by decide) ?_
            refine ww_gSi (pc := 50) (rest := []) (gsN := [wX8 cI cZ cQ rM SM]) X (c_X8_in l D cI cZ cQ x5 0 1) gX8_meet_X8_in rfl hd_X8_in [false] rfl rfl rfl rfl ⟨rfl, rfl⟩ ⟨Nat.le_of_ble_eq_true rfl, Nat.le_of_ble_eq_true rfl⟩ (Nat.le_of_ble_eq_true rfl) ⟨Nat.zero_le _, Nat.zero_le _⟩ dX8_meet_50 ?_
            refine ww_if_ne (pc := 53) (tgt := 59) X dX8_meet_53 (by decide) (fun c6 => ?_) (fun c6 => ?_)
            · refine ww_aload_n (pc := 59) X dX8_meet_59 0 rfl rfl ?_
              refine ww_iload_n (pc := 60) X dX8_meet_60 1 rfl rfl ?_
              refine ww_gVi (pc := 61) (rest := []) (gsN := [wX8 cI cZ cQ rM SM]) (ci := 8) (gi := 0) (qi := 0) X (c_X8_isAbove l D cI cZ cQ rM SM x1 (in_X8_isPerson okm c1)) gX8_meet_X8_isAbove rfl hd_X8_isAbove [true] rfl rfl rfl rfl rfl rfl rfl rfl ⟨rfl, rfl⟩ ⟨Nat.le_of_ble_eq_true rfl, Nat.le_of_ble_eq_true rfl⟩ (Nat.le_of_ble_eq_true rfl) ⟨Nat.zero_le _, Nat.zero_le _⟩ dX8_meet_61 ?_
              refine ww_if_eq (pc := 64) (tgt := 75) X dX8_meet_64 (by decide) (fun c7 => ?_) (fun c7 => ?_)
              · refine ww_ldc (pc := 75) (v := (-1000000003)) X (by decide +kernel) dX8_meet_75 ?_
                exact ww_iret X hr rfl (Eq.symm (by unfold f_X8_meet; try rw [if_neg c1, if_neg c2, if_neg c3, if_neg c4, if_neg c5, if_neg c6, if_pos c7]; first | done | rfl)) rfl dX8_meet_77
              · refine ww_aload_n (pc := 67) X dX8_meet_67 0 rfl rfl ?_
                refine ww_iload_n (pc := 68) X dX8_meet_68 2 rfl rfl ?_
                refine ww_gVi (pc := 69) (rest := []) (gsN := [wX8 cI cZ cQ rM SM]) (ci := 8) (gi := 0) (qi := 0) X (c_X8_isAbove l D cI cZ cQ rM SM x2 (in_X8_isPerson okm c2)) gX8_meet_X8_isAbove rfl hd_X8_isAbove [true] rfl rfl rfl rfl rfl rfl rfl rfl ⟨rfl, rfl⟩ ⟨Nat.le_of_ble_eq_true rfl, Nat.le_of_ble_eq_true rfl⟩ (Nat.le_of_ble_eq_true rfl) ⟨Nat.zero_le _, Nat.zero_le _⟩ dX8_meet_69 ?_
                refine ww_if_ne (pc := 72) (tgt := 78) X dX8_meet_72 (by decide) (fun c8 => ?_) (fun c8 => ?_)
                · refine ww_iconst (pc := 78) (v := (-1)) X dX8_meet_78 (by decide) ?_
                  refine ww_istore (pc := 79) (lv' := [(6, .int (-1)), (0, .ref (rM 0)), (1, .int x1), (2, .int x2), (3, .int x3), (4, .int x4), (5, .int x5)]) X dX8_meet_79 (by decide) rfl ?_
                  refine ww_iconst (pc := 81) (v := (-1)) X dX8_meet_81 (by decide) ?_
                  refine ww_istore (pc := 82) (lv' := [(7, .int (-1)), (6, .int (-1)), (0, .ref (rM 0)), (1, .int x1), (2, .int x2), (3, .int x3), (4, .int x4), (5, .int x5)]) X dX8_meet_82 (by decide) rfl ?_
                  refine ww_iconst (pc := 84) (v := 0) X dX8_meet_84 (by decide) ?_
                  refine ww_istore (pc := 85) (lv' := [(8, .int 0), (7, .int (-1)), (6, .int (-1)), (0, .ref (rM 0)), (1, .int x1), (2, .int x2), (3, .int x3), (4, .int x4), (5, .int x5)]) X dX8_meet_85 (by decide) rfl ?_
                  have L87 : ∀ (k_87 j_87 : Nat), j_87 + k_87 = 100 → WW p l e (headSpec wsX8_meet { frames := 2, cells := 0, slots := 0, locals := 43 }).room s m args below meth c 12 D A 0 0 (RQi below args s D A (f_X8_meet SM x1 x2 x3 x4 x5) (fl [wX8 cI cZ cQ rM SM])) (fl [wX8 cI cZ cQ rM SM]) [(0, .ref (rM 0)), (1, .int x1), (2, .int x2), (3, .int x3), (4, .int x4), (5, .int x5), (6, .int ((it_X8_meet_87 SM x1 x2 x3 x4 x5 ((-1), (-1)) 100).1)), (7, .int ((it_X8_meet_87 SM x1 x2 x3 x4 x5 ((-1), (-1)) 100).2)), (8, .int (nI 100))] 196 [] → WW p l e (headSpec wsX8_meet { frames := 2, cells := 0, slots := 0, locals := 43 }).room s m args below meth c 12 D A 0 0 (RQi below args s D A (f_X8_meet SM x1 x2 x3 x4 x5) (fl [wX8 cI cZ cQ rM SM])) (fl [wX8 cI cZ cQ rM SM]) [(0, .ref (rM 0)), (1, .int x1), (2, .int x2), (3, .int x3), (4, .int x4), (5, .int x5), (6, .int ((it_X8_meet_87 SM x1 x2 x3 x4 x5 ((-1), (-1)) j_87).1)), (7, .int ((it_X8_meet_87 SM x1 x2 x3 x4 x5 ((-1), (-1)) j_87).2)), (8, .int (nI j_87))] 87 [] := by
                    intro k_87
                    induction k_87 with
                    | zero =>
                      intro j_87 hj K
                      have hjB : j_87 = 100 := by omega
                      subst hjB
                      refine ww_iload (pc := 87) X dX8_meet_87 8 rfl ?_
                      refine ww_bipush (pc := 89) (v := 100) X dX8_meet_89 (by decide) ?_
                      exact ww_icmp_ge (pc := 91) (tgt := 196) X dX8_meet_91 (by decide) (fun _ => K) (fun c9 => absurd (lp_ge0 rfl (Nat.le_refl _) (by decide)) c9)
                    | succ k_87 ih =>
                      intro j_87 hj K
                      have hjB : j_87 < 100 := by omega
                      refine ww_iload (pc := 87) X dX8_meet_87 8 rfl ?_
                      refine ww_bipush (pc := 89) (v := 100) X dX8_meet_89 (by decide) ?_
                      refine ww_icmp_ge (pc := 91) (tgt := 196) X dX8_meet_91 (by decide) (fun c9 => absurd c9 (lp_ge1 rfl hjB (by decide))) (fun _ => ?_)
                      refine ww_aload_n (pc := 94) X dX8_meet_94 0 rfl rfl ?_
                      refine ww_get (pc := 95) (ci := 8) (v := .ref (rM 10)) (C := RX8) (T := TX8) (N := 27) X inX8_meet_8 0 rfl rfl 11 (by decide) (by decide +kernel) rfl dX8_meet_95 ?_
                      refine ww_iconst (pc := 98) (v := 1) X dX8_meet_98 (by decide) ?_
                      refine ww_iload_n (pc := 99) X dX8_meet_99 1 rfl rfl ?_
                      have hb24 := clb (n := 7) (in_X8_isPerson okm c1)
                      refine ww_iadd (pc := 100) X dX8_meet_100 ?_
                      refine ww_iald (pc := 101) (f := SM.2 9) X 10 0 rfl rfl (vn (m := 1 + ((x1 : Int32).toNatClampNeg)) (nat_iadd (a := 1) (b := (x1 : Int32).toNatClampNeg) rfl (cl_of (in_X8_isPerson okm c1))) (by omega) (by decide)) dX8_meet_101 ?_
                      refine ww_iload (pc := 102) X dX8_meet_102 8 rfl ?_
                      refine ww_aload_n (pc := 104) X dX8_meet_104 0 rfl rfl ?_
                      refine ww_get (pc := 105) (ci := 8) (v := .ref (rM 3)) (C := RX8) (T := TX8) (N := 27) X inX8_meet_8 0 rfl rfl 4 (by decide) (by decide +kernel) rfl dX8_meet_105 ?_
                      refine ww_iload_n (pc := 108) X dX8_meet_108 3 rfl rfl ?_
                      refine ww_iald (pc := 109) (f := SM.2 2) X 3 0 rfl rfl (in_X8_isDepth okm c4) dX8_meet_109 ?_
                      refine ww_imul (pc := 110) X dX8_meet_110 ?_
                      refine ww_iadd (pc := 111) X dX8_meet_111 ?_
                      generalize hz25 : (((SM.2 9) ((1 + x1 : Int32)).toNatClampNeg) + ((nI j_87) * ((SM.2 2) ((x3 : Int32)).toNatClampNeg))) = z25
                      refine ww_istore (pc := 112) (lv' := [(9, .int z25), (0, .ref (rM 0)), (1, .int x1), (2, .int x2), (3, .int x3), (4, .int x4), (5, .int x5), (6, .int ((it_X8_meet_87 SM x1 x2 x3 x4 x5 ((-1), (-1)) j_87).1)), (7, .int ((it_X8_meet_87 SM x1 x2 x3 x4 x5 ((-1), (-1)) j_87).2)), (8, .int (nI j_87))]) X dX8_meet_112 (by decide) rfl ?_
                      refine ww_iload (pc := 114) X dX8_meet_114 0 rfl ?_
                      refine ww_aload_n (pc := 116) X dX8_meet_116 1 rfl rfl ?_
                      refine ww_get (pc := 117) (ci := 8) (v := .ref (rM 10)) (C := RX8) (T := TX8) (N := 27) X inX8_meet_8 0 rfl rfl 11 (by decide) (by decide +kernel) rfl dX8_meet_117 ?_
                      refine ww_iconst (pc := 120) (v := 1) X dX8_meet_120 (by decide) ?_
                      refine ww_iload_n (pc := 121) X dX8_meet_121 3 rfl rfl ?_
                      have hb26 := clb (n := 7) (in_X8_isPerson okm c2)
                      refine ww_iadd (pc := 122) X dX8_meet_122 ?_
                      refine ww_iald (pc := 123) (f := SM.2 9) X 10 0 rfl rfl (vn (m := 1 + ((x2 : Int32).toNatClampNeg)) (nat_iadd (a := 1) (b := (x2 : Int32).toNatClampNeg) rfl (cl_of (in_X8_isPerson okm c2))) (by omega) (by decide)) dX8_meet_123 ?_
                      refine ww_isub (pc := 124) X dX8_meet_124 ?_
                      refine ww_iload (pc := 125) X dX8_meet_125 5 rfl ?_
                      refine ww_gSi (pc := 127) (rest := []) (gsN := [wX8 cI cZ cQ rM SM]) X (c_X8_off l D cI cZ cQ (z25 - ((SM.2 9) ((1 + x2 : Int32)).toNatClampNeg)) x4) gX8_meet_X8_off rfl hd_X8_off [false] rfl rfl rfl rfl ⟨rfl, rfl⟩ ⟨Nat.le_of_ble_eq_true rfl, Nat.le_of_ble_eq_true rfl⟩ (Nat.le_of_ble_eq_true rfl) ⟨Nat.zero_le _, Nat.zero_le _⟩ dX8_meet_127 ?_
                      generalize hz27 : (f_X8_off (z25 - ((SM.2 9) ((1 + x2 : Int32)).toNatClampNeg)) x4) = z27
                      refine ww_istore (pc := 130) (lv' := [(10, .int z27), (9, .int z25), (0, .ref (rM 0)), (1, .int x1), (2, .int x2), (3, .int x3), (4, .int x4), (5, .int x5), (6, .int ((it_X8_meet_87 SM x1 x2 x3 x4 x5 ((-1), (-1)) j_87).1)), (7, .int ((it_X8_meet_87 SM x1 x2 x3 x4 x5 ((-1), (-1)) j_87).2)), (8, .int (nI j_87))]) X dX8_meet_130 (by decide) rfl ?_
                      refine ww_iload (pc := 132) X dX8_meet_132 1 rfl ?_
                      refine ww_aload_n (pc := 134) X dX8_meet_134 2 rfl rfl ?_
                      refine ww_iload_n (pc := 135) X dX8_meet_135 3 rfl rfl ?_
                      refine ww_gVi (pc := 136) (rest := [.int z25]) (gsN := [wX8 cI cZ cQ rM SM]) (ci := 8) (gi := 0) (qi := 0) X (c_X8_end l D cI cZ cQ rM SM x1 (in_X8_isPerson okm c1)) gX8_meet_X8_end rfl hd_X8_end [true] rfl rfl rfl rfl rfl rfl rfl rfl ⟨rfl, rfl⟩ ⟨Nat.le_of_ble_eq_true rfl, Nat.le_of_ble_eq_true rfl⟩ (Nat.le_of_ble_eq_true rfl) ⟨Nat.zero_le _, Nat.zero_le _⟩ dX8_meet_136 ?_
                      refine ww_icmp_ge (pc := 139) (tgt := 159) X dX8_meet_139 (by decide) (fun c28 => ?_) (fun c28 => ?_)
                      · refine ww_iconst (pc := 159) (v := 0) X dX8_meet_159 (by decide) ?_
                        refine ww_istore (pc := 160) (lv' := [(11, .int 0), (10, .int z27), (9, .int z25), (0, .ref (rM 0)), (1, .int x1), (2, .int x2), (3, .int x3), (4, .int x4), (5, .int x5), (6, .int ((it_X8_meet_87 SM x1 x2 x3 x4 x5 ((-1), (-1)) j_87).1)), (7, .int ((it_X8_meet_87 SM x1 x2 x3 x4 x5 ((-1), (-1)) j_87).2)), (8, .int (nI j_87))]) X dX8_meet_160 (by decide) rfl ?_
                        refine ww_iload (pc := 162) X dX8_meet_162 0 rfl ?_
                        refine ww_if_eq (pc := 164) (tgt := 172) X dX8_meet_164 (by decide) (fun _ => ?_) (fun c29 => absurd (by decide) c29)
                        refine ww_iload (pc := 172) X dX8_meet_172 9 rfl ?_
                        refine ww_istore (pc := 174) (lv' := [(6, .int ((it_X8_meet_87 SM x1 x2 x3 x4 x5 ((-1), (-1)) j_87).1)), (11, .int 0), (10, .int z27), (9, .int z25), (0, .ref (rM 0)), (1, .int x1), (2, .int x2), (3, .int x3), (4, .int x4), (5, .int x5), (7, .int ((it_X8_meet_87 SM x1 x2 x3 x4 x5 ((-1), (-1)) j_87).2)), (8, .int (nI j_87))]) X dX8_meet_174 (by decide) rfl ?_
                        refine ww_iload (pc := 176) X dX8_meet_176 1 rfl ?_
                        refine ww_if_eq (pc := 178) (tgt := 186) X dX8_meet_178 (by decide) (fun _ => ?_) (fun c30 => absurd (by decide) c30)
                        refine ww_iload (pc := 186) X dX8_meet_186 10 rfl ?_
                        refine ww_istore (pc := 188) (lv' := [(7, .int ((it_X8_meet_87 SM x1 x2 x3 x4 x5 ((-1), (-1)) j_87).2)), (6, .int ((it_X8_meet_87 SM x1 x2 x3 x4 x5 ((-1), (-1)) j_87).1)), (11, .int 0), (10, .int z27), (9, .int z25), (0, .ref (rM 0)), (1, .int x1), (2, .int x2), (3, .int x3), (4, .int x4), (5, .int x5), (8, .int (nI j_87))]) X dX8_meet_188 (by decide) rfl ?_
                        refine ww_iinc (pc := 190) (v := (nI j_87) + 1) (lv' := [(8, .int ((nI j_87) + 1)), (7, .int ((it_X8_meet_87 SM x1 x2 x3 x4 x5 ((-1), (-1)) j_87).2)), (6, .int ((it_X8_meet_87 SM x1 x2 x3 x4 x5 ((-1), (-1)) j_87).1)), (11, .int 0), (10, .int z27), (9, .int z25), (0, .ref (rM 0)), (1, .int x1), (2, .int x2), (3, .int x3), (4, .int x4), (5, .int x5)]) X dX8_meet_190 11 rfl rfl (by decide) rfl ?_
                        refine ww_goto (pc := 193) (tgt := 87) X dX8_meet_193 (by decide) ?_
                        have h31 : (it_X8_meet_87 SM x1 x2 x3 x4 x5 ((-1), (-1)) (j_87 + 1)) = ((it_X8_meet_87 SM x1 x2 x3 x4 x5 ((-1), (-1)) j_87).1, (it_X8_meet_87 SM x1 x2 x3 x4 x5 ((-1), (-1)) j_87).2) := by
                          show bd_X8_meet_87 SM x1 x2 x3 x4 x5 j_87 (it_X8_meet_87 SM x1 x2 x3 x4 x5 ((-1), (-1)) j_87) = _; unfold bd_X8_meet_87; try rw [hz25]; try unfold bd_X8_meet_87_k1; try rw [hz27]; try unfold bd_X8_meet_87_k2; try rw [if_pos c28]; first | done | rfl
                        refine ww_lsub [6, 7, 8, 9, 10, 11, 2, 1, 0] rfl ?_
                        exact ww_castI (fun u9 : Int32 × Int32 => fl [wX8 cI cZ cQ rM SM]) (fun (u9 : Int32 × Int32) (i9 : Int32) => ([(0, .ref (rM 0)), (1, .int x1), (2, .int x2), (3, .int x3), (4, .int x4), (5, .int x5), (6, .int u9.1), (7, .int u9.2), (8, .int i9)] : List (Nat × Value))) h31 (ih (j_87 + 1) (by omega) K)
                      · refine ww_iload (pc := 142) X dX8_meet_142 8 rfl ?_
                        refine ww_iconst (pc := 144) (v := (-1)) X dX8_meet_144 (by decide) ?_
                        refine ww_icmp_eq (pc := 145) (tgt := 155) X dX8_meet_145 (by decide) (fun c32 => ?_) (fun c32 => ?_)
                        · refine ww_iconst (pc := 155) (v := 1) X dX8_meet_155 (by decide) ?_
                          refine ww_goto (pc := 156) (tgt := 160) X dX8_meet_156 (by decide) ?_
                          refine ww_istore (pc := 160) (lv' := [(11, .int 1), (10, .int z27), (9, .int z25), (0, .ref (rM 0)), (1, .int x1), (2, .int x2), (3, .int x3), (4, .int x4), (5, .int x5), (6, .int ((it_X8_meet_87 SM x1 x2 x3 x4 x5 ((-1), (-1)) j_87).1)), (7, .int ((it_X8_meet_87 SM x1 x2 x3 x4 x5 ((-1), (-1)) j_87).2)), (8, .int (nI j_87))]) X dX8_meet_160 (by decide) rfl ?_
                          refine ww_iload (pc := 162) X dX8_meet_162 0 rfl ?_
                          refine ww_if_eq (pc := 164) (tgt := 172) X dX8_meet_164 (by decide) (fun c33 => absurd c33 (by decide)) (fun _ => ?_)
                          refine ww_iload (pc := 167) X dX8_meet_167 11 rfl ?_
                          refine ww_goto (pc := 169) (tgt := 174) X dX8_meet_169 (by decide) ?_
                          refine ww_istore (pc := 174) (lv' := [(6, .int (nI j_87)), (11, .int 1), (10, .int z27), (9, .int z25), (0, .ref (rM 0)), (1, .int x1), (2, .int x2), (3, .int x3), (4, .int x4), (5, .int x5), (7, .int ((it_X8_meet_87 SM x1 x2 x3 x4 x5 ((-1), (-1)) j_87).2)), (8, .int (nI j_87))]) X dX8_meet_174 (by decide) rfl ?_
                          refine ww_iload (pc := 176) X dX8_meet_176 1 rfl ?_
                          refine ww_if_eq (pc := 178) (tgt := 186) X dX8_meet_178 (by decide) (fun c34 => absurd c34 (by decide)) (fun _ => ?_)
                          refine ww_iload (pc := 181) X dX8_meet_181 2 rfl ?_
                          refine ww_goto (pc := 183) (tgt := 188) X dX8_meet_183 (by decide) ?_
                          refine ww_istore (pc := 188) (lv' := [(7, .int z27), (6, .int (nI j_87)), (11, .int 1), (10, .int z27), (9, .int z25), (0, .ref (rM 0)), (1, .int x1), (2, .int x2), (3, .int x3), (4, .int x4), (5, .int x5), (8, .int (nI j_87))]) X dX8_meet_188 (by decide) rfl ?_
                          refine ww_iinc (pc := 190) (v := (nI j_87) + 1) (lv' := [(8, .int ((nI j_87) + 1)), (7, .int z27), (6, .int (nI j_87)), (11, .int 1), (10, .int z27), (9, .int z25), (0, .ref (rM 0)), (1, .int x1), (2, .int x2), (3, .int x3), (4, .int x4), (5, .int x5)]) X dX8_meet_190 11 rfl rfl (by decide) rfl ?_
                          refine ww_goto (pc := 193) (tgt := 87) X dX8_meet_193 (by decide) ?_
                          have h35 : (it_X8_meet_87 SM x1 x2 x3 x4 x5 ((-1), (-1)) (j_87 + 1)) = ((nI j_87), z27) := by
                            show bd_X8_meet_87 SM x1 x2 x3 x4 x5 j_87 (it_X8_meet_87 SM x1 x2 x3 x4 x5 ((-1), (-1)) j_87) = _; unfold bd_X8_meet_87; try rw [hz25]; try unfold bd_X8_meet_87_k1; try rw [hz27]; try unfold bd_X8_meet_87_k2; try rw [if_neg c28, if_pos c32]; first | done | rfl
                          refine ww_lsub [6, 7, 8, 9, 10, 11, 2, 1, 0] rfl ?_
                          exact ww_castI (fun u9 : Int32 × Int32 => fl [wX8 cI cZ cQ rM SM]) (fun (u9 : Int32 × Int32) (i9 : Int32) => ([(0, .ref (rM 0)), (1, .int x1), (2, .int x2), (3, .int x3), (4, .int x4), (5, .int x5), (6, .int u9.1), (7, .int u9.2), (8, .int i9)] : List (Nat × Value))) h35 (ih (j_87 + 1) (by omega) K)
                        · refine ww_iload (pc := 148) X dX8_meet_148 0 rfl ?_
                          refine ww_iload (pc := 150) X dX8_meet_150 9 rfl ?_
                          refine ww_icmp_ge (pc := 152) (tgt := 159) X dX8_meet_152 (by decide) (fun c36 => ?_) (fun c36 => ?_)
                          · refine ww_iconst (pc := 159) (v := 0) X dX8_meet_159 (by decide) ?_
                            refine ww_istore (pc := 160) (lv' := [(11, .int 0), (10, .int z27), (9, .int z25), (0, .ref (rM 0)), (1, .int x1), (2, .int x2), (3, .int x3), (4, .int x4), (5, .int x5), (6, .int ((it_X8_meet_87 SM x1 x2 x3 x4 x5 ((-1), (-1)) j_87).1)), (7, .int ((it_X8_meet_87 SM x1 x2 x3 x4 x5 ((-1), (-1)) j_87).2)), (8, .int (nI j_87))]) X dX8_meet_160 (by decide) rfl ?_
                            refine ww_iload (pc := 162) X dX8_meet_162 0 rfl ?_
                            refine ww_if_eq (pc := 164) (tgt := 172) X dX8_meet_164 (by decide) (fun _ => ?_) (fun c37 => absurd (by decide) c37)
                            refine ww_iload (pc := 172) X dX8_meet_172 9 rfl ?_
                            refine ww_istore (pc := 174) (lv' := [(6, .int ((it_X8_meet_87 SM x1 x2 x3 x4 x5 ((-1), (-1)) j_87).1)), (11, .int 0), (10, .int z27), (9, .int z25), (0, .ref (rM 0)), (1, .int x1), (2, .int x2), (3, .int x3), (4, .int x4), (5, .int x5), (7, .int ((it_X8_meet_87 SM x1 x2 x3 x4 x5 ((-1), (-1)) j_87).2)), (8, .int (nI j_87))]) X dX8_meet_174 (by decide) rfl ?_
                            refine ww_iload (pc := 176) X dX8_meet_176 1 rfl ?_
                            refine ww_if_eq (pc := 178) (tgt := 186) X dX8_meet_178 (by decide) (fun _ => ?_) (fun c38 => absurd (by decide) c38)
                            refine ww_iload (pc := 186) X dX8_meet_186 10 rfl ?_
                            refine ww_istore (pc := 188) (lv' := [(7, .int ((it_X8_meet_87 SM x1 x2 x3 x4 x5 ((-1), (-1)) j_87).2)), (6, .int ((it_X8_meet_87 SM x1 x2 x3 x4 x5 ((-1), (-1)) j_87).1)), (11, .int 0), (10, .int z27), (9, .int z25), (0, .ref (rM 0)), (1, .int x1), (2, .int x2), (3, .int x3), (4, .int x4), (5, .int x5), (8, .int (nI j_87))]) X dX8_meet_188 (by decide) rfl ?_
                            refine ww_iinc (pc := 190) (v := (nI j_87) + 1) (lv' := [(8, .int ((nI j_87) + 1)), (7, .int ((it_X8_meet_87 SM x1 x2 x3 x4 x5 ((-1), (-1)) j_87).2)), (6, .int ((it_X8_meet_87 SM x1 x2 x3 x4 x5 ((-1), (-1)) j_87).1)), (11, .int 0), (10, .int z27), (9, .int z25), (0, .ref (rM 0)), (1, .int x1), (2, .int x2), (3, .int x3), (4, .int x4), (5, .int x5)]) X dX8_meet_190 11 rfl rfl (by decide) rfl ?_
                            refine ww_goto (pc := 193) (tgt := 87) X dX8_meet_193 (by decide) ?_
                            have h39 : (it_X8_meet_87 SM x1 x2 x3 x4 x5 ((-1), (-1)) (j_87 + 1)) = ((it_X8_meet_87 SM x1 x2 x3 x4 x5 ((-1), (-1)) j_87).1, (it_X8_meet_87 SM x1 x2 x3 x4 x5 ((-1), (-1)) j_87).2) := by
                              show bd_X8_meet_87 SM x1 x2 x3 x4 x5 j_87 (it_X8_meet_87 SM x1 x2 x3 x4 x5 ((-1), (-1)) j_87) = _; unfold bd_X8_meet_87; try rw [hz25]; try unfold bd_X8_meet_87_k1; try rw [hz27]; try unfold bd_X8_meet_87_k2; try rw [if_neg c28, if_neg c32, if_pos c36]; first | done | rfl
                            refine ww_lsub [6, 7, 8, 9, 10, 11, 2, 1, 0] rfl ?_
                            exact ww_castI (fun u9 : Int32 × Int32 => fl [wX8 cI cZ cQ rM SM]) (fun (u9 : Int32 × Int32) (i9 : Int32) => ([(0, .ref (rM 0)), (1, .int x1), (2, .int x2), (3, .int x3), (4, .int x4), (5, .int x5), (6, .int u9.1), (7, .int u9.2), (8, .int i9)] : List (Nat × Value))) h39 (ih (j_87 + 1) (by omega) K)
                          · refine ww_iconst (pc := 155) (v := 1) X dX8_meet_155 (by decide) ?_
                            refine ww_goto (pc := 156) (tgt := 160) X dX8_meet_156 (by decide) ?_
                            refine ww_istore (pc := 160) (lv' := [(11, .int 1), (10, .int z27), (9, .int z25), (0, .ref (rM 0)), (1, .int x1), (2, .int x2), (3, .int x3), (4, .int x4), (5, .int x5), (6, .int ((it_X8_meet_87 SM x1 x2 x3 x4 x5 ((-1), (-1)) j_87).1)), (7, .int ((it_X8_meet_87 SM x1 x2 x3 x4 x5 ((-1), (-1)) j_87).2)), (8, .int (nI j_87))]) X dX8_meet_160 (by decide) rfl ?_
                            refine ww_iload (pc := 162) X dX8_meet_162 0 rfl ?_
                            refine ww_if_eq (pc := 164) (tgt := 172) X dX8_meet_164 (by decide) (fun c40 => absurd c40 (by decide)) (fun _ => ?_)
                            refine ww_iload (pc := 167) X dX8_meet_167 11 rfl ?_
                            refine ww_goto (pc := 169) (tgt := 174) X dX8_meet_169 (by decide) ?_
                            refine ww_istore (pc := 174) (lv' := [(6, .int (nI j_87)), (11, .int 1), (10, .int z27), (9, .int z25), (0, .ref (rM 0)), (1, .int x1), (2, .int x2), (3, .int x3), (4, .int x4), (5, .int x5), (7, .int ((it_X8_meet_87 SM x1 x2 x3 x4 x5 ((-1), (-1)) j_87).2)), (8, .int (nI j_87))]) X dX8_meet_174 (by decide) rfl ?_
                            refine ww_iload (pc := 176) X dX8_meet_176 1 rfl ?_
                            refine ww_if_eq (pc := 178) (tgt := 186) X dX8_meet_178 (by decide) (fun c41 => absurd c41 (by decide)) (fun _ => ?_)
                            refine ww_iload (pc := 181) X dX8_meet_181 2 rfl ?_
                            refine ww_goto (pc := 183) (tgt := 188) X dX8_meet_183 (by decide) ?_
                            refine ww_istore (pc := 188) (lv' := [(7, .int z27), (6, .int (nI j_87)), (11, .int 1), (10, .int z27), (9, .int z25), (0, .ref (rM 0)), (1, .int x1), (2, .int x2), (3, .int x3), (4, .int x4), (5, .int x5), (8, .int (nI j_87))]) X dX8_meet_188 (by decide) rfl ?_
                            refine ww_iinc (pc := 190) (v := (nI j_87) + 1) (lv' := [(8, .int ((nI j_87) + 1)), (7, .int z27), (6, .int (nI j_87)), (11, .int 1), (10, .int z27), (9, .int z25), (0, .ref (rM 0)), (1, .int x1), (2, .int x2), (3, .int x3), (4, .int x4), (5, .int x5)]) X dX8_meet_190 11 rfl rfl (by decide) rfl ?_
                            refine ww_goto (pc := 193) (tgt := 87) X dX8_meet_193 (by decide) ?_
                            have h42 : (it_X8_meet_87 SM x1 x2 x3 x4 x5 ((-1), (-1)) (j_87 + 1)) = ((nI j_87), z27) := by
                              show bd_X8_meet_87 SM x1 x2 x3 x4 x5 j_87 (it_X8_meet_87 SM x1 x2 x3 x4 x5 ((-1), (-1)) j_87) = _; unfold bd_X8_meet_87; try rw [hz25]; try unfold bd_X8_meet_87_k1; try rw [hz27]; try unfold bd_X8_meet_87_k2; try rw [if_neg c28, if_neg c32, if_neg c36]; first | done | rfl
                            refine ww_lsub [6, 7, 8, 9, 10, 11, 2, 1, 0] rfl ?_
                            exact ww_castI (fun u9 : Int32 × Int32 => fl [wX8 cI cZ cQ rM SM]) (fun (u9 : Int32 × Int32) (i9 : Int32) => ([(0, .ref (rM 0)), (1, .int x1), (2, .int x2), (3, .int x3), (4, .int x4), (5, .int x5), (6, .int u9.1), (7, .int u9.2), (8, .int i9)] : List (Nat × Value))) h42 (ih (j_87 + 1) (by omega) K)
                  refine ww_lsub [3, 4, 5, 6, 7, 8, 2, 1, 0] rfl ?_
                  refine L87 100 0 (by omega) ?_
                  generalize hz43 : ((it_X8_meet_87 SM x1 x2 x3 x4 x5 ((-1), (-1)) 100)) = z43
                  refine ww_iload (pc := 196) X dX8_meet_196 5 rfl ?_
                  refine ww_if_ne (pc := 198) (tgt := 206) X dX8_meet_198 (by decide) (fun c44 => ?_) (fun c44 => ?_)
                  · refine ww_iload (pc := 206) X dX8_meet_206 7 rfl ?_
                    exact ww_iret X hr rfl (Eq.symm (by unfold f_X8_meet; try rw [if_neg c1, if_neg c2, if_neg c3, if_neg c4, if_neg c5, if_neg c6, if_neg c7, if_neg c8, hz43]; try unfold f_X8_meet_k1; try rw [if_neg c44]; first | done | rfl)) rfl dX8_meet_208
                  · refine ww_iload (pc := 201) X dX8_meet_201 6 rfl ?_
                    refine ww_goto (pc := 203) (tgt := 208) X dX8_meet_203 (by decide) ?_
                    exact ww_iret X hr rfl (Eq.symm (by unfold f_X8_meet; try rw [if_neg c1, if_neg c2, if_neg c3, if_neg c4, if_neg c5, if_neg c6, if_neg c7, if_neg c8, hz43]; try unfold f_X8_meet_k1; try rw [if_pos c44]; first | done | rfl)) rfl dX8_meet_208
                · refine ww_ldc (pc := 75) (v := (-1000000003)) X (by decide +kernel) dX8_meet_75 ?_
                  exact ww_iret X hr rfl (Eq.symm (by unfold f_X8_meet; try rw [if_neg c1, if_neg c2, if_neg c3, if_neg c4, if_neg c5, if_neg c6, if_neg c7, if_pos c8]; first | done | rfl)) rfl dX8_meet_77
            · refine ww_ldc (pc := 56) (v := (-1000000002)) X (by decide +kernel) dX8_meet_56 ?_
              exact ww_iret X hr rfl (Eq.symm (by unfold f_X8_meet; try rw [if_neg c1, if_neg c2, if_neg c3, if_neg c4, if_neg c5, if_pos c6]; first | done | rfl)) rfl dX8_meet_58
        · refine ww_ldc (pc := 29) (v := (-1000000001)) X (by decide +kernel) dX8_meet_29 ?_
          exact ww_iret X hr rfl (Eq.symm (by unfold f_X8_meet; try rw [if_neg c1, if_neg c2, if_neg c3, if_pos c4]; first | done | rfl)) rfl dX8_meet_31
