def bd_X7_meet_85_k3 (ST : St) (SL : St) (SF : St) (x1 : Int32) (x2 : Int32) (x3 : Int32) (x4 : Int32) (x5 : Int32) (j : Nat) (u : Int32) (z9 : Int32) (z11 : Int32) (z12 : Int32) : Int32 :=
  z12
def bd_X7_meet_85_k2 (ST : St) (SL : St) (SF : St) (x1 : Int32) (x2 : Int32) (x3 : Int32) (x4 : Int32) (x5 : Int32) (j : Nat) (u : Int32) (z9 : Int32) (z11 : Int32) : Int32 :=
  bd_X7_meet_85_k3 ST SL SF x1 x2 x3 x4 x5 j u z9 z11 (if ((z11 * 100) + (nI j)) < u then ((z11 * 100) + (nI j)) else u)
def bd_X7_meet_85_k1 (ST : St) (SL : St) (SF : St) (x1 : Int32) (x2 : Int32) (x3 : Int32) (x4 : Int32) (x5 : Int32) (j : Nat) (u : Int32) (z9 : Int32) : Int32 :=
  if ((SL.2 2) ((x1 : Int32)).toNatClampNeg) ≤ z9 then
    u
  else
    bd_X7_meet_85_k2 ST SL SF x1 x2 x3 x4 x5 j u z9 (if 0 ≤ ((z9 - (f_X3_age SF x2)) - x4) then ((z9 - (f_X3_age SF x2)) - x4) else 0 - ((z9 - (f_X3_age SF x2)) - x4))
def bd_X7_meet_85 (ST : St) (SL : St) (SF : St) (x1 : Int32) (x2 : Int32) (x3 : Int32) (x4 : Int32) (x5 : Int32) (j : Nat) (u : Int32) : Int32 :=
  bd_X7_meet_85_k1 ST SL SF x1 x2 x3 x4 x5 j u ((f_X3_age SF x1) + ((nI j) * ((SL.2 0) ((x3 : Int32)).toNatClampNeg)))
def it_X7_meet_85 (ST : St) (SL : St) (SF : St) (x1 : Int32) (x2 : Int32) (x3 : Int32) (x4 : Int32) (x5 : Int32) (u : Int32) : Nat → Int32
  | 0 => u
  | j + 1 => bd_X7_meet_85 ST SL SF x1 x2 x3 x4 x5 j (it_X7_meet_85 ST SL SF x1 x2 x3 x4 x5 u j)
def f_X7_meet_k1 (ST : St) (SL : St) (SF : St) (x1 : Int32) (x2 : Int32) (x3 : Int32) (x4 : Int32) (x5 : Int32) (z19 : Int32) : Int32 :=
  if z19 = 2147483647 then
    (-1)
  else
    if x5 = 0 then
      z19 - z19 / 100 * 100
    else
      z19 / 100
def f_X7_meet (ST : St) (SL : St) (SF : St) (x1 : Int32) (x2 : Int32) (x3 : Int32) (x4 : Int32) (x5 : Int32) : Int32 :=
  if (f_X7_areTwoPersons ST SL x1 x2) = 0 then
    (-1000000001)
  else
    if (f_X5_hasDepth SL x3) = 0 then
      (-1000000001)
    else
      if x4 < (-199) then
        (-1000000002)
      else
        if 199 < x4 then
          (-1000000002)
        else
          if x5 < 0 then
            (-1000000002)
          else
            if x5 ≤ 1 then
              if (f_X3_isAbove SF x1) = 0 then
                (-1000000003)
              else
                if (f_X3_isAbove SF x2) = 0 then
                  (-1000000003)
                else
                  f_X7_meet_k1 ST SL SF x1 x2 x3 x4 x5 (it_X7_meet_85 ST SL SF x1 x2 x3 x4 x5 (2147483647 : Int32) 100)
            else
              (-1000000002)
theorem inX7_meet_5 : ∀ w ∈ wsX50, w ∈ wsX7_meet := by decide +kernel
theorem inX7_meet_7 : ∀ w ∈ wsX70, w ∈ wsX7_meet := by decide +kernel
theorem hd_X7_meet : yX7_meet.cls = RX7 ∧ yX7_meet.cls ≠ "java/lang/invoke/MethodHandle" ∧ yX7_meet.cls ≠ "java/lang/invoke/VarHandle" ∧ (parseMethodDescriptor yX7_meet.desc).map (fun d => d.parameters.length) = some 5 := by decide +kernel
set_option maxHeartbeats 4000000 in
set_option maxRecDepth 100000 in
theorem c_X7_meet (l : Launch) (D : va_G) (cI cZ cQ : ClassId) (g : Nat → Nat → Nat) (ST : St) (SL : St) (SF : St) (x1 : Int32) (x2 : Int32) (x3 : Int32) (x4 : Int32) (x5 : Int32) : Ci l yX7_meet wsX7_meet { frames := 3, cells := 0, slots := 0, locals := 62 } D (tyL cI cZ cQ) [.ref (g 0 0), .int x1, .int x2, .int x3, .int x4, .int x5] (fl [wX7 cI cZ cQ g ST, wX5 cI cZ cQ (g 2) SL, wX3 cI cZ cQ (g 4) SF]) (f_X7_meet ST SL SF x1 x2 x3 x4 x5) (fl [wX7 cI cZ cQ g ST, wX5 cI cZ cQ (g 2) SL, wX3 cI cZ cQ (g 4) SF]) := by
  refine ci_of (cc := cX7_meet) (nL := 10) (ty := .int) (lv0 := [(0, .ref (g 0 0)), (1, .int x1), (2, .int x2), (3, .int x3), (4, .int x4), (5, .int x5)]) (by decide) rfl (Nat.le_of_ble_eq_true rfl) rfl ?_
  intro p e s m args below meth c A X hr
  refine ww_aload_n (pc := 0) X dX7_meet_0 0 rfl rfl ?_
  refine ww_iload_n (pc := 1) X dX7_meet_1 1 rfl rfl ?_
  refine ww_iload_n (pc := 2) X dX7_meet_2 2 rfl rfl ?_
  refine ww_gVi (pc := 3) (rest := []) (gsN := [wX7 cI cZ cQ g ST, wX5 cI cZ cQ (g 2) SL, wX3 cI cZ cQ (g 4) SF]) (ci := 7) (gi := 0) (qi := 0) X (c_X7_areTwoPersons l D cI cZ cQ g ST SL x1 x2) gX7_meet_X7_areTwoPersons rfl hd_X7_areTwoPersons [true, true, false] rfl rfl rfl rfl rfl rfl rfl rfl ⟨rfl, rfl⟩ ⟨Nat.le_of_ble_eq_true rfl, Nat.le_of_ble_eq_true rfl⟩ (Nat.le_of_ble_eq_true rfl) ⟨Nat.zero_le _, Nat.zero_le _⟩ dX7_meet_3 ?_
  refine ww_if_eq (pc := 6) (tgt := 20) X dX7_meet_6 (by decide) (fun c1 => ?_) (fun c1 => ?_)
  · refine ww_ldc (pc := 20) (v := (-1000000001)) X (by decide +kernel) dX7_meet_20 ?_
    exact ww_iret X hr rfl (Eq.symm (by unfold f_X7_meet; try rw [if_pos c1]; first | done | rfl)) rfl dX7_meet_22
  · refine ww_aload_n (pc := 9) X dX7_meet_9 0 rfl rfl ?_
    refine ww_get (pc := 10) (ci := 7) (v := .ref (g 2 0)) (C := RX7) (T := TX7) (N := 9) X inX7_meet_7 0 rfl rfl 1 (by decide) (by decide +kernel) rfl dX7_meet_10 ?_
    refine ww_iload_n (pc := 13) X dX7_meet_13 3 rfl rfl ?_
    refine ww_gVi (pc := 14) (rest := []) (gsN := [wX7 cI cZ cQ g ST, wX5 cI cZ cQ (g 2) SL, wX3 cI cZ cQ (g 4) SF]) (ci := 5) (gi := 0) (qi := 0) X (c_X5_hasDepth l D cI cZ cQ (g 2) SL x3) gX7_meet_X5_hasDepth rfl hd_X5_hasDepth [false, true, false] rfl rfl rfl rfl rfl rfl rfl rfl ⟨rfl, rfl⟩ ⟨Nat.le_of_ble_eq_true rfl, Nat.le_of_ble_eq_true rfl⟩ (Nat.le_of_ble_eq_true rfl) ⟨Nat.zero_le _, Nat.zero_le _⟩ dX7_meet_14 ?_
    refine ww_if_ne (pc := 17) (tgt := 23) X dX7_meet_17 (by decide) (fun c2 => ?_) (fun c2 => ?_)
    · refine ww_iload (pc := 23) X dX7_meet_23 4 rfl ?_
      refine ww_sipush (pc := 25) (v := (-199)) X dX7_meet_25 (by decide) ?_
      refine ww_icmp_lt (pc := 28) (tgt := 50) X dX7_meet_28 (by decide) (fun c3 => ?_) (fun c3 => ?_)
      · refine ww_ldc (pc := 50) (v := (-1000000002)) X (by decide +kernel) dX7_meet_50 ?_
        exact ww_iret X hr rfl (Eq.symm (by unfold f_X7_meet; try rw [if_neg c1, if_neg c2, if_pos c3]; first | done | rfl)) rfl dX7_meet_52
      · refine ww_iload (pc := 31) X dX7_meet_31 4 rfl ?_
        refine ww_sipush (pc := 33) (v := 199) X dX7_meet_33 (by decide) ?_
        refine ww_icmp_gt (pc := 36) (tgt := 50) X dX7_meet_36 (by decide) (fun c4 => ?_) (fun c4 => ?_)
        · refine ww_ldc (pc := 50) (v := (-1000000002)) X (by decide +kernel) dX7_meet_50 ?_
          exact ww_iret X hr rfl (Eq.symm (by unfold f_X7_meet; try rw [if_neg c1, if_neg c2, if_neg c3, if_pos c4]; first | done | rfl)) rfl dX7_meet_52
        · refine ww_iload (pc := 39) X dX7_meet_39 5 rfl ?_
          refine ww_if_lt (pc := 41) (tgt := 50) X dX7_meet_41 (by decide) (fun c5 => ?_) (fun c5 => ?_)
          · refine ww_ldc (pc := 50) (v := (-1000000002)) X (by decide +kernel) dX7_meet_50 ?_
            exact ww_iret X hr rfl (Eq.symm (by unfold f_X7_meet; try rw [if_neg c1, if_neg c2, if_neg c3, if_neg c4, if_pos c5]; first | done | rfl)) rfl dX7_meet_52
          · refine ww_iload (pc := 44) X dX7_meet_44 5 rfl ?_
            refine ww_iconst (pc := 46) (v := 1) X dX7_meet_46 (by decide) ?_
            refine ww_icmp_le (pc := 47) (tgt := 53) X dX7_meet_47 (by decide) (fun c6 => ?_) (fun c6 => ?_)
            · refine ww_aload_n (pc := 53) X dX7_meet_53 0 rfl rfl ?_
              refine ww_get (pc := 54) (ci := 7) (v := .ref (g 4 0)) (C := RX7) (T := TX7) (N := 9) X inX7_meet_7 0 rfl rfl 3 (by decide) (by decide +kernel) rfl dX7_meet_54 ?_
              refine ww_iload_n (pc := 57) X dX7_meet_57 1 rfl rfl ?_
              refine ww_gVi (pc := 58) (rest := []) (gsN := [wX7 cI cZ cQ g ST, wX5 cI cZ cQ (g 2) SL, wX3 cI cZ cQ (g 4) SF]) (ci := 3) (gi := 0) (qi := 0) X (c_X3_isAbove l D cI cZ cQ (g 4) SF x1) gX7_meet_X3_isAbove rfl hd_X3_isAbove [false, false, true] rfl rfl rfl rfl rfl rfl rfl rfl ⟨rfl, rfl⟩ ⟨Nat.le_of_ble_eq_true rfl, Nat.le_of_ble_eq_true rfl⟩ (Nat.le_of_ble_eq_true rfl) ⟨Nat.zero_le _, Nat.zero_le _⟩ dX7_meet_58 ?_
              refine ww_if_eq (pc := 61) (tgt := 75) X dX7_meet_61 (by decide) (fun c7 => ?_) (fun c7 => ?_)
              · refine ww_ldc (pc := 75) (v := (-1000000003)) X (by decide +kernel) dX7_meet_75 ?_
                exact ww_iret X hr rfl (Eq.symm (by unfold f_X7_meet; try rw [if_neg c1, if_neg c2, if_neg c3, if_neg c4, if_neg c5, if_pos c6, if_pos c7]; first | done | rfl)) rfl dX7_meet_77
              · refine ww_aload_n (pc := 64) X dX7_meet_64 0 rfl rfl ?_
                refine ww_get (pc := 65) (ci := 7) (v := .ref (g 4 0)) (C := RX7) (T := TX7) (N := 9) X inX7_meet_7 0 rfl rfl 3 (by decide) (by decide +kernel) rfl dX7_meet_65 ?_
                refine ww_iload_n (pc := 68) X dX7_meet_68 2 rfl rfl ?_
                refine ww_gVi (pc := 69) (rest := []) (gsN := [wX7 cI cZ cQ g ST, wX5 cI cZ cQ (g 2) SL, wX3 cI cZ cQ (g 4) SF]) (ci := 3) (gi := 0) (qi := 0) X (c_X3_isAbove l D cI cZ cQ (g 4) SF x2) gX7_meet_X3_isAbove rfl hd_X3_isAbove [false, false, true] rfl rfl rfl rfl rfl rfl rfl rfl ⟨rfl, rfl⟩ ⟨Nat.le_of_ble_eq_true rfl, Nat.le_of_ble_eq_true rfl⟩ (Nat.le_of_ble_eq_true rfl) ⟨Nat.zero_le _, Nat.zero_le _⟩ dX7_meet_69 ?_
                refine ww_if_ne (pc := 72) (tgt := 78) X dX7_meet_72 (by decide) (fun c8 => ?_) (fun c8 => ?_)
                · refine ww_ldc (pc := 78) (v := 2147483647) X (by decide +kernel) dX7_meet_78 ?_
                  refine ww_istore (pc := 80) (lv' := [(6, .int 2147483647), (0, .ref (g 0 0)), (1, .int x1), (2, .int x2), (3, .int x3), (4, .int x4), (5, .int x5)]) X dX7_meet_80 (by decide) rfl ?_
                  refine ww_iconst (pc := 82) (v := 0) X dX7_meet_82 (by decide) ?_
                  refine ww_istore (pc := 83) (lv' := [(7, .int 0), (6, .int 2147483647), (0, .ref (g 0 0)), (1, .int x1), (2, .int x2), (3, .int x3), (4, .int x4), (5, .int x5)]) X dX7_meet_83 (by decide) rfl ?_
                  have L85 : ∀ (k_85 j_85 : Nat), j_85 + k_85 = 100 → WW p l e (headSpec wsX7_meet { frames := 3, cells := 0, slots := 0, locals := 62 }).room s m args below meth c 10 D A 0 0 (RQi below args s D A (f_X7_meet ST SL SF x1 x2 x3 x4 x5) (fl [wX7 cI cZ cQ g ST, wX5 cI cZ cQ (g 2) SL, wX3 cI cZ cQ (g 4) SF])) (fl [wX7 cI cZ cQ g ST, wX5 cI cZ cQ (g 2) SL, wX3 cI cZ cQ (g 4) SF]) [(0, .ref (g 0 0)), (1, .int x1), (2, .int x2), (3, .int x3), (4, .int x4), (5, .int x5), (6, .int (it_X7_meet_85 ST SL SF x1 x2 x3 x4 x5 (2147483647 : Int32) 100)), (7, .int (nI 100))] 169 [] → WW p l e (headSpec wsX7_meet { frames := 3, cells := 0, slots := 0, locals := 62 }).room s m args below meth c 10 D A 0 0 (RQi below args s D A (f_X7_meet ST SL SF x1 x2 x3 x4 x5) (fl [wX7 cI cZ cQ g ST, wX5 cI cZ cQ (g 2) SL, wX3 cI cZ cQ (g 4) SF])) (fl [wX7 cI cZ cQ g ST, wX5 cI cZ cQ (g 2) SL, wX3 cI cZ cQ (g 4) SF]) [(0, .ref (g 0 0)), (1, .int x1), (2, .int x2), (3, .int x3), (4, .int x4), (5, .int x5), (6, .int (it_X7_meet_85 ST SL SF x1 x2 x3 x4 x5 (2147483647 : Int32) j_85)), (7, .int (nI j_85))] 85 [] := by
                    intro k_85
                    induction k_85 with
                    | zero =>
                      intro j_85 hj K
                      have hjB : j_85 = 100 := by omega
                      subst hjB
                      refine ww_iload (pc := 85) X dX7_meet_85 7 rfl ?_
                      refine ww_bipush (pc := 87) (v := 99) X dX7_meet_87 (by decide) ?_
                      exact ww_icmp_gt (pc := 89) (tgt := 169) X dX7_meet_89 (by decide) (fun _ => K) (fun c9 => absurd (lp_gt0 rfl (Nat.le_refl _) (by decide)) c9)
                    | succ k_85 ih =>
                      intro j_85 hj K
                      have hjB : j_85 < 100 := by omega
                      refine ww_iload (pc := 85) X dX7_meet_85 7 rfl ?_
                      refine ww_bipush (pc := 87) (v := 99) X dX7_meet_87 (by decide) ?_
                      refine ww_icmp_gt (pc := 89) (tgt := 169) X dX7_meet_89 (by decide) (fun c9 => absurd c9 (lp_gt1 rfl hjB (by decide))) (fun _ => ?_)
                      refine ww_aload_n (pc := 92) X dX7_meet_92 0 rfl rfl ?_
                      refine ww_get (pc := 93) (ci := 7) (v := .ref (g 4 0)) (C := RX7) (T := TX7) (N := 9) X inX7_meet_7 0 rfl rfl 3 (by decide) (by decide +kernel) rfl dX7_meet_93 ?_
                      refine ww_iload_n (pc := 96) X dX7_meet_96 1 rfl rfl ?_
                      refine ww_gVi (pc := 97) (rest := []) (gsN := [wX7 cI cZ cQ g ST, wX5 cI cZ cQ (g 2) SL, wX3 cI cZ cQ (g 4) SF]) (ci := 3) (gi := 0) (qi := 0) X (c_X3_age l D cI cZ cQ (g 4) SF x1) gX7_meet_X3_age rfl hd_X3_age [false, false, true] rfl rfl rfl rfl rfl rfl rfl rfl ⟨rfl, rfl⟩ ⟨Nat.le_of_ble_eq_true rfl, Nat.le_of_ble_eq_true rfl⟩ (Nat.le_of_ble_eq_true rfl) ⟨Nat.zero_le _, Nat.zero_le _⟩ dX7_meet_97 ?_
                      refine ww_iload (pc := 100) X dX7_meet_100 7 rfl ?_
                      refine ww_aload_n (pc := 102) X dX7_meet_102 0 rfl rfl ?_
                      refine ww_get (pc := 103) (ci := 7) (v := .ref (g 2 0)) (C := RX7) (T := TX7) (N := 9) X inX7_meet_7 0 rfl rfl 1 (by decide) (by decide +kernel) rfl dX7_meet_103 ?_
                      refine ww_get (pc := 106) (ci := 5) (v := .ref (g 2 1)) (C := RX5) (T := TX5) (N := 11) X inX7_meet_5 1 rfl rfl 5 (by decide) (by decide +kernel) rfl dX7_meet_106 ?_
                      refine ww_iload_n (pc := 109) X dX7_meet_109 3 rfl rfl ?_
                      refine ww_iald (pc := 110) (f := SL.2 0) X 2 0 rfl rfl (in_X5_hasDepth c2) dX7_meet_110 ?_
                      refine ww_imul (pc := 111) X dX7_meet_111 ?_
                      refine ww_iadd (pc := 112) X dX7_meet_112 ?_
                      generalize hz13 : ((f_X3_age SF x1) + ((nI j_85) * ((SL.2 0) ((x3 : Int32)).toNatClampNeg))) = z13
                      refine ww_istore (pc := 113) (lv' := [(8, .int z13), (0, .ref (g 0 0)), (1, .int x1), (2, .int x2), (3, .int x3), (4, .int x4), (5, .int x5), (6, .int (it_X7_meet_85 ST SL SF x1 x2 x3 x4 x5 (2147483647 : Int32) j_85)), (7, .int (nI j_85))]) X dX7_meet_113 (by decide) rfl ?_
                      refine ww_iload (pc := 115) X dX7_meet_115 0 rfl ?_
                      refine ww_aload_n (pc := 117) X dX7_meet_117 1 rfl rfl ?_
                      refine ww_get (pc := 118) (ci := 7) (v := .ref (g 2 0)) (C := RX7) (T := TX7) (N := 9) X inX7_meet_7 0 rfl rfl 1 (by decide) (by decide +kernel) rfl dX7_meet_118 ?_
                      refine ww_get (pc := 121) (ci := 5) (v := .ref (g 2 3)) (C := RX5) (T := TX5) (N := 11) X inX7_meet_5 1 rfl rfl 7 (by decide) (by decide +kernel) rfl dX7_meet_121 ?_
                      refine ww_iload_n (pc := 124) X dX7_meet_124 2 rfl rfl ?_
                      refine ww_iald (pc := 125) (f := SL.2 2) X 4 0 rfl rfl (in_X7_two1 c1) dX7_meet_125 ?_
                      refine ww_icmp_ge (pc := 126) (tgt := 163) X dX7_meet_126 (by decide) (fun c14 => ?_) (fun c14 => ?_)
                      · refine ww_iinc (pc := 163) (v := (nI j_85) + 1) (lv' := [(7, .int ((nI j_85) + 1)), (8, .int z13), (0, .ref (g 0 0)), (1, .int x1), (2, .int x2), (3, .int x3), (4, .int x4), (5, .int x5), (6, .int (it_X7_meet_85 ST SL SF x1 x2 x3 x4 x5 (2147483647 : Int32) j_85))]) X dX7_meet_163 8 rfl rfl (by decide) rfl ?_
                        refine ww_goto (pc := 166) (tgt := 85) X dX7_meet_166 (by decide) ?_
                        have h15 : (it_X7_meet_85 ST SL SF x1 x2 x3 x4 x5 (2147483647 : Int32) (j_85 + 1)) = (it_X7_meet_85 ST SL SF x1 x2 x3 x4 x5 (2147483647 : Int32) j_85) := by
                          show bd_X7_meet_85 ST SL SF x1 x2 x3 x4 x5 j_85 (it_X7_meet_85 ST SL SF x1 x2 x3 x4 x5 (2147483647 : Int32) j_85) = _; unfold bd_X7_meet_85; try rw [hz13]; try unfold bd_X7_meet_85_k1; try rw [if_pos c14]; first | done | rfl
                        refine ww_lsub [2, 3, 4, 5, 6, 7, 8, 0] rfl ?_
                        exact ww_castI (fun u9 : Int32 => fl [wX7 cI cZ cQ g ST, wX5 cI cZ cQ (g 2) SL, wX3 cI cZ cQ (g 4) SF]) (fun (u9 : Int32) (i9 : Int32) => ([(0, .ref (g 0 0)), (1, .int x1), (2, .int x2), (3, .int x3), (4, .int x4), (5, .int x5), (6, .int u9), (7, .int i9)] : List (Nat × Value))) h15 (ih (j_85 + 1) (by omega) K)
                      · refine ww_iload (pc := 129) X dX7_meet_129 0 rfl ?_
                        refine ww_aload_n (pc := 131) X dX7_meet_131 1 rfl rfl ?_
                        refine ww_get (pc := 132) (ci := 7) (v := .ref (g 4 0)) (C := RX7) (T := TX7) (N := 9) X inX7_meet_7 0 rfl rfl 3 (by decide) (by decide +kernel) rfl dX7_meet_132 ?_
                        refine ww_iload_n (pc := 135) X dX7_meet_135 3 rfl rfl ?_
                        refine ww_gVi (pc := 136) (rest := [.int z13]) (gsN := [wX7 cI cZ cQ g ST, wX5 cI cZ cQ (g 2) SL, wX3 cI cZ cQ (g 4) SF]) (ci := 3) (gi := 0) (qi := 0) X (c_X3_age l D cI cZ cQ (g 4) SF x2) gX7_meet_X3_age rfl hd_X3_age [false, false, true] rfl rfl rfl rfl rfl rfl rfl rfl ⟨rfl, rfl⟩ ⟨Nat.le_of_ble_eq_true rfl, Nat.le_of_ble_eq_true rfl⟩ (Nat.le_of_ble_eq_true rfl) ⟨Nat.zero_le _, Nat.zero_le _⟩ dX7_meet_136 ?_
                        refine ww_isub (pc := 139) X dX7_meet_139 ?_
                        refine ww_iload (pc := 140) X dX7_meet_140 5 rfl ?_
                        refine ww_isub (pc := 142) X dX7_meet_142 ?_
                        refine ww_mabs (pc := 143) X (by decide +kernel) (by decide +kernel) (by decide +kernel) (by decide +kernel) (Nat.le_of_ble_eq_true rfl) (Nat.le_of_ble_eq_true rfl) (Nat.zero_le _) (Nat.zero_le _) dX7_meet_143 ?_
                        generalize hz16 : (if 0 ≤ ((z13 - (f_X3_age SF x2)) - x4) then ((z13 - (f_X3_age SF x2)) - x4) else 0 - ((z13 - (f_X3_age SF x2)) - x4)) = z16
                        refine ww_istore (pc := 146) (lv' := [(9, .int z16), (8, .int z13), (0, .ref (g 0 0)), (1, .int x1), (2, .int x2), (3, .int x3), (4, .int x4), (5, .int x5), (6, .int (it_X7_meet_85 ST SL SF x1 x2 x3 x4 x5 (2147483647 : Int32) j_85)), (7, .int (nI j_85))]) X dX7_meet_146 (by decide) rfl ?_
                        refine ww_iload (pc := 148) X dX7_meet_148 8 rfl ?_
                        refine ww_iload (pc := 150) X dX7_meet_150 0 rfl ?_
                        refine ww_bipush (pc := 152) (v := 100) X dX7_meet_152 (by decide) ?_
                        refine ww_imul (pc := 154) X dX7_meet_154 ?_
                        refine ww_iload (pc := 155) X dX7_meet_155 9 rfl ?_
                        refine ww_iadd (pc := 157) X dX7_meet_157 ?_
                        refine ww_mmin (pc := 158) X (by decide +kernel) (by decide +kernel) (by decide +kernel) (by decide +kernel) (Nat.le_of_ble_eq_true rfl) (Nat.le_of_ble_eq_true rfl) (Nat.zero_le _) (Nat.zero_le _) dX7_meet_158 ?_
                        generalize hz17 : (if ((z16 * 100) + (nI j_85)) < (it_X7_meet_85 ST SL SF x1 x2 x3 x4 x5 (2147483647 : Int32) j_85) then ((z16 * 100) + (nI j_85)) else (it_X7_meet_85 ST SL SF x1 x2 x3 x4 x5 (2147483647 : Int32) j_85)) = z17
                        refine ww_istore (pc := 161) (lv' := [(6, .int z17), (9, .int z16), (8, .int z13), (0, .ref (g 0 0)), (1, .int x1), (2, .int x2), (3, .int x3), (4, .int x4), (5, .int x5), (7, .int (nI j_85))]) X dX7_meet_161 (by decide) rfl ?_
                        refine ww_iinc (pc := 163) (v := (nI j_85) + 1) (lv' := [(7, .int ((nI j_85) + 1)), (6, .int z17), (9, .int z16), (8, .int z13), (0, .ref (g 0 0)), (1, .int x1), (2, .int x2), (3, .int x3), (4, .int x4), (5, .int x5)]) X dX7_meet_163 9 rfl rfl (by decide) rfl ?_
                        refine ww_goto (pc := 166) (tgt := 85) X dX7_meet_166 (by decide) ?_
                        have h18 : (it_X7_meet_85 ST SL SF x1 x2 x3 x4 x5 (2147483647 : Int32) (j_85 + 1)) = z17 := by
                          show bd_X7_meet_85 ST SL SF x1 x2 x3 x4 x5 j_85 (it_X7_meet_85 ST SL SF x1 x2 x3 x4 x5 (2147483647 : Int32) j_85) = _; unfold bd_X7_meet_85; try rw [hz13]; try unfold bd_X7_meet_85_k1; try rw [if_neg c14, hz16]; try unfold bd_X7_meet_85_k2; try rw [hz17]; try unfold bd_X7_meet_85_k3; first | done | rfl
                        refine ww_lsub [4, 5, 6, 7, 8, 9, 1, 0] rfl ?_
                        exact ww_castI (fun u9 : Int32 => fl [wX7 cI cZ cQ g ST, wX5 cI cZ cQ (g 2) SL, wX3 cI cZ cQ (g 4) SF]) (fun (u9 : Int32) (i9 : Int32) => ([(0, .ref (g 0 0)), (1, .int x1), (2, .int x2), (3, .int x3), (4, .int x4), (5, .int x5), (6, .int u9), (7, .int i9)] : List (Nat × Value))) h18 (ih (j_85 + 1) (by omega) K)
                  refine ww_lsub [2, 3, 4, 5, 6, 7, 1, 0] rfl ?_
                  refine L85 100 0 (by omega) ?_
                  generalize hz19 : ((it_X7_meet_85 ST SL SF x1 x2 x3 x4 x5 (2147483647 : Int32) 100)) = z19
                  refine ww_iload (pc := 169) X dX7_meet_169 6 rfl ?_
                  refine ww_ldc (pc := 171) (v := 2147483647) X (by decide +kernel) dX7_meet_171 ?_
                  refine ww_icmp_ne (pc := 173) (tgt := 178) X dX7_meet_173 (by decide) (fun c20 => ?_) (fun c20 => ?_)
                  · refine ww_iload (pc := 178) X dX7_meet_178 5 rfl ?_
                    refine ww_if_ne (pc := 180) (tgt := 191) X dX7_meet_180 (by decide) (fun c21 => ?_) (fun c21 => ?_)
                    · refine ww_iload (pc := 191) X dX7_meet_191 6 rfl ?_
                      refine ww_bipush (pc := 193) (v := 100) X dX7_meet_193 (by decide) ?_
                      refine ww_idiv (pc := 195) X dX7_meet_195 (by decide) ?_
                      exact ww_iret X hr rfl (Eq.symm (by unfold f_X7_meet; try rw [if_neg c1, if_neg c2, if_neg c3, if_neg c4, if_neg c5, if_pos c6, if_neg c7, if_neg c8, hz19]; try unfold f_X7_meet_k1; try rw [if_neg c20, if_neg c21]; first | done | rfl)) rfl dX7_meet_196
                    · refine ww_iload (pc := 183) X dX7_meet_183 6 rfl ?_
                      refine ww_bipush (pc := 185) (v := 100) X dX7_meet_185 (by decide) ?_
                      refine ww_irem (pc := 187) X dX7_meet_187 (by decide) ?_
                      refine ww_goto (pc := 188) (tgt := 196) X dX7_meet_188 (by decide) ?_
                      exact ww_iret X hr rfl (Eq.symm (by unfold f_X7_meet; try rw [if_neg c1, if_neg c2, if_neg c3, if_neg c4, if_neg c5, if_pos c6, if_neg c7, if_neg c8, hz19]; try unfold f_X7_meet_k1; try rw [if_neg c20, if_pos c21]; first | done | rfl)) rfl dX7_meet_196
                  · refine ww_iconst (pc := 176) (v := (-1)) X dX7_meet_176 (by decide) ?_
                    exact ww_iret X hr rfl (Eq.symm (by unfold f_X7_meet; try rw [if_neg c1, if_neg c2, if_neg c3, if_neg c4, if_neg c5, if_pos c6, if_neg c7, if_neg c8, hz19]; try unfold f_X7_meet_k1; try rw [if_pos c20]; first | done | rfl)) rfl dX7_meet_177
                · refine ww_ldc (pc := 75) (v := (-1000000003)) X (by decide +kernel) dX7_meet_75 ?_
                  exact ww_iret X hr rfl (Eq.symm (by unfold f_X7_meet; try rw [if_neg c1, if_neg c2, if_neg c3, if_neg c4, if_neg c5, if_pos c6, if_neg c7, if_pos c8]; first | done | rfl)) rfl dX7_meet_77
            · refine ww_ldc (pc := 50) (v := (-1000000002)) X (by decide +kernel) dX7_meet_50 ?_
              exact ww_iret X hr rfl (Eq.symm (by unfold f_X7_meet; try rw [if_neg c1, if_neg c2, if_neg c3, if_neg c4, if_neg c5, if_neg c6]; first | done | rfl)) rfl dX7_meet_52
    · refine ww_ldc (pc := 20) (v := (-1000000001)) X (by decide +kernel) dX7_meet_20 ?_
      exact ww_iret X hr rfl (Eq.symm (by unfold f_X7_meet; try rw [if_neg c1, if_pos c2]; first | done | rfl)) rfl dX7_meet_22
def f_X7_figuresOfStay (ST : St) (x1 : Int32) : Int32 :=
  if 1 ≤ x1 then
    ((10 * (((x1 - 1) / 9) + 1)) + ((x1 - 1) - (x1 - 1) / 9 * 9)) + 1
  else
    0
theorem hd_X7_figuresOfStay : yX7_figuresOfStay.cls = RX7 ∧ yX7_figuresOfStay.cls ≠ "java/lang/invoke/MethodHandle" ∧ yX7_figuresOfStay.cls ≠ "java/lang/invoke/VarHandle" ∧ (parseMethodDescriptor yX7_figuresOfStay.desc).map (fun d => d.parameters.length) = some 1 := by decide +kernel
set_option maxHeartbeats 4000000 in
set_option maxRecDepth 100000 in
theorem c_X7_figuresOfStay (l : Launch) (D : va_G) (cI cZ cQ : ClassId) (g : Nat → Nat → Nat) (ST : St) (x1 : Int32) : Ci l yX7_figuresOfStay wsX7_figuresOfStay { frames := 0, cells := 0, slots := 0, locals := 0 } D (tyL cI cZ cQ) [.ref (g 0 0), .int x1] (fl [wX7 cI cZ cQ g ST]) (f_X7_figuresOfStay ST x1) (fl [wX7 cI cZ cQ g ST]) := by
  refine ci_of (cc := cX7_figuresOfStay) (nL := 2) (ty := .int) (lv0 := [(0, .ref (g 0 0)), (1, .int x1)]) (by decide) rfl (Nat.le_of_ble_eq_true rfl) rfl ?_
  intro p e s m args below meth c A X hr
  refine ww_iload_n (pc := 0) X dX7_figuresOfStay_0 1 rfl rfl ?_
  refine ww_iconst (pc := 1) (v := 1) X dX7_figuresOfStay_1 (by decide) ?_
  refine ww_icmp_ge (pc := 2) (tgt := 9) X dX7_figuresOfStay_2 (by decide) (fun c1 => ?_) (fun c1 => ?_)
  · refine ww_bipush (pc := 9) (v := 10) X dX7_figuresOfStay_9 (by decide) ?_
    refine ww_iload_n (pc := 11) X dX7_figuresOfStay_11 1 rfl rfl ?_
    refine ww_iconst (pc := 12) (v := 1) X dX7_figuresOfStay_12 (by decide) ?_
    refine ww_isub (pc := 13) X dX7_figuresOfStay_13 ?_
    refine ww_bipush (pc := 14) (v := 9) X dX7_figuresOfStay_14 (by decide) ?_
    refine ww_idiv (pc := 16) X dX7_figuresOfStay_16 (by decide) ?_
    refine ww_iconst (pc := 17) (v := 1) X dX7_figuresOfStay_17 (by decide) ?_
    refine ww_iadd (pc := 18) X dX7_figuresOfStay_18 ?_
    refine ww_imul (pc := 19) X dX7_figuresOfStay_19 ?_
    refine ww_iload_n (pc := 20) X dX7_figuresOfStay_20 1 rfl rfl ?_
    refine ww_iconst (pc := 21) (v := 1) X dX7_figuresOfStay_21 (by decide) ?_
    refine ww_isub (pc := 22) X dX7_figuresOfStay_22 ?_
    refine ww_bipush (pc := 23) (v := 9) X dX7_figuresOfStay_23 (by decide) ?_
    refine ww_irem (pc := 25) X dX7_figuresOfStay_25 (by decide) ?_
    refine ww_iadd (pc := 26) X dX7_figuresOfStay_26 ?_
    refine ww_iconst (pc := 27) (v := 1) X dX7_figuresOfStay_27 (by decide) ?_
    refine ww_iadd (pc := 28) X dX7_figuresOfStay_28 ?_
    exact ww_iret X hr rfl (Eq.symm (by unfold f_X7_figuresOfStay; try rw [if_pos c1]; first | done | rfl)) rfl dX7_figuresOfStay_29
  · refine ww_iconst (pc := 5) (v := 0) X dX7_figuresOfStay_5 (by decide) ?_
    refine ww_goto (pc := 6) (tgt := 29) X dX7_figuresOfStay_6 (by decide) ?_
    exact ww_iret X hr rfl (Eq.symm (by unfold f_X7_figuresOfStay; try rw [if_neg c1]; first | done | rfl)) rfl dX7_figuresOfStay_29
def f_X7_yearsOfStay (ST : St) (SL : St) (x1 : Int32) : Int32 :=
  if x1 < 1 then
    0
  else
    if (f_X5_hasDepth SL ((x1 - 1) / 9)) = 0 then
      0
    else
      ((SL.2 0) (((x1 - 1) / 9 : Int32)).toNatClampNeg) * (((x1 - 1) - (x1 - 1) / 9 * 9) + 1)
theorem inX7_yearsOfStay_5 : ∀ w ∈ wsX50, w ∈ wsX7_yearsOfStay := by decide +kernel
theorem inX7_yearsOfStay_7 : ∀ w ∈ wsX70, w ∈ wsX7_yearsOfStay := by decide +kernel
theorem hd_X7_yearsOfStay : yX7_yearsOfStay.cls = RX7 ∧ yX7_yearsOfStay.cls ≠ "java/lang/invoke/MethodHandle" ∧ yX7_yearsOfStay.cls ≠ "java/lang/invoke/VarHandle" ∧ (parseMethodDescriptor yX7_yearsOfStay.desc).map (fun d => d.parameters.length) = some 1 := by decide +kernel
set_option maxHeartbeats 4000000 in
set_option maxRecDepth 100000 in
theorem c_X7_yearsOfStay (l : Launch) (D : va_G) (cI cZ cQ : ClassId) (g : Nat → Nat → Nat) (ST : St) (SL : St) (x1 : Int32) : Ci l yX7_yearsOfStay wsX7_yearsOfStay { frames := 1, cells := 0, slots := 0, locals := 21 } D (tyL cI cZ cQ) [.ref (g 0 0), .int x1] (fl [wX7 cI cZ cQ g ST, wX5 cI cZ cQ (g 2) SL]) (f_X7_yearsOfStay ST SL x1) (fl [wX7 cI cZ cQ g ST, wX5 cI cZ cQ (g 2) SL]) := by
  refine ci_of (cc := cX7_yearsOfStay) (nL := 3) (ty := .int) (lv0 := [(0, .ref (g 0 0)), (1, .int x1)]) (by decide) rfl (Nat.le_of_ble_eq_true rfl) rfl ?_
  intro p e s m args below meth c A X hr
  refine ww_iload_n (pc := 0) X dX7_yearsOfStay_0 1 rfl rfl ?_
  refine ww_iconst (pc := 1) (v := 1) X dX7_yearsOfStay_1 (by decide) ?_
  refine ww_isub (pc := 2) X dX7_yearsOfStay_2 ?_
  refine ww_bipush (pc := 3) (v := 9) X dX7_yearsOfStay_3 (by decide) ?_
  refine ww_idiv (pc := 5) X dX7_yearsOfStay_5 (by decide) ?_
  refine ww_istore_n (pc := 6) (lv' := [(2, .int ((x1 - 1) / 9)), (0, .ref (g 0 0)), (1, .int x1)]) X dX7_yearsOfStay_6 rfl (by decide) rfl ?_
  refine ww_iload_n (pc := 7) X dX7_yearsOfStay_7 2 rfl rfl ?_
  refine ww_iconst (pc := 8) (v := 1) X dX7_yearsOfStay_8 (by decide) ?_
  refine ww_icmp_lt (pc := 9) (tgt := 23) X dX7_yearsOfStay_9 (by decide) (fun c1 => ?_) (fun c1 => ?_)
  · refine ww_iconst (pc := 23) (v := 0) X dX7_yearsOfStay_23 (by decide) ?_
    refine ww_goto (pc := 24) (tgt := 45) X dX7_yearsOfStay_24 (by decide) ?_
    exact ww_iret X hr rfl (Eq.symm (by unfold f_X7_yearsOfStay; try rw [if_pos c1]; first | done | rfl)) rfl dX7_yearsOfStay_45
  · refine ww_aload_n (pc := 12) X dX7_yearsOfStay_12 1 rfl rfl ?_
    refine ww_get (pc := 13) (ci := 7) (v := .ref (g 2 0)) (C := RX7) (T := TX7) (N := 9) X inX7_yearsOfStay_7 0 rfl rfl 1 (by decide) (by decide +kernel) rfl dX7_yearsOfStay_13 ?_
    refine ww_iload_n (pc := 16) X dX7_yearsOfStay_16 0 rfl rfl ?_
    refine ww_gVi (pc := 17) (rest := []) (gsN := [wX7 cI cZ cQ g ST, wX5 cI cZ cQ (g 2) SL]) (ci := 5) (gi := 0) (qi := 0) X (c_X5_hasDepth l D cI cZ cQ (g 2) SL ((x1 - 1) / 9)) gX7_yearsOfStay_X5_hasDepth rfl hd_X5_hasDepth [false, true] rfl rfl rfl rfl rfl rfl rfl rfl ⟨rfl, rfl⟩ ⟨Nat.le_of_ble_eq_true rfl, Nat.le_of_ble_eq_true rfl⟩ (Nat.le_of_ble_eq_true rfl) ⟨Nat.zero_le _, Nat.zero_le _⟩ dX7_yearsOfStay_17 ?_
    refine ww_if_ne (pc := 20) (tgt := 27) X dX7_yearsOfStay_20 (by decide) (fun c2 => ?_) (fun c2 => ?_)
    · refine ww_aload_n (pc := 27) X dX7_yearsOfStay_27 1 rfl rfl ?_
      refine ww_get (pc := 28) (ci := 7) (v := .ref (g 2 0)) (C := RX7) (T := TX7) (N := 9) X inX7_yearsOfStay_7 0 rfl rfl 1 (by decide) (by decide +kernel) rfl dX7_yearsOfStay_28 ?_
      refine ww_get (pc := 31) (ci := 5) (v := .ref (g 2 1)) (C := RX5) (T := TX5) (N := 11) X inX7_yearsOfStay_5 1 rfl rfl 5 (by decide) (by decide +kernel) rfl dX7_yearsOfStay_31 ?_
      refine ww_iload_n (pc := 34) X dX7_yearsOfStay_34 0 rfl rfl ?_
      refine ww_iald (pc := 35) (f := SL.2 0) X 2 0 rfl rfl (in_X5_hasDepth c2) dX7_yearsOfStay_35 ?_
      refine ww_iload_n (pc := 36) X dX7_yearsOfStay_36 2 rfl rfl ?_
      refine ww_iconst (pc := 37) (v := 1) X dX7_yearsOfStay_37 (by decide) ?_
      refine ww_isub (pc := 38) X dX7_yearsOfStay_38 ?_
      refine ww_bipush (pc := 39) (v := 9) X dX7_yearsOfStay_39 (by decide) ?_
      refine ww_irem (pc := 41) X dX7_yearsOfStay_41 (by decide) ?_
      refine ww_iconst (pc := 42) (v := 1) X dX7_yearsOfStay_42 (by decide) ?_
      refine ww_iadd (pc := 43) X dX7_yearsOfStay_43 ?_
      refine ww_imul (pc := 44) X dX7_yearsOfStay_44 ?_
      exact ww_iret X hr rfl (Eq.symm (by unfold f_X7_yearsOfStay; try rw [if_neg c1, if_neg c2]; first | done | rfl)) rfl dX7_yearsOfStay_45
    · refine ww_iconst (pc := 23) (v := 0) X dX7_yearsOfStay_23 (by decide) ?_
      refine ww_goto (pc := 24) (tgt := 45) X dX7_yearsOfStay_24 (by decide) ?_
      exact ww_iret X hr rfl (Eq.symm (by unfold f_X7_yearsOfStay; try rw [if_neg c1, if_pos c2]; first | done | rfl)) rfl dX7_yearsOfStay_45
def f_X7_bothBy_k1 (ST : St) (SL : St) (SF : St) (x1 : Int32) (x2 : Int32) (x3 : Int32) (x4 : Int32) (z1 : Int32) : Int32 :=
  if (((f_X3_age SF x1) + z1) - (f_X7_yearsOfStay ST SL x2)) = (((f_X3_age SF x3) + z1) - (f_X7_yearsOfStay ST SL x4)) then
    if ((SL.2 2) ((x1 : Int32)).toNatClampNeg) ≤ (((f_X3_age SF x1) + z1) - (f_X7_yearsOfStay ST SL x2)) then
      2147483647
    else
      if (((f_X3_age SF x3) + z1) - (f_X7_yearsOfStay ST SL x4)) < ((SL.2 2) ((x3 : Int32)).toNatClampNeg) then
        ((z1 * 10000) + ((f_X7_figuresOfStay ST x2) * 100)) + (f_X7_figuresOfStay ST x4)
      else
        2147483647
  else
    2147483647
def f_X7_bothBy (ST : St) (SL : St) (SF : St) (x1 : Int32) (x2 : Int32) (x3 : Int32) (x4 : Int32) : Int32 :=
  f_X7_bothBy_k1 ST SL SF x1 x2 x3 x4 (if (f_X7_yearsOfStay ST SL x2) < (f_X7_yearsOfStay ST SL x4) then (f_X7_yearsOfStay ST SL x4) else (f_X7_yearsOfStay ST SL x2))
theorem inX7_bothBy_5 : ∀ w ∈ wsX50, w ∈ wsX7_bothBy := by decide +kernel
theorem inX7_bothBy_7 : ∀ w ∈ wsX70, w ∈ wsX7_bothBy := by decide +kernel
theorem hd_X7_bothBy : yX7_bothBy.cls = RX7 ∧ yX7_bothBy.cls ≠ "java/lang/invoke/MethodHandle" ∧ yX7_bothBy.cls ≠ "java/lang/invoke/VarHandle" ∧ (parseMethodDescriptor yX7_bothBy.desc).map (fun d => d.parameters.length) = some 4 := by decide +kernel
set_option maxHeartbeats 4000000 in
set_option maxRecDepth 100000 in
theorem c_X7_bothBy (l : Launch) (D : va_G) (cI cZ cQ : ClassId) (g : Nat → Nat → Nat) (ST : St) (SL : St) (SF : St) (x1 : Int32) (x2 : Int32) (x3 : Int32) (x4 : Int32) (hp : vp_in x1 7) (hq : vp_in x3 7) : Ci l yX7_bothBy wsX7_bothBy { frames := 2, cells := 0, slots := 0, locals := 43 } D (tyL cI cZ cQ) [.ref (g 0 0), .int x1, .int x2, .int x3, .int x4] (fl [wX7 cI cZ cQ g ST, wX5 cI cZ cQ (g 2) SL, wX3 cI cZ cQ (g 4) SF]) (f_X7_bothBy ST SL SF x1 x2 x3 x4) (fl [wX7 cI cZ cQ g ST, wX5 cI cZ cQ (g 2) SL, wX3 cI cZ cQ (g 4) SF]) := by
  refine ci_of (cc := cX7_bothBy) (nL := 10) (ty := .int) (lv0 := [(0, .ref (g 0 0)), (1, .int x1), (2, .int x2), (3, .int x3), (4, .int x4)]) (by decide) rfl (Nat.le_of_ble_eq_true rfl) rfl ?_
  intro p e s m args below meth c A X hr
  refine ww_aload_n (pc := 0) X dX7_bothBy_0 0 rfl rfl ?_
  refine ww_iload_n (pc := 1) X dX7_bothBy_1 2 rfl rfl ?_
  refine ww_gVi (pc := 2) (rest := []) (gsN := [wX7 cI cZ cQ g ST, wX5 cI cZ cQ (g 2) SL, wX3 cI cZ cQ (g 4) SF]) (ci := 7) (gi := 0) (qi := 0) X (c_X7_yearsOfStay l D cI cZ cQ g ST SL x2) gX7_bothBy_X7_yearsOfStay rfl hd_X7_yearsOfStay [true, true, false] rfl rfl rfl rfl rfl rfl rfl rfl ⟨rfl, rfl⟩ ⟨Nat.le_of_ble_eq_true rfl, Nat.le_of_ble_eq_true rfl⟩ (Nat.le_of_ble_eq_true rfl) ⟨Nat.zero_le _, Nat.zero_le _⟩ dX7_bothBy_2 ?_
  refine ww_istore (pc := 5) (lv' := [(5, .int (f_X7_yearsOfStay ST SL x2)), (0, .ref (g 0 0)), (1, .int x1), (2, .int x2), (3, .int x3), (4, .int x4)]) X dX7_bothBy_5 (by decide) rfl ?_
  refine ww_aload_n (pc := 7) X dX7_bothBy_7 1 rfl rfl ?_
  refine ww_iload (pc := 8) X dX7_bothBy_8 5 rfl ?_
  refine ww_gVi (pc := 10) (rest := []) (gsN := [wX7 cI cZ cQ g ST, wX5 cI cZ cQ (g 2) SL, wX3 cI cZ cQ (g 4) SF]) (ci := 7) (gi := 0) (qi := 0) X (c_X7_yearsOfStay l D cI cZ cQ g ST SL x4) gX7_bothBy_X7_yearsOfStay rfl hd_X7_yearsOfStay [true, true, false] rfl rfl rfl rfl rfl rfl rfl rfl ⟨rfl, rfl⟩ ⟨Nat.le_of_ble_eq_true rfl, Nat.le_of_ble_eq_true rfl⟩ (Nat.le_of_ble_eq_true rfl) ⟨Nat.zero_le _, Nat.zero_le _⟩ dX7_bothBy_10 ?_
  refine ww_istore (pc := 13) (lv' := [(6, .int (f_X7_yearsOfStay ST SL x4)), (5, .int (f_X7_yearsOfStay ST SL x2)), (0, .ref (g 0 0)), (1, .int x1), (2, .int x2), (3, .int x3), (4, .int x4)]) X dX7_bothBy_13 (by decide) rfl ?_
  refine ww_iload (pc := 15) X dX7_bothBy_15 1 rfl ?_
  refine ww_iload (pc := 17) X dX7_bothBy_17 0 rfl ?_
  refine ww_mmax (pc := 19) X (by decide +kernel) (by decide +kernel) (by decide +kernel) (by decide +kernel) (Nat.le_of_ble_eq_true rfl) (Nat.le_of_ble_eq_true rfl) (Nat.zero_le _) (Nat.zero_le _) dX7_bothBy_19 ?_
  generalize hz1 : (if (f_X7_yearsOfStay ST SL x2) < (f_X7_yearsOfStay ST SL x4) then (f_X7_yearsOfStay ST SL x4) else (f_X7_yearsOfStay ST SL x2)) = z1
  refine ww_istore (pc := 22) (lv' := [(7, .int z1), (6, .int (f_X7_yearsOfStay ST SL x4)), (5, .int (f_X7_yearsOfStay ST SL x2)), (0, .ref (g 0 0)), (1, .int x1), (2, .int x2), (3, .int x3), (4, .int x4)]) X dX7_bothBy_22 (by decide) rfl ?_
  refine ww_aload_n (pc := 24) X dX7_bothBy_24 3 rfl rfl ?_
  refine ww_get (pc := 25) (ci := 7) (v := .ref (g 4 0)) (C := RX7) (T := TX7) (N := 9) X inX7_bothBy_7 0 rfl rfl 3 (by decide) (by decide +kernel) rfl dX7_bothBy_25 ?_
  refine ww_iload_n (pc := 28) X dX7_bothBy_28 4 rfl rfl ?_
  refine ww_gVi (pc := 29) (rest := []) (gsN := [wX7 cI cZ cQ g ST, wX5 cI cZ cQ (g 2) SL, wX3 cI cZ cQ (g 4) SF]) (ci := 3) (gi := 0) (qi := 0) X (c_X3_age l D cI cZ cQ (g 4) SF x1) gX7_bothBy_X3_age rfl hd_X3_age [false, false, true] rfl rfl rfl rfl rfl rfl rfl rfl ⟨rfl, rfl⟩ ⟨Nat.le_of_ble_eq_true rfl, Nat.le_of_ble_eq_true rfl⟩ (Nat.le_of_ble_eq_true rfl) ⟨Nat.zero_le _, Nat.zero_le _⟩ dX7_bothBy_29 ?_
  refine ww_iload (pc := 32) X dX7_bothBy_32 0 rfl ?_
  refine ww_iadd (pc := 34) X dX7_bothBy_34 ?_
  refine ww_iload (pc := 35) X dX7_bothBy_35 2 rfl ?_
  refine ww_isub (pc := 37) X dX7_bothBy_37 ?_
  refine ww_istore (pc := 38) (lv' := [(8, .int (((f_X3_age SF x1) + z1) - (f_X7_yearsOfStay ST SL x2))), (7, .int z1), (6, .int (f_X7_yearsOfStay ST SL x4)), (5, .int (f_X7_yearsOfStay ST SL x2)), (0, .ref (g 0 0)), (1, .int x1), (2, .int x2), (3, .int x3), (4, .int x4)]) X dX7_bothBy_38 (by decide) rfl ?_
  refine ww_aload_n (pc := 40) X dX7_bothBy_40 4 rfl rfl ?_
  refine ww_get (pc := 41) (ci := 7) (v := .ref (g 4 0)) (C := RX7) (T := TX7) (N := 9) X inX7_bothBy_7 0 rfl rfl 3 (by decide) (by decide +kernel) rfl dX7_bothBy_41 ?_
  refine ww_iload_n (pc := 44) X dX7_bothBy_44 7 rfl rfl ?_
  refine ww_gVi (pc := 45) (rest := []) (gsN := [wX7 cI cZ cQ g ST, wX5 cI cZ cQ (g 2) SL, wX3 cI cZ cQ (g 4) SF]) (ci := 3) (gi := 0) (qi := 0) X (c_X3_age l D cI cZ cQ (g 4) SF x3) gX7_bothBy_X3_age rfl hd_X3_age [false, false, true] rfl rfl rfl rfl rfl rfl rfl rfl ⟨rfl, rfl⟩ ⟨Nat.le_of_ble_eq_true rfl, Nat.le_of_ble_eq_true rfl⟩ (Nat.le_of_ble_eq_true rfl) ⟨Nat.zero_le _, Nat.zero_le _⟩ dX7_bothBy_45 ?_
  refine ww_iload (pc := 48) X dX7_bothBy_48 1 rfl ?_
  refine ww_iadd (pc := 50) X dX7_bothBy_50 ?_
  refine ww_iload (pc := 51) X dX7_bothBy_51 2 rfl ?_
  refine ww_isub (pc := 53) X dX7_bothBy_53 ?_
  refine ww_istore (pc := 54) (lv' := [(9, .int (((f_X3_age SF x3) + z1) - (f_X7_yearsOfStay ST SL x4))), (8, .int (((f_X3_age SF x1) + z1) - (f_X7_yearsOfStay ST SL x2))), (7, .int z1), (6, .int (f_X7_yearsOfStay ST SL x4)), (5, .int (f_X7_yearsOfStay ST SL x2)), (0, .ref (g 0 0)), (1, .int x1), (2, .int x2), (3, .int x3), (4, .int x4)]) X dX7_bothBy_54 (by decide) rfl ?_
  refine ww_iload (pc := 56) X dX7_bothBy_56 1 rfl ?_
  refine ww_iload (pc := 58) X dX7_bothBy_58 0 rfl ?_
  refine ww_icmp_ne (pc := 60) (tgt := 91) X dX7_bothBy_60 (by decide) (fun c2 => ?_) (fun c2 => ?_)
  · refine ww_ldc (pc := 91) (v := 2147483647) X (by decide +kernel) dX7_bothBy_91 ?_
    exact ww_iret X hr rfl (Eq.symm (by unfold f_X7_bothBy; try rw [hz1]; try unfold f_X7_bothBy_k1; try rw [if_neg c2]; first | done | rfl)) rfl dX7_bothBy_93
  · refine ww_iload (pc := 63) X dX7_bothBy_63 1 rfl ?_
    refine ww_aload_n (pc := 65) X dX7_bothBy_65 5 rfl rfl ?_
    refine ww_get (pc := 66) (ci := 7) (v := .ref (g 2 0)) (C := RX7) (T := TX7) (N := 9) X inX7_bothBy_7 0 rfl rfl 1 (by decide) (by decide +kernel) rfl dX7_bothBy_66 ?_
    refine ww_get (pc := 69) (ci := 5) (v := .ref (g 2 3)) (C := RX5) (T := TX5) (N := 11) X inX7_bothBy_5 1 rfl rfl 7 (by decide) (by decide +kernel) rfl dX7_bothBy_69 ?_
    refine ww_iload_n (pc := 72) X dX7_bothBy_72 6 rfl rfl ?_
    refine ww_iald (pc := 73) (f := SL.2 2) X 4 0 rfl rfl hp dX7_bothBy_73 ?_
    refine ww_icmp_ge (pc := 74) (tgt := 91) X dX7_bothBy_74 (by decide) (fun c3 => ?_) (fun c3 => ?_)
    · refine ww_ldc (pc := 91) (v := 2147483647) X (by decide +kernel) dX7_bothBy_91 ?_
      exact ww_iret X hr rfl (Eq.symm (by unfold f_X7_bothBy; try rw [hz1]; try unfold f_X7_bothBy_k1; try rw [if_pos c2, if_pos c3]; first | done | rfl)) rfl dX7_bothBy_93
    · refine ww_iload (pc := 77) X dX7_bothBy_77 0 rfl ?_
      refine ww_aload_n (pc := 79) X dX7_bothBy_79 5 rfl rfl ?_
      refine ww_get (pc := 80) (ci := 7) (v := .ref (g 2 0)) (C := RX7) (T := TX7) (N := 9) X inX7_bothBy_7 0 rfl rfl 1 (by decide) (by decide +kernel) rfl dX7_bothBy_80 ?_
      refine ww_get (pc := 83) (ci := 5) (v := .ref (g 2 3)) (C := RX5) (T := TX5) (N := 11) X inX7_bothBy_5 1 rfl rfl 7 (by decide) (by decide +kernel) rfl dX7_bothBy_83 ?_
      refine ww_iload_n (pc := 86) X dX7_bothBy_86 8 rfl rfl ?_
      refine ww_iald (pc := 87) (f := SL.2 2) X 4 0 rfl rfl hq dX7_bothBy_87 ?_
      refine ww_icmp_lt (pc := 88) (tgt := 94) X dX7_bothBy_88 (by decide) (fun c4 => ?_) (fun c4 => ?_)
      · refine ww_iload (pc := 94) X dX7_bothBy_94 2 rfl ?_
        refine ww_sipush (pc := 96) (v := 10000) X dX7_bothBy_96 (by decide) ?_
        refine ww_imul (pc := 99) X dX7_bothBy_99 ?_
        refine ww_aload_n (pc := 100) X dX7_bothBy_100 5 rfl rfl ?_
        refine ww_iload_n (pc := 101) X dX7_bothBy_101 7 rfl rfl ?_
        refine ww_gVi (pc := 102) (rest := [.int (z1 * 10000)]) (gsN := [wX7 cI cZ cQ g ST, wX5 cI cZ cQ (g 2) SL, wX3 cI cZ cQ (g 4) SF]) (ci := 7) (gi := 0) (qi := 0) X (c_X7_figuresOfStay l D cI cZ cQ g ST x2) gX7_bothBy_X7_figuresOfStay rfl hd_X7_figuresOfStay [true, false, false] rfl rfl rfl rfl rfl rfl rfl rfl ⟨rfl, rfl⟩ ⟨Nat.le_of_ble_eq_true rfl, Nat.le_of_ble_eq_true rfl⟩ (Nat.le_of_ble_eq_true rfl) ⟨Nat.zero_le _, Nat.zero_le _⟩ dX7_bothBy_102 ?_
        refine ww_bipush (pc := 105) (v := 100) X dX7_bothBy_105 (by decide) ?_
        refine ww_imul (pc := 107) X dX7_bothBy_107 ?_
        refine ww_iadd (pc := 108) X dX7_bothBy_108 ?_
        refine ww_aload_n (pc := 109) X dX7_bothBy_109 5 rfl rfl ?_
        refine ww_iload (pc := 110) X dX7_bothBy_110 9 rfl ?_
        refine ww_gVi (pc := 112) (rest := [.int ((z1 * 10000) + ((f_X7_figuresOfStay ST x2) * 100))]) (gsN := [wX7 cI cZ cQ g ST, wX5 cI cZ cQ (g 2) SL, wX3 cI cZ cQ (g 4) SF]) (ci := 7) (gi := 0) (qi := 0) X (c_X7_figuresOfStay l D cI cZ cQ g ST x4) gX7_bothBy_X7_figuresOfStay rfl hd_X7_figuresOfStay [true, false, false] rfl rfl rfl rfl rfl rfl rfl rfl ⟨rfl, rfl⟩ ⟨Nat.le_of_ble_eq_true rfl, Nat.le_of_ble_eq_true rfl⟩ (Nat.le_of_ble_eq_true rfl) ⟨Nat.zero_le _, Nat.zero_le _⟩ dX7_bothBy_112 ?_
        refine ww_iadd (pc := 115) X dX7_bothBy_115 ?_
        exact ww_iret X hr rfl (Eq.symm (by unfold f_X7_bothBy; try rw [hz1]; try unfold f_X7_bothBy_k1; try rw [if_pos c2, if_neg c3, if_pos c4]; first | done | rfl)) rfl dX7_bothBy_116
      · refine ww_ldc (pc := 91) (v := 2147483647) X (by decide +kernel) dX7_bothBy_91 ?_
        exact ww_iret X hr rfl (Eq.symm (by unfold f_X7_bothBy; try rw [hz1]; try unfold f_X7_bothBy_k1; try rw [if_pos c2, if_neg c3, if_neg c4]; first | done | rfl)) rfl dX7_bothBy_93
def bd_X7_both_74_k1 (ST : St) (SL : St) (SF : St) (x1 : Int32) (x2 : Int32) (x3 : Int32) (j5 : Nat) (j : Nat) (u : Int32) (z6 : Int32) : Int32 :=
  z6
def bd_X7_both_74 (ST : St) (SL : St) (SF : St) (x1 : Int32) (x2 : Int32) (x3 : Int32) (j5 : Nat) (j : Nat) (u : Int32) : Int32 :=
  bd_X7_both_74_k1 ST SL SF x1 x2 x3 j5 j u (if (f_X7_bothBy ST SL SF x1 (nI j5) x2 (nI j)) < u then (f_X7_bothBy ST SL SF x1 (nI j5) x2 (nI j)) else u)
def it_X7_both_74 (ST : St) (SL : St) (SF : St) (x1 : Int32) (x2 : Int32) (x3 : Int32) (j5 : Nat) (u : Int32) : Nat → Int32
  | 0 => u
  | j + 1 => bd_X7_both_74 ST SL SF x1 x2 x3 j5 j (it_X7_both_74 ST SL SF x1 x2 x3 j5 u j)
def bd_X7_both_56_k1 (ST : St) (SL : St) (SF : St) (x1 : Int32) (x2 : Int32) (x3 : Int32) (j : Nat) (u : Int32) (z9 : Int32) : Int32 :=
  z9
def bd_X7_both_56 (ST : St) (SL : St) (SF : St) (x1 : Int32) (x2 : Int32) (x3 : Int32) (j : Nat) (u : Int32) : Int32 :=
  bd_X7_both_56_k1 ST SL SF x1 x2 x3 j u (it_X7_both_74 ST SL SF x1 x2 x3 j (u : Int32) (9 * (SL.1 2).toNatClampNeg + 1))
def it_X7_both_56 (ST : St) (SL : St) (SF : St) (x1 : Int32) (x2 : Int32) (x3 : Int32) (u : Int32) : Nat → Int32
  | 0 => u
  | j + 1 => bd_X7_both_56 ST SL SF x1 x2 x3 j (it_X7_both_56 ST SL SF x1 x2 x3 u j)
def f_X7_both_k1 (ST : St) (SL : St) (SF : St) (x1 : Int32) (x2 : Int32) (x3 : Int32) (z14 : Int32) : Int32 :=
  if z14 = 2147483647 then
    (-1)
  else
    if x3 = 0 then
      z14 / 10000
    else
      z14 - z14 / 10000 * 10000
def f_X7_both (ST : St) (SL : St) (SF : St) (x1 : Int32) (x2 : Int32) (x3 : Int32) : Int32 :=
  if (f_X7_areTwoPersons ST SL x1 x2) = 0 then
    (-1000000001)
  else
    if x3 < 0 then
      (-1000000002)
    else
      if x3 ≤ 1 then
        if (f_X3_isAbove SF x1) = 0 then
          (-1000000003)
        else
          if (f_X3_isAbove SF x2) = 0 then
            (-1000000003)
          else
            f_X7_both_k1 ST SL SF x1 x2 x3 (it_X7_both_56 ST SL SF x1 x2 x3 (2147483647 : Int32) (9 * (SL.1 2).toNatClampNeg + 1))
      else
        (-1000000002)
theorem inX7_both_5 : ∀ w ∈ wsX50, w ∈ wsX7_both := by decide +kernel
theorem inX7_both_7 : ∀ w ∈ wsX70, w ∈ wsX7_both := by decide +kernel
theorem hd_X7_both : yX7_both.cls = RX7 ∧ yX7_both.cls ≠ "java/lang/invoke/MethodHandle" ∧ yX7_both.cls ≠ "java/lang/invoke/VarHandle" ∧ (parseMethodDescriptor yX7_both.desc).map (fun d => d.parameters.length) = some 3 := by decide +kernel
set_option maxHeartbeats 4000000 in
set_option maxRecDepth 100000 in
theorem c_X7_both (l : Launch) (D : va_G) (cI cZ cQ : ClassId) (g : Nat → Nat → Nat) (ST : St) (SL : St) (SF : St) (x1 : Int32) (x2 : Int32) (x3 : Int32) (okL : okS SL) (okN : okN SL) : Ci l yX7_both wsX7_both { frames := 3, cells := 0, slots := 0, locals := 72 } D (tyL cI cZ cQ) [.ref (g 0 0), .int x1, .int x2, .int x3] (fl [wX7 cI cZ cQ g ST, wX5 cI cZ cQ (g 2) SL, wX3 cI cZ cQ (g 4) SF]) (f_X7_both ST SL SF x1 x2 x3) (fl [wX7 cI cZ cQ g ST, wX5 cI cZ cQ (g 2) SL, wX3 cI cZ cQ (g 4) SF]) := by
  refine ci_of (cc := cX7_both) (nL := 7) (ty := .int) (lv0 := [(0, .ref (g 0 0)), (1, .int x1), (2, .int x2), (3, .int x3)]) (by decide) rfl (Nat.le_of_ble_eq_true rfl) rfl ?_
  intro p e s m args below meth c A X hr
  have h4 := okS_d okL
  refine ww_aload_n (pc := 0) X dX7_both_0 0 rfl rfl ?_
  refine ww_iload_n (pc := 1) X dX7_both_1 1 rfl rfl ?_
  refine ww_iload_n (pc := 2) X dX7_both_2 2 rfl rfl ?_
  refine ww_gVi (pc := 3) (rest := []) (gsN := [wX7 cI cZ cQ g ST, wX5 cI cZ cQ (g 2) SL, wX3 cI cZ cQ (g 4) SF]) (ci := 7) (gi := 0) (qi := 0) X (c_X7_areTwoPersons l D cI cZ cQ g ST SL x1 x2) gX7_both_X7_areTwoPersons rfl hd_X7_areTwoPersons [true, true, false] rfl rfl rfl rfl rfl rfl rfl rfl ⟨rfl, rfl⟩ ⟨Nat.le_of_ble_eq_true rfl, Nat.le_of_ble_eq_true rfl⟩ (Nat.le_of_ble_eq_true rfl) ⟨Nat.zero_le _, Nat.zero_le _⟩ dX7_both_3 ?_
  refine ww_if_ne (pc := 6) (tgt := 12) X dX7_both_6 (by decide) (fun c1 => ?_) (fun c1 => ?_)
  · refine ww_iload_n (pc := 12) X dX7_both_12 3 rfl rfl ?_
    refine ww_if_lt (pc := 13) (tgt := 21) X dX7_both_13 (by decide) (fun c2 => ?_) (fun c2 => ?_)
    · refine ww_ldc (pc := 21) (v := (-1000000002)) X (by decide +kernel) dX7_both_21 ?_
      exact ww_iret X hr rfl (Eq.symm (by unfold f_X7_both; try rw [if_neg c1, if_pos c2]; first | done | rfl)) rfl dX7_both_23
    · refine ww_iload_n (pc := 16) X dX7_both_16 3 rfl rfl ?_
      refine ww_iconst (pc := 17) (v := 1) X dX7_both_17 (by decide) ?_
      refine ww_icmp_le (pc := 18) (tgt := 24) X dX7_both_18 (by decide) (fun c3 => ?_) (fun c3 => ?_)
      · refine ww_aload_n (pc := 24) X dX7_both_24 0 rfl rfl ?_
        refine ww_get (pc := 25) (ci := 7) (v := .ref (g 4 0)) (C := RX7) (T := TX7) (N := 9) X inX7_both_7 0 rfl rfl 3 (by decide) (by decide +kernel) rfl dX7_both_25 ?_
        refine ww_iload_n (pc := 28) X dX7_both_28 1 rfl rfl ?_
        refine ww_gVi (pc := 29) (rest := []) (gsN := [wX7 cI cZ cQ g ST, wX5 cI cZ cQ (g 2) SL, wX3 cI cZ cQ (g 4) SF]) (ci := 3) (gi := 0) (qi := 0) X (c_X3_isAbove l D cI cZ cQ (g 4) SF x1) gX7_both_X3_isAbove rfl hd_X3_isAbove [false, false, true] rfl rfl rfl rfl rfl rfl rfl rfl ⟨rfl, rfl⟩ ⟨Nat.le_of_ble_eq_true rfl, Nat.le_of_ble_eq_true rfl⟩ (Nat.le_of_ble_eq_true rfl) ⟨Nat.zero_le _, Nat.zero_le _⟩ dX7_both_29 ?_
        refine ww_if_eq (pc := 32) (tgt := 46) X dX7_both_32 (by decide) (fun c4 => ?_) (fun c4 => ?_)
        · refine ww_ldc (pc := 46) (v := (-1000000003)) X (by decide +kernel) dX7_both_46 ?_
          exact ww_iret X hr rfl (Eq.symm (by unfold f_X7_both; try rw [if_neg c1, if_neg c2, if_pos c3, if_pos c4]; first | done | rfl)) rfl dX7_both_48
        · refine ww_aload_n (pc := 35) X dX7_both_35 0 rfl rfl ?_
          refine ww_get (pc := 36) (ci := 7) (v := .ref (g 4 0)) (C := RX7) (T := TX7) (N := 9) X inX7_both_7 0 rfl rfl 3 (by decide) (by decide +kernel) rfl dX7_both_36 ?_
          refine ww_iload_n (pc := 39) X dX7_both_39 2 rfl rfl ?_
          refine ww_gVi (pc := 40) (rest := []) (gsN := [wX7 cI cZ cQ g ST, wX5 cI cZ cQ (g 2) SL, wX3 cI cZ cQ (g 4) SF]) (ci := 3) (gi := 0) (qi := 0) X (c_X3_isAbove l D cI cZ cQ (g 4) SF x2) gX7_both_X3_isAbove rfl hd_X3_isAbove [false, false, true] rfl rfl rfl rfl rfl rfl rfl rfl ⟨rfl, rfl⟩ ⟨Nat.le_of_ble_eq_true rfl, Nat.le_of_ble_eq_true rfl⟩ (Nat.le_of_ble_eq_true rfl) ⟨Nat.zero_le _, Nat.zero_le _⟩ dX7_both_40 ?_
          refine ww_if_ne (pc := 43) (tgt := 49) X dX7_both_43 (by decide) (fun c5 => ?_) (fun c5 => ?_)
          · refine ww_ldc (pc := 49) (v := 2147483647) X (by decide +kernel) dX7_both_49 ?_
            refine ww_istore (pc := 51) (lv' := [(4, .int 2147483647), (0, .ref (g 0 0)), (1, .int x1), (2, .int x2), (3, .int x3)]) X dX7_both_51 (by decide) rfl ?_
            refine ww_iconst (pc := 53) (v := 0) X dX7_both_53 (by decide) ?_
            refine ww_istore (pc := 54) (lv' := [(5, .int 0), (4, .int 2147483647), (0, .ref (g 0 0)), (1, .int x1), (2, .int x2), (3, .int x3)]) X dX7_both_54 (by decide) rfl ?_
            have L56 : ∀ (k_56 j_56 : Nat), j_56 + k_56 = 9 * (SL.1 2).toNatClampNeg + 1 → WW p l e (headSpec wsX7_both { frames := 3, cells := 0, slots := 0, locals := 72 }).room s m args below meth c 7 D A 0 0 (RQi below args s D A (f_X7_both ST SL SF x1 x2 x3) (fl [wX7 cI cZ cQ g ST, wX5 cI cZ cQ (g 2) SL, wX3 cI cZ cQ (g 4) SF])) (fl [wX7 cI cZ cQ g ST, wX5 cI cZ cQ (g 2) SL, wX3 cI cZ cQ (g 4) SF]) [(0, .ref (g 0 0)), (1, .int x1), (2, .int x2), (3, .int x3), (4, .int (it_X7_both_56 ST SL SF x1 x2 x3 (2147483647 : Int32) (9 * (SL.1 2).toNatClampNeg + 1))), (5, .int (nI (9 * (SL.1 2).toNatClampNeg + 1)))] 118 [] → WW p l e (headSpec wsX7_both { frames := 3, cells := 0, slots := 0, locals := 72 }).room s m args below meth c 7 D A 0 0 (RQi below args s D A (f_X7_both ST SL SF x1 x2 x3) (fl [wX7 cI cZ cQ g ST, wX5 cI cZ cQ (g 2) SL, wX3 cI cZ cQ (g 4) SF])) (fl [wX7 cI cZ cQ g ST, wX5 cI cZ cQ (g 2) SL, wX3 cI cZ cQ (g 4) SF]) [(0, .ref (g 0 0)), (1, .int x1), (2, .int x2), (3, .int x3), (4, .int (it_X7_both_56 ST SL SF x1 x2 x3 (2147483647 : Int32) j_56)), (5, .int (nI j_56))] 56 [] := by
              intro k_56
              induction k_56 with
              | zero =>
                intro j_56 hj K
                have hjB : j_56 = 9 * (SL.1 2).toNatClampNeg + 1 := by omega
                subst hjB
                refine ww_iload (pc := 56) X dX7_both_56 5 rfl ?_
                refine ww_bipush (pc := 58) (v := 9) X dX7_both_58 (by decide) ?_
                refine ww_aload_n (pc := 60) X dX7_both_60 0 rfl rfl ?_
                refine ww_get (pc := 61) (ci := 7) (v := .ref (g 2 0)) (C := RX7) (T := TX7) (N := 9) X inX7_both_7 0 rfl rfl 1 (by decide) (by decide +kernel) rfl dX7_both_61 ?_
                refine ww_get (pc := 64) (ci := 5) (v := .int (SL.1 2)) (C := RX5) (T := TX5) (N := 11) X inX7_both_5 1 rfl rfl 2 (by decide) (by decide +kernel) rfl dX7_both_64 ?_
                refine ww_imul (pc := 67) X dX7_both_67 ?_
                exact ww_icmp_gt (pc := 68) (tgt := 118) X dX7_both_68 (by decide) (fun _ => K) (fun c9 => absurd (lp_gt0 (nat_imul (a := 9) (b := (SL.1 2).toNatClampNeg) rfl (cl_eq okN.1)) (Nat.le_refl _) (by omega)) c9)
              | succ k_56 ih =>
                intro j_56 hj K
                have hjB : j_56 < 9 * (SL.1 2).toNatClampNeg + 1 := by omega
                refine ww_iload (pc := 56) X dX7_both_56 5 rfl ?_
                refine ww_bipush (pc := 58) (v := 9) X dX7_both_58 (by decide) ?_
                refine ww_aload_n (pc := 60) X dX7_both_60 0 rfl rfl ?_
                refine ww_get (pc := 61) (ci := 7) (v := .ref (g 2 0)) (C := RX7) (T := TX7) (N := 9) X inX7_both_7 0 rfl rfl 1 (by decide) (by decide +kernel) rfl dX7_both_61 ?_
                refine ww_get (pc := 64) (ci := 5) (v := .int (SL.1 2)) (C := RX5) (T := TX5) (N := 11) X inX7_both_5 1 rfl rfl 2 (by decide) (by decide +kernel) rfl dX7_both_64 ?_
                refine ww_imul (pc := 67) X dX7_both_67 ?_
                refine ww_icmp_gt (pc := 68) (tgt := 118) X dX7_both_68 (by decide) (fun c9 => absurd c9 (lp_gt1 (nat_imul (a := 9) (b := (SL.1 2).toNatClampNeg) rfl (cl_eq okN.1)) hjB (by omega))) (fun _ => ?_)
                refine ww_iconst (pc := 71) (v := 0) X dX7_both_71 (by decide) ?_
                refine ww_istore (pc := 72) (lv' := [(6, .int 0), (0, .ref (g 0 0)), (1, .int x1), (2, .int x2), (3, .int x3), (4, .int (it_X7_both_56 ST SL SF x1 x2 x3 (2147483647 : Int32) j_56)), (5, .int (nI j_56))]) X dX7_both_72 (by decide) rfl ?_
                have L74 : ∀ (k_74 j_74 : Nat), j_74 + k_74 = 9 * (SL.1 2).toNatClampNeg + 1 → WW p l e (headSpec wsX7_both { frames := 3, cells := 0, slots := 0, locals := 72 }).room s m args below meth c 7 D A 0 0 (RQi below args s D A (f_X7_both ST SL SF x1 x2 x3) (fl [wX7 cI cZ cQ g ST, wX5 cI cZ cQ (g 2) SL, wX3 cI cZ cQ (g 4) SF])) (fl [wX7 cI cZ cQ g ST, wX5 cI cZ cQ (g 2) SL, wX3 cI cZ cQ (g 4) SF]) [(0, .ref (g 0 0)), (1, .int x1), (2, .int x2), (3, .int x3), (4, .int (it_X7_both_74 ST SL SF x1 x2 x3 j_56 ((it_X7_both_56 ST SL SF x1 x2 x3 (2147483647 : Int32) j_56) : Int32) (9 * (SL.1 2).toNatClampNeg + 1))), (5, .int (nI j_56)), (6, .int (nI (9 * (SL.1 2).toNatClampNeg + 1)))] 112 [] → WW p l e (headSpec wsX7_both { frames := 3, cells := 0, slots := 0, locals := 72 }).room s m args below meth c 7 D A 0 0 (RQi below args s D A (f_X7_both ST SL SF x1 x2 x3) (fl [wX7 cI cZ cQ g ST, wX5 cI cZ cQ (g 2) SL, wX3 cI cZ cQ (g 4) SF])) (fl [wX7 cI cZ cQ g ST, wX5 cI cZ cQ (g 2) SL, wX3 cI cZ cQ (g 4) SF]) [(0, .ref (g 0 0)), (1, .int x1), (2, .int x2), (3, .int x3), (4, .int (it_X7_both_74 ST SL SF x1 x2 x3 j_56 ((it_X7_both_56 ST SL SF x1 x2 x3 (2147483647 : Int32) j_56) : Int32) j_74)), (5, .int (nI j_56)), (6, .int (nI j_74))] 74 [] := by
                  intro k_74
                  induction k_74 with
                  | zero =>
                    intro j_74 hj K
                    have hjB : j_74 = 9 * (SL.1 2).toNatClampNeg + 1 := by omega
                    subst hjB
                    refine ww_iload (pc := 74) X dX7_both_74 6 rfl ?_
                    refine ww_bipush (pc := 76) (v := 9) X dX7_both_76 (by decide) ?_
                    refine ww_aload_n (pc := 78) X dX7_both_78 0 rfl rfl ?_
                    refine ww_get (pc := 79) (ci := 7) (v := .ref (g 2 0)) (C := RX7) (T := TX7) (N := 9) X inX7_both_7 0 rfl rfl 1 (by decide) (by decide +kernel) rfl dX7_both_79 ?_
                    refine ww_get (pc := 82) (ci := 5) (v := .int (SL.1 2)) (C := RX5) (T := TX5) (N := 11) X inX7_both_5 1 rfl rfl 2 (by decide) (by decide +kernel) rfl dX7_both_82 ?_
                    refine ww_imul (pc := 85) X dX7_both_85 ?_
                    exact ww_icmp_gt (pc := 86) (tgt := 112) X dX7_both_86 (by decide) (fun _ => K) (fun c9 => absurd (lp_gt0 (nat_imul (a := 9) (b := (SL.1 2).toNatClampNeg) rfl (cl_eq okN.1)) (Nat.le_refl _) (by omega)) c9)
                  | succ k_74 ih =>
                    intro j_74 hj K
                    have hjB : j_74 < 9 * (SL.1 2).toNatClampNeg + 1 := by omega
                    refine ww_iload (pc := 74) X dX7_both_74 6 rfl ?_
                    refine ww_bipush (pc := 76) (v := 9) X dX7_both_76 (by decide) ?_
                    refine ww_aload_n (pc := 78) X dX7_both_78 0 rfl rfl ?_
                    refine ww_get (pc := 79) (ci := 7) (v := .ref (g 2 0)) (C := RX7) (T := TX7) (N := 9) X inX7_both_7 0 rfl rfl 1 (by decide) (by decide +kernel) rfl dX7_both_79 ?_
                    refine ww_get (pc := 82) (ci := 5) (v := .int (SL.1 2)) (C := RX5) (T := TX5) (N := 11) X inX7_both_5 1 rfl rfl 2 (by decide) (by decide +kernel) rfl dX7_both_82 ?_
                    refine ww_imul (pc := 85) X dX7_both_85 ?_
                    refine ww_icmp_gt (pc := 86) (tgt := 112) X dX7_both_86 (by decide) (fun c9 => absurd c9 (lp_gt1 (nat_imul (a := 9) (b := (SL.1 2).toNatClampNeg) rfl (cl_eq okN.1)) hjB (by omega))) (fun _ => ?_)
                    refine ww_iload (pc := 89) X dX7_both_89 4 rfl ?_
                    refine ww_aload_n (pc := 91) X dX7_both_91 0 rfl rfl ?_
                    refine ww_iload_n (pc := 92) X dX7_both_92 1 rfl rfl ?_
                    refine ww_iload (pc := 93) X dX7_both_93 5 rfl ?_
                    refine ww_iload_n (pc := 95) X dX7_both_95 2 rfl rfl ?_
                    refine ww_iload (pc := 96) X dX7_both_96 6 rfl ?_
                    refine ww_gVi (pc := 98) (rest := [.int (it_X7_both_74 ST SL SF x1 x2 x3 j_56 ((it_X7_both_56 ST SL SF x1 x2 x3 (2147483647 : Int32) j_56) : Int32) j_74)]) (gsN := [wX7 cI cZ cQ g ST, wX5 cI cZ cQ (g 2) SL, wX3 cI cZ cQ (g 4) SF]) (ci := 7) (gi := 0) (qi := 0) X (c_X7_bothBy l D cI cZ cQ g ST SL SF x1 (nI j_56) x2 (nI j_74) (in_X7_two1 c1) (in_X7_two2 c1)) gX7_both_X7_bothBy rfl hd_X7_bothBy [true, true, true] rfl rfl rfl rfl rfl rfl rfl rfl ⟨rfl, rfl⟩ ⟨Nat.le_of_ble_eq_true rfl, Nat.le_of_ble_eq_true rfl⟩ (Nat.le_of_ble_eq_true rfl) ⟨Nat.zero_le _, Nat.zero_le _⟩ dX7_both_98 ?_
                    refine ww_mmin (pc := 101) X (by decide +kernel) (by decide +kernel) (by decide +kernel) (by decide +kernel) (Nat.le_of_ble_eq_true rfl) (Nat.le_of_ble_eq_true rfl) (Nat.zero_le _) (Nat.zero_le _) dX7_both_101 ?_
                    generalize hz10 : (if (f_X7_bothBy ST SL SF x1 (nI j_56) x2 (nI j_74)) < (it_X7_both_74 ST SL SF x1 x2 x3 j_56 ((it_X7_both_56 ST SL SF x1 x2 x3 (2147483647 : Int32) j_56) : Int32) j_74) then (f_X7_bothBy ST SL SF x1 (nI j_56) x2 (nI j_74)) else (it_X7_both_74 ST SL SF x1 x2 x3 j_56 ((it_X7_both_56 ST SL SF x1 x2 x3 (2147483647 : Int32) j_56) : Int32) j_74)) = z10
                    refine ww_istore (pc := 104) (lv' := [(4, .int z10), (0, .ref (g 0 0)), (1, .int x1), (2, .int x2), (3, .int x3), (5, .int (nI j_56)), (6, .int (nI j_74))]) X dX7_both_104 (by decide) rfl ?_
                    refine ww_iinc (pc := 106) (v := (nI j_74) + 1) (lv' := [(6, .int ((nI j_74) + 1)), (4, .int z10), (0, .ref (g 0 0)), (1, .int x1), (2, .int x2), (3, .int x3), (5, .int (nI j_56))]) X dX7_both_106 6 rfl rfl (by decide) rfl ?_
                    refine ww_goto (pc := 109) (tgt := 74) X dX7_both_109 (by decide) ?_
                    have h11 : (it_X7_both_74 ST SL SF x1 x2 x3 j_56 ((it_X7_both_56 ST SL SF x1 x2 x3 (2147483647 : Int32) j_56) : Int32) (j_74 + 1)) = z10 := by
                      show bd_X7_both_74 ST SL SF x1 x2 x3 j_56 j_74 (it_X7_both_74 ST SL SF x1 x2 x3 j_56 ((it_X7_both_56 ST SL SF x1 x2 x3 (2147483647 : Int32) j_56) : Int32) j_74) = _; unfold bd_X7_both_74; try rw [hz10]; try unfold bd_X7_both_74_k1; first | done | rfl
                    refine ww_lsub [2, 3, 4, 5, 1, 6, 0] rfl ?_
                    exact ww_castI (fun u9 : Int32 => fl [wX7 cI cZ cQ g ST, wX5 cI cZ cQ (g 2) SL, wX3 cI cZ cQ (g 4) SF]) (fun (u9 : Int32) (i9 : Int32) => ([(0, .ref (g 0 0)), (1, .int x1), (2, .int x2), (3, .int x3), (4, .int u9), (5, .int (nI j_56)), (6, .int i9)] : List (Nat × Value))) h11 (ih (j_74 + 1) (by omega) K)
                refine ww_lsub [1, 2, 3, 4, 5, 6, 0] rfl ?_
                refine L74 (9 * (SL.1 2).toNatClampNeg + 1) 0 (by omega) ?_
                generalize hz12 : ((it_X7_both_74 ST SL SF x1 x2 x3 j_56 ((it_X7_both_56 ST SL SF x1 x2 x3 (2147483647 : Int32) j_56) : Int32) (9 * (SL.1 2).toNatClampNeg + 1))) = z12
                refine ww_iinc (pc := 112) (v := (nI j_56) + 1) (lv' := [(5, .int ((nI j_56) + 1)), (0, .ref (g 0 0)), (1, .int x1), (2, .int x2), (3, .int x3), (4, .int z12), (6, .int (nI (9 * (SL.1 2).toNatClampNeg + 1)))]) X dX7_both_112 5 rfl rfl (by decide) rfl ?_
                refine ww_goto (pc := 115) (tgt := 56) X dX7_both_115 (by decide) ?_
                have h13 : (it_X7_both_56 ST SL SF x1 x2 x3 (2147483647 : Int32) (j_56 + 1)) = z12 := by
                  show bd_X7_both_56 ST SL SF x1 x2 x3 j_56 (it_X7_both_56 ST SL SF x1 x2 x3 (2147483647 : Int32) j_56) = _; unfold bd_X7_both_56; try rw [hz12]; try unfold bd_X7_both_56_k1; first | done | rfl
                refine ww_lsub [1, 2, 3, 4, 5, 0] rfl ?_
                exact ww_castI (fun u9 : Int32 => fl [wX7 cI cZ cQ g ST, wX5 cI cZ cQ (g 2) SL, wX3 cI cZ cQ (g 4) SF]) (fun (u9 : Int32) (i9 : Int32) => ([(0, .ref (g 0 0)), (1, .int x1), (2, .int x2), (3, .int x3), (4, .int u9), (5, .int i9)] : List (Nat × Value))) h13 (ih (j_56 + 1) (by omega) K)
            refine ww_lsub [2, 3, 4, 5, 1, 0] rfl ?_
            refine L56 (9 * (SL.1 2).toNatClampNeg + 1) 0 (by omega) ?_
            generalize hz14 : ((it_X7_both_56 ST SL SF x1 x2 x3 (2147483647 : Int32) (9 * (SL.1 2).toNatClampNeg + 1))) = z14
            refine ww_iload (pc := 118) X dX7_both_118 4 rfl ?_
            refine ww_ldc (pc := 120) (v := 2147483647) X (by decide +kernel) dX7_both_120 ?_
            refine ww_icmp_ne (pc := 122) (tgt := 127) X dX7_both_122 (by decide) (fun c15 => ?_) (fun c15 => ?_)
            · refine ww_iload_n (pc := 127) X dX7_both_127 3 rfl rfl ?_
              refine ww_if_ne (pc := 128) (tgt := 140) X dX7_both_128 (by decide) (fun c16 => ?_) (fun c16 => ?_)
              · refine ww_iload (pc := 140) X dX7_both_140 4 rfl ?_
                refine ww_sipush (pc := 142) (v := 10000) X dX7_both_142 (by decide) ?_
                refine ww_irem (pc := 145) X dX7_both_145 (by decide) ?_
                exact ww_iret X hr rfl (Eq.symm (by unfold f_X7_both; try rw [if_neg c1, if_neg c2, if_pos c3, if_neg c4, if_neg c5, hz14]; try unfold f_X7_both_k1; try rw [if_neg c15, if_neg c16]; first | done | rfl)) rfl dX7_both_146
              · refine ww_iload (pc := 131) X dX7_both_131 4 rfl ?_
                refine ww_sipush (pc := 133) (v := 10000) X dX7_both_133 (by decide) ?_
                refine ww_idiv (pc := 136) X dX7_both_136 (by decide) ?_
                refine ww_goto (pc := 137) (tgt := 146) X dX7_both_137 (by decide) ?_
                exact ww_iret X hr rfl (Eq.symm (by unfold f_X7_both; try rw [if_neg c1, if_neg c2, if_pos c3, if_neg c4, if_neg c5, hz14]; try unfold f_X7_both_k1; try rw [if_neg c15, if_pos c16]; first | done | rfl)) rfl dX7_both_146
            · refine ww_iconst (pc := 125) (v := (-1)) X dX7_both_125 (by decide) ?_
              exact ww_iret X hr rfl (Eq.symm (by unfold f_X7_both; try rw [if_neg c1, if_neg c2, if_pos c3, if_neg c4, if_neg c5, hz14]; try unfold f_X7_both_k1; try rw [if_pos c15]; first | done | rfl)) rfl dX7_both_126
          · refine ww_ldc (pc := 46) (v := (-1000000003)) X (by decide +kernel) dX7_both_46 ?_
            exact ww_iret X hr rfl (Eq.symm (by unfold f_X7_both; try rw [if_neg c1, if_neg c2, if_pos c3, if_neg c4, if_pos c5]; first | done | rfl)) rfl dX7_both_48
      · refine ww_ldc (pc := 21) (v := (-1000000002)) X (by decide +kernel) dX7_both_21 ?_
        exact ww_iret X hr rfl (Eq.symm (by unfold f_X7_both; try rw [if_neg c1, if_neg c2, if_neg c3]; first | done | rfl)) rfl dX7_both_23
  · refine ww_ldc (pc := 9) (v := (-1000000001)) X (by decide +kernel) dX7_both_9 ?_
    exact ww_iret X hr rfl (Eq.symm (by unfold f_X7_both; try rw [if_pos c1]; first | done | rfl)) rfl dX7_both_11
def bd_X7_leave_31 (ST : St) (SL : St) (SF : St) (x1 : Int32) (x2 : Int32) (j : Nat) (u : Int32 × Int32) : Int32 × Int32 :=
  if (f_X5_worthBehind SL (nI j) (f_X3_worth SF (nI j)) x1) ≤ u.2 then
    (u.1, u.2)
  else
    ((nI j), f_X5_worthBehind SL (nI j) (f_X3_worth SF (nI j)) x1)
def it_X7_leave_31 (ST : St) (SL : St) (SF : St) (x1 : Int32) (x2 : Int32) (u : Int32 × Int32) : Nat → Int32 × Int32
  | 0 => u
  | j + 1 => bd_X7_leave_31 ST SL SF x1 x2 j (it_X7_leave_31 ST SL SF x1 x2 u j)
def f_X7_leave_k1 (ST : St) (SL : St) (SF : St) (x1 : Int32) (x2 : Int32) (z9 : Int32 × Int32) : Int32 :=
  if x2 = 0 then
    z9.1
  else
    z9.2
def f_X7_leave (ST : St) (SL : St) (SF : St) (x1 : Int32) (x2 : Int32) : Int32 :=
  if x1 < 0 then
    (-1000000002)
  else
    if 300 < x1 then
      (-1000000002)
    else
      if x2 < 0 then
        (-1000000002)
      else
        if x2 ≤ 1 then
          f_X7_leave_k1 ST SL SF x1 x2 (it_X7_leave_31 ST SL SF x1 x2 ((-1), (-1)) ((SL.1 4).toNatClampNeg))
        else
          (-1000000002)
theorem inX7_leave_5 : ∀ w ∈ wsX50, w ∈ wsX7_leave := by decide +kernel
theorem inX7_leave_7 : ∀ w ∈ wsX70, w ∈ wsX7_leave := by decide +kernel
theorem hd_X7_leave : yX7_leave.cls = RX7 ∧ yX7_leave.cls ≠ "java/lang/invoke/MethodHandle" ∧ yX7_leave.cls ≠ "java/lang/invoke/VarHandle" ∧ (parseMethodDescriptor yX7_leave.desc).map (fun d => d.parameters.length) = some 2 := by decide +kernel
set_option maxHeartbeats 4000000 in
set_option maxRecDepth 100000 in
theorem c_X7_leave (l : Launch) (D : va_G) (cI cZ cQ : ClassId) (g : Nat → Nat → Nat) (ST : St) (SL : St) (SF : St) (x1 : Int32) (x2 : Int32) (okL : okS SL) : Ci l yX7_leave wsX7_leave { frames := 3, cells := 0, slots := 0, locals := 70 } D (tyL cI cZ cQ) [.ref (g 0 0), .int x1, .int x2] (fl [wX7 cI cZ cQ g ST, wX5 cI cZ cQ (g 2) SL, wX3 cI cZ cQ (g 4) SF]) (f_X7_leave ST SL SF x1 x2) (fl [wX7 cI cZ cQ g ST, wX5 cI cZ cQ (g 2) SL, wX3 cI cZ cQ (g 4) SF]) := by
  refine ci_of (cc := cX7_leave) (nL := 7) (ty := .int) (lv0 := [(0, .ref (g 0 0)), (1, .int x1), (2, .int x2)]) (by decide) rfl (Nat.le_of_ble_eq_true rfl) rfl ?_
  intro p e s m args below meth c A X hr
  refine ww_iload_n (pc := 0) X dX7_leave_0 1 rfl rfl ?_
  refine ww_if_lt (pc := 1) (tgt := 20) X dX7_leave_1 (by decide) (fun c1 => ?_) (fun c1 => ?_)
  · refine ww_ldc (pc := 20) (v := (-1000000002)) X (by decide +kernel) dX7_leave_20 ?_
    exact ww_iret X hr rfl (Eq.symm (by unfold f_X7_leave; try rw [if_pos c1]; first | done | rfl)) rfl dX7_leave_22
  · refine ww_iload_n (pc := 4) X dX7_leave_4 1 rfl rfl ?_
    refine ww_sipush (pc := 5) (v := 300) X dX7_leave_5 (by decide) ?_
    refine ww_icmp_gt (pc := 8) (tgt := 20) X dX7_leave_8 (by decide) (fun c2 => ?_) (fun c2 => ?_)
    · refine ww_ldc (pc := 20) (v := (-1000000002)) X (by decide +kernel) dX7_leave_20 ?_
      exact ww_iret X hr rfl (Eq.symm (by unfold f_X7_leave; try rw [if_neg c1, if_pos c2]; first | done | rfl)) rfl dX7_leave_22
    · refine ww_iload_n (pc := 11) X dX7_leave_11 2 rfl rfl ?_
      refine ww_if_lt (pc := 12) (tgt := 20) X dX7_leave_12 (by decide) (fun c3 => ?_) (fun c3 => ?_)
      · refine ww_ldc (pc := 20) (v := (-1000000002)) X (by decide +kernel) dX7_leave_20 ?_
        exact ww_iret X hr rfl (Eq.symm (by unfold f_X7_leave; try rw [if_neg c1, if_neg c2, if_pos c3]; first | done | rfl)) rfl dX7_leave_22
      · refine ww_iload_n (pc := 15) X dX7_leave_15 2 rfl rfl ?_
        refine ww_iconst (pc := 16) (v := 1) X dX7_leave_16 (by decide) ?_
        refine ww_icmp_le (pc := 17) (tgt := 23) X dX7_leave_17 (by decide) (fun c4 => ?_) (fun c4 => ?_)
        · refine ww_iconst (pc := 23) (v := (-1)) X dX7_leave_23 (by decide) ?_
          refine ww_istore_n (pc := 24) (lv' := [(3, .int (-1)), (0, .ref (g 0 0)), (1, .int x1), (2, .int x2)]) X dX7_leave_24 rfl (by decide) rfl ?_
          refine ww_iconst (pc := 25) (v := (-1)) X dX7_leave_25 (by decide) ?_
          refine ww_istore (pc := 26) (lv' := [(4, .int (-1)), (3, .int (-1)), (0, .ref (g 0 0)), (1, .int x1), (2, .int x2)]) X dX7_leave_26 (by decide) rfl ?_
          refine ww_iconst (pc := 28) (v := 0) X dX7_leave_28 (by decide) ?_
          refine ww_istore (pc := 29) (lv' := [(5, .int 0), (4, .int (-1)), (3, .int (-1)), (0, .ref (g 0 0)), (1, .int x1), (2, .int x2)]) X dX7_leave_29 (by decide) rfl ?_
          have L31 : ∀ (k_31 j_31 : Nat), j_31 + k_31 = (SL.1 4).toNatClampNeg → WW p l e (headSpec wsX7_leave { frames := 3, cells := 0, slots := 0, locals := 70 }).room s m args below meth c 7 D A 0 0 (RQi below args s D A (f_X7_leave ST SL SF x1 x2) (fl [wX7 cI cZ cQ g ST, wX5 cI cZ cQ (g 2) SL, wX3 cI cZ cQ (g 4) SF])) (fl [wX7 cI cZ cQ g ST, wX5 cI cZ cQ (g 2) SL, wX3 cI cZ cQ (g 4) SF]) [(0, .ref (g 0 0)), (1, .int x1), (2, .int x2), (3, .int ((it_X7_leave_31 ST SL SF x1 x2 ((-1), (-1)) ((SL.1 4).toNatClampNeg)).1)), (4, .int ((it_X7_leave_31 ST SL SF x1 x2 ((-1), (-1)) ((SL.1 4).toNatClampNeg)).2)), (5, .int (nI ((SL.1 4).toNatClampNeg)))] 84 [] → WW p l e (headSpec wsX7_leave { frames := 3, cells := 0, slots := 0, locals := 70 }).room s m args below meth c 7 D A 0 0 (RQi below args s D A (f_X7_leave ST SL SF x1 x2) (fl [wX7 cI cZ cQ g ST, wX5 cI cZ cQ (g 2) SL, wX3 cI cZ cQ (g 4) SF])) (fl [wX7 cI cZ cQ g ST, wX5 cI cZ cQ (g 2) SL, wX3 cI cZ cQ (g 4) SF]) [(0, .ref (g 0 0)), (1, .int x1), (2, .int x2), (3, .int ((it_X7_leave_31 ST SL SF x1 x2 ((-1), (-1)) j_31).1)), (4, .int ((it_X7_leave_31 ST SL SF x1 x2 ((-1), (-1)) j_31).2)), (5, .int (nI j_31))] 31 [] := by
            intro k_31
            induction k_31 with
            | zero =>
              intro j_31 hj K
              have hjB : j_31 = (SL.1 4).toNatClampNeg := by omega
              subst hjB
              refine ww_iload (pc := 31) X dX7_leave_31 5 rfl ?_
              refine ww_aload_n (pc := 33) X dX7_leave_33 0 rfl rfl ?_
              refine ww_get (pc := 34) (ci := 7) (v := .ref (g 2 0)) (C := RX7) (T := TX7) (N := 9) X inX7_leave_7 0 rfl rfl 1 (by decide) (by decide +kernel) rfl dX7_leave_34 ?_
              refine ww_get (pc := 37) (ci := 5) (v := .int (SL.1 4)) (C := RX5) (T := TX5) (N := 11) X inX7_leave_5 1 rfl rfl 4 (by decide) (by decide +kernel) rfl dX7_leave_37 ?_
              exact ww_icmp_ge (pc := 40) (tgt := 84) X dX7_leave_40 (by decide) (fun _ => K) (fun c9 => absurd (lp_ge0c (Nat.le_refl _) (cl_lt _)) c9)
            | succ k_31 ih =>
              intro j_31 hj K
              have hjB : j_31 < (SL.1 4).toNatClampNeg := by omega
              have h6_31 := okS_g okL
              refine ww_iload (pc := 31) X dX7_leave_31 5 rfl ?_
              refine ww_aload_n (pc := 33) X dX7_leave_33 0 rfl rfl ?_
              refine ww_get (pc := 34) (ci := 7) (v := .ref (g 2 0)) (C := RX7) (T := TX7) (N := 9) X inX7_leave_7 0 rfl rfl 1 (by decide) (by decide +kernel) rfl dX7_leave_34 ?_
              refine ww_get (pc := 37) (ci := 5) (v := .int (SL.1 4)) (C := RX5) (T := TX5) (N := 11) X inX7_leave_5 1 rfl rfl 4 (by decide) (by decide +kernel) rfl dX7_leave_37 ?_
              refine ww_icmp_ge (pc := 40) (tgt := 84) X dX7_leave_40 (by decide) (fun c9 => absurd c9 (lp_ge1c hjB)) (fun _ => ?_)
              refine ww_aload_n (pc := 43) X dX7_leave_43 0 rfl rfl ?_
              refine ww_get (pc := 44) (ci := 7) (v := .ref (g 2 0)) (C := RX7) (T := TX7) (N := 9) X inX7_leave_7 0 rfl rfl 1 (by decide) (by decide +kernel) rfl dX7_leave_44 ?_
              refine ww_iload (pc := 47) X dX7_leave_47 5 rfl ?_
              refine ww_aload_n (pc := 49) X dX7_leave_49 0 rfl rfl ?_
              refine ww_get (pc := 50) (ci := 7) (v := .ref (g 4 0)) (C := RX7) (T := TX7) (N := 9) X inX7_leave_7 0 rfl rfl 3 (by decide) (by decide +kernel) rfl dX7_leave_50 ?_
              refine ww_iload (pc := 53) X dX7_leave_53 5 rfl ?_
              refine ww_gVi (pc := 55) (rest := [.int (nI j_31), .ref (g 2 0)]) (gsN := [wX7 cI cZ cQ g ST, wX5 cI cZ cQ (g 2) SL, wX3 cI cZ cQ (g 4) SF]) (ci := 3) (gi := 0) (qi := 0) X (c_X3_worth l D cI cZ cQ (g 4) SF (nI j_31)) gX7_leave_X3_worth rfl hd_X3_worth [false, false, true] rfl rfl rfl rfl rfl rfl rfl rfl ⟨rfl, rfl⟩ ⟨Nat.le_of_ble_eq_true rfl, Nat.le_of_ble_eq_true rfl⟩ (Nat.le_of_ble_eq_true rfl) ⟨Nat.zero_le _, Nat.zero_le _⟩ dX7_leave_55 ?_
              refine ww_iload_n (pc := 58) X dX7_leave_58 1 rfl rfl ?_
              refine ww_gVi (pc := 59) (rest := []) (gsN := [wX7 cI cZ cQ g ST, wX5 cI cZ cQ (g 2) SL, wX3 cI cZ cQ (g 4) SF]) (ci := 5) (gi := 0) (qi := 0) X (c_X5_worthBehind l D cI cZ cQ (g 2) SL (nI j_31) (f_X3_worth SF (nI j_31)) x1) gX7_leave_X5_worthBehind rfl hd_X5_worthBehind [false, true, false] rfl rfl rfl rfl rfl rfl rfl rfl ⟨rfl, rfl⟩ ⟨Nat.le_of_ble_eq_true rfl, Nat.le_of_ble_eq_true rfl⟩ (Nat.le_of_ble_eq_true rfl) ⟨Nat.zero_le _, Nat.zero_le _⟩ dX7_leave_59 ?_
              refine ww_istore (pc := 62) (lv' := [(6, .int (f_X5_worthBehind SL (nI j_31) (f_X3_worth SF (nI j_31)) x1)), (0, .ref (g 0 0)), (1, .int x1), (2, .int x2), (3, .int ((it_X7_leave_31 ST SL SF x1 x2 ((-1), (-1)) j_31).1)), (4, .int ((it_X7_leave_31 ST SL SF x1 x2 ((-1), (-1)) j_31).2)), (5, .int (nI j_31))]) X dX7_leave_62 (by decide) rfl ?_
              refine ww_iload (pc := 64) X dX7_leave_64 0 rfl ?_
              refine ww_iload (pc := 66) X dX7_leave_66 5 rfl ?_
              refine ww_icmp_le (pc := 68) (tgt := 78) X dX7_leave_68 (by decide) (fun c6 => ?_) (fun c6 => ?_)
              · refine ww_iinc (pc := 78) (v := (nI j_31) + 1) (lv' := [(5, .int ((nI j_31) + 1)), (6, .int (f_X5_worthBehind SL (nI j_31) (f_X3_worth SF (nI j_31)) x1)), (0, .ref (g 0 0)), (1, .int x1), (2, .int x2), (3, .int ((it_X7_leave_31 ST SL SF x1 x2 ((-1), (-1)) j_31).1)), (4, .int ((it_X7_leave_31 ST SL SF x1 x2 ((-1), (-1)) j_31).2))]) X dX7_leave_78 6 rfl rfl (by decide) rfl ?_
                refine ww_goto (pc := 81) (tgt := 31) X dX7_leave_81 (by decide) ?_
                have h7 : (it_X7_leave_31 ST SL SF x1 x2 ((-1), (-1)) (j_31 + 1)) = ((it_X7_leave_31 ST SL SF x1 x2 ((-1), (-1)) j_31).1, (it_X7_leave_31 ST SL SF x1 x2 ((-1), (-1)) j_31).2) := by
                  show bd_X7_leave_31 ST SL SF x1 x2 j_31 (it_X7_leave_31 ST SL SF x1 x2 ((-1), (-1)) j_31) = _; unfold bd_X7_leave_31; try rw [if_pos c6]; first | done | rfl
                refine ww_lsub [2, 3, 4, 5, 6, 0] rfl ?_
                exact ww_castI (fun u9 : Int32 × Int32 => fl [wX7 cI cZ cQ g ST, wX5 cI cZ cQ (g 2) SL, wX3 cI cZ cQ (g 4) SF]) (fun (u9 : Int32 × Int32) (i9 : Int32) => ([(0, .ref (g 0 0)), (1, .int x1), (2, .int x2), (3, .int u9.1), (4, .int u9.2), (5, .int i9)] : List (Nat × Value))) h7 (ih (j_31 + 1) (by omega) K)
              · refine ww_iload (pc := 71) X dX7_leave_71 6 rfl ?_
                refine ww_istore_n (pc := 73) (lv' := [(3, .int (nI j_31)), (6, .int (f_X5_worthBehind SL (nI j_31) (f_X3_worth SF (nI j_31)) x1)), (0, .ref (g 0 0)), (1, .int x1), (2, .int x2), (4, .int ((it_X7_leave_31 ST SL SF x1 x2 ((-1), (-1)) j_31).2)), (5, .int (nI j_31))]) X dX7_leave_73 rfl (by decide) rfl ?_
                refine ww_iload (pc := 74) X dX7_leave_74 1 rfl ?_
                refine ww_istore (pc := 76) (lv' := [(4, .int (f_X5_worthBehind SL (nI j_31) (f_X3_worth SF (nI j_31)) x1)), (3, .int (nI j_31)), (6, .int (f_X5_worthBehind SL (nI j_31) (f_X3_worth SF (nI j_31)) x1)), (0, .ref (g 0 0)), (1, .int x1), (2, .int x2), (5, .int (nI j_31))]) X dX7_leave_76 (by decide) rfl ?_
                refine ww_iinc (pc := 78) (v := (nI j_31) + 1) (lv' := [(5, .int ((nI j_31) + 1)), (4, .int (f_X5_worthBehind SL (nI j_31) (f_X3_worth SF (nI j_31)) x1)), (3, .int (nI j_31)), (6, .int (f_X5_worthBehind SL (nI j_31) (f_X3_worth SF (nI j_31)) x1)), (0, .ref (g 0 0)), (1, .int x1), (2, .int x2)]) X dX7_leave_78 6 rfl rfl (by decide) rfl ?_
                refine ww_goto (pc := 81) (tgt := 31) X dX7_leave_81 (by decide) ?_
                have h8 : (it_X7_leave_31 ST SL SF x1 x2 ((-1), (-1)) (j_31 + 1)) = ((nI j_31), f_X5_worthBehind SL (nI j_31) (f_X3_worth SF (nI j_31)) x1) := by
                  show bd_X7_leave_31 ST SL SF x1 x2 j_31 (it_X7_leave_31 ST SL SF x1 x2 ((-1), (-1)) j_31) = _; unfold bd_X7_leave_31; try rw [if_neg c6]; first | done | rfl
                refine ww_lsub [4, 5, 6, 2, 1, 0] rfl ?_
                exact ww_castI (fun u9 : Int32 × Int32 => fl [wX7 cI cZ cQ g ST, wX5 cI cZ cQ (g 2) SL, wX3 cI cZ cQ (g 4) SF]) (fun (u9 : Int32 × Int32) (i9 : Int32) => ([(0, .ref (g 0 0)), (1, .int x1), (2, .int x2), (3, .int u9.1), (4, .int u9.2), (5, .int i9)] : List (Nat × Value))) h8 (ih (j_31 + 1) (by omega) K)
          refine ww_lsub [3, 4, 5, 2, 1, 0] rfl ?_
          refine L31 ((SL.1 4).toNatClampNeg) 0 (by omega) ?_
          generalize hz9 : ((it_X7_leave_31 ST SL SF x1 x2 ((-1), (-1)) ((SL.1 4).toNatClampNeg))) = z9
          refine ww_iload_n (pc := 84) X dX7_leave_84 2 rfl rfl ?_
          refine ww_if_ne (pc := 85) (tgt := 92) X dX7_leave_85 (by decide) (fun c10 => ?_) (fun c10 => ?_)
          · refine ww_iload (pc := 92) X dX7_leave_92 4 rfl ?_
            exact ww_iret X hr rfl (Eq.symm (by unfold f_X7_leave; try rw [if_neg c1, if_neg c2, if_neg c3, if_pos c4, hz9]; try unfold f_X7_leave_k1; try rw [if_neg c10]; first | done | rfl)) rfl dX7_leave_94
          · refine ww_iload_n (pc := 88) X dX7_leave_88 3 rfl rfl ?_
            refine ww_goto (pc := 89) (tgt := 94) X dX7_leave_89 (by decide) ?_
            exact ww_iret X hr rfl (Eq.symm (by unfold f_X7_leave; try rw [if_neg c1, if_neg c2, if_neg c3, if_pos c4, hz9]; try unfold f_X7_leave_k1; try rw [if_pos c10]; first | done | rfl)) rfl dX7_leave_94
        · refine ww_ldc (pc := 20) (v := (-1000000002)) X (by decide +kernel) dX7_leave_20 ?_
          exact ww_iret X hr rfl (Eq.symm (by unfold f_X7_leave; try rw [if_neg c1, if_neg c2, if_neg c3, if_neg c4]; first | done | rfl)) rfl dX7_leave_22
def l0_X7_when_40 (ST : St) (SL : St) (SF : St) (x1 : Int32) (x2 : Int32) (j : Nat) (u : Int32) : Int32 :=
  (-1)
def lb_X7_when_40 (ST : St) (SL : St) (SF : St) (x1 : Int32) (x2 : Int32) (rec : Nat → (Int32) → Int32) (j : Nat) (u : Int32) : Int32 :=
  if u < x2 then
    rec (j + 1) (f_X5_worthNextYear SL x1 u)
  else
    (nI j)
def lp_X7_when_40 (ST : St) (SL : St) (SF : St) (x1 : Int32) (x2 : Int32) : Nat → Nat → (Int32) → Int32
  | 0, j, u => l0_X7_when_40 ST SL SF x1 x2 j u
  | k + 1, j, u => lb_X7_when_40 ST SL SF x1 x2 (lp_X7_when_40 ST SL SF x1 x2 k) j u
def f_X7_when (ST : St) (SL : St) (SF : St) (x1 : Int32) (x2 : Int32) : Int32 :=
  if (f_X5_hasGood SL x1) = 0 then
    (-1000000001)
  else
    if x2 < 0 then
      (-1000000002)
    else
      if x2 ≤ 9999 then
        lp_X7_when_40 ST SL SF x1 x2 301 0 (f_X3_worth SF x1)
      else
        (-1000000002)
theorem inX7_when_7 : ∀ w ∈ wsX70, w ∈ wsX7_when := by decide +kernel
theorem hd_X7_when : yX7_when.cls = RX7 ∧ yX7_when.cls ≠ "java/lang/invoke/MethodHandle" ∧ yX7_when.cls ≠ "java/lang/invoke/VarHandle" ∧ (parseMethodDescriptor yX7_when.desc).map (fun d => d.parameters.length) = some 2 := by decide +kernel
set_option maxHeartbeats 4000000 in
set_option maxRecDepth 100000 in
theorem c_X7_when (l : Launch) (D : va_G) (cI cZ cQ : ClassId) (g : Nat → Nat → Nat) (ST : St) (SL : St) (SF : St) (x1 : Int32) (x2 : Int32) : Ci l yX7_when wsX7_when { frames := 2, cells := 0, slots := 0, locals := 44 } D (tyL cI cZ cQ) [.ref (g 0 0), .int x1, .int x2] (fl [wX7 cI cZ cQ g ST, wX5 cI cZ cQ (g 2) SL, wX3 cI cZ cQ (g 4) SF]) (f_X7_when ST SL SF x1 x2) (fl [wX7 cI cZ cQ g ST, wX5 cI cZ cQ (g 2) SL, wX3 cI cZ cQ (g 4) SF]) := by
  refine ci_of (cc := cX7_when) (nL := 5) (ty := .int) (lv0 := [(0, .ref (g 0 0)), (1, .int x1), (2, .int x2)]) (by decide) rfl (Nat.le_of_ble_eq_true rfl) rfl ?_
  intro p e s m args below meth c A X hr
  refine ww_aload_n (pc := 0) X dX7_when_0 0 rfl rfl ?_
  refine ww_get (pc := 1) (ci := 7) (v := .ref (g 2 0)) (C := RX7) (T := TX7) (N := 9) X inX7_when_7 0 rfl rfl 1 (by decide) (by decide +kernel) rfl dX7_when_1 ?_
  refine ww_iload_n (pc := 4) X dX7_when_4 1 rfl rfl ?_
  refine ww_gVi (pc := 5) (rest := []) (gsN := [wX7 cI cZ cQ g ST, wX5 cI cZ cQ (g 2) SL, wX3 cI cZ cQ (g 4) SF]) (ci := 5) (gi := 0) (qi := 0) X (c_X5_hasGood l D cI cZ cQ (g 2) SL x1) gX7_when_X5_hasGood rfl hd_X5_hasGood [false, true, false] rfl rfl rfl rfl rfl rfl rfl rfl ⟨rfl, rfl⟩ ⟨Nat.le_of_ble_eq_true rfl, Nat.le_of_ble_eq_true rfl⟩ (Nat.le_of_ble_eq_true rfl) ⟨Nat.zero_le _, Nat.zero_le _⟩ dX7_when_5 ?_
  refine ww_if_ne (pc := 8) (tgt := 14) X dX7_when_8 (by decide) (fun c1 => ?_) (fun c1 => ?_)
  · refine ww_iload_n (pc := 14) X dX7_when_14 2 rfl rfl ?_
    refine ww_if_lt (pc := 15) (tgt := 25) X dX7_when_15 (by decide) (fun c2 => ?_) (fun c2 => ?_)
    · refine ww_ldc (pc := 25) (v := (-1000000002)) X (by decide +kernel) dX7_when_25 ?_
      exact ww_iret X hr rfl (Eq.symm (by unfold f_X7_when; try rw [if_neg c1, if_pos c2]; first | done | rfl)) rfl dX7_when_27
    · refine ww_iload_n (pc := 18) X dX7_when_18 2 rfl rfl ?_
      refine ww_sipush (pc := 19) (v := 9999) X dX7_when_19 (by decide) ?_
      refine ww_icmp_le (pc := 22) (tgt := 28) X dX7_when_22 (by decide) (fun c3 => ?_) (fun c3 => ?_)
      · refine ww_aload_n (pc := 28) X dX7_when_28 0 rfl rfl ?_
        refine ww_get (pc := 29) (ci := 7) (v := .ref (g 4 0)) (C := RX7) (T := TX7) (N := 9) X inX7_when_7 0 rfl rfl 3 (by decide) (by decide +kernel) rfl dX7_when_29 ?_
        refine ww_iload_n (pc := 32) X dX7_when_32 1 rfl rfl ?_
        refine ww_gVi (pc := 33) (rest := []) (gsN := [wX7 cI cZ cQ g ST, wX5 cI cZ cQ (g 2) SL, wX3 cI cZ cQ (g 4) SF]) (ci := 3) (gi := 0) (qi := 0) X (c_X3_worth l D cI cZ cQ (g 4) SF x1) gX7_when_X3_worth rfl hd_X3_worth [false, false, true] rfl rfl rfl rfl rfl rfl rfl rfl ⟨rfl, rfl⟩ ⟨Nat.le_of_ble_eq_true rfl, Nat.le_of_ble_eq_true rfl⟩ (Nat.le_of_ble_eq_true rfl) ⟨Nat.zero_le _, Nat.zero_le _⟩ dX7_when_33 ?_
        refine ww_istore_n (pc := 36) (lv' := [(3, .int (f_X3_worth SF x1)), (0, .ref (g 0 0)), (1, .int x1), (2, .int x2)]) X dX7_when_36 rfl (by decide) rfl ?_
        refine ww_iconst (pc := 37) (v := 0) X dX7_when_37 (by decide) ?_
        refine ww_istore (pc := 38) (lv' := [(4, .int 0), (3, .int (f_X3_worth SF x1)), (0, .ref (g 0 0)), (1, .int x1), (2, .int x2)]) X dX7_when_38 (by decide) rfl ?_
        have L40 : ∀ (k_40 j_40 : Nat) (u_40 : Int32), j_40 + k_40 = 301 → True → f_X7_when ST SL SF x1 x2 = lp_X7_when_40 ST SL SF x1 x2 k_40 j_40 u_40 → WW p l e (headSpec wsX7_when { frames := 2, cells := 0, slots := 0, locals := 44 }).room s m args below meth c 5 D A 0 0 (RQi below args s D A (f_X7_when ST SL SF x1 x2) (fl [wX7 cI cZ cQ g ST, wX5 cI cZ cQ (g 2) SL, wX3 cI cZ cQ (g 4) SF])) (fl [wX7 cI cZ cQ g ST, wX5 cI cZ cQ (g 2) SL, wX3 cI cZ cQ (g 4) SF]) [(0, .ref (g 0 0)), (1, .int x1), (2, .int x2), (3, .int u_40), (4, .int (nI j_40))] 40 [] := by
          intro k_40
          induction k_40 with
          | zero =>
            intro j_40 u_40 hj hi hf
            have hjB : j_40 = 301 := by omega
            subst hjB
            refine ww_iload (pc := 40) X dX7_when_40 4 rfl ?_
            refine ww_sipush (pc := 42) (v := 300) X dX7_when_42 (by decide) ?_
            refine ww_icmp_gt (pc := 45) (tgt := 72) X dX7_when_45 (by decide) (fun _ => ?_) (fun c9 => absurd (lp_gt0 rfl (Nat.le_refl _) (by decide)) c9)
            refine ww_iconst (pc := 72) (v := (-1)) X dX7_when_72 (by decide) ?_
            exact ww_iret X hr rfl (Eq.symm (by rw [hf]; show l0_X7_when_40 ST SL SF x1 x2 301 u_40 = _; unfold l0_X7_when_40; first | done | rfl)) rfl dX7_when_73
          | succ k_40 ih =>
            intro j_40 u_40 hj hi hf
            have hjB : j_40 < 301 := by omega
            refine ww_iload (pc := 40) X dX7_when_40 4 rfl ?_
            refine ww_sipush (pc := 42) (v := 300) X dX7_when_42 (by decide) ?_
            refine ww_icmp_gt (pc := 45) (tgt := 72) X dX7_when_45 (by decide) (fun c9 => absurd c9 (lp_gt1 rfl hjB (by decide))) (fun _ => ?_)
            refine ww_iload_n (pc := 48) X dX7_when_48 3 rfl rfl ?_
            refine ww_iload_n (pc := 49) X dX7_when_49 2 rfl rfl ?_
            refine ww_icmp_lt (pc := 50) (tgt := 56) X dX7_when_50 (by decide) (fun c5 => ?_) (fun c5 => ?_)
            · refine ww_aload_n (pc := 56) X dX7_when_56 0 rfl rfl ?_
              refine ww_get (pc := 57) (ci := 7) (v := .ref (g 2 0)) (C := RX7) (T := TX7) (N := 9) X inX7_when_7 0 rfl rfl 1 (by decide) (by decide +kernel) rfl dX7_when_57 ?_
              refine ww_iload_n (pc := 60) X dX7_when_60 1 rfl rfl ?_
              refine ww_iload_n (pc := 61) X dX7_when_61 3 rfl rfl ?_
              refine ww_gVi (pc := 62) (rest := []) (gsN := [wX7 cI cZ cQ g ST, wX5 cI cZ cQ (g 2) SL, wX3 cI cZ cQ (g 4) SF]) (ci := 5) (gi := 0) (qi := 0) X (c_X5_worthNextYear l D cI cZ cQ (g 2) SL x1 u_40) gX7_when_X5_worthNextYear rfl hd_X5_worthNextYear [false, true, false] rfl rfl rfl rfl rfl rfl rfl rfl ⟨rfl, rfl⟩ ⟨Nat.le_of_ble_eq_true rfl, Nat.le_of_ble_eq_true rfl⟩ (Nat.le_of_ble_eq_true rfl) ⟨Nat.zero_le _, Nat.zero_le _⟩ dX7_when_62 ?_
              refine ww_istore_n (pc := 65) (lv' := [(3, .int (f_X5_worthNextYear SL x1 u_40)), (0, .ref (g 0 0)), (1, .int x1), (2, .int x2), (4, .int (nI j_40))]) X dX7_when_65 rfl (by decide) rfl ?_
              refine ww_iinc (pc := 66) (v := (nI j_40) + 1) (lv' := [(4, .int ((nI j_40) + 1)), (3, .int (f_X5_worthNextYear SL x1 u_40)), (0, .ref (g 0 0)), (1, .int x1), (2, .int x2)]) X dX7_when_66 4 rfl rfl (by decide) rfl ?_
              refine ww_goto (pc := 69) (tgt := 40) X dX7_when_69 (by decide) ?_
              refine ww_lsub [2, 3, 4, 1, 0] rfl ?_
              have h6 : f_X7_when ST SL SF x1 x2 = lp_X7_when_40 ST SL SF x1 x2 k_40 (j_40 + 1) (f_X5_worthNextYear SL x1 u_40) := by rw [hf]; show lb_X7_when_40 ST SL SF x1 x2 (lp_X7_when_40 ST SL SF x1 x2 k_40) j_40 u_40 = _; unfold lb_X7_when_40; try rw [if_pos c5]; first | done | rfl
              exact ww_cast rfl (congrArg (fun (i9 : Int32) => ([(0, .ref (g 0 0)), (1, .int x1), (2, .int x2), (3, .int (f_X5_worthNextYear SL x1 u_40)), (4, .int i9)] : List (Nat × Value))) (nI_1 j_40).symm) (ih (j_40 + 1) (f_X5_worthNextYear SL x1 u_40) (by omega) trivial h6)
            · refine ww_iload (pc := 53) X dX7_when_53 4 rfl ?_
              exact ww_iret X hr rfl (Eq.symm (by rw [hf]; show lb_X7_when_40 ST SL SF x1 x2 (lp_X7_when_40 ST SL SF x1 x2 k_40) j_40 u_40 = _; unfold lb_X7_when_40; try rw [if_neg c5]; first | done | rfl)) rfl dX7_when_55
        refine ww_lsub [2, 3, 4, 1, 0] rfl ?_
        exact L40 301 0 (f_X3_worth SF x1) (by omega) trivial (by unfold f_X7_when; try rw [if_neg c1, if_neg c2, if_pos c3]; first | done | rfl)
      · refine ww_ldc (pc := 25) (v := (-1000000002)) X (by decide +kernel) dX7_when_25 ?_
        exact ww_iret X hr rfl (Eq.symm (by unfold f_X7_when; try rw [if_neg c1, if_neg c2, if_neg c3]; first | done | rfl)) rfl dX7_when_27
  · refine ww_ldc (pc := 11) (v := (-1000000001)) X (by decide +kernel) dX7_when_11 ?_
    exact ww_iret X hr rfl (Eq.symm (by unfold f_X7_when; try rw [if_pos c1]; first | done | rfl)) rfl dX7_when_13
def f_X7_letters (ST : St) (SL : St) (SF : St) (x1 : Int32) (x2 : Int32) : Int32 :=
  if (f_X5_hasDepth SL x1) = 0 then
    (-1000000001)
  else
    if x2 < 1 then
      (-1000000002)
    else
      if x2 ≤ 9 then
        (((f_X5_daysIn SL x1 (f_X3_years SF)) * ((SL.2 0) ((x1 : Int32)).toNatClampNeg)) + (x2 * ((SL.2 0) ((x1 : Int32)).toNatClampNeg))) - (f_X3_years SF)
      else
        (-1000000002)
theorem inX7_letters_5 : ∀ w ∈ wsX50, w ∈ wsX7_letters := by decide +kernel
theorem inX7_letters_7 : ∀ w ∈ wsX70, w ∈ wsX7_letters := by decide +kernel
theorem hd_X7_letters : yX7_letters.cls = RX7 ∧ yX7_letters.cls ≠ "java/lang/invoke/MethodHandle" ∧ yX7_letters.cls ≠ "java/lang/invoke/VarHandle" ∧ (parseMethodDescriptor yX7_letters.desc).map (fun d => d.parameters.length) = some 2 := by decide +kernel
set_option maxHeartbeats 4000000 in
set_option maxRecDepth 100000 in
theorem c_X7_letters (l : Launch) (D : va_G) (cI cZ cQ : ClassId) (g : Nat → Nat → Nat) (ST : St) (SL : St) (SF : St) (x1 : Int32) (x2 : Int32) : Ci l yX7_letters wsX7_letters { frames := 2, cells := 0, slots := 0, locals := 43 } D (tyL cI cZ cQ) [.ref (g 0 0), .int x1, .int x2] (fl [wX7 cI cZ cQ g ST, wX5 cI cZ cQ (g 2) SL, wX3 cI cZ cQ (g 4) SF]) (f_X7_letters ST SL SF x1 x2) (fl [wX7 cI cZ cQ g ST, wX5 cI cZ cQ (g 2) SL, wX3 cI cZ cQ (g 4) SF]) := by
  refine ci_of (cc := cX7_letters) (nL := 3) (ty := .int) (lv0 := [(0, .ref (g 0 0)), (1, .int x1), (2, .int x2)]) (by decide) rfl (Nat.le_of_ble_eq_true rfl) rfl ?_
  intro p e s m args below meth c A X hr
  refine ww_aload_n (pc := 0) X dX7_letters_0 0 rfl rfl ?_
  refine ww_get (pc := 1) (ci := 7) (v := .ref (g 2 0)) (C := RX7) (T := TX7) (N := 9) X inX7_letters_7 0 rfl rfl 1 (by decide) (by decide +kernel) rfl dX7_letters_1 ?_
  refine ww_iload_n (pc := 4) X dX7_letters_4 1 rfl rfl ?_
  refine ww_gVi (pc := 5) (rest := []) (gsN := [wX7 cI cZ cQ g ST, wX5 cI cZ cQ (g 2) SL, wX3 cI cZ cQ (g 4) SF]) (ci := 5) (gi := 0) (qi := 0) X (c_X5_hasDepth l D cI cZ cQ (g 2) SL x1) gX7_letters_X5_hasDepth rfl hd_X5_hasDepth [false, true, false] rfl rfl rfl rfl rfl rfl rfl rfl ⟨rfl, rfl⟩ ⟨Nat.le_of_ble_eq_true rfl, Nat.le_of_ble_eq_true rfl⟩ (Nat.le_of_ble_eq_true rfl) ⟨Nat.zero_le _, Nat.zero_le _⟩ dX7_letters_5 ?_
  refine ww_if_ne (pc := 8) (tgt := 14) X dX7_letters_8 (by decide) (fun c1 => ?_) (fun c1 => ?_)
  · refine ww_iload_n (pc := 14) X dX7_letters_14 2 rfl rfl ?_
    refine ww_iconst (pc := 15) (v := 1) X dX7_letters_15 (by decide) ?_
    refine ww_icmp_lt (pc := 16) (tgt := 25) X dX7_letters_16 (by decide) (fun c2 => ?_) (fun c2 => ?_)
    · refine ww_ldc (pc := 25) (v := (-1000000002)) X (by decide +kernel) dX7_letters_25 ?_
      exact ww_iret X hr rfl (Eq.symm (by unfold f_X7_letters; try rw [if_neg c1, if_pos c2]; first | done | rfl)) rfl dX7_letters_27
    · refine ww_iload_n (pc := 19) X dX7_letters_19 2 rfl rfl ?_
      refine ww_bipush (pc := 20) (v := 9) X dX7_letters_20 (by decide) ?_
      refine ww_icmp_le (pc := 22) (tgt := 28) X dX7_letters_22 (by decide) (fun c3 => ?_) (fun c3 => ?_)
      · refine ww_aload_n (pc := 28) X dX7_letters_28 0 rfl rfl ?_
        refine ww_get (pc := 29) (ci := 7) (v := .ref (g 2 0)) (C := RX7) (T := TX7) (N := 9) X inX7_letters_7 0 rfl rfl 1 (by decide) (by decide +kernel) rfl dX7_letters_29 ?_
        refine ww_iload_n (pc := 32) X dX7_letters_32 1 rfl rfl ?_
        refine ww_aload_n (pc := 33) X dX7_letters_33 0 rfl rfl ?_
        refine ww_get (pc := 34) (ci := 7) (v := .ref (g 4 0)) (C := RX7) (T := TX7) (N := 9) X inX7_letters_7 0 rfl rfl 3 (by decide) (by decide +kernel) rfl dX7_letters_34 ?_
        refine ww_gVi (pc := 37) (rest := [.int x1, .ref (g 2 0)]) (gsN := [wX7 cI cZ cQ g ST, wX5 cI cZ cQ (g 2) SL, wX3 cI cZ cQ (g 4) SF]) (ci := 3) (gi := 0) (qi := 0) X (c_X3_years l D cI cZ cQ (g 4) SF) gX7_letters_X3_years rfl hd_X3_years [false, false, true] rfl rfl rfl rfl rfl rfl rfl rfl ⟨rfl, rfl⟩ ⟨Nat.le_of_ble_eq_true rfl, Nat.le_of_ble_eq_true rfl⟩ (Nat.le_of_ble_eq_true rfl) ⟨Nat.zero_le _, Nat.zero_le _⟩ dX7_letters_37 ?_
        refine ww_gVi (pc := 40) (rest := []) (gsN := [wX7 cI cZ cQ g ST, wX5 cI cZ cQ (g 2) SL, wX3 cI cZ cQ (g 4) SF]) (ci := 5) (gi := 0) (qi := 0) X (c_X5_daysIn l D cI cZ cQ (g 2) SL x1 (f_X3_years SF)) gX7_letters_X5_daysIn rfl hd_X5_daysIn [false, true, false] rfl rfl rfl rfl rfl rfl rfl rfl ⟨rfl, rfl⟩ ⟨Nat.le_of_ble_eq_true rfl, Nat.le_of_ble_eq_true rfl⟩ (Nat.le_of_ble_eq_true rfl) ⟨Nat.zero_le _, Nat.zero_le _⟩ dX7_letters_40 ?_
        refine ww_aload_n (pc := 43) X dX7_letters_43 0 rfl rfl ?_
        refine ww_get (pc := 44) (ci := 7) (v := .ref (g 2 0)) (C := RX7) (T := TX7) (N := 9) X inX7_letters_7 0 rfl rfl 1 (by decide) (by decide +kernel) rfl dX7_letters_44 ?_
        refine ww_get (pc := 47) (ci := 5) (v := .ref (g 2 1)) (C := RX5) (T := TX5) (N := 11) X inX7_letters_5 1 rfl rfl 5 (by decide) (by decide +kernel) rfl dX7_letters_47 ?_
        refine ww_iload_n (pc := 50) X dX7_letters_50 1 rfl rfl ?_
        refine ww_iald (pc := 51) (f := SL.2 0) X 2 0 rfl rfl (in_X5_hasDepth c1) dX7_letters_51 ?_
        refine ww_imul (pc := 52) X dX7_letters_52 ?_
        refine ww_iload_n (pc := 53) X dX7_letters_53 2 rfl rfl ?_
        refine ww_aload_n (pc := 54) X dX7_letters_54 0 rfl rfl ?_
        refine ww_get (pc := 55) (ci := 7) (v := .ref (g 2 0)) (C := RX7) (T := TX7) (N := 9) X inX7_letters_7 0 rfl rfl 1 (by decide) (by decide +kernel) rfl dX7_letters_55 ?_
        refine ww_get (pc := 58) (ci := 5) (v := .ref (g 2 1)) (C := RX5) (T := TX5) (N := 11) X inX7_letters_5 1 rfl rfl 5 (by decide) (by decide +kernel) rfl dX7_letters_58 ?_
        refine ww_iload_n (pc := 61) X dX7_letters_61 1 rfl rfl ?_
        refine ww_iald (pc := 62) (f := SL.2 0) X 2 0 rfl rfl (in_X5_hasDepth c1) dX7_letters_62 ?_
        refine ww_imul (pc := 63) X dX7_letters_63 ?_
        refine ww_iadd (pc := 64) X dX7_letters_64 ?_
        refine ww_aload_n (pc := 65) X dX7_letters_65 0 rfl rfl ?_
        refine ww_get (pc := 66) (ci := 7) (v := .ref (g 4 0)) (C := RX7) (T := TX7) (N := 9) X inX7_letters_7 0 rfl rfl 3 (by decide) (by decide +kernel) rfl dX7_letters_66 ?_
        refine ww_gVi (pc := 69) (rest := [.int (((f_X5_daysIn SL x1 (f_X3_years SF)) * ((SL.2 0) ((x1 : Int32)).toNatClampNeg)) + (x2 * ((SL.2 0) ((x1 : Int32)).toNatClampNeg)))]) (gsN := [wX7 cI cZ cQ g ST, wX5 cI cZ cQ (g 2) SL, wX3 cI cZ cQ (g 4) SF]) (ci := 3) (gi := 0) (qi := 0) X (c_X3_years l D cI cZ cQ (g 4) SF) gX7_letters_X3_years rfl hd_X3_years [false, false, true] rfl rfl rfl rfl rfl rfl rfl rfl ⟨rfl, rfl⟩ ⟨Nat.le_of_ble_eq_true rfl, Nat.le_of_ble_eq_true rfl⟩ (Nat.le_of_ble_eq_true rfl) ⟨Nat.zero_le _, Nat.zero_le _⟩ dX7_letters_69 ?_
        refine ww_isub (pc := 72) X dX7_letters_72 ?_
        exact ww_iret X hr rfl (Eq.symm (by unfold f_X7_letters; try rw [if_neg c1, if_neg c2, if_pos c3]; first | done | rfl)) rfl dX7_letters_73
      · refine ww_ldc (pc := 25) (v := (-1000000002)) X (by decide +kernel) dX7_letters_25 ?_
        exact ww_iret X hr rfl (Eq.symm (by unfold f_X7_letters; try rw [if_neg c1, if_neg c2, if_neg c3]; first | done | rfl)) rfl dX7_letters_27
  · refine ww_ldc (pc := 11) (v := (-1000000001)) X (by decide +kernel) dX7_letters_11 ?_
    exact ww_iret X hr rfl (Eq.symm (by unfold f_X7_letters; try rw [if_pos c1]; first | done | rfl)) rfl dX7_letters_13
def f_X7_wouldOpen (ST : St) (SL : St) (SF : St) (x1 : Int32) : Int32 :=
  if (f_X7_refuseUnlessAbove ST SL SF x1) = 0 then
    if ((SL.2 2) ((x1 : Int32)).toNatClampNeg) ≤ ((f_X3_age SF x1) + (f_X3_box SF x1)) then
      (-1)
    else
      (f_X3_age SF x1) + (f_X3_box SF x1)
  else
    f_X7_refuseUnlessAbove ST SL SF x1
theorem inX7_wouldOpen_5 : ∀ w ∈ wsX50, w ∈ wsX7_wouldOpen := by decide +kernel
theorem inX7_wouldOpen_7 : ∀ w ∈ wsX70, w ∈ wsX7_wouldOpen := by decide +kernel
theorem hd_X7_wouldOpen : yX7_wouldOpen.cls = RX7 ∧ yX7_wouldOpen.cls ≠ "java/lang/invoke/MethodHandle" ∧ yX7_wouldOpen.cls ≠ "java/lang/invoke/VarHandle" ∧ (parseMethodDescriptor yX7_wouldOpen.desc).map (fun d => d.parameters.length) = some 1 := by decide +kernel
set_option maxHeartbeats 4000000 in
set_option maxRecDepth 100000 in
theorem c_X7_wouldOpen (l : Launch) (D : va_G) (cI cZ cQ : ClassId) (g : Nat → Nat → Nat) (ST : St) (SL : St) (SF : St) (x1 : Int32) : Ci l yX7_wouldOpen wsX7_wouldOpen { frames := 4, cells := 0, slots := 0, locals := 83 } D (tyL cI cZ cQ) [.ref (g 0 0), .int x1] (fl [wX7 cI cZ cQ g ST, wX5 cI cZ cQ (g 2) SL, wX3 cI cZ cQ (g 4) SF]) (f_X7_wouldOpen ST SL SF x1) (fl [wX7 cI cZ cQ g ST, wX5 cI cZ cQ (g 2) SL, wX3 cI cZ cQ (g 4) SF]) := by
  refine ci_of (cc := cX7_wouldOpen) (nL := 4) (ty := .int) (lv0 := [(0, .ref (g 0 0)), (1, .int x1)]) (by decide) rfl (Nat.le_of_ble_eq_true rfl) rfl ?_
  intro p e s m args below meth c A X hr
  refine ww_aload_n (pc := 0) X dX7_wouldOpen_0 0 rfl rfl ?_
  refine ww_iload_n (pc := 1) X dX7_wouldOpen_1 1 rfl rfl ?_
  refine ww_gVi (pc := 2) (rest := []) (gsN := [wX7 cI cZ cQ g ST, wX5 cI cZ cQ (g 2) SL, wX3 cI cZ cQ (g 4) SF]) (ci := 7) (gi := 0) (qi := 0) X (c_X7_refuseUnlessAbove l D cI cZ cQ g ST SL SF x1) gX7_wouldOpen_X7_refuseUnlessAbove rfl hd_X7_refuseUnlessAbove [true, true, true] rfl rfl rfl rfl rfl rfl rfl rfl ⟨rfl, rfl⟩ ⟨Nat.le_of_ble_eq_true rfl, Nat.le_of_ble_eq_true rfl⟩ (Nat.le_of_ble_eq_true rfl) ⟨Nat.zero_le _, Nat.zero_le _⟩ dX7_wouldOpen_2 ?_
  refine ww_istore_n (pc := 5) (lv' := [(2, .int (f_X7_refuseUnlessAbove ST SL SF x1)), (0, .ref (g 0 0)), (1, .int x1)]) X dX7_wouldOpen_5 rfl (by decide) rfl ?_
  refine ww_iload_n (pc := 6) X dX7_wouldOpen_6 0 rfl rfl ?_
  refine ww_if_eq (pc := 7) (tgt := 12) X dX7_wouldOpen_7 (by decide) (fun c1 => ?_) (fun c1 => ?_)
  · refine ww_aload_n (pc := 12) X dX7_wouldOpen_12 1 rfl rfl ?_
    refine ww_get (pc := 13) (ci := 7) (v := .ref (g 4 0)) (C := RX7) (T := TX7) (N := 9) X inX7_wouldOpen_7 0 rfl rfl 3 (by decide) (by decide +kernel) rfl dX7_wouldOpen_13 ?_
    refine ww_iload_n (pc := 16) X dX7_wouldOpen_16 2 rfl rfl ?_
    refine ww_gVi (pc := 17) (rest := []) (gsN := [wX7 cI cZ cQ g ST, wX5 cI cZ cQ (g 2) SL, wX3 cI cZ cQ (g 4) SF]) (ci := 3) (gi := 0) (qi := 0) X (c_X3_age l D cI cZ cQ (g 4) SF x1) gX7_wouldOpen_X3_age rfl hd_X3_age [false, false, true] rfl rfl rfl rfl rfl rfl rfl rfl ⟨rfl, rfl⟩ ⟨Nat.le_of_ble_eq_true rfl, Nat.le_of_ble_eq_true rfl⟩ (Nat.le_of_ble_eq_true rfl) ⟨Nat.zero_le _, Nat.zero_le _⟩ dX7_wouldOpen_17 ?_
    refine ww_aload_n (pc := 20) X dX7_wouldOpen_20 1 rfl rfl ?_
    refine ww_get (pc := 21) (ci := 7) (v := .ref (g 4 0)) (C := RX7) (T := TX7) (N := 9) X inX7_wouldOpen_7 0 rfl rfl 3 (by decide) (by decide +kernel) rfl dX7_wouldOpen_21 ?_
    refine ww_iload_n (pc := 24) X dX7_wouldOpen_24 2 rfl rfl ?_
    refine ww_gVi (pc := 25) (rest := [.int (f_X3_age SF x1)]) (gsN := [wX7 cI cZ cQ g ST, wX5 cI cZ cQ (g 2) SL, wX3 cI cZ cQ (g 4) SF]) (ci := 3) (gi := 0) (qi := 0) X (c_X3_box l D cI cZ cQ (g 4) SF x1) gX7_wouldOpen_X3_box rfl hd_X3_box [false, false, true] rfl rfl rfl rfl rfl rfl rfl rfl ⟨rfl, rfl⟩ ⟨Nat.le_of_ble_eq_true rfl, Nat.le_of_ble_eq_true rfl⟩ (Nat.le_of_ble_eq_true rfl) ⟨Nat.zero_le _, Nat.zero_le _⟩ dX7_wouldOpen_25 ?_
    refine ww_iadd (pc := 28) X dX7_wouldOpen_28 ?_
    refine ww_istore_n (pc := 29) (lv' := [(3, .int ((f_X3_age SF x1) + (f_X3_box SF x1))), (2, .int (f_X7_refuseUnlessAbove ST SL SF x1)), (0, .ref (g 0 0)), (1, .int x1)]) X dX7_wouldOpen_29 rfl (by decide) rfl ?_
    refine ww_iload_n (pc := 30) X dX7_wouldOpen_30 0 rfl rfl ?_
    refine ww_aload_n (pc := 31) X dX7_wouldOpen_31 2 rfl rfl ?_
    refine ww_get (pc := 32) (ci := 7) (v := .ref (g 2 0)) (C := RX7) (T := TX7) (N := 9) X inX7_wouldOpen_7 0 rfl rfl 1 (by decide) (by decide +kernel) rfl dX7_wouldOpen_32 ?_
    refine ww_get (pc := 35) (ci := 5) (v := .ref (g 2 3)) (C := RX5) (T := TX5) (N := 11) X inX7_wouldOpen_5 1 rfl rfl 7 (by decide) (by decide +kernel) rfl dX7_wouldOpen_35 ?_
    refine ww_iload_n (pc := 38) X dX7_wouldOpen_38 3 rfl rfl ?_
    refine ww_iald (pc := 39) (f := SL.2 2) X 4 0 rfl rfl (in_X7_rua c1) dX7_wouldOpen_39 ?_
    refine ww_icmp_ge (pc := 40) (tgt := 47) X dX7_wouldOpen_40 (by decide) (fun c2 => ?_) (fun c2 => ?_)
    · refine ww_iconst (pc := 47) (v := (-1)) X dX7_wouldOpen_47 (by decide) ?_
      exact ww_iret X hr rfl (Eq.symm (by unfold f_X7_wouldOpen; try rw [if_pos c1, if_pos c2]; first | done | rfl)) rfl dX7_wouldOpen_48
    · refine ww_iload_n (pc := 43) X dX7_wouldOpen_43 0 rfl rfl ?_
      refine ww_goto (pc := 44) (tgt := 48) X dX7_wouldOpen_44 (by decide) ?_
      exact ww_iret X hr rfl (Eq.symm (by unfold f_X7_wouldOpen; try rw [if_pos c1, if_neg c2]; first | done | rfl)) rfl dX7_wouldOpen_48
  · refine ww_iload_n (pc := 10) X dX7_wouldOpen_10 0 rfl rfl ?_
    exact ww_iret X hr rfl (Eq.symm (by unfold f_X7_wouldOpen; try rw [if_neg c1]; first | done | rfl)) rfl dX7_wouldOpen_11
def f_X7_yearsLeft (ST : St) (SL : St) (SF : St) (x1 : Int32) : Int32 :=
  if (f_X7_refuseUnlessAbove ST SL SF x1) = 0 then
    ((SL.2 2) ((x1 : Int32)).toNatClampNeg) - (f_X3_age SF x1)
  else
    f_X7_refuseUnlessAbove ST SL SF x1
theorem inX7_yearsLeft_5 : ∀ w ∈ wsX50, w ∈ wsX7_yearsLeft := by decide +kernel
theorem inX7_yearsLeft_7 : ∀ w ∈ wsX70, w ∈ wsX7_yearsLeft := by decide +kernel
theorem hd_X7_yearsLeft : yX7_yearsLeft.cls = RX7 ∧ yX7_yearsLeft.cls ≠ "java/lang/invoke/MethodHandle" ∧ yX7_yearsLeft.cls ≠ "java/lang/invoke/VarHandle" ∧ (parseMethodDescriptor yX7_yearsLeft.desc).map (fun d => d.parameters.length) = some 1 := by decide +kernel
set_option maxHeartbeats 4000000 in
set_option maxRecDepth 100000 in
theorem c_X7_yearsLeft (l : Launch) (D : va_G) (cI cZ cQ : ClassId) (g : Nat → Nat → Nat) (ST : St) (SL : St) (SF : St) (x1 : Int32) : Ci l yX7_yearsLeft wsX7_yearsLeft { frames := 4, cells := 0, slots := 0, locals := 83 } D (tyL cI cZ cQ) [.ref (g 0 0), .int x1] (fl [wX7 cI cZ cQ g ST, wX5 cI cZ cQ (g 2) SL, wX3 cI cZ cQ (g 4) SF]) (f_X7_yearsLeft ST SL SF x1) (fl [wX7 cI cZ cQ g ST, wX5 cI cZ cQ (g 2) SL, wX3 cI cZ cQ (g 4) SF]) := by
  refine ci_of (cc := cX7_yearsLeft) (nL := 3) (ty := .int) (lv0 := [(0, .ref (g 0 0)), (1, .int x1)]) (by decide) rfl (Nat.le_of_ble_eq_true rfl) rfl ?_
  intro p e s m args below meth c A X hr
  refine ww_aload_n (pc := 0) X dX7_yearsLeft_0 0 rfl rfl ?_
  refine ww_iload_n (pc := 1) X dX7_yearsLeft_1 1 rfl rfl ?_
  refine ww_gVi (pc := 2) (rest := []) (gsN := [wX7 cI cZ cQ g ST, wX5 cI cZ cQ (g 2) SL, wX3 cI cZ cQ (g 4) SF]) (ci := 7) (gi := 0) (qi := 0) X (c_X7_refuseUnlessAbove l D cI cZ cQ g ST SL SF x1) gX7_yearsLeft_X7_refuseUnlessAbove rfl hd_X7_refuseUnlessAbove [true, true, true] rfl rfl rfl rfl rfl rfl rfl rfl ⟨rfl, rfl⟩ ⟨Nat.le_of_ble_eq_true rfl, Nat.le_of_ble_eq_true rfl⟩ (Nat.le_of_ble_eq_true rfl) ⟨Nat.zero_le _, Nat.zero_le _⟩ dX7_yearsLeft_2 ?_
  refine ww_istore_n (pc := 5) (lv' := [(2, .int (f_X7_refuseUnlessAbove ST SL SF x1)), (0, .ref (g 0 0)), (1, .int x1)]) X dX7_yearsLeft_5 rfl (by decide) rfl ?_
  refine ww_iload_n (pc := 6) X dX7_yearsLeft_6 0 rfl rfl ?_
  refine ww_if_eq (pc := 7) (tgt := 14) X dX7_yearsLeft_7 (by decide) (fun c1 => ?_) (fun c1 => ?_)
  · refine ww_aload_n (pc := 14) X dX7_yearsLeft_14 1 rfl rfl ?_
    refine ww_get (pc := 15) (ci := 7) (v := .ref (g 2 0)) (C := RX7) (T := TX7) (N := 9) X inX7_yearsLeft_7 0 rfl rfl 1 (by decide) (by decide +kernel) rfl dX7_yearsLeft_15 ?_
    refine ww_get (pc := 18) (ci := 5) (v := .ref (g 2 3)) (C := RX5) (T := TX5) (N := 11) X inX7_yearsLeft_5 1 rfl rfl 7 (by decide) (by decide +kernel) rfl dX7_yearsLeft_18 ?_
    refine ww_iload_n (pc := 21) X dX7_yearsLeft_21 2 rfl rfl ?_
    refine ww_iald (pc := 22) (f := SL.2 2) X 4 0 rfl rfl (in_X7_rua c1) dX7_yearsLeft_22 ?_
    refine ww_aload_n (pc := 23) X dX7_yearsLeft_23 1 rfl rfl ?_
    refine ww_get (pc := 24) (ci := 7) (v := .ref (g 4 0)) (C := RX7) (T := TX7) (N := 9) X inX7_yearsLeft_7 0 rfl rfl 3 (by decide) (by decide +kernel) rfl dX7_yearsLeft_24 ?_
    refine ww_iload_n (pc := 27) X dX7_yearsLeft_27 2 rfl rfl ?_
    refine ww_gVi (pc := 28) (rest := [.int ((SL.2 2) ((x1 : Int32)).toNatClampNeg)]) (gsN := [wX7 cI cZ cQ g ST, wX5 cI cZ cQ (g 2) SL, wX3 cI cZ cQ (g 4) SF]) (ci := 3) (gi := 0) (qi := 0) X (c_X3_age l D cI cZ cQ (g 4) SF x1) gX7_yearsLeft_X3_age rfl hd_X3_age [false, false, true] rfl rfl rfl rfl rfl rfl rfl rfl ⟨rfl, rfl⟩ ⟨Nat.le_of_ble_eq_true rfl, Nat.le_of_ble_eq_true rfl⟩ (Nat.le_of_ble_eq_true rfl) ⟨Nat.zero_le _, Nat.zero_le _⟩ dX7_yearsLeft_28 ?_
    refine ww_isub (pc := 31) X dX7_yearsLeft_31 ?_
    exact ww_iret X hr rfl (Eq.symm (by unfold f_X7_yearsLeft; try rw [if_pos c1]; first | done | rfl)) rfl dX7_yearsLeft_32
  · refine ww_iload_n (pc := 10) X dX7_yearsLeft_10 0 rfl rfl ?_
    refine ww_goto (pc := 11) (tgt := 32) X dX7_yearsLeft_11 (by decide) ?_
    exact ww_iret X hr rfl (Eq.symm (by unfold f_X7_yearsLeft; try rw [if_neg c1]; first | done | rfl)) rfl dX7_yearsLeft_32
def bd_X7_latest_6_k1 (ST : St) (SL : St) (SF : St) (j : Nat) (u : Int32 × Int32) (z1 : Int32) : Int32 × Int32 :=
  if (f_X3_isAbove SF (nI j)) = 0 then
    (u.1, u.2)
  else
    if z1 ≤ u.2 then
      (u.1, u.2)
    else
      ((nI j), z1)
def bd_X7_latest_6 (ST : St) (SL : St) (SF : St) (j : Nat) (u : Int32 × Int32) : Int32 × Int32 :=
  bd_X7_latest_6_k1 ST SL SF j u (((SL.2 2) (((nI j) : Int32)).toNatClampNeg) - (f_X3_age SF (nI j)))
def it_X7_latest_6 (ST : St) (SL : St) (SF : St) (u : Int32 × Int32) : Nat → Int32 × Int32
  | 0 => u
  | j + 1 => bd_X7_latest_6 ST SL SF j (it_X7_latest_6 ST SL SF u j)
def f_X7_latest_k1 (ST : St) (SL : St) (SF : St) (z10 : Int32 × Int32) : Int32 :=
  z10.1
def f_X7_latest (ST : St) (SL : St) (SF : St) : Int32 :=
  f_X7_latest_k1 ST SL SF (it_X7_latest_6 ST SL SF ((-1), 0) ((SL.1 3).toNatClampNeg))
theorem inX7_latest_5 : ∀ w ∈ wsX50, w ∈ wsX7_latest := by decide +kernel
theorem inX7_latest_7 : ∀ w ∈ wsX70, w ∈ wsX7_latest := by decide +kernel
theorem hd_X7_latest : yX7_latest.cls = RX7 ∧ yX7_latest.cls ≠ "java/lang/invoke/MethodHandle" ∧ yX7_latest.cls ≠ "java/lang/invoke/VarHandle" ∧ (parseMethodDescriptor yX7_latest.desc).map (fun d => d.parameters.length) = some 0 := by decide +kernel
set_option maxHeartbeats 4000000 in
set_option maxRecDepth 100000 in
theorem c_X7_latest (l : Launch) (D : va_G) (cI cZ cQ : ClassId) (g : Nat → Nat → Nat) (ST : St) (SL : St) (SF : St) (okL : okS SL) : Ci l yX7_latest wsX7_latest { frames := 3, cells := 0, slots := 0, locals := 62 } D (tyL cI cZ cQ) [.ref (g 0 0)] (fl [wX7 cI cZ cQ g ST, wX5 cI cZ cQ (g 2) SL, wX3 cI cZ cQ (g 4) SF]) (f_X7_latest ST SL SF) (fl [wX7 cI cZ cQ g ST, wX5 cI cZ cQ (g 2) SL, wX3 cI cZ cQ (g 4) SF]) := by
  refine ci_of (cc := cX7_latest) (nL := 5) (ty := .int) (lv0 := [(0, .ref (g 0 0))]) (by decide) rfl (Nat.le_of_ble_eq_true rfl) rfl ?_
  intro p e s m args below meth c A X hr
  refine ww_iconst (pc := 0) (v := (-1)) X dX7_latest_0 (by decide) ?_
  refine ww_istore_n (pc := 1) (lv' := [(1, .int (-1)), (0, .ref (g 0 0))]) X dX7_latest_1 rfl (by decide) rfl ?_
  refine ww_iconst (pc := 2) (v := 0) X dX7_latest_2 (by decide) ?_
  refine ww_istore_n (pc := 3) (lv' := [(2, .int 0), (1, .int (-1)), (0, .ref (g 0 0))]) X dX7_latest_3 rfl (by decide) rfl ?_
  refine ww_iconst (pc := 4) (v := 0) X dX7_latest_4 (by decide) ?_
  refine ww_istore_n (pc := 5) (lv' := [(3, .int 0), (2, .int 0), (1, .int (-1)), (0, .ref (g 0 0))]) X dX7_latest_5 rfl (by decide) rfl ?_
  have L6 : ∀ (k_6 j_6 : Nat), j_6 + k_6 = (SL.1 3).toNatClampNeg → WW p l e (headSpec wsX7_latest { frames := 3, cells := 0, slots := 0, locals := 62 }).room s m args below meth c 5 D A 0 0 (RQi below args s D A (f_X7_latest ST SL SF) (fl [wX7 cI cZ cQ g ST, wX5 cI cZ cQ (g 2) SL, wX3 cI cZ cQ (g 4) SF])) (fl [wX7 cI cZ cQ g ST, wX5 cI cZ cQ (g 2) SL, wX3 cI cZ cQ (g 4) SF]) [(0, .ref (g 0 0)), (1, .int ((it_X7_latest_6 ST SL SF ((-1), 0) ((SL.1 3).toNatClampNeg)).1)), (2, .int ((it_X7_latest_6 ST SL SF ((-1), 0) ((SL.1 3).toNatClampNeg)).2)), (3, .int (nI ((SL.1 3).toNatClampNeg)))] 65 [] → WW p l e (headSpec wsX7_latest { frames := 3, cells := 0, slots := 0, locals := 62 }).room s m args below meth c 5 D A 0 0 (RQi below args s D A (f_X7_latest ST SL SF) (fl [wX7 cI cZ cQ g ST, wX5 cI cZ cQ (g 2) SL, wX3 cI cZ cQ (g 4) SF])) (fl [wX7 cI cZ cQ g ST, wX5 cI cZ cQ (g 2) SL, wX3 cI cZ cQ (g 4) SF]) [(0, .ref (g 0 0)), (1, .int ((it_X7_latest_6 ST SL SF ((-1), 0) j_6).1)), (2, .int ((it_X7_latest_6 ST SL SF ((-1), 0) j_6).2)), (3, .int (nI j_6))] 6 [] := by
    intro k_6
    induction k_6 with
    | zero =>
      intro j_6 hj K
      have hjB : j_6 = (SL.1 3).toNatClampNeg := by omega
      subst hjB
      refine ww_iload_n (pc := 6) X dX7_latest_6 3 rfl rfl ?_
      refine ww_aload_n (pc := 7) X dX7_latest_7 0 rfl rfl ?_
      refine ww_get (pc := 8) (ci := 7) (v := .ref (g 2 0)) (C := RX7) (T := TX7) (N := 9) X inX7_latest_7 0 rfl rfl 1 (by decide) (by decide +kernel) rfl dX7_latest_8 ?_
      refine ww_get (pc := 11) (ci := 5) (v := .int (SL.1 3)) (C := RX5) (T := TX5) (N := 11) X inX7_latest_5 1 rfl rfl 3 (by decide) (by decide +kernel) rfl dX7_latest_11 ?_
      exact ww_icmp_ge (pc := 14) (tgt := 65) X dX7_latest_14 (by decide) (fun _ => K) (fun c9 => absurd (lp_ge0c (Nat.le_refl _) (cl_lt _)) c9)
    | succ k_6 ih =>
      intro j_6 hj K
      have hjB : j_6 < (SL.1 3).toNatClampNeg := by omega
      have h7_6 := okS_p okL
      refine ww_iload_n (pc := 6) X dX7_latest_6 3 rfl rfl ?_
      refine ww_aload_n (pc := 7) X dX7_latest_7 0 rfl rfl ?_
      refine ww_get (pc := 8) (ci := 7) (v := .ref (g 2 0)) (C := RX7) (T := TX7) (N := 9) X inX7_latest_7 0 rfl rfl 1 (by decide) (by decide +kernel) rfl dX7_latest_8 ?_
      refine ww_get (pc := 11) (ci := 5) (v := .int (SL.1 3)) (C := RX5) (T := TX5) (N := 11) X inX7_latest_5 1 rfl rfl 3 (by decide) (by decide +kernel) rfl dX7_latest_11 ?_
      refine ww_icmp_ge (pc := 14) (tgt := 65) X dX7_latest_14 (by decide) (fun c9 => absurd c9 (lp_ge1c hjB)) (fun _ => ?_)
      refine ww_aload_n (pc := 17) X dX7_latest_17 0 rfl rfl ?_
      refine ww_get (pc := 18) (ci := 7) (v := .ref (g 2 0)) (C := RX7) (T := TX7) (N := 9) X inX7_latest_7 0 rfl rfl 1 (by decide) (by decide +kernel) rfl dX7_latest_18 ?_
      refine ww_get (pc := 21) (ci := 5) (v := .ref (g 2 3)) (C := RX5) (T := TX5) (N := 11) X inX7_latest_5 1 rfl rfl 7 (by decide) (by decide +kernel) rfl dX7_latest_21 ?_
      refine ww_iload_n (pc := 24) X dX7_latest_24 3 rfl rfl ?_
      refine ww_iald (pc := 25) (f := SL.2 2) X 4 0 rfl rfl (vn (m := j_6) rfl (by omega) (by decide)) dX7_latest_25 ?_
      refine ww_aload_n (pc := 26) X dX7_latest_26 0 rfl rfl ?_
      refine ww_get (pc := 27) (ci := 7) (v := .ref (g 4 0)) (C := RX7) (T := TX7) (N := 9) X inX7_latest_7 0 rfl rfl 3 (by decide) (by decide +kernel) rfl dX7_latest_27 ?_
      refine ww_iload_n (pc := 30) X dX7_latest_30 3 rfl rfl ?_
      refine ww_gVi (pc := 31) (rest := [.int ((SL.2 2) (((nI j_6) : Int32)).toNatClampNeg)]) (gsN := [wX7 cI cZ cQ g ST, wX5 cI cZ cQ (g 2) SL, wX3 cI cZ cQ (g 4) SF]) (ci := 3) (gi := 0) (qi := 0) X (c_X3_age l D cI cZ cQ (g 4) SF (nI j_6)) gX7_latest_X3_age rfl hd_X3_age [false, false, true] rfl rfl rfl rfl rfl rfl rfl rfl ⟨rfl, rfl⟩ ⟨Nat.le_of_ble_eq_true rfl, Nat.le_of_ble_eq_true rfl⟩ (Nat.le_of_ble_eq_true rfl) ⟨Nat.zero_le _, Nat.zero_le _⟩ dX7_latest_31 ?_
      refine ww_isub (pc := 34) X dX7_latest_34 ?_
      generalize hz4 : (((SL.2 2) (((nI j_6) : Int32)).toNatClampNeg) - (f_X3_age SF (nI j_6))) = z4
      refine ww_istore (pc := 35) (lv' := [(4, .int z4), (0, .ref (g 0 0)), (1, .int ((it_X7_latest_6 ST SL SF ((-1), 0) j_6).1)), (2, .int ((it_X7_latest_6 ST SL SF ((-1), 0) j_6).2)), (3, .int (nI j_6))]) X dX7_latest_35 (by decide) rfl ?_
      refine ww_aload_n (pc := 37) X dX7_latest_37 1 rfl rfl ?_
      refine ww_get (pc := 38) (ci := 7) (v := .ref (g 4 0)) (C := RX7) (T := TX7) (N := 9) X inX7_latest_7 0 rfl rfl 3 (by decide) (by decide +kernel) rfl dX7_latest_38 ?_
      refine ww_iload_n (pc := 41) X dX7_latest_41 4 rfl rfl ?_
      refine ww_gVi (pc := 42) (rest := []) (gsN := [wX7 cI cZ cQ g ST, wX5 cI cZ cQ (g 2) SL, wX3 cI cZ cQ (g 4) SF]) (ci := 3) (gi := 0) (qi := 0) X (c_X3_isAbove l D cI cZ cQ (g 4) SF (nI j_6)) gX7_latest_X3_isAbove rfl hd_X3_isAbove [false, false, true] rfl rfl rfl rfl rfl rfl rfl rfl ⟨rfl, rfl⟩ ⟨Nat.le_of_ble_eq_true rfl, Nat.le_of_ble_eq_true rfl⟩ (Nat.le_of_ble_eq_true rfl) ⟨Nat.zero_le _, Nat.zero_le _⟩ dX7_latest_42 ?_
      refine ww_if_eq (pc := 45) (tgt := 59) X dX7_latest_45 (by decide) (fun c5 => ?_) (fun c5 => ?_)
      · refine ww_iinc (pc := 59) (v := (nI j_6) + 1) (lv' := [(3, .int ((nI j_6) + 1)), (4, .int z4), (0, .ref (g 0 0)), (1, .int ((it_X7_latest_6 ST SL SF ((-1), 0) j_6).1)), (2, .int ((it_X7_latest_6 ST SL SF ((-1), 0) j_6).2))]) X dX7_latest_59 4 rfl rfl (by decide) rfl ?_
        refine ww_goto (pc := 62) (tgt := 6) X dX7_latest_62 (by decide) ?_
        have h6 : (it_X7_latest_6 ST SL SF ((-1), 0) (j_6 + 1)) = ((it_X7_latest_6 ST SL SF ((-1), 0) j_6).1, (it_X7_latest_6 ST SL SF ((-1), 0) j_6).2) := by
          show bd_X7_latest_6 ST SL SF j_6 (it_X7_latest_6 ST SL SF ((-1), 0) j_6) = _; unfold bd_X7_latest_6; try rw [hz4]; try unfold bd_X7_latest_6_k1; try rw [if_pos c5]; first | done | rfl
        refine ww_lsub [2, 3, 4, 0] rfl ?_
        exact ww_castI (fun u9 : Int32 × Int32 => fl [wX7 cI cZ cQ g ST, wX5 cI cZ cQ (g 2) SL, wX3 cI cZ cQ (g 4) SF]) (fun (u9 : Int32 × Int32) (i9 : Int32) => ([(0, .ref (g 0 0)), (1, .int u9.1), (2, .int u9.2), (3, .int i9)] : List (Nat × Value))) h6 (ih (j_6 + 1) (by omega) K)
      · refine ww_iload (pc := 48) X dX7_latest_48 0 rfl ?_
        refine ww_iload_n (pc := 50) X dX7_latest_50 3 rfl rfl ?_
        refine ww_icmp_le (pc := 51) (tgt := 59) X dX7_latest_51 (by decide) (fun c7 => ?_) (fun c7 => ?_)
        · refine ww_iinc (pc := 59) (v := (nI j_6) + 1) (lv' := [(3, .int ((nI j_6) + 1)), (4, .int z4), (0, .ref (g 0 0)), (1, .int ((it_X7_latest_6 ST SL SF ((-1), 0) j_6).1)), (2, .int ((it_X7_latest_6 ST SL SF ((-1), 0) j_6).2))]) X dX7_latest_59 4 rfl rfl (by decide) rfl ?_
          refine ww_goto (pc := 62) (tgt := 6) X dX7_latest_62 (by decide) ?_
          have h8 : (it_X7_latest_6 ST SL SF ((-1), 0) (j_6 + 1)) = ((it_X7_latest_6 ST SL SF ((-1), 0) j_6).1, (it_X7_latest_6 ST SL SF ((-1), 0) j_6).2) := by
            show bd_X7_latest_6 ST SL SF j_6 (it_X7_latest_6 ST SL SF ((-1), 0) j_6) = _; unfold bd_X7_latest_6; try rw [hz4]; try unfold bd_X7_latest_6_k1; try rw [if_neg c5, if_pos c7]; first | done | rfl
          refine ww_lsub [2, 3, 4, 0] rfl ?_
          exact ww_castI (fun u9 : Int32 × Int32 => fl [wX7 cI cZ cQ g ST, wX5 cI cZ cQ (g 2) SL, wX3 cI cZ cQ (g 4) SF]) (fun (u9 : Int32 × Int32) (i9 : Int32) => ([(0, .ref (g 0 0)), (1, .int u9.1), (2, .int u9.2), (3, .int i9)] : List (Nat × Value))) h8 (ih (j_6 + 1) (by omega) K)
        · refine ww_iload_n (pc := 54) X dX7_latest_54 4 rfl rfl ?_
          refine ww_istore_n (pc := 55) (lv' := [(1, .int (nI j_6)), (4, .int z4), (0, .ref (g 0 0)), (2, .int ((it_X7_latest_6 ST SL SF ((-1), 0) j_6).2)), (3, .int (nI j_6))]) X dX7_latest_55 rfl (by decide) rfl ?_
          refine ww_iload (pc := 56) X dX7_latest_56 1 rfl ?_
          refine ww_istore_n (pc := 58) (lv' := [(2, .int z4), (1, .int (nI j_6)), (4, .int z4), (0, .ref (g 0 0)), (3, .int (nI j_6))]) X dX7_latest_58 rfl (by decide) rfl ?_
          refine ww_iinc (pc := 59) (v := (nI j_6) + 1) (lv' := [(3, .int ((nI j_6) + 1)), (2, .int z4), (1, .int (nI j_6)), (4, .int z4), (0, .ref (g 0 0))]) X dX7_latest_59 4 rfl rfl (by decide) rfl ?_
          refine ww_goto (pc := 62) (tgt := 6) X dX7_latest_62 (by decide) ?_
          have h9 : (it_X7_latest_6 ST SL SF ((-1), 0) (j_6 + 1)) = ((nI j_6), z4) := by
            show bd_X7_latest_6 ST SL SF j_6 (it_X7_latest_6 ST SL SF ((-1), 0) j_6) = _; unfold bd_X7_latest_6; try rw [hz4]; try unfold bd_X7_latest_6_k1; try rw [if_neg c5, if_neg c7]; first | done | rfl
          refine ww_lsub [4, 2, 1, 0] rfl ?_
          exact ww_castI (fun u9 : Int32 × Int32 => fl [wX7 cI cZ cQ g ST, wX5 cI cZ cQ (g 2) SL, wX3 cI cZ cQ (g 4) SF]) (fun (u9 : Int32 × Int32) (i9 : Int32) => ([(0, .ref (g 0 0)), (1, .int u9.1), (2, .int u9.2), (3, .int i9)] : List (Nat × Value))) h9 (ih (j_6 + 1) (by omega) K)
  refine ww_lsub [3, 2, 1, 0] rfl ?_
  refine L6 ((SL.1 3).toNatClampNeg) 0 (by omega) ?_
  generalize hz10 : ((it_X7_latest_6 ST SL SF ((-1), 0) ((SL.1 3).toNatClampNeg))) = z10
  refine ww_iload_n (pc := 65) X dX7_latest_65 1 rfl rfl ?_
  exact ww_iret X hr rfl (Eq.symm (by unfold f_X7_latest; try rw [hz10]; try unfold f_X7_latest_k1; first | done | rfl)) rfl dX7_latest_66
def bd_X7_storm_30 (ST : St) (x1 : Int32) (x2 : Int32) (j : Nat) (u : Int64) : Int64 :=
  (u * (((100 - x2 : Int32)).toInt64)) / 100
def it_X7_storm_30 (ST : St) (x1 : Int32) (x2 : Int32) (u : Int64) : Nat → Int64
  | 0 => u
  | j + 1 => bd_X7_storm_30 ST x1 x2 j (it_X7_storm_30 ST x1 x2 u j)
def f_X7_storm_k1 (ST : St) (x1 : Int32) (x2 : Int32) (z6 : Int64) : Int32 :=
  ((z6 : Int64)).toInt32
def f_X7_storm (ST : St) (x1 : Int32) (x2 : Int32) : Int32 :=
  if x1 < 0 then
    (-1000000002)
  else
    if 60 < x1 then
      (-1000000002)
    else
      if x2 < 0 then
        (-1000000002)
      else
        if x2 ≤ 100 then
          f_X7_storm_k1 ST x1 x2 (it_X7_storm_30 ST x1 x2 (1000000000 : Int64) x1.toNatClampNeg)
        else
          (-1000000002)
theorem hd_X7_storm : yX7_storm.cls = RX7 ∧ yX7_storm.cls ≠ "java/lang/invoke/MethodHandle" ∧ yX7_storm.cls ≠ "java/lang/invoke/VarHandle" ∧ (parseMethodDescriptor yX7_storm.desc).map (fun d => d.parameters.length) = some 2 := by decide +kernel
set_option maxHeartbeats 4000000 in
set_option maxRecDepth 100000 in
theorem c_X7_storm (l : Launch) (D : va_G) (cI cZ cQ : ClassId) (g : Nat → Nat → Nat) (ST : St) (x1 : Int32) (x2 : Int32) : Ci l yX7_storm wsX7_storm { frames := 0, cells := 0, slots := 0, locals := 0 } D (tyL cI cZ cQ) [.ref (g 0 0), .int x1, .int x2] (fl [wX7 cI cZ cQ g ST]) (f_X7_storm ST x1 x2) (fl [wX7 cI cZ cQ g ST]) := by
  refine ci_of (cc := cX7_storm) (nL := 6) (ty := .int) (lv0 := [(0, .ref (g 0 0)), (1, .int x1), (2, .int x2)]) (by decide) rfl (Nat.le_of_ble_eq_true rfl) rfl ?_
  intro p e s m args below meth c A X hr
  refine ww_iload_n (pc := 0) X dX7_storm_0 1 rfl rfl ?_
  refine ww_if_lt (pc := 1) (tgt := 20) X dX7_storm_1 (by decide) (fun c1 => ?_) (fun c1 => ?_)
  · refine ww_ldc (pc := 20) (v := (-1000000002)) X (by decide +kernel) dX7_storm_20 ?_
    exact ww_iret X hr rfl (Eq.symm (by unfold f_X7_storm; try rw [if_pos c1]; first | done | rfl)) rfl dX7_storm_22
  · refine ww_iload_n (pc := 4) X dX7_storm_4 1 rfl rfl ?_
    refine ww_bipush (pc := 5) (v := 60) X dX7_storm_5 (by decide) ?_
    refine ww_icmp_gt (pc := 7) (tgt := 20) X dX7_storm_7 (by decide) (fun c2 => ?_) (fun c2 => ?_)
    · refine ww_ldc (pc := 20) (v := (-1000000002)) X (by decide +kernel) dX7_storm_20 ?_
      exact ww_iret X hr rfl (Eq.symm (by unfold f_X7_storm; try rw [if_neg c1, if_pos c2]; first | done | rfl)) rfl dX7_storm_22
    · refine ww_iload_n (pc := 10) X dX7_storm_10 2 rfl rfl ?_
      refine ww_if_lt (pc := 11) (tgt := 20) X dX7_storm_11 (by decide) (fun c3 => ?_) (fun c3 => ?_)
      · refine ww_ldc (pc := 20) (v := (-1000000002)) X (by decide +kernel) dX7_storm_20 ?_
        exact ww_iret X hr rfl (Eq.symm (by unfold f_X7_storm; try rw [if_neg c1, if_neg c2, if_pos c3]; first | done | rfl)) rfl dX7_storm_22
      · refine ww_iload_n (pc := 14) X dX7_storm_14 2 rfl rfl ?_
        refine ww_bipush (pc := 15) (v := 100) X dX7_storm_15 (by decide) ?_
        refine ww_icmp_le (pc := 17) (tgt := 23) X dX7_storm_17 (by decide) (fun c4 => ?_) (fun c4 => ?_)
        · refine ww_ldc2 (pc := 23) (v := 1000000000) X (by decide +kernel) dX7_storm_23 ?_
          refine ww_lstore_n (pc := 26) (lv' := [(3, .long 1000000000), (0, .ref (g 0 0)), (1, .int x1), (2, .int x2)]) X dX7_storm_26 rfl (by decide) rfl ?_
          refine ww_iconst (pc := 27) (v := 0) X dX7_storm_27 (by decide) ?_
          refine ww_istore (pc := 28) (lv' := [(5, .int 0), (3, .long 1000000000), (0, .ref (g 0 0)), (1, .int x1), (2, .int x2)]) X dX7_storm_28 (by decide) rfl ?_
          have L30 : ∀ (k_30 j_30 : Nat), j_30 + k_30 = x1.toNatClampNeg → WW p l e (headSpec wsX7_storm { frames := 0, cells := 0, slots := 0, locals := 0 }).room s m args below meth c 6 D A 0 0 (RQi below args s D A (f_X7_storm ST x1 x2) (fl [wX7 cI cZ cQ g ST])) (fl [wX7 cI cZ cQ g ST]) [(0, .ref (g 0 0)), (1, .int x1), (2, .int x2), (3, .long (it_X7_storm_30 ST x1 x2 (1000000000 : Int64) x1.toNatClampNeg)), (5, .int (nI x1.toNatClampNeg))] 54 [] → WW p l e (headSpec wsX7_storm { frames := 0, cells := 0, slots := 0, locals := 0 }).room s m args below meth c 6 D A 0 0 (RQi below args s D A (f_X7_storm ST x1 x2) (fl [wX7 cI cZ cQ g ST])) (fl [wX7 cI cZ cQ g ST]) [(0, .ref (g 0 0)), (1, .int x1), (2, .int x2), (3, .long (it_X7_storm_30 ST x1 x2 (1000000000 : Int64) j_30)), (5, .int (nI j_30))] 30 [] := by
            intro k_30
            induction k_30 with
            | zero =>
              intro j_30 hj K
              have hjB : j_30 = x1.toNatClampNeg := by omega
              subst hjB
              refine ww_iload (pc := 30) X dX7_storm_30 4 rfl ?_
              refine ww_iload_n (pc := 32) X dX7_storm_32 1 rfl rfl ?_
              exact ww_icmp_ge (pc := 33) (tgt := 54) X dX7_storm_33 (by decide) (fun _ => K) (fun c9 => absurd (lp_ge0c (Nat.le_refl _) (cl_lt _)) c9)
            | succ k_30 ih =>
              intro j_30 hj K
              have hjB : j_30 < x1.toNatClampNeg := by omega
              refine ww_iload (pc := 30) X dX7_storm_30 4 rfl ?_
              refine ww_iload_n (pc := 32) X dX7_storm_32 1 rfl rfl ?_
              refine ww_icmp_ge (pc := 33) (tgt := 54) X dX7_storm_33 (by decide) (fun c9 => absurd c9 (lp_ge1c hjB)) (fun _ => ?_)
              refine ww_lload_n (pc := 36) X dX7_storm_36 3 rfl rfl ?_
              refine ww_bipush (pc := 37) (v := 100) X dX7_storm_37 (by decide) ?_
              refine ww_iload_n (pc := 39) X dX7_storm_39 2 rfl rfl ?_
              refine ww_isub (pc := 40) X dX7_storm_40 ?_
              refine ww_i2l (pc := 41) X dX7_storm_41 rfl ?_
              refine ww_lmul (pc := 42) X dX7_storm_42 ?_
              refine ww_ldc2 (pc := 43) (v := 100) X (by decide +kernel) dX7_storm_43 ?_
              refine ww_ldiv (pc := 46) X dX7_storm_46 (by decide) ?_
              refine ww_lstore_n (pc := 47) (lv' := [(3, .long (((it_X7_storm_30 ST x1 x2 (1000000000 : Int64) j_30) * (((100 - x2 : Int32)).toInt64)) / 100)), (0, .ref (g 0 0)), (1, .int x1), (2, .int x2), (5, .int (nI j_30))]) X dX7_storm_47 rfl (by decide) rfl ?_
              refine ww_iinc (pc := 48) (v := (nI j_30) + 1) (lv' := [(5, .int ((nI j_30) + 1)), (3, .long (((it_X7_storm_30 ST x1 x2 (1000000000 : Int64) j_30) * (((100 - x2 : Int32)).toInt64)) / 100)), (0, .ref (g 0 0)), (1, .int x1), (2, .int x2)]) X dX7_storm_48 4 rfl rfl (by decide) rfl ?_
              refine ww_goto (pc := 51) (tgt := 30) X dX7_storm_51 (by decide) ?_
              have h5 : (it_X7_storm_30 ST x1 x2 (1000000000 : Int64) (j_30 + 1)) = ((it_X7_storm_30 ST x1 x2 (1000000000 : Int64) j_30) * (((100 - x2 : Int32)).toInt64)) / 100 := by
                show bd_X7_storm_30 ST x1 x2 j_30 (it_X7_storm_30 ST x1 x2 (1000000000 : Int64) j_30) = _; unfold bd_X7_storm_30; first | done | rfl
              refine ww_lsub [2, 3, 4, 1, 0] rfl ?_
              exact ww_castI (fun u9 : Int64 => fl [wX7 cI cZ cQ g ST]) (fun (u9 : Int64) (i9 : Int32) => ([(0, .ref (g 0 0)), (1, .int x1), (2, .int x2), (3, .long u9), (5, .int i9)] : List (Nat × Value))) h5 (ih (j_30 + 1) (by omega) K)
          refine ww_lsub [2, 3, 4, 1, 0] rfl ?_
          refine L30 x1.toNatClampNeg 0 (by omega) ?_
          generalize hz6 : ((it_X7_storm_30 ST x1 x2 (1000000000 : Int64) x1.toNatClampNeg)) = z6
          refine ww_lload_n (pc := 54) X dX7_storm_54 3 rfl rfl ?_
          refine ww_l2i (pc := 55) X dX7_storm_55 rfl ?_
          exact ww_iret X hr rfl (Eq.symm (by unfold f_X7_storm; try rw [if_neg c1, if_neg c2, if_neg c3, if_pos c4, hz6]; try unfold f_X7_storm_k1; first | done | rfl)) rfl dX7_storm_56
        · refine ww_ldc (pc := 20) (v := (-1000000002)) X (by decide +kernel) dX7_storm_20 ?_
          exact ww_iret X hr rfl (Eq.symm (by unfold f_X7_storm; try rw [if_neg c1, if_neg c2, if_neg c3, if_neg c4]; first | done | rfl)) rfl dX7_storm_22
def f_X7_find_k4 (ST : St) (SL : St) (SN : St) (x1 : Int32) (x2 : Int32) (x3 : Int32) (z45 : St) : Int32 × St :=
  (z45.1 0, z45)
def f_X7_find_k3 (ST : St) (SL : St) (SN : St) (x1 : Int32) (x2 : Int32) (x3 : Int32) (z35 : St) : Int32 × St :=
  (z35.1 0, z35)
def f_X7_find_k2 (ST : St) (SL : St) (SN : St) (x1 : Int32) (x2 : Int32) (x3 : Int32) (z21 : St) : Int32 × St :=
  (z21.1 0, z21)
def f_X7_find_k1 (ST : St) (SL : St) (SN : St) (x1 : Int32) (x2 : Int32) (x3 : Int32) (z11 : St) : Int32 × St :=
  (z11.1 0, z11)
def f_X7_find (ST : St) (SL : St) (SN : St) (x1 : Int32) (x2 : Int32) (x3 : Int32) : Int32 × St :=
  if x1 = 0 then
    if (f_X5_hasGood SL x2) = 0 then
      ((-1000000001), SN)
    else
      if x1 < 0 then
        ((-1000000002), SN)
      else
        if 1 < x1 then
          ((-1000000002), SN)
        else
          if x1 = 1 then
            if x2 = 0 then
              if x3 < 0 then
                ((-1000000002), SN)
              else
                if x3 ≤ 9999 then
                  if (SN.1 0) < 6 then
                    f_X7_find_k4 ST SL SN x1 x2 x3 (f_X1_add SN x1 x2 x3)
                  else
                    ((-1000000004), SN)
                else
                  ((-1000000002), SN)
            else
              ((-1000000002), SN)
          else
            if x3 < 0 then
              ((-1000000002), SN)
            else
              if x3 ≤ 9999 then
                if (SN.1 0) < 6 then
                  f_X7_find_k3 ST SL SN x1 x2 x3 (f_X1_add SN x1 x2 x3)
                else
                  ((-1000000004), SN)
              else
                ((-1000000002), SN)
  else
    if x1 < 0 then
      ((-1000000002), SN)
    else
      if 1 < x1 then
        ((-1000000002), SN)
      else
        if x1 = 1 then
          if x2 = 0 then
            if x3 < 0 then
              ((-1000000002), SN)
            else
              if x3 ≤ 9999 then
                if (SN.1 0) < 6 then
                  f_X7_find_k2 ST SL SN x1 x2 x3 (f_X1_add SN x1 x2 x3)
                else
                  ((-1000000004), SN)
              else
                ((-1000000002), SN)
          else
            ((-1000000002), SN)
        else
          if x3 < 0 then
            ((-1000000002), SN)
          else
            if x3 ≤ 9999 then
              if (SN.1 0) < 6 then
                f_X7_find_k1 ST SL SN x1 x2 x3 (f_X1_add SN x1 x2 x3)
              else
                ((-1000000004), SN)
            else
              ((-1000000002), SN)
theorem inX7_find_1 : ∀ w ∈ wsX10, w ∈ wsX7_find := by decide +kernel
theorem inX7_find_7 : ∀ w ∈ wsX70, w ∈ wsX7_find := by decide +kernel
theorem hd_X7_find : yX7_find.cls = RX7 ∧ yX7_find.cls ≠ "java/lang/invoke/MethodHandle" ∧ yX7_find.cls ≠ "java/lang/invoke/VarHandle" ∧ (parseMethodDescriptor yX7_find.desc).map (fun d => d.parameters.length) = some 3 := by decide +kernel
set_option maxHeartbeats 4000000 in
set_option maxRecDepth 100000 in
theorem c_X7_find (l : Launch) (D : va_G) (cI cZ cQ : ClassId) (g : Nat → Nat → Nat) (ST : St) (SL : St) (SN : St) (x1 : Int32) (x2 : Int32) (x3 : Int32) (ok0 : ¬ (SN.1 0) < 0) : Ci l yX7_find wsX7_find { frames := 1, cells := 0, slots := 0, locals := 23 } D (tyL cI cZ cQ) [.ref (g 0 0), .int x1, .int x2, .int x3] (fl [wX7 cI cZ cQ g ST, wX5 cI cZ cQ (g 2) SL, wX1 cI cZ cQ (g 7) SN]) ((f_X7_find ST SL SN x1 x2 x3).1) (fl [wX7 cI cZ cQ g ST, wX5 cI cZ cQ (g 2) SL, wX1 cI cZ cQ (g 7) ((f_X7_find ST SL SN x1 x2 x3).2)]) := by
  refine ci_of (cc := cX7_find) (nL := 4) (ty := .int) (lv0 := [(0, .ref (g 0 0)), (1, .int x1), (2, .int x2), (3, .int x3)]) (by decide) rfl (Nat.le_of_ble_eq_true rfl) rfl ?_
  intro p e s m args below meth c A X hr
  refine ww_iload_n (pc := 0) X dX7_find_0 1 rfl rfl ?_
  refine ww_if_ne (pc := 1) (tgt := 18) X dX7_find_1 (by decide) (fun c1 => ?_) (fun c1 => ?_)
  · refine ww_iload_n (pc := 18) X dX7_find_18 1 rfl rfl ?_
    refine ww_if_lt (pc := 19) (tgt := 47) X dX7_find_19 (by decide) (fun c2 => ?_) (fun c2 => ?_)
    · refine ww_ldc (pc := 47) (v := (-1000000002)) X (by decide +kernel) dX7_find_47 ?_
      have h3 : f_X7_find ST SL SN x1 x2 x3 = ((-1000000002), SN) := by unfold f_X7_find; try rw [if_neg c1, if_pos c2]; first | done | rfl
      exact ww_iret X hr rfl (congrArg (fun u9 : Int32 × St => u9.1) h3).symm (congrArg (fun u9 : Int32 × St => fl [wX7 cI cZ cQ g ST, wX5 cI cZ cQ (g 2) SL, wX1 cI cZ cQ (g 7) u9.2]) h3.symm) dX7_find_49
    · refine ww_iload_n (pc := 22) X dX7_find_22 1 rfl rfl ?_
      refine ww_iconst (pc := 23) (v := 1) X dX7_find_23 (by decide) ?_
      refine ww_icmp_gt (pc := 24) (tgt := 47) X dX7_find_24 (by decide) (fun c4 => ?_) (fun c4 => ?_)
      · refine ww_ldc (pc := 47) (v := (-1000000002)) X (by decide +kernel) dX7_find_47 ?_
        have h5 : f_X7_find ST SL SN x1 x2 x3 = ((-1000000002), SN) := by unfold f_X7_find; try rw [if_neg c1, if_neg c2, if_pos c4]; first | done | rfl
        exact ww_iret X hr rfl (congrArg (fun u9 : Int32 × St => u9.1) h5).symm (congrArg (fun u9 : Int32 × St => fl [wX7 cI cZ cQ g ST, wX5 cI cZ cQ (g 2) SL, wX1 cI cZ cQ (g 7) u9.2]) h5.symm) dX7_find_49
      · refine ww_iload_n (pc := 27) X dX7_find_27 1 rfl rfl ?_
        refine ww_iconst (pc := 28) (v := 1) X dX7_find_28 (by decide) ?_
        refine ww_icmp_ne (pc := 29) (tgt := 36) X dX7_find_29 (by decide) (fun c6 => ?_) (fun c6 => ?_)
        · refine ww_iload_n (pc := 36) X dX7_find_36 3 rfl rfl ?_
          refine ww_if_lt (pc := 37) (tgt := 47) X dX7_find_37 (by decide) (fun c7 => ?_) (fun c7 => ?_)
          · refine ww_ldc (pc := 47) (v := (-1000000002)) X (by decide +kernel) dX7_find_47 ?_
            have h8 : f_X7_find ST SL SN x1 x2 x3 = ((-1000000002), SN) := by unfold f_X7_find; try rw [if_neg c1, if_neg c2, if_neg c4, if_neg c6, if_pos c7]; first | done | rfl
            exact ww_iret X hr rfl (congrArg (fun u9 : Int32 × St => u9.1) h8).symm (congrArg (fun u9 : Int32 × St => fl [wX7 cI cZ cQ g ST, wX5 cI cZ cQ (g 2) SL, wX1 cI cZ cQ (g 7) u9.2]) h8.symm) dX7_find_49
          · refine ww_iload_n (pc := 40) X dX7_find_40 3 rfl rfl ?_
            refine ww_sipush (pc := 41) (v := 9999) X dX7_find_41 (by decide) ?_
            refine ww_icmp_le (pc := 44) (tgt := 50) X dX7_find_44 (by decide) (fun c9 => ?_) (fun c9 => ?_)
            · refine ww_aload_n (pc := 50) X dX7_find_50 0 rfl rfl ?_
              refine ww_get (pc := 51) (ci := 7) (v := .ref (g 7 0)) (C := RX7) (T := TX7) (N := 9) X inX7_find_7 0 rfl rfl 6 (by decide) (by decide +kernel) rfl dX7_find_51 ?_
              refine ww_get (pc := 54) (ci := 1) (v := .int (SN.1 0)) (C := RX1) (T := TX1) (N := 9) X inX7_find_1 8 rfl rfl 3 (by decide) (by decide +kernel) rfl dX7_find_54 ?_
              refine ww_bipush (pc := 57) (v := 6) X dX7_find_57 (by decide) ?_
              refine ww_icmp_lt (pc := 59) (tgt := 65) X dX7_find_59 (by decide) (fun c10 => ?_) (fun c10 => ?_)
              · refine ww_aload_n (pc := 65) X dX7_find_65 0 rfl rfl ?_
                refine ww_get (pc := 66) (ci := 7) (v := .ref (g 7 0)) (C := RX7) (T := TX7) (N := 9) X inX7_find_7 0 rfl rfl 6 (by decide) (by decide +kernel) rfl dX7_find_66 ?_
                refine ww_iload_n (pc := 69) X dX7_find_69 1 rfl rfl ?_
                refine ww_iload_n (pc := 70) X dX7_find_70 2 rfl rfl ?_
                refine ww_iload_n (pc := 71) X dX7_find_71 3 rfl rfl ?_
                refine ww_gVv (pc := 72) (rest := []) (gsN := [wX7 cI cZ cQ g ST, wX5 cI cZ cQ (g 2) SL, wX1 cI cZ cQ (g 7) (f_X1_add SN x1 x2 x3)]) (ci := 1) (gi := 0) (qi := 0) X (c_X1_add l D cI cZ cQ (g 7) SN x1 x2 x3 (by assumption)) gX7_find_X1_add rfl hd_X1_add [false, false, true] rfl (acons (ad1 _ _ _ _ _ _) rfl) rfl rfl rfl rfl rfl rfl ⟨rfl, rfl⟩ ⟨Nat.le_of_ble_eq_true rfl, Nat.le_of_ble_eq_true rfl⟩ (Nat.le_of_ble_eq_true rfl) ⟨Nat.zero_le _, Nat.zero_le _⟩ dX7_find_72 ?_
                generalize hz11 : (f_X1_add SN x1 x2 x3) = z11
                refine ww_aload_n (pc := 75) X dX7_find_75 0 rfl rfl ?_
                refine ww_get (pc := 76) (ci := 7) (v := .ref (g 7 0)) (C := RX7) (T := TX7) (N := 9) X inX7_find_7 0 rfl rfl 6 (by decide) (by decide +kernel) rfl dX7_find_76 ?_
                refine ww_get (pc := 79) (ci := 1) (v := .int (z11.1 0)) (C := RX1) (T := TX1) (N := 9) X inX7_find_1 8 rfl rfl 3 (by decide) (by decide +kernel) rfl dX7_find_79 ?_
                have h12 : f_X7_find ST SL SN x1 x2 x3 = (z11.1 0, z11) := by unfold f_X7_find; try rw [if_neg c1, if_neg c2, if_neg c4, if_neg c6, if_neg c7, if_pos c9, if_pos c10, hz11]; try unfold f_X7_find_k1; first | done | rfl
                exact ww_iret X hr rfl (congrArg (fun u9 : Int32 × St => u9.1) h12).symm (congrArg (fun u9 : Int32 × St => fl [wX7 cI cZ cQ g ST, wX5 cI cZ cQ (g 2) SL, wX1 cI cZ cQ (g 7) u9.2]) h12.symm) dX7_find_82
              · refine ww_ldc (pc := 62) (v := (-1000000004)) X (by decide +kernel) dX7_find_62 ?_
                have h13 : f_X7_find ST SL SN x1 x2 x3 = ((-1000000004), SN) := by unfold f_X7_find; try rw [if_neg c1, if_neg c2, if_neg c4, if_neg c6, if_neg c7, if_pos c9, if_neg c10]; first | done | rfl
                exact ww_iret X hr rfl (congrArg (fun u9 : Int32 × St => u9.1) h13).symm (congrArg (fun u9 : Int32 × St => fl [wX7 cI cZ cQ g ST, wX5 cI cZ cQ (g 2) SL, wX1 cI cZ cQ (g 7) u9.2]) h13.symm) dX7_find_64
            · refine ww_ldc (pc := 47) (v := (-1000000002)) X (by decide +kernel) dX7_find_47 ?_
              have h14 : f_X7_find ST SL SN x1 x2 x3 = ((-1000000002), SN) := by unfold f_X7_find; try rw [if_neg c1, if_neg c2, if_neg c4, if_neg c6, if_neg c7, if_neg c9]; first | done | rfl
              exact ww_iret X hr rfl (congrArg (fun u9 : Int32 × St => u9.1) h14).symm (congrArg (fun u9 : Int32 × St => fl [wX7 cI cZ cQ g ST, wX5 cI cZ cQ (g 2) SL, wX1 cI cZ cQ (g 7) u9.2]) h14.symm) dX7_find_49
        · refine ww_iload_n (pc := 32) X dX7_find_32 2 rfl rfl ?_
          refine ww_if_ne (pc := 33) (tgt := 47) X dX7_find_33 (by decide) (fun c15 => ?_) (fun c15 => ?_)
          · refine ww_ldc (pc := 47) (v := (-1000000002)) X (by decide +kernel) dX7_find_47 ?_
            have h16 : f_X7_find ST SL SN x1 x2 x3 = ((-1000000002), SN) := by unfold f_X7_find; try rw [if_neg c1, if_neg c2, if_neg c4, if_pos c6, if_neg c15]; first | done | rfl
            exact ww_iret X hr rfl (congrArg (fun u9 : Int32 × St => u9.1) h16).symm (congrArg (fun u9 : Int32 × St => fl [wX7 cI cZ cQ g ST, wX5 cI cZ cQ (g 2) SL, wX1 cI cZ cQ (g 7) u9.2]) h16.symm) dX7_find_49
          · refine ww_iload_n (pc := 36) X dX7_find_36 3 rfl rfl ?_
            refine ww_if_lt (pc := 37) (tgt := 47) X dX7_find_37 (by decide) (fun c17 => ?_) (fun c17 => ?_)
            · refine ww_ldc (pc := 47) (v := (-1000000002)) X (by decide +kernel) dX7_find_47 ?_
              have h18 : f_X7_find ST SL SN x1 x2 x3 = ((-1000000002), SN) := by unfold f_X7_find; try rw [if_neg c1, if_neg c2, if_neg c4, if_pos c6, if_pos c15, if_pos c17]; first | done | rfl
              exact ww_iret X hr rfl (congrArg (fun u9 : Int32 × St => u9.1) h18).symm (congrArg (fun u9 : Int32 × St => fl [wX7 cI cZ cQ g ST, wX5 cI cZ cQ (g 2) SL, wX1 cI cZ cQ (g 7) u9.2]) h18.symm) dX7_find_49
            · refine ww_iload_n (pc := 40) X dX7_find_40 3 rfl rfl ?_
              refine ww_sipush (pc := 41) (v := 9999) X dX7_find_41 (by decide) ?_
              refine ww_icmp_le (pc := 44) (tgt := 50) X dX7_find_44 (by decide) (fun c19 => ?_) (fun c19 => ?_)
              · refine ww_aload_n (pc := 50) X dX7_find_50 0 rfl rfl ?_
                refine ww_get (pc := 51) (ci := 7) (v := .ref (g 7 0)) (C := RX7) (T := TX7) (N := 9) X inX7_find_7 0 rfl rfl 6 (by decide) (by decide +kernel) rfl dX7_find_51 ?_
                refine ww_get (pc := 54) (ci := 1) (v := .int (SN.1 0)) (C := RX1) (T := TX1) (N := 9) X inX7_find_1 8 rfl rfl 3 (by decide) (by decide +kernel) rfl dX7_find_54 ?_
                refine ww_bipush (pc := 57) (v := 6) X dX7_find_57 (by decide) ?_
                refine ww_icmp_lt (pc := 59) (tgt := 65) X dX7_find_59 (by decide) (fun c20 => ?_) (fun c20 => ?_)
                · refine ww_aload_n (pc := 65) X dX7_find_65 0 rfl rfl ?_
                  refine ww_get (pc := 66) (ci := 7) (v := .ref (g 7 0)) (C := RX7) (T := TX7) (N := 9) X inX7_find_7 0 rfl rfl 6 (by decide) (by decide +kernel) rfl dX7_find_66 ?_
                  refine ww_iload_n (pc := 69) X dX7_find_69 1 rfl rfl ?_
                  refine ww_iload_n (pc := 70) X dX7_find_70 2 rfl rfl ?_
                  refine ww_iload_n (pc := 71) X dX7_find_71 3 rfl rfl ?_
                  refine ww_gVv (pc := 72) (rest := []) (gsN := [wX7 cI cZ cQ g ST, wX5 cI cZ cQ (g 2) SL, wX1 cI cZ cQ (g 7) (f_X1_add SN x1 x2 x3)]) (ci := 1) (gi := 0) (qi := 0) X (c_X1_add l D cI cZ cQ (g 7) SN x1 x2 x3 (by assumption)) gX7_find_X1_add rfl hd_X1_add [false, false, true] rfl (acons (ad1 _ _ _ _ _ _) rfl) rfl rfl rfl rfl rfl rfl ⟨rfl, rfl⟩ ⟨Nat.le_of_ble_eq_true rfl, Nat.le_of_ble_eq_true rfl⟩ (Nat.le_of_ble_eq_true rfl) ⟨Nat.zero_le _, Nat.zero_le _⟩ dX7_find_72 ?_
                  generalize hz21 : (f_X1_add SN x1 x2 x3) = z21
                  refine ww_aload_n (pc := 75) X dX7_find_75 0 rfl rfl ?_
                  refine ww_get (pc := 76) (ci := 7) (v := .ref (g 7 0)) (C := RX7) (T := TX7) (N := 9) X inX7_find_7 0 rfl rfl 6 (by decide) (by decide +kernel) rfl dX7_find_76 ?_
                  refine ww_get (pc := 79) (ci := 1) (v := .int (z21.1 0)) (C := RX1) (T := TX1) (N := 9) X inX7_find_1 8 rfl rfl 3 (by decide) (by decide +kernel) rfl dX7_find_79 ?_
                  have h22 : f_X7_find ST SL SN x1 x2 x3 = (z21.1 0, z21) := by unfold f_X7_find; try rw [if_neg c1, if_neg c2, if_neg c4, if_pos c6, if_pos c15, if_neg c17, if_pos c19, if_pos c20, hz21]; try unfold f_X7_find_k2; first | done | rfl
                  exact ww_iret X hr rfl (congrArg (fun u9 : Int32 × St => u9.1) h22).symm (congrArg (fun u9 : Int32 × St => fl [wX7 cI cZ cQ g ST, wX5 cI cZ cQ (g 2) SL, wX1 cI cZ cQ (g 7) u9.2]) h22.symm) dX7_find_82
                · refine ww_ldc (pc := 62) (v := (-1000000004)) X (by decide +kernel) dX7_find_62 ?_
                  have h23 : f_X7_find ST SL SN x1 x2 x3 = ((-1000000004), SN) := by unfold f_X7_find; try rw [if_neg c1, if_neg c2, if_neg c4, if_pos c6, if_pos c15, if_neg c17, if_pos c19, if_neg c20]; first | done | rfl
                  exact ww_iret X hr rfl (congrArg (fun u9 : Int32 × St => u9.1) h23).symm (congrArg (fun u9 : Int32 × St => fl [wX7 cI cZ cQ g ST, wX5 cI cZ cQ (g 2) SL, wX1 cI cZ cQ (g 7) u9.2]) h23.symm) dX7_find_64
              · refine ww_ldc (pc := 47) (v := (-1000000002)) X (by decide +kernel) dX7_find_47 ?_
                have h24 : f_X7_find ST SL SN x1 x2 x3 = ((-1000000002), SN) := by unfold f_X7_find; try rw [if_neg c1, if_neg c2, if_neg c4, if_pos c6, if_pos c15, if_neg c17, if_neg c19]; first | done | rfl
                exact ww_iret X hr rfl (congrArg (fun u9 : Int32 × St => u9.1) h24).symm (congrArg (fun u9 : Int32 × St => fl [wX7 cI cZ cQ g ST, wX5 cI cZ cQ (g 2) SL, wX1 cI cZ cQ (g 7) u9.2]) h24.symm) dX7_find_49
  · refine ww_aload_n (pc := 4) X dX7_find_4 0 rfl rfl ?_
    refine ww_get (pc := 5) (ci := 7) (v := .ref (g 2 0)) (C := RX7) (T := TX7) (N := 9) X inX7_find_7 0 rfl rfl 1 (by decide) (by decide +kernel) rfl dX7_find_5 ?_
    refine ww_iload_n (pc := 8) X dX7_find_8 2 rfl rfl ?_
    refine ww_gVi (pc := 9) (rest := []) (gsN := [wX7 cI cZ cQ g ST, wX5 cI cZ cQ (g 2) SL, wX1 cI cZ cQ (g 7) SN]) (ci := 5) (gi := 0) (qi := 0) X (c_X5_hasGood l D cI cZ cQ (g 2) SL x2) gX7_find_X5_hasGood rfl hd_X5_hasGood [false, true, false] rfl rfl rfl rfl rfl rfl rfl rfl ⟨rfl, rfl⟩ ⟨Nat.le_of_ble_eq_true rfl, Nat.le_of_ble_eq_true rfl⟩ (Nat.le_of_ble_eq_true rfl) ⟨Nat.zero_le _, Nat.zero_le _⟩ dX7_find_9 ?_
    refine ww_if_ne (pc := 12) (tgt := 18) X dX7_find_12 (by decide) (fun c25 => ?_) (fun c25 => ?_)
    · refine ww_iload_n (pc := 18) X dX7_find_18 1 rfl rfl ?_
      refine ww_if_lt (pc := 19) (tgt := 47) X dX7_find_19 (by decide) (fun c26 => ?_) (fun c26 => ?_)
      · refine ww_ldc (pc := 47) (v := (-1000000002)) X (by decide +kernel) dX7_find_47 ?_
        have h27 : f_X7_find ST SL SN x1 x2 x3 = ((-1000000002), SN) := by unfold f_X7_find; try rw [if_pos c1, if_neg c25, if_pos c26]; first | done | rfl
        exact ww_iret X hr rfl (congrArg (fun u9 : Int32 × St => u9.1) h27).symm (congrArg (fun u9 : Int32 × St => fl [wX7 cI cZ cQ g ST, wX5 cI cZ cQ (g 2) SL, wX1 cI cZ cQ (g 7) u9.2]) h27.symm) dX7_find_49
      · refine ww_iload_n (pc := 22) X dX7_find_22 1 rfl rfl ?_
        refine ww_iconst (pc := 23) (v := 1) X dX7_find_23 (by decide) ?_
        refine ww_icmp_gt (pc := 24) (tgt := 47) X dX7_find_24 (by decide) (fun c28 => ?_) (fun c28 => ?_)
        · refine ww_ldc (pc := 47) (v := (-1000000002)) X (by decide +kernel) dX7_find_47 ?_
          have h29 : f_X7_find ST SL SN x1 x2 x3 = ((-1000000002), SN) := by unfold f_X7_find; try rw [if_pos c1, if_neg c25, if_neg c26, if_pos c28]; first | done | rfl
          exact ww_iret X hr rfl (congrArg (fun u9 : Int32 × St => u9.1) h29).symm (congrArg (fun u9 : Int32 × St => fl [wX7 cI cZ cQ g ST, wX5 cI cZ cQ (g 2) SL, wX1 cI cZ cQ (g 7) u9.2]) h29.symm) dX7_find_49
        · refine ww_iload_n (pc := 27) X dX7_find_27 1 rfl rfl ?_
          refine ww_iconst (pc := 28) (v := 1) X dX7_find_28 (by decide) ?_
          refine ww_icmp_ne (pc := 29) (tgt := 36) X dX7_find_29 (by decide) (fun c30 => ?_) (fun c30 => ?_)
          · refine ww_iload_n (pc := 36) X dX7_find_36 3 rfl rfl ?_
            refine ww_if_lt (pc := 37) (tgt := 47) X dX7_find_37 (by decide) (fun c31 => ?_) (fun c31 => ?_)
            · refine ww_ldc (pc := 47) (v := (-1000000002)) X (by decide +kernel) dX7_find_47 ?_
              have h32 : f_X7_find ST SL SN x1 x2 x3 = ((-1000000002), SN) := by unfold f_X7_find; try rw [if_pos c1, if_neg c25, if_neg c26, if_neg c28, if_neg c30, if_pos c31]; first | done | rfl
              exact ww_iret X hr rfl (congrArg (fun u9 : Int32 × St => u9.1) h32).symm (congrArg (fun u9 : Int32 × St => fl [wX7 cI cZ cQ g ST, wX5 cI cZ cQ (g 2) SL, wX1 cI cZ cQ (g 7) u9.2]) h32.symm) dX7_find_49
            · refine ww_iload_n (pc := 40) X dX7_find_40 3 rfl rfl ?_
              refine ww_sipush (pc := 41) (v := 9999) X dX7_find_41 (by decide) ?_
              refine ww_icmp_le (pc := 44) (tgt := 50) X dX7_find_44 (by decide) (fun c33 => ?_) (fun c33 => ?_)
              · refine ww_aload_n (pc := 50) X dX7_find_50 0 rfl rfl ?_
                refine ww_get (pc := 51) (ci := 7) (v := .ref (g 7 0)) (C := RX7) (T := TX7) (N := 9) X inX7_find_7 0 rfl rfl 6 (by decide) (by decide +kernel) rfl dX7_find_51 ?_
                refine ww_get (pc := 54) (ci := 1) (v := .int (SN.1 0)) (C := RX1) (T := TX1) (N := 9) X inX7_find_1 8 rfl rfl 3 (by decide) (by decide +kernel) rfl dX7_find_54 ?_
                refine ww_bipush (pc := 57) (v := 6) X dX7_find_57 (by decide) ?_
                refine ww_icmp_lt (pc := 59) (tgt := 65) X dX7_find_59 (by decide) (fun c34 => ?_) (fun c34 => ?_)
                · refine ww_aload_n (pc := 65) X dX7_find_65 0 rfl rfl ?_
                  refine ww_get (pc := 66) (ci := 7) (v := .ref (g 7 0)) (C := RX7) (T := TX7) (N := 9) X inX7_find_7 0 rfl rfl 6 (by decide) (by decide +kernel) rfl dX7_find_66 ?_
                  refine ww_iload_n (pc := 69) X dX7_find_69 1 rfl rfl ?_
                  refine ww_iload_n (pc := 70) X dX7_find_70 2 rfl rfl ?_
                  refine ww_iload_n (pc := 71) X dX7_find_71 3 rfl rfl ?_
                  refine ww_gVv (pc := 72) (rest := []) (gsN := [wX7 cI cZ cQ g ST, wX5 cI cZ cQ (g 2) SL, wX1 cI cZ cQ (g 7) (f_X1_add SN x1 x2 x3)]) (ci := 1) (gi := 0) (qi := 0) X (c_X1_add l D cI cZ cQ (g 7) SN x1 x2 x3 (by assumption)) gX7_find_X1_add rfl hd_X1_add [false, false, true] rfl (acons (ad1 _ _ _ _ _ _) rfl) rfl rfl rfl rfl rfl rfl ⟨rfl, rfl⟩ ⟨Nat.le_of_ble_eq_true rfl, Nat.le_of_ble_eq_true rfl⟩ (Nat.le_of_ble_eq_true rfl) ⟨Nat.zero_le _, Nat.zero_le _⟩ dX7_find_72 ?_
                  generalize hz35 : (f_X1_add SN x1 x2 x3) = z35
                  refine ww_aload_n (pc := 75) X dX7_find_75 0 rfl rfl ?_
                  refine ww_get (pc := 76) (ci := 7) (v := .ref (g 7 0)) (C := RX7) (T := TX7) (N := 9) X inX7_find_7 0 rfl rfl 6 (by decide) (by decide +kernel) rfl dX7_find_76 ?_
                  refine ww_get (pc := 79) (ci := 1) (v := .int (z35.1 0)) (C := RX1) (T := TX1) (N := 9) X inX7_find_1 8 rfl rfl 3 (by decide) (by decide +kernel) rfl dX7_find_79 ?_
                  have h36 : f_X7_find ST SL SN x1 x2 x3 = (z35.1 0, z35) := by unfold f_X7_find; try rw [if_pos c1, if_neg c25, if_neg c26, if_neg c28, if_neg c30, if_neg c31, if_pos c33, if_pos c34, hz35]; try unfold f_X7_find_k3; first | done | rfl
                  exact ww_iret X hr rfl (congrArg (fun u9 : Int32 × St => u9.1) h36).symm (congrArg (fun u9 : Int32 × St => fl [wX7 cI cZ cQ g ST, wX5 cI cZ cQ (g 2) SL, wX1 cI cZ cQ (g 7) u9.2]) h36.symm) dX7_find_82
                · refine ww_ldc (pc := 62) (v := (-1000000004)) X (by decide +kernel) dX7_find_62 ?_
                  have h37 : f_X7_find ST SL SN x1 x2 x3 = ((-1000000004), SN) := by unfold f_X7_find; try rw [if_pos c1, if_neg c25, if_neg c26, if_neg c28, if_neg c30, if_neg c31, if_pos c33, if_neg c34]; first | done | rfl
                  exact ww_iret X hr rfl (congrArg (fun u9 : Int32 × St => u9.1) h37).symm (congrArg (fun u9 : Int32 × St => fl [wX7 cI cZ cQ g ST, wX5 cI cZ cQ (g 2) SL, wX1 cI cZ cQ (g 7) u9.2]) h37.symm) dX7_find_64
              · refine ww_ldc (pc := 47) (v := (-1000000002)) X (by decide +kernel) dX7_find_47 ?_
                have h38 : f_X7_find ST SL SN x1 x2 x3 = ((-1000000002), SN) := by unfold f_X7_find; try rw [if_pos c1, if_neg c25, if_neg c26, if_neg c28, if_neg c30, if_neg c31, if_neg c33]; first | done | rfl
                exact ww_iret X hr rfl (congrArg (fun u9 : Int32 × St => u9.1) h38).symm (congrArg (fun u9 : Int32 × St => fl [wX7 cI cZ cQ g ST, wX5 cI cZ cQ (g 2) SL, wX1 cI cZ cQ (g 7) u9.2]) h38.symm) dX7_find_49
          · refine ww_iload_n (pc := 32) X dX7_find_32 2 rfl rfl ?_
            refine ww_if_ne (pc := 33) (tgt := 47) X dX7_find_33 (by decide) (fun c39 => ?_) (fun c39 => ?_)
            · refine ww_ldc (pc := 47) (v := (-1000000002)) X (by decide +kernel) dX7_find_47 ?_
              have h40 : f_X7_find ST SL SN x1 x2 x3 = ((-1000000002), SN) := by unfold f_X7_find; try rw [if_pos c1, if_neg c25, if_neg c26, if_neg c28, if_pos c30, if_neg c39]; first | done | rfl
              exact ww_iret X hr rfl (congrArg (fun u9 : Int32 × St => u9.1) h40).symm (congrArg (fun u9 : Int32 × St => fl [wX7 cI cZ cQ g ST, wX5 cI cZ cQ (g 2) SL, wX1 cI cZ cQ (g 7) u9.2]) h40.symm) dX7_find_49
            · refine ww_iload_n (pc := 36) X dX7_find_36 3 rfl rfl ?_
              refine ww_if_lt (pc := 37) (tgt := 47) X dX7_find_37 (by decide) (fun c41 => ?_) (fun c41 => ?_)
              · refine ww_ldc (pc := 47) (v := (-1000000002)) X (by decide +kernel) dX7_find_47 ?_
                have h42 : f_X7_find ST SL SN x1 x2 x3 = ((-1000000002), SN) := by unfold f_X7_find; try rw [if_pos c1, if_neg c25, if_neg c26, if_neg c28, if_pos c30, if_pos c39, if_pos c41]; first | done | rfl
                exact ww_iret X hr rfl (congrArg (fun u9 : Int32 × St => u9.1) h42).symm (congrArg (fun u9 : Int32 × St => fl [wX7 cI cZ cQ g ST, wX5 cI cZ cQ (g 2) SL, wX1 cI cZ cQ (g 7) u9.2]) h42.symm) dX7_find_49
              · refine ww_iload_n (pc := 40) X dX7_find_40 3 rfl rfl ?_
                refine ww_sipush (pc := 41) (v := 9999) X dX7_find_41 (by decide) ?_
                refine ww_icmp_le (pc := 44) (tgt := 50) X dX7_find_44 (by decide) (fun c43 => ?_) (fun c43 => ?_)
                · refine ww_aload_n (pc := 50) X dX7_find_50 0 rfl rfl ?_
                  refine ww_get (pc := 51) (ci := 7) (v := .ref (g 7 0)) (C := RX7) (T := TX7) (N := 9) X inX7_find_7 0 rfl rfl 6 (by decide) (by decide +kernel) rfl dX7_find_51 ?_
                  refine ww_get (pc := 54) (ci := 1) (v := .int (SN.1 0)) (C := RX1) (T := TX1) (N := 9) X inX7_find_1 8 rfl rfl 3 (by decide) (by decide +kernel) rfl dX7_find_54 ?_
                  refine ww_bipush (pc := 57) (v := 6) X dX7_find_57 (by decide) ?_
                  refine ww_icmp_lt (pc := 59) (tgt := 65) X dX7_find_59 (by decide) (fun c44 => ?_) (fun c44 => ?_)
                  · refine ww_aload_n (pc := 65) X dX7_find_65 0 rfl rfl ?_
                    refine ww_get (pc := 66) (ci := 7) (v := .ref (g 7 0)) (C := RX7) (T := TX7) (N := 9) X inX7_find_7 0 rfl rfl 6 (by decide) (by decide +kernel) rfl dX7_find_66 ?_
                    refine ww_iload_n (pc := 69) X dX7_find_69 1 rfl rfl ?_
                    refine ww_iload_n (pc := 70) X dX7_find_70 2 rfl rfl ?_
                    refine ww_iload_n (pc := 71) X dX7_find_71 3 rfl rfl ?_
                    refine ww_gVv (pc := 72) (rest := []) (gsN := [wX7 cI cZ cQ g ST, wX5 cI cZ cQ (g 2) SL, wX1 cI cZ cQ (g 7) (f_X1_add SN x1 x2 x3)]) (ci := 1) (gi := 0) (qi := 0) X (c_X1_add l D cI cZ cQ (g 7) SN x1 x2 x3 (by assumption)) gX7_find_X1_add rfl hd_X1_add [false, false, true] rfl (acons (ad1 _ _ _ _ _ _) rfl) rfl rfl rfl rfl rfl rfl ⟨rfl, rfl⟩ ⟨Nat.le_of_ble_eq_true rfl, Nat.le_of_ble_eq_true rfl⟩ (Nat.le_of_ble_eq_true rfl) ⟨Nat.zero_le _, Nat.zero_le _⟩ dX7_find_72 ?_
                    generalize hz45 : (f_X1_add SN x1 x2 x3) = z45
                    refine ww_aload_n (pc := 75) X dX7_find_75 0 rfl rfl ?_
                    refine ww_get (pc := 76) (ci := 7) (v := .ref (g 7 0)) (C := RX7) (T := TX7) (N := 9) X inX7_find_7 0 rfl rfl 6 (by decide) (by decide +kernel) rfl dX7_find_76 ?_
                    refine ww_get (pc := 79) (ci := 1) (v := .int (z45.1 0)) (C := RX1) (T := TX1) (N := 9) X inX7_find_1 8 rfl rfl 3 (by decide) (by decide +kernel) rfl dX7_find_79 ?_
                    have h46 : f_X7_find ST SL SN x1 x2 x3 = (z45.1 0, z45) := by unfold f_X7_find; try rw [if_pos c1, if_neg c25, if_neg c26, if_neg c28, if_pos c30, if_pos c39, if_neg c41, if_pos c43, if_pos c44, hz45]; try unfold f_X7_find_k4; first | done | rfl
                    exact ww_iret X hr rfl (congrArg (fun u9 : Int32 × St => u9.1) h46).symm (congrArg (fun u9 : Int32 × St => fl [wX7 cI cZ cQ g ST, wX5 cI cZ cQ (g 2) SL, wX1 cI cZ cQ (g 7) u9.2]) h46.symm) dX7_find_82
                  · refine ww_ldc (pc := 62) (v := (-1000000004)) X (by decide +kernel) dX7_find_62 ?_
                    have h47 : f_X7_find ST SL SN x1 x2 x3 = ((-1000000004), SN) := by unfold f_X7_find; try rw [if_pos c1, if_neg c25, if_neg c26, if_neg c28, if_pos c30, if_pos c39, if_neg c41, if_pos c43, if_neg c44]; first | done | rfl
                    exact ww_iret X hr rfl (congrArg (fun u9 : Int32 × St => u9.1) h47).symm (congrArg (fun u9 : Int32 × St => fl [wX7 cI cZ cQ g ST, wX5 cI cZ cQ (g 2) SL, wX1 cI cZ cQ (g 7) u9.2]) h47.symm) dX7_find_64
                · refine ww_ldc (pc := 47) (v := (-1000000002)) X (by decide +kernel) dX7_find_47 ?_
                  have h48 : f_X7_find ST SL SN x1 x2 x3 = ((-1000000002), SN) := by unfold f_X7_find; try rw [if_pos c1, if_neg c25, if_neg c26, if_neg c28, if_pos c30, if_pos c39, if_neg c41, if_neg c43]; first | done | rfl
                  exact ww_iret X hr rfl (congrArg (fun u9 : Int32 × St => u9.1) h48).symm (congrArg (fun u9 : Int32 × St => fl [wX7 cI cZ cQ g ST, wX5 cI cZ cQ (g 2) SL, wX1 cI cZ cQ (g 7) u9.2]) h48.symm) dX7_find_49
    · refine ww_ldc (pc := 15) (v := (-1000000001)) X (by decide +kernel) dX7_find_15 ?_
      have h49 : f_X7_find ST SL SN x1 x2 x3 = ((-1000000001), SN) := by unfold f_X7_find; try rw [if_pos c1, if_pos c25]; first | done | rfl
      exact ww_iret X hr rfl (congrArg (fun u9 : Int32 × St => u9.1) h49).symm (congrArg (fun u9 : Int32 × St => fl [wX7 cI cZ cQ g ST, wX5 cI cZ cQ (g 2) SL, wX1 cI cZ cQ (g 7) u9.2]) h49.symm) dX7_find_17
def f_X7_write_k1 (ST : St) (SL : St) (SB : St) (x1 : Int32) (x2 : Int32) (z6 : St) : Int32 × St :=
  (z6.1 0, z6)
def f_X7_write (ST : St) (SL : St) (SB : St) (x1 : Int32) (x2 : Int32) : Int32 × St :=
  if (f_X5_hasPerson SL x1) = 0 then
    ((-1000000001), SB)
  else
    if x2 < 0 then
      ((-1000000002), SB)
    else
      if x2 ≤ 9999 then
        if (SB.1 0) < 15 then
          f_X7_write_k1 ST SL SB x1 x2 (f_X0_add SB x1 x2)
        else
          ((-1000000004), SB)
      else
        ((-1000000002), SB)
theorem inX7_write_0 : ∀ w ∈ wsX00, w ∈ wsX7_write := by decide +kernel
theorem inX7_write_7 : ∀ w ∈ wsX70, w ∈ wsX7_write := by decide +kernel
theorem hd_X7_write : yX7_write.cls = RX7 ∧ yX7_write.cls ≠ "java/lang/invoke/MethodHandle" ∧ yX7_write.cls ≠ "java/lang/invoke/VarHandle" ∧ (parseMethodDescriptor yX7_write.desc).map (fun d => d.parameters.length) = some 2 := by decide +kernel
set_option maxHeartbeats 4000000 in
set_option maxRecDepth 100000 in
theorem c_X7_write (l : Launch) (D : va_G) (cI cZ cQ : ClassId) (g : Nat → Nat → Nat) (ST : St) (SL : St) (SB : St) (x1 : Int32) (x2 : Int32) (ok0 : ¬ (SB.1 0) < 0) : Ci l yX7_write wsX7_write { frames := 1, cells := 0, slots := 0, locals := 22 } D (tyL cI cZ cQ) [.ref (g 0 0), .int x1, .int x2] (fl [wX7 cI cZ cQ g ST, wX5 cI cZ cQ (g 2) SL, wX0 cI cZ cQ (g 8) SB]) ((f_X7_write ST SL SB x1 x2).1) (fl [wX7 cI cZ cQ g ST, wX5 cI cZ cQ (g 2) SL, wX0 cI cZ cQ (g 8) ((f_X7_write ST SL SB x1 x2).2)]) := by
  refine ci_of (cc := cX7_write) (nL := 3) (ty := .int) (lv0 := [(0, .ref (g 0 0)), (1, .int x1), (2, .int x2)]) (by decide) rfl (Nat.le_of_ble_eq_true rfl) rfl ?_
  intro p e s m args below meth c A X hr
  refine ww_aload_n (pc := 0) X dX7_write_0 0 rfl rfl ?_
  refine ww_get (pc := 1) (ci := 7) (v := .ref (g 2 0)) (C := RX7) (T := TX7) (N := 9) X inX7_write_7 0 rfl rfl 1 (by decide) (by decide +kernel) rfl dX7_write_1 ?_
  refine ww_iload_n (pc := 4) X dX7_write_4 1 rfl rfl ?_
  refine ww_gVi (pc := 5) (rest := []) (gsN := [wX7 cI cZ cQ g ST, wX5 cI cZ cQ (g 2) SL, wX0 cI cZ cQ (g 8) SB]) (ci := 5) (gi := 0) (qi := 0) X (c_X5_hasPerson l D cI cZ cQ (g 2) SL x1) gX7_write_X5_hasPerson rfl hd_X5_hasPerson [false, true, false] rfl rfl rfl rfl rfl rfl rfl rfl ⟨rfl, rfl⟩ ⟨Nat.le_of_ble_eq_true rfl, Nat.le_of_ble_eq_true rfl⟩ (Nat.le_of_ble_eq_true rfl) ⟨Nat.zero_le _, Nat.zero_le _⟩ dX7_write_5 ?_
  refine ww_if_ne (pc := 8) (tgt := 14) X dX7_write_8 (by decide) (fun c1 => ?_) (fun c1 => ?_)
  · refine ww_iload_n (pc := 14) X dX7_write_14 2 rfl rfl ?_
    refine ww_if_lt (pc := 15) (tgt := 25) X dX7_write_15 (by decide) (fun c2 => ?_) (fun c2 => ?_)
    · refine ww_ldc (pc := 25) (v := (-1000000002)) X (by decide +kernel) dX7_write_25 ?_
      have h3 : f_X7_write ST SL SB x1 x2 = ((-1000000002), SB) := by unfold f_X7_write; try rw [if_neg c1, if_pos c2]; first | done | rfl
      exact ww_iret X hr rfl (congrArg (fun u9 : Int32 × St => u9.1) h3).symm (congrArg (fun u9 : Int32 × St => fl [wX7 cI cZ cQ g ST, wX5 cI cZ cQ (g 2) SL, wX0 cI cZ cQ (g 8) u9.2]) h3.symm) dX7_write_27
    · refine ww_iload_n (pc := 18) X dX7_write_18 2 rfl rfl ?_
      refine ww_sipush (pc := 19) (v := 9999) X dX7_write_19 (by decide) ?_
      refine ww_icmp_le (pc := 22) (tgt := 28) X dX7_write_22 (by decide) (fun c4 => ?_) (fun c4 => ?_)
      · refine ww_aload_n (pc := 28) X dX7_write_28 0 rfl rfl ?_
        refine ww_get (pc := 29) (ci := 7) (v := .ref (g 8 0)) (C := RX7) (T := TX7) (N := 9) X inX7_write_7 0 rfl rfl 7 (by decide) (by decide +kernel) rfl dX7_write_29 ?_
        refine ww_get (pc := 32) (ci := 0) (v := .int (SB.1 0)) (C := RX0) (T := TX0) (N := 3) X inX7_write_0 8 rfl rfl 2 (by decide) (by decide +kernel) rfl dX7_write_32 ?_
        refine ww_bipush (pc := 35) (v := 15) X dX7_write_35 (by decide) ?_
        refine ww_icmp_lt (pc := 37) (tgt := 43) X dX7_write_37 (by decide) (fun c5 => ?_) (fun c5 => ?_)
        · refine ww_aload_n (pc := 43) X dX7_write_43 0 rfl rfl ?_
          refine ww_get (pc := 44) (ci := 7) (v := .ref (g 8 0)) (C := RX7) (T := TX7) (N := 9) X inX7_write_7 0 rfl rfl 7 (by decide) (by decide +kernel) rfl dX7_write_44 ?_
          refine ww_iload_n (pc := 47) X dX7_write_47 1 rfl rfl ?_
          refine ww_iload_n (pc := 48) X dX7_write_48 2 rfl rfl ?_
          refine ww_gVv (pc := 49) (rest := []) (gsN := [wX7 cI cZ cQ g ST, wX5 cI cZ cQ (g 2) SL, wX0 cI cZ cQ (g 8) (f_X0_add SB x1 x2)]) (ci := 0) (gi := 0) (qi := 0) X (c_X0_add l D cI cZ cQ (g 8) SB x1 x2 (by assumption)) gX7_write_X0_add rfl hd_X0_add [false, false, true] rfl (acons (ad0 _ _ _ _ _ _) rfl) rfl rfl rfl rfl rfl rfl ⟨rfl, rfl⟩ ⟨Nat.le_of_ble_eq_true rfl, Nat.le_of_ble_eq_true rfl⟩ (Nat.le_of_ble_eq_true rfl) ⟨Nat.zero_le _, Nat.zero_le _⟩ dX7_write_49 ?_
          generalize hz6 : (f_X0_add SB x1 x2) = z6
          refine ww_aload_n (pc := 52) X dX7_write_52 0 rfl rfl ?_
          refine ww_get (pc := 53) (ci := 7) (v := .ref (g 8 0)) (C := RX7) (T := TX7) (N := 9) X inX7_write_7 0 rfl rfl 7 (by decide) (by decide +kernel) rfl dX7_write_53 ?_
          refine ww_get (pc := 56) (ci := 0) (v := .int (z6.1 0)) (C := RX0) (T := TX0) (N := 3) X inX7_write_0 8 rfl rfl 2 (by decide) (by decide +kernel) rfl dX7_write_56 ?_
          have h7 : f_X7_write ST SL SB x1 x2 = (z6.1 0, z6) := by unfold f_X7_write; try rw [if_neg c1, if_neg c2, if_pos c4, if_pos c5, hz6]; try unfold f_X7_write_k1; first | done | rfl
          exact ww_iret X hr rfl (congrArg (fun u9 : Int32 × St => u9.1) h7).symm (congrArg (fun u9 : Int32 × St => fl [wX7 cI cZ cQ g ST, wX5 cI cZ cQ (g 2) SL, wX0 cI cZ cQ (g 8) u9.2]) h7.symm) dX7_write_59
        · refine ww_ldc (pc := 40) (v := (-1000000004)) X (by decide +kernel) dX7_write_40 ?_
          have h8 : f_X7_write ST SL SB x1 x2 = ((-1000000004), SB) := by unfold f_X7_write; try rw [if_neg c1, if_neg c2, if_pos c4, if_neg c5]; first | done | rfl
          exact ww_iret X hr rfl (congrArg (fun u9 : Int32 × St => u9.1) h8).symm (congrArg (fun u9 : Int32 × St => fl [wX7 cI cZ cQ g ST, wX5 cI cZ cQ (g 2) SL, wX0 cI cZ cQ (g 8) u9.2]) h8.symm) dX7_write_42
      · refine ww_ldc (pc := 25) (v := (-1000000002)) X (by decide +kernel) dX7_write_25 ?_
        have h9 : f_X7_write ST SL SB x1 x2 = ((-1000000002), SB) := by unfold f_X7_write; try rw [if_neg c1, if_neg c2, if_neg c4]; first | done | rfl
        exact ww_iret X hr rfl (congrArg (fun u9 : Int32 × St => u9.1) h9).symm (congrArg (fun u9 : Int32 × St => fl [wX7 cI cZ cQ g ST, wX5 cI cZ cQ (g 2) SL, wX0 cI cZ cQ (g 8) u9.2]) h9.symm) dX7_write_27
  · refine ww_ldc (pc := 11) (v := (-1000000001)) X (by decide +kernel) dX7_write_11 ?_
    have h10 : f_X7_write ST SL SB x1 x2 = ((-1000000001), SB) := by unfold f_X7_write; try rw [if_pos c1]; first | done | rfl
    exact ww_iret X hr rfl (congrArg (fun u9 : Int32 × St => u9.1) h10).symm (congrArg (fun u9 : Int32 × St => fl [wX7 cI cZ cQ g ST, wX5 cI cZ cQ (g 2) SL, wX0 cI cZ cQ (g 8) u9.2]) h10.symm) dX7_write_13
def f_X7_tear_k2 (ST : St) (SN : St) (SB : St) (z1 : St) (z2 : St) : Int32 × St × St :=
  ((SN.1 0) + (SB.1 0), z1, z2)
def f_X7_tear_k1 (ST : St) (SN : St) (SB : St) (z1 : St) : Int32 × St × St :=
  f_X7_tear_k2 ST SN SB z1 (f_X0_empty SB)
def f_X7_tear (ST : St) (SN : St) (SB : St) : Int32 × St × St :=
  f_X7_tear_k1 ST SN SB (f_X1_empty SN)
theorem inX7_tear_0 : ∀ w ∈ wsX00, w ∈ wsX7_tear := by decide +kernel
theorem inX7_tear_1 : ∀ w ∈ wsX10, w ∈ wsX7_tear := by decide +kernel
theorem inX7_tear_7 : ∀ w ∈ wsX70, w ∈ wsX7_tear := by decide +kernel
theorem hd_X7_tear : yX7_tear.cls = RX7 ∧ yX7_tear.cls ≠ "java/lang/invoke/MethodHandle" ∧ yX7_tear.cls ≠ "java/lang/invoke/VarHandle" ∧ (parseMethodDescriptor yX7_tear.desc).map (fun d => d.parameters.length) = some 0 := by decide +kernel
set_option maxHeartbeats 4000000 in
set_option maxRecDepth 100000 in
theorem c_X7_tear (l : Launch) (D : va_G) (cI cZ cQ : ClassId) (g : Nat → Nat → Nat) (ST : St) (SN : St) (SB : St) : Ci l yX7_tear wsX7_tear { frames := 1, cells := 0, slots := 0, locals := 20 } D (tyL cI cZ cQ) [.ref (g 0 0)] (fl [wX7 cI cZ cQ g ST, wX1 cI cZ cQ (g 7) SN, wX0 cI cZ cQ (g 8) SB]) ((f_X7_tear ST SN SB).1) (fl [wX7 cI cZ cQ g ST, wX1 cI cZ cQ (g 7) ((f_X7_tear ST SN SB).2.1), wX0 cI cZ cQ (g 8) ((f_X7_tear ST SN SB).2.2)]) := by
  refine ci_of (cc := cX7_tear) (nL := 2) (ty := .int) (lv0 := [(0, .ref (g 0 0))]) (by decide) rfl (Nat.le_of_ble_eq_true rfl) rfl ?_
  intro p e s m args below meth c A X hr
  refine ww_aload_n (pc := 0) X dX7_tear_0 0 rfl rfl ?_
  refine ww_get (pc := 1) (ci := 7) (v := .ref (g 7 0)) (C := RX7) (T := TX7) (N := 9) X inX7_tear_7 0 rfl rfl 6 (by decide) (by decide +kernel) rfl dX7_tear_1 ?_
  refine ww_get (pc := 4) (ci := 1) (v := .int (SN.1 0)) (C := RX1) (T := TX1) (N := 9) X inX7_tear_1 1 rfl rfl 3 (by decide) (by decide +kernel) rfl dX7_tear_4 ?_
  refine ww_aload_n (pc := 7) X dX7_tear_7 0 rfl rfl ?_
  refine ww_get (pc := 8) (ci := 7) (v := .ref (g 8 0)) (C := RX7) (T := TX7) (N := 9) X inX7_tear_7 0 rfl rfl 7 (by decide) (by decide +kernel) rfl dX7_tear_8 ?_
  refine ww_get (pc := 11) (ci := 0) (v := .int (SB.1 0)) (C := RX0) (T := TX0) (N := 3) X inX7_tear_0 13 rfl rfl 2 (by decide) (by decide +kernel) rfl dX7_tear_11 ?_
  refine ww_iadd (pc := 14) X dX7_tear_14 ?_
  refine ww_istore_n (pc := 15) (lv' := [(1, .int ((SN.1 0) + (SB.1 0))), (0, .ref (g 0 0))]) X dX7_tear_15 rfl (by decide) rfl ?_
  refine ww_aload_n (pc := 16) X dX7_tear_16 1 rfl rfl ?_
  refine ww_get (pc := 17) (ci := 7) (v := .ref (g 7 0)) (C := RX7) (T := TX7) (N := 9) X inX7_tear_7 0 rfl rfl 6 (by decide) (by decide +kernel) rfl dX7_tear_17 ?_
  refine ww_gVv (pc := 20) (rest := []) (gsN := [wX7 cI cZ cQ g ST, wX1 cI cZ cQ (g 7) (f_X1_empty SN), wX0 cI cZ cQ (g 8) SB]) (ci := 1) (gi := 0) (qi := 0) X (c_X1_empty l D cI cZ cQ (g 7) SN) gX7_tear_X1_empty rfl hd_X1_empty [false, true, false] rfl (acons (ad1 _ _ _ _ _ _) rfl) rfl rfl rfl rfl rfl rfl ⟨rfl, rfl⟩ ⟨Nat.le_of_ble_eq_true rfl, Nat.le_of_ble_eq_true rfl⟩ (Nat.le_of_ble_eq_true rfl) ⟨Nat.zero_le _, Nat.zero_le _⟩ dX7_tear_20 ?_
  generalize hz1 : (f_X1_empty SN) = z1
  refine ww_aload_n (pc := 23) X dX7_tear_23 1 rfl rfl ?_
  refine ww_get (pc := 24) (ci := 7) (v := .ref (g 8 0)) (C := RX7) (T := TX7) (N := 9) X inX7_tear_7 0 rfl rfl 7 (by decide) (by decide +kernel) rfl dX7_tear_24 ?_
  refine ww_gVv (pc := 27) (rest := []) (gsN := [wX7 cI cZ cQ g ST, wX1 cI cZ cQ (g 7) z1, wX0 cI cZ cQ (g 8) (f_X0_empty SB)]) (ci := 0) (gi := 0) (qi := 0) X (c_X0_empty l D cI cZ cQ (g 8) SB) gX7_tear_X0_empty rfl hd_X0_empty [false, false, true] rfl (acons (ad0 _ _ _ _ _ _) rfl) rfl rfl rfl rfl rfl rfl ⟨rfl, rfl⟩ ⟨Nat.le_of_ble_eq_true rfl, Nat.le_of_ble_eq_true rfl⟩ (Nat.le_of_ble_eq_true rfl) ⟨Nat.zero_le _, Nat.zero_le _⟩ dX7_tear_27 ?_
  generalize hz2 : (f_X0_empty SB) = z2
  refine ww_iload_n (pc := 30) X dX7_tear_30 0 rfl rfl ?_
  have h3 : f_X7_tear ST SN SB = ((SN.1 0) + (SB.1 0), z1, z2) := by unfold f_X7_tear; try rw [hz1]; try unfold f_X7_tear_k1; try rw [hz2]; try unfold f_X7_tear_k2; first | done | rfl
  exact ww_iret X hr rfl (congrArg (fun u9 : Int32 × St × St => u9.1) h3).symm (congrArg (fun u9 : Int32 × St × St => fl [wX7 cI cZ cQ g ST, wX1 cI cZ cQ (g 7) u9.2.1, wX0 cI cZ cQ (g 8) u9.2.2]) h3.symm) dX7_tear_31
def f_X7_judge (ST : St) (SF : St) (SB : St) : Int32 :=
  f_X0_firstWrong SF SB
theorem inX7_judge_7 : ∀ w ∈ wsX70, w ∈ wsX7_judge := by decide +kernel
theorem hd_X7_judge : yX7_judge.cls = RX7 ∧ yX7_judge.cls ≠ "java/lang/invoke/MethodHandle" ∧ yX7_judge.cls ≠ "java/lang/invoke/VarHandle" ∧ (parseMethodDescriptor yX7_judge.desc).map (fun d => d.parameters.length) = some 0 := by decide +kernel
set_option maxHeartbeats 4000000 in
set_option maxRecDepth 100000 in
theorem c_X7_judge (l : Launch) (D : va_G) (cI cZ cQ : ClassId) (g : Nat → Nat → Nat) (ST : St) (SF : St) (SB : St) (okB : SB.1 0 ≤ 15) : Ci l yX7_judge wsX7_judge { frames := 3, cells := 0, slots := 0, locals := 63 } D (tyL cI cZ cQ) [.ref (g 0 0)] (fl [wX7 cI cZ cQ g ST, wX3 cI cZ cQ (g 4) SF, wX0 cI cZ cQ (g 8) SB]) (f_X7_judge ST SF SB) (fl [wX7 cI cZ cQ g ST, wX3 cI cZ cQ (g 4) SF, wX0 cI cZ cQ (g 8) SB]) := by
  refine ci_of (cc := cX7_judge) (nL := 1) (ty := .int) (lv0 := [(0, .ref (g 0 0))]) (by decide) rfl (Nat.le_of_ble_eq_true rfl) rfl ?_
  intro p e s m args below meth c A X hr
  refine ww_aload_n (pc := 0) X dX7_judge_0 0 rfl rfl ?_
  refine ww_get (pc := 1) (ci := 7) (v := .ref (g 8 0)) (C := RX7) (T := TX7) (N := 9) X inX7_judge_7 0 rfl rfl 7 (by decide) (by decide +kernel) rfl dX7_judge_1 ?_
  refine ww_aload_n (pc := 4) X dX7_judge_4 0 rfl rfl ?_
  refine ww_get (pc := 5) (ci := 7) (v := .ref (g 4 0)) (C := RX7) (T := TX7) (N := 9) X inX7_judge_7 0 rfl rfl 3 (by decide) (by decide +kernel) rfl dX7_judge_5 ?_
  refine ww_gVi (pc := 8) (rest := []) (gsN := [wX7 cI cZ cQ g ST, wX3 cI cZ cQ (g 4) SF, wX0 cI cZ cQ (g 8) SB]) (ci := 0) (gi := 1) (qi := 0) X (c_X0_firstWrong l D cI cZ cQ (g 4) (g 8) SF SB (by assumption)) gX7_judge_X0_firstWrong rfl hd_X0_firstWrong [false, true, true] rfl rfl rfl rfl rfl rfl rfl rfl ⟨rfl, rfl⟩ ⟨Nat.le_of_ble_eq_true rfl, Nat.le_of_ble_eq_true rfl⟩ (Nat.le_of_ble_eq_true rfl) ⟨Nat.zero_le _, Nat.zero_le _⟩ dX7_judge_8 ?_
  exact ww_iret X hr rfl (Eq.symm (by unfold f_X7_judge; first | done | rfl)) rfl dX7_judge_11
def f_X7_seed (ST : St) (x1 : Int32) : Int32 × St :=
  if 0 ≤ x1 then
    (ST.1 0, (sI ST 0 x1))
  else
    ((-1000000002), ST)
theorem inX7_seed_7 : ∀ w ∈ wsX70, w ∈ wsX7_seed := by decide +kernel
theorem hd_X7_seed : yX7_seed.cls = RX7 ∧ yX7_seed.cls ≠ "java/lang/invoke/MethodHandle" ∧ yX7_seed.cls ≠ "java/lang/invoke/VarHandle" ∧ (parseMethodDescriptor yX7_seed.desc).map (fun d => d.parameters.length) = some 1 := by decide +kernel
set_option maxHeartbeats 4000000 in
set_option maxRecDepth 100000 in
theorem c_X7_seed (l : Launch) (D : va_G) (cI cZ cQ : ClassId) (g : Nat → Nat → Nat) (ST : St) (x1 : Int32) : Ci l yX7_seed wsX7_seed { frames := 0, cells := 0, slots := 0, locals := 0 } D (tyL cI cZ cQ) [.ref (g 0 0), .int x1] (fl [wX7 cI cZ cQ g ST]) ((f_X7_seed ST x1).1) (fl [wX7 cI cZ cQ g ((f_X7_seed ST x1).2)]) := by
  refine ci_of (cc := cX7_seed) (nL := 3) (ty := .int) (lv0 := [(0, .ref (g 0 0)), (1, .int x1)]) (by decide) rfl (Nat.le_of_ble_eq_true rfl) rfl ?_
  intro p e s m args below meth c A X hr
  refine ww_iload_n (pc := 0) X dX7_seed_0 1 rfl rfl ?_
  refine ww_if_ge (pc := 1) (tgt := 7) X dX7_seed_1 (by decide) (fun c1 => ?_) (fun c1 => ?_)
  · refine ww_aload_n (pc := 7) X dX7_seed_7 0 rfl rfl ?_
    refine ww_get (pc := 8) (ci := 7) (v := .int (ST.1 0)) (C := RX7) (T := TX7) (N := 9) X inX7_seed_7 0 rfl rfl 8 (by decide) (by decide +kernel) rfl dX7_seed_8 ?_
    refine ww_istore_n (pc := 11) (lv' := [(2, .int (ST.1 0)), (0, .ref (g 0 0)), (1, .int x1)]) X dX7_seed_11 rfl (by decide) rfl ?_
    refine ww_aload_n (pc := 12) X dX7_seed_12 1 rfl rfl ?_
    refine ww_iload_n (pc := 13) X dX7_seed_13 2 rfl rfl ?_
    refine ww_put (pc := 14) (ci := 7) (v := .int x1) (C := RX7) (T := TX7) (N := 9) (ws' := fl [wX7 cI cZ cQ g (sI ST 0 x1)]) X inX7_seed_7 tyX7 tyX7_ok nmX7 0 rfl rfl 8 (by decide) (by decide +kernel) rfl rfl rfl (Nat.le_of_ble_eq_true rfl) rfl dX7_seed_14 ?_
    refine ww_iload_n (pc := 17) X dX7_seed_17 0 rfl rfl ?_
    have h2 : f_X7_seed ST x1 = (ST.1 0, (sI ST 0 x1)) := by unfold f_X7_seed; try rw [if_pos c1]; first | done | rfl
    exact ww_iret X hr rfl (congrArg (fun u9 : Int32 × St => u9.1) h2).symm (congrArg (fun u9 : Int32 × St => fl [wX7 cI cZ cQ g u9.2]) h2.symm) dX7_seed_18
  · refine ww_ldc (pc := 4) (v := (-1000000002)) X (by decide +kernel) dX7_seed_4 ?_
    have h3 : f_X7_seed ST x1 = ((-1000000002), ST) := by unfold f_X7_seed; try rw [if_neg c1]; first | done | rfl
    exact ww_iret X hr rfl (congrArg (fun u9 : Int32 × St => u9.1) h3).symm (congrArg (fun u9 : Int32 × St => fl [wX7 cI cZ cQ g u9.2]) h3.symm) dX7_seed_6
def f_X7_keep_k2 (ST : St) (SF : St) (SP : St) (SI : St) (x1 : Int32) (z2 : St) (z3 : St) : Int32 × St × St :=
  (1, z3, z2)
def f_X7_keep_k1 (ST : St) (SF : St) (SP : St) (SI : St) (x1 : Int32) (z2 : St) : Int32 × St × St :=
  f_X7_keep_k2 ST SF SP SI x1 z2 (f_X4_forget SP)
def f_X7_keep (ST : St) (SF : St) (SP : St) (SI : St) (x1 : Int32) : Int32 × St × St :=
  if (f_X2_hasPlace SI x1) = 0 then
    ((-1000000001), SP, SI)
  else
    f_X7_keep_k1 ST SF SP SI x1 (f_X2_put SF SI x1 (ST.1 0))
theorem inX7_keep_7 : ∀ w ∈ wsX70, w ∈ wsX7_keep := by decide +kernel
theorem hd_X7_keep : yX7_keep.cls = RX7 ∧ yX7_keep.cls ≠ "java/lang/invoke/MethodHandle" ∧ yX7_keep.cls ≠ "java/lang/invoke/VarHandle" ∧ (parseMethodDescriptor yX7_keep.desc).map (fun d => d.parameters.length) = some 1 := by decide +kernel
set_option maxHeartbeats 4000000 in
set_option maxRecDepth 100000 in
theorem c_X7_keep (l : Launch) (D : va_G) (cI cZ cQ : ClassId) (g : Nat → Nat → Nat) (ST : St) (SF : St) (SP : St) (SI : St) (x1 : Int32) : Ci l yX7_keep wsX7_keep { frames := 3, cells := 0, slots := 0, locals := 84 } D (tyL cI cZ cQ) [.ref (g 0 0), .int x1] (fl [wX7 cI cZ cQ g ST, wX3 cI cZ cQ (g 4) SF, wX4 cI cZ cQ (g 5) SP, wX2 cI cZ cQ (g 6) SI]) ((f_X7_keep ST SF SP SI x1).1) (fl [wX7 cI cZ cQ g ST, wX3 cI cZ cQ (g 4) SF, wX4 cI cZ cQ (g 5) ((f_X7_keep ST SF SP SI x1).2.1), wX2 cI cZ cQ (g 6) ((f_X7_keep ST SF SP SI x1).2.2)]) := by
  refine ci_of (cc := cX7_keep) (nL := 2) (ty := .int) (lv0 := [(0, .ref (g 0 0)), (1, .int x1)]) (by decide) rfl (Nat.le_of_ble_eq_true rfl) rfl ?_
  intro p e s m args below meth c A X hr
  refine ww_aload_n (pc := 0) X dX7_keep_0 0 rfl rfl ?_
  refine ww_get (pc := 1) (ci := 7) (v := .ref (g 6 0)) (C := RX7) (T := TX7) (N := 9) X inX7_keep_7 0 rfl rfl 5 (by decide) (by decide +kernel) rfl dX7_keep_1 ?_
  refine ww_iload_n (pc := 4) X dX7_keep_4 1 rfl rfl ?_
  refine ww_gVi (pc := 5) (rest := []) (gsN := [wX7 cI cZ cQ g ST, wX3 cI cZ cQ (g 4) SF, wX4 cI cZ cQ (g 5) SP, wX2 cI cZ cQ (g 6) SI]) (ci := 2) (gi := 0) (qi := 0) X (c_X2_hasPlace l D cI cZ cQ (g 6) SI x1) gX7_keep_X2_hasPlace rfl hd_X2_hasPlace [false, false, false, true] rfl rfl rfl rfl rfl rfl rfl rfl ⟨rfl, rfl⟩ ⟨Nat.le_of_ble_eq_true rfl, Nat.le_of_ble_eq_true rfl⟩ (Nat.le_of_ble_eq_true rfl) ⟨Nat.zero_le _, Nat.zero_le _⟩ dX7_keep_5 ?_
  refine ww_if_ne (pc := 8) (tgt := 14) X dX7_keep_8 (by decide) (fun c1 => ?_) (fun c1 => ?_)
  · refine ww_aload_n (pc := 14) X dX7_keep_14 0 rfl rfl ?_
    refine ww_get (pc := 15) (ci := 7) (v := .ref (g 6 0)) (C := RX7) (T := TX7) (N := 9) X inX7_keep_7 0 rfl rfl 5 (by decide) (by decide +kernel) rfl dX7_keep_15 ?_
    refine ww_iload_n (pc := 18) X dX7_keep_18 1 rfl rfl ?_
    refine ww_aload_n (pc := 19) X dX7_keep_19 0 rfl rfl ?_
    refine ww_get (pc := 20) (ci := 7) (v := .ref (g 4 0)) (C := RX7) (T := TX7) (N := 9) X inX7_keep_7 0 rfl rfl 3 (by decide) (by decide +kernel) rfl dX7_keep_20 ?_
    refine ww_aload_n (pc := 23) X dX7_keep_23 0 rfl rfl ?_
    refine ww_get (pc := 24) (ci := 7) (v := .int (ST.1 0)) (C := RX7) (T := TX7) (N := 9) X inX7_keep_7 0 rfl rfl 8 (by decide) (by decide +kernel) rfl dX7_keep_24 ?_
    refine ww_gVv (pc := 27) (rest := []) (gsN := [wX7 cI cZ cQ g ST, wX3 cI cZ cQ (g 4) SF, wX4 cI cZ cQ (g 5) SP, wX2 cI cZ cQ (g 6) (f_X2_put SF SI x1 (ST.1 0))]) (ci := 2) (gi := 1) (qi := 0) X (c_X2_put l D cI cZ cQ (g 4) (g 6) SF SI x1 (ST.1 0)) gX7_keep_X2_put rfl hd_X2_put [false, true, false, true] rfl (acons rfl (acons (ad2 _ _ _ _ _ _) rfl)) rfl rfl rfl rfl rfl rfl ⟨rfl, rfl⟩ ⟨Nat.le_of_ble_eq_true rfl, Nat.le_of_ble_eq_true rfl⟩ (Nat.le_of_ble_eq_true rfl) ⟨Nat.zero_le _, Nat.zero_le _⟩ dX7_keep_27 ?_
    generalize hz2 : (f_X2_put SF SI x1 (ST.1 0)) = z2
    refine ww_aload_n (pc := 30) X dX7_keep_30 0 rfl rfl ?_
    refine ww_get (pc := 31) (ci := 7) (v := .ref (g 5 0)) (C := RX7) (T := TX7) (N := 9) X inX7_keep_7 0 rfl rfl 4 (by decide) (by decide +kernel) rfl dX7_keep_31 ?_
    refine ww_gVv (pc := 34) (rest := []) (gsN := [wX7 cI cZ cQ g ST, wX3 cI cZ cQ (g 4) SF, wX4 cI cZ cQ (g 5) (f_X4_forget SP), wX2 cI cZ cQ (g 6) z2]) (ci := 4) (gi := 0) (qi := 0) X (c_X4_forget l D cI cZ cQ (g 5) SP) gX7_keep_X4_forget rfl hd_X4_forget [false, false, true, false] rfl (acons (ad4 _ _ _ _ _ _) rfl) rfl rfl rfl rfl rfl rfl ⟨rfl, rfl⟩ ⟨Nat.le_of_ble_eq_true rfl, Nat.le_of_ble_eq_true rfl⟩ (Nat.le_of_ble_eq_true rfl) ⟨Nat.zero_le _, Nat.zero_le _⟩ dX7_keep_34 ?_
    generalize hz3 : (f_X4_forget SP) = z3
    refine ww_iconst (pc := 37) (v := 1) X dX7_keep_37 (by decide) ?_
    have h4 : f_X7_keep ST SF SP SI x1 = (1, z3, z2) := by unfold f_X7_keep; try rw [if_neg c1, hz2]; try unfold f_X7_keep_k1; try rw [hz3]; try unfold f_X7_keep_k2; first | done | rfl
    exact ww_iret X hr rfl (congrArg (fun u9 : Int32 × St × St => u9.1) h4).symm (congrArg (fun u9 : Int32 × St × St => fl [wX7 cI cZ cQ g ST, wX3 cI cZ cQ (g 4) SF, wX4 cI cZ cQ (g 5) u9.2.1, wX2 cI cZ cQ (g 6) u9.2.2]) h4.symm) dX7_keep_38
  · refine ww_ldc (pc := 11) (v := (-1000000001)) X (by decide +kernel) dX7_keep_11 ?_
    have h5 : f_X7_keep ST SF SP SI x1 = ((-1000000001), SP, SI) := by unfold f_X7_keep; try rw [if_pos c1]; first | done | rfl
    exact ww_iret X hr rfl (congrArg (fun u9 : Int32 × St × St => u9.1) h5).symm (congrArg (fun u9 : Int32 × St × St => fl [wX7 cI cZ cQ g ST, wX3 cI cZ cQ (g 4) SF, wX4 cI cZ cQ (g 5) u9.2.1, wX2 cI cZ cQ (g 6) u9.2.2]) h5.symm) dX7_keep_13
def f_X7_goBack_k1 (ST : St) (SF : St) (SP : St) (SI : St) (x1 : Int32) (z4 : St) : Int32 × St × St × St :=
  (1, (sI ST 0 ((SI.2 0) ((x1 : Int32)).toNatClampNeg)), (sA SF 0 (cp35 (SI.2 (2 + (x1 : Int32).toNatClampNeg)) (SF.2 0))), z4)
def f_X7_goBack (ST : St) (SF : St) (SP : St) (SI : St) (x1 : Int32) : Int32 × St × St × St :=
  if (f_X2_hasPlace SI x1) = 0 then
    ((-1000000001), ST, SF, SP)
  else
    if ((SI.2 1) ((x1 : Int32)).toNatClampNeg) = 0 then
      ((-1000000003), ST, SF, SP)
    else
      f_X7_goBack_k1 ST SF SP SI x1 (f_X4_forget SP)
theorem inX7_goBack_2 : ∀ w ∈ wsX20, w ∈ wsX7_goBack := by decide +kernel
theorem inX7_goBack_7 : ∀ w ∈ wsX70, w ∈ wsX7_goBack := by decide +kernel
theorem hd_X7_goBack : yX7_goBack.cls = RX7 ∧ yX7_goBack.cls ≠ "java/lang/invoke/MethodHandle" ∧ yX7_goBack.cls ≠ "java/lang/invoke/VarHandle" ∧ (parseMethodDescriptor yX7_goBack.desc).map (fun d => d.parameters.length) = some 1 := by decide +kernel
set_option maxHeartbeats 4000000 in
set_option maxRecDepth 100000 in
theorem c_X7_goBack (l : Launch) (D : va_G) (cI cZ cQ : ClassId) (g : Nat → Nat → Nat) (ST : St) (SF : St) (SP : St) (SI : St) (x1 : Int32) : Ci l yX7_goBack wsX7_goBack { frames := 2, cells := 0, slots := 0, locals := 61 } D (tyL cI cZ cQ) [.ref (g 0 0), .int x1] (fl [wX7 cI cZ cQ g ST, wX3 cI cZ cQ (g 4) SF, wX4 cI cZ cQ (g 5) SP, wX2 cI cZ cQ (g 6) SI]) ((f_X7_goBack ST SF SP SI x1).1) (fl [wX7 cI cZ cQ g ((f_X7_goBack ST SF SP SI x1).2.1), wX3 cI cZ cQ (g 4) ((f_X7_goBack ST SF SP SI x1).2.2.1), wX4 cI cZ cQ (g 5) ((f_X7_goBack ST SF SP SI x1).2.2.2), wX2 cI cZ cQ (g 6) SI]) := by
  refine ci_of (cc := cX7_goBack) (nL := 2) (ty := .int) (lv0 := [(0, .ref (g 0 0)), (1, .int x1)]) (by decide) rfl (Nat.le_of_ble_eq_true rfl) rfl ?_
  intro p e s m args below meth c A X hr
  refine ww_aload_n (pc := 0) X dX7_goBack_0 0 rfl rfl ?_
  refine ww_get (pc := 1) (ci := 7) (v := .ref (g 6 0)) (C := RX7) (T := TX7) (N := 9) X inX7_goBack_7 0 rfl rfl 5 (by decide) (by decide +kernel) rfl dX7_goBack_1 ?_
  refine ww_iload_n (pc := 4) X dX7_goBack_4 1 rfl rfl ?_
  refine ww_gVi (pc := 5) (rest := []) (gsN := [wX7 cI cZ cQ g ST, wX3 cI cZ cQ (g 4) SF, wX4 cI cZ cQ (g 5) SP, wX2 cI cZ cQ (g 6) SI]) (ci := 2) (gi := 0) (qi := 0) X (c_X2_hasPlace l D cI cZ cQ (g 6) SI x1) gX7_goBack_X2_hasPlace rfl hd_X2_hasPlace [false, false, false, true] rfl rfl rfl rfl rfl rfl rfl rfl ⟨rfl, rfl⟩ ⟨Nat.le_of_ble_eq_true rfl, Nat.le_of_ble_eq_true rfl⟩ (Nat.le_of_ble_eq_true rfl) ⟨Nat.zero_le _, Nat.zero_le _⟩ dX7_goBack_5 ?_
  refine ww_if_ne (pc := 8) (tgt := 14) X dX7_goBack_8 (by decide) (fun c1 => ?_) (fun c1 => ?_)
  · refine ww_aload_n (pc := 14) X dX7_goBack_14 0 rfl rfl ?_
    refine ww_get (pc := 15) (ci := 7) (v := .ref (g 6 0)) (C := RX7) (T := TX7) (N := 9) X inX7_goBack_7 0 rfl rfl 5 (by decide) (by decide +kernel) rfl dX7_goBack_15 ?_
    refine ww_get (pc := 18) (ci := 2) (v := .ref (g 6 3)) (C := RX2) (T := TX2) (N := 3) X inX7_goBack_2 25 rfl rfl 2 (by decide) (by decide +kernel) rfl dX7_goBack_18 ?_
    refine ww_iload_n (pc := 21) X dX7_goBack_21 1 rfl rfl ?_
    refine ww_zald (pc := 22) (f := SI.2 1) X 28 1 rfl rfl (in_X2_hasPlace c1) dX7_goBack_22 ?_
    refine ww_if_ne (pc := 23) (tgt := 29) X dX7_goBack_23 (by decide) (fun c2 => ?_) (fun c2 => ?_)
    · refine ww_aload_n (pc := 29) X dX7_goBack_29 0 rfl rfl ?_
      refine ww_get (pc := 30) (ci := 7) (v := .ref (g 4 0)) (C := RX7) (T := TX7) (N := 9) X inX7_goBack_7 0 rfl rfl 3 (by decide) (by decide +kernel) rfl dX7_goBack_30 ?_
      refine ww_aload_n (pc := 33) X dX7_goBack_33 0 rfl rfl ?_
      refine ww_get (pc := 34) (ci := 7) (v := .ref (g 6 0)) (C := RX7) (T := TX7) (N := 9) X inX7_goBack_7 0 rfl rfl 5 (by decide) (by decide +kernel) rfl dX7_goBack_34 ?_
      refine ww_get (pc := 37) (ci := 2) (v := .ref (g 6 1)) (C := RX2) (T := TX2) (N := 3) X inX7_goBack_2 25 rfl rfl 0 (by decide) (by decide +kernel) rfl dX7_goBack_37 ?_
      refine ww_iload_n (pc := 40) X dX7_goBack_40 1 rfl rfl ?_
      have hb3 := clb (in_X2_hasPlace c1)
      refine ww_aald (pc := 41) (q := g 6 (4 + (x1 : Int32).toNatClampNeg)) X 26 2 rfl rfl (vn (m := (x1 : Int32).toNatClampNeg) (cl_of (in_X2_hasPlace c1)) (by omega) (by decide)) (aq (k := (x1 : Int32).toNatClampNeg) (cl_of (in_X2_hasPlace c1)) (by omega)) dX7_goBack_41 ?_
      refine ww_cVv (rest := []) (wsN := fl [wX7 cI cZ cQ g ST, wX3 cI cZ cQ (g 4) (sA SF 0 (cp35 (SI.2 (2 + (x1 : Int32).toNatClampNeg)) (SF.2 0))), wX4 cI cZ cQ (g 5) SP, wX2 cI cZ cQ (g 6) SI]) (ci := 3) (q0 := 0) X (c_X3_copyFrom l D cI cZ cQ (g 4) SF (g 6 (4 + (x1 : Int32).toNatClampNeg)) (SI.2 (2 + (x1 : Int32).toNatClampNeg))) gX7_goBack_X3_copyFrom rfl hd_X3_copyFrom [1, 2, 29 + (x1 : Int32).toNatClampNeg] (c2_ (P := fun k9 => ([1, 2, 29 + k9]).map (fun i => (fl [wX7 cI cZ cQ g ST, wX3 cI cZ cQ (g 4) SF, wX4 cI cZ cQ (g 5) SP, wX2 cI cZ cQ (g 6) SI] : va_W)[i]?) = (fl [wX3 cI cZ cQ (g 4) SF, [(g 6 (4 + k9), .inl (cI, 35, .inl (SI.2 (2 + k9))))]] : va_W).map some) rfl rfl (by omega)) (c2_ (P := fun k9 => va_nd [1, 2, 29 + k9] = true) rfl rfl (by omega)) rfl (c2_ (P := fun k9 => wput (fl [wX7 cI cZ cQ g ST, wX3 cI cZ cQ (g 4) SF, wX4 cI cZ cQ (g 5) SP, wX2 cI cZ cQ (g 6) SI]) [1, 2, 29 + k9] (fl [wX3 cI cZ cQ (g 4) (sA SF 0 (cp35 (SI.2 (2 + k9)) (SF.2 0))), [(g 6 (4 + k9), .inl (cI, 35, .inl (SI.2 (2 + k9))))]]) = fl [wX7 cI cZ cQ g ST, wX3 cI cZ cQ (g 4) (sA SF 0 (cp35 (SI.2 (2 + k9)) (SF.2 0))), wX4 cI cZ cQ (g 5) SP, wX2 cI cZ cQ (g 6) SI]) rfl rfl (by omega)) rfl rfl rfl rfl ⟨rfl, rfl⟩ ⟨Nat.le_of_ble_eq_true rfl, Nat.le_of_ble_eq_true rfl⟩ (Nat.le_of_ble_eq_true rfl) ⟨Nat.zero_le _, Nat.zero_le _⟩ dX7_goBack_42 ?_
      refine ww_aload_n (pc := 45) X dX7_goBack_45 0 rfl rfl ?_
      refine ww_aload_n (pc := 46) X dX7_goBack_46 0 rfl rfl ?_
      refine ww_get (pc := 47) (ci := 7) (v := .ref (g 6 0)) (C := RX7) (T := TX7) (N := 9) X inX7_goBack_7 0 rfl rfl 5 (by decide) (by decide +kernel) rfl dX7_goBack_47 ?_
      refine ww_get (pc := 50) (ci := 2) (v := .ref (g 6 2)) (C := RX2) (T := TX2) (N := 3) X inX7_goBack_2 25 rfl rfl 1 (by decide) (by decide +kernel) rfl dX7_goBack_50 ?_
      refine ww_iload_n (pc := 53) X dX7_goBack_53 1 rfl rfl ?_
      refine ww_iald (pc := 54) (f := SI.2 0) X 27 0 rfl rfl (in_X2_hasPlace c1) dX7_goBack_54 ?_
      refine ww_put (pc := 55) (ci := 7) (v := .int ((SI.2 0) ((x1 : Int32)).toNatClampNeg)) (C := RX7) (T := TX7) (N := 9) (ws' := fl [wX7 cI cZ cQ g (sI ST 0 ((SI.2 0) ((x1 : Int32)).toNatClampNeg)), wX3 cI cZ cQ (g 4) (sA SF 0 (cp35 (SI.2 (2 + (x1 : Int32).toNatClampNeg)) (SF.2 0))), wX4 cI cZ cQ (g 5) SP, wX2 cI cZ cQ (g 6) SI]) X inX7_goBack_7 tyX7 tyX7_ok nmX7 0 rfl rfl 8 (by decide) (by decide +kernel) rfl rfl rfl (Nat.le_of_ble_eq_true rfl) rfl dX7_goBack_55 ?_
      refine ww_aload_n (pc := 58) X dX7_goBack_58 0 rfl rfl ?_
      refine ww_get (pc := 59) (ci := 7) (v := .ref (g 5 0)) (C := RX7) (T := TX7) (N := 9) X inX7_goBack_7 0 rfl rfl 4 (by decide) (by decide +kernel) rfl dX7_goBack_59 ?_
      refine ww_gVv (pc := 62) (rest := []) (gsN := [wX7 cI cZ cQ g (sI ST 0 ((SI.2 0) ((x1 : Int32)).toNatClampNeg)), wX3 cI cZ cQ (g 4) (sA SF 0 (cp35 (SI.2 (2 + (x1 : Int32).toNatClampNeg)) (SF.2 0))), wX4 cI cZ cQ (g 5) (f_X4_forget SP), wX2 cI cZ cQ (g 6) SI]) (ci := 4) (gi := 0) (qi := 0) X (c_X4_forget l D cI cZ cQ (g 5) SP) gX7_goBack_X4_forget rfl hd_X4_forget [false, false, true, false] rfl (acons (ad4 _ _ _ _ _ _) rfl) rfl rfl rfl rfl rfl rfl ⟨rfl, rfl⟩ ⟨Nat.le_of_ble_eq_true rfl, Nat.le_of_ble_eq_true rfl⟩ (Nat.le_of_ble_eq_true rfl) ⟨Nat.zero_le _, Nat.zero_le _⟩ dX7_goBack_62 ?_
      generalize hz4 : (f_X4_forget SP) = z4
      refine ww_iconst (pc := 65) (v := 1) X dX7_goBack_65 (by decide) ?_
      have h5 : f_X7_goBack ST SF SP SI x1 = (1, (sI ST 0 ((SI.2 0) ((x1 : Int32)).toNatClampNeg)), (sA SF 0 (cp35 (SI.2 (2 + (x1 : Int32).toNatClampNeg)) (SF.2 0))), z4) := by unfold f_X7_goBack; try rw [if_neg c1, if_neg c2, hz4]; try unfold f_X7_goBack_k1; first | done | rfl
      exact ww_iret X hr rfl (congrArg (fun u9 : Int32 × St × St × St => u9.1) h5).symm (congrArg (fun u9 : Int32 × St × St × St => fl [wX7 cI cZ cQ g u9.2.1, wX3 cI cZ cQ (g 4) u9.2.2.1, wX4 cI cZ cQ (g 5) u9.2.2.2, wX2 cI cZ cQ (g 6) SI]) h5.symm) dX7_goBack_66
    · refine ww_ldc (pc := 26) (v := (-1000000003)) X (by decide +kernel) dX7_goBack_26 ?_
      have h6 : f_X7_goBack ST SF SP SI x1 = ((-1000000003), ST, SF, SP) := by unfold f_X7_goBack; try rw [if_neg c1, if_pos c2]; first | done | rfl
      exact ww_iret X hr rfl (congrArg (fun u9 : Int32 × St × St × St => u9.1) h6).symm (congrArg (fun u9 : Int32 × St × St × St => fl [wX7 cI cZ cQ g u9.2.1, wX3 cI cZ cQ (g 4) u9.2.2.1, wX4 cI cZ cQ (g 5) u9.2.2.2, wX2 cI cZ cQ (g 6) SI]) h6.symm) dX7_goBack_28
  · refine ww_ldc (pc := 11) (v := (-1000000001)) X (by decide +kernel) dX7_goBack_11 ?_
    have h7 : f_X7_goBack ST SF SP SI x1 = ((-1000000001), ST, SF, SP) := by unfold f_X7_goBack; try rw [if_pos c1]; first | done | rfl
    exact ww_iret X hr rfl (congrArg (fun u9 : Int32 × St × St × St => u9.1) h7).symm (congrArg (fun u9 : Int32 × St × St × St => fl [wX7 cI cZ cQ g u9.2.1, wX3 cI cZ cQ (g 4) u9.2.2.1, wX4 cI cZ cQ (g 5) u9.2.2.2, wX2 cI cZ cQ (g 6) SI]) h7.symm) dX7_goBack_13
