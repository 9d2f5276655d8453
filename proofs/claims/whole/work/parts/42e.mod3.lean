def bd_X8_both_64_k2 (SM : St) (x1 : Int32) (x2 : Int32) (x3 : Int32) (j : Nat) (u : Int32 × Int32) (z11 : Int32) (z13 : Int32) : Int32 × Int32 :=
  if z11 = z13 then
    if (f_X8_end SM x1) ≤ z11 then
      (u.1, u.2)
    else
      if (f_X8_end SM x2) ≤ z13 then
        (u.1, u.2)
      else
        if u.2 = (-1) then
          (f_X8_spanOf SM ((nI j) - (nI j) / 50 * 50), (100 * ((nI j) / 50)) + ((nI j) - (nI j) / 50 * 50))
        else
          if u.1 ≤ (f_X8_spanOf SM ((nI j) - (nI j) / 50 * 50)) then
            (u.1, u.2)
          else
            (f_X8_spanOf SM ((nI j) - (nI j) / 50 * 50), (100 * ((nI j) / 50)) + ((nI j) - (nI j) / 50 * 50))
  else
    (u.1, u.2)
def bd_X8_both_64_k1 (SM : St) (x1 : Int32) (x2 : Int32) (x3 : Int32) (j : Nat) (u : Int32 × Int32) (z11 : Int32) : Int32 × Int32 :=
  bd_X8_both_64_k2 SM x1 x2 x3 j u z11 ((((SM.2 9) ((1 + x2 : Int32)).toNatClampNeg) + (f_X8_spanOf SM ((nI j) - (nI j) / 50 * 50))) - (f_X8_spanOf SM ((nI j) - (nI j) / 50 * 50)))
def bd_X8_both_64_k4 (SM : St) (x1 : Int32) (x2 : Int32) (x3 : Int32) (j : Nat) (u : Int32 × Int32) (z32 : Int32) (z34 : Int32) : Int32 × Int32 :=
  if z32 = z34 then
    if (f_X8_end SM x1) ≤ z32 then
      (u.1, u.2)
    else
      if (f_X8_end SM x2) ≤ z34 then
        (u.1, u.2)
      else
        if u.2 = (-1) then
          (f_X8_spanOf SM ((nI j) / 50), (100 * ((nI j) / 50)) + ((nI j) - (nI j) / 50 * 50))
        else
          if u.1 ≤ (f_X8_spanOf SM ((nI j) / 50)) then
            (u.1, u.2)
          else
            (f_X8_spanOf SM ((nI j) / 50), (100 * ((nI j) / 50)) + ((nI j) - (nI j) / 50 * 50))
  else
    (u.1, u.2)
def bd_X8_both_64_k3 (SM : St) (x1 : Int32) (x2 : Int32) (x3 : Int32) (j : Nat) (u : Int32 × Int32) (z32 : Int32) : Int32 × Int32 :=
  bd_X8_both_64_k4 SM x1 x2 x3 j u z32 ((((SM.2 9) ((1 + x2 : Int32)).toNatClampNeg) + (f_X8_spanOf SM ((nI j) / 50))) - (f_X8_spanOf SM ((nI j) - (nI j) / 50 * 50)))
def bd_X8_both_64 (SM : St) (x1 : Int32) (x2 : Int32) (x3 : Int32) (j : Nat) (u : Int32 × Int32) : Int32 × Int32 :=
  if (f_X8_isStay SM ((nI j) / 50)) = 0 then
    (u.1, u.2)
  else
    if (f_X8_isStay SM ((nI j) - (nI j) / 50 * 50)) = 0 then
      (u.1, u.2)
    else
      if (f_X8_spanOf SM ((nI j) / 50)) ≤ (f_X8_spanOf SM ((nI j) - (nI j) / 50 * 50)) then
        bd_X8_both_64_k1 SM x1 x2 x3 j u ((((SM.2 9) ((1 + x1 : Int32)).toNatClampNeg) + (f_X8_spanOf SM ((nI j) - (nI j) / 50 * 50))) - (f_X8_spanOf SM ((nI j) / 50)))
      else
        bd_X8_both_64_k3 SM x1 x2 x3 j u ((((SM.2 9) ((1 + x1 : Int32)).toNatClampNeg) + (f_X8_spanOf SM ((nI j) / 50))) - (f_X8_spanOf SM ((nI j) / 50)))
def it_X8_both_64 (SM : St) (x1 : Int32) (x2 : Int32) (x3 : Int32) (u : Int32 × Int32) : Nat → Int32 × Int32
  | 0 => u
  | j + 1 => bd_X8_both_64 SM x1 x2 x3 j (it_X8_both_64 SM x1 x2 x3 u j)
def f_X8_both_k1 (SM : St) (x1 : Int32) (x2 : Int32) (x3 : Int32) (z111 : Int32 × Int32) : Int32 :=
  if x3 = 0 then
    z111.1
  else
    z111.2
def f_X8_both (SM : St) (x1 : Int32) (x2 : Int32) (x3 : Int32) : Int32 :=
  if (f_X8_isPerson SM x1) = 0 then
    (-1000000001)
  else
    if (f_X8_isPerson SM x2) = 0 then
      (-1000000001)
    else
      if x1 = x2 then
        (-1000000001)
      else
        if (f_X8_in x3 0 1) = 0 then
          (-1000000002)
        else
          if (f_X8_isAbove SM x1) = 0 then
            (-1000000003)
          else
            if (f_X8_isAbove SM x2) = 0 then
              (-1000000003)
            else
              f_X8_both_k1 SM x1 x2 x3 (it_X8_both_64 SM x1 x2 x3 ((-1), (-1)) 2500)
theorem inX8_both_8 : ∀ w ∈ wsX80, w ∈ wsX8_both := by decide +kernel
theorem hd_X8_both : yX8_both.cls = RX8 ∧ yX8_both.cls ≠ "java/lang/invoke/MethodHandle" ∧ yX8_both.cls ≠ "java/lang/invoke/VarHandle" ∧ (parseMethodDescriptor yX8_both.desc).map (fun d => d.parameters.length) = some 3 := by decide +kernel
set_option maxHeartbeats 4000000 in
set_option maxRecDepth 100000 in
theorem c_X8_both (l : Launch) (D : va_G) (cI cZ cQ : ClassId) (rM : Nat → Nat) (SM : St) (x1 : Int32) (x2 : Int32) (x3 : Int32) (okm : okM SM) : Ci l yX8_both wsX8_both { frames := 2, cells := 0, slots := 0, locals := 43 } D (tyL cI cZ cQ) [.ref (rM 0), .int x1, .int x2, .int x3] (fl [wX8 cI cZ cQ rM SM]) (f_X8_both SM x1 x2 x3) (fl [wX8 cI cZ cQ rM SM]) := by
  refine ci_of (cc := cX8_both) (nL := 15) (ty := .int) (lv0 := [(0, .ref (rM 0)), (1, .int x1), (2, .int x2), (3, .int x3)]) (by decide) rfl (Nat.le_of_ble_eq_true rfl) rfl ?_
  intro p e s m args below meth c A X hr
  refine ww_aload_n (pc := 0) X dX8_both_0 0 rfl rfl ?_
  refine ww_iload_n (pc := 1) X dX8_both_1 1 rfl rfl ?_
  refine ww_gVi (pc := 2) (rest := []) (gsN := [wX8 cI cZ cQ rM SM]) (ci := 8) (gi := 0) (qi := 0) X (c_X8_isPerson l D cI cZ cQ rM SM x1) gX8_both_X8_isPerson rfl hd_X8_isPerson [true] rfl rfl rfl rfl rfl rfl rfl rfl ⟨rfl, rfl⟩ ⟨Nat.le_of_ble_eq_true rfl, Nat.le_of_ble_eq_true rfl⟩ (Nat.le_of_ble_eq_true rfl) ⟨Nat.zero_le _, Nat.zero_le _⟩ dX8_both_2 ?_
  refine ww_if_eq (pc := 5) (tgt := 21) X dX8_both_5 (by decide) (fun c1 => ?_) (fun c1 => ?_)
  · refine ww_ldc (pc := 21) (v := (-1000000001)) X (by decide +kernel) dX8_both_21 ?_
    exact ww_iret X hr rfl (Eq.symm (by unfold f_X8_both; try rw [if_pos c1]; first | done | rfl)) rfl dX8_both_23
  · refine ww_aload_n (pc := 8) X dX8_both_8 0 rfl rfl ?_
    refine ww_iload_n (pc := 9) X dX8_both_9 2 rfl rfl ?_
    refine ww_gVi (pc := 10) (rest := []) (gsN := [wX8 cI cZ cQ rM SM]) (ci := 8) (gi := 0) (qi := 0) X (c_X8_isPerson l D cI cZ cQ rM SM x2) gX8_both_X8_isPerson rfl hd_X8_isPerson [true] rfl rfl rfl rfl rfl rfl rfl rfl ⟨rfl, rfl⟩ ⟨Nat.le_of_ble_eq_true rfl, Nat.le_of_ble_eq_true rfl⟩ (Nat.le_of_ble_eq_true rfl) ⟨Nat.zero_le _, Nat.zero_le _⟩ dX8_both_10 ?_
    refine ww_if_eq (pc := 13) (tgt := 21) X dX8_both_13 (by decide) (fun c2 => ?_) (fun c2 => ?_)
    · refine ww_ldc (pc := 21) (v := (-1000000001)) X (by decide +kernel) dX8_both_21 ?_
      exact ww_iret X hr rfl (Eq.symm (by unfold f_X8_both; try rw [if_neg c1, if_pos c2]; first | done | rfl)) rfl dX8_both_23
    · refine ww_iload_n (pc := 16) X dX8_both_16 1 rfl rfl ?_
      refine ww_iload_n (pc := 17) X dX8_both_17 2 rfl rfl ?_
      refine ww_icmp_ne (pc := 18) (tgt := 24) X dX8_both_18 (by decide) (fun c3 => ?_) (fun c3 => ?_)
      · refine ww_iload_n (pc := 24) X dX8_both_24 3 rfl rfl ?_
        refine ww_iconst (pc := 25) (v := 0) X dX8_both_25 (by decide) ?_
        refine ww_iconst (pc := 26) (v := 1) X dX8_both_26 (by decide) ?_
        refine ww_gSi (pc := 27) (rest := []) (gsN := [wX8 cI cZ cQ rM SM]) X (c_X8_in l D cI cZ cQ x3 0 1) gX8_both_X8_in rfl hd_X8_in [false] rfl rfl rfl rfl ⟨rfl, rfl⟩ ⟨Nat.le_of_ble_eq_true rfl, Nat.le_of_ble_eq_true rfl⟩ (Nat.le_of_ble_eq_true rfl) ⟨Nat.zero_le _, Nat.zero_le _⟩ dX8_both_27 ?_
        refine ww_if_ne (pc := 30) (tgt := 36) X dX8_both_30 (by decide) (fun c4 => ?_) (fun c4 => ?_)
        · refine ww_aload_n (pc := 36) X dX8_both_36 0 rfl rfl ?_
          refine ww_iload_n (pc := 37) X dX8_both_37 1 rfl rfl ?_
          refine ww_gVi (pc := 38) (rest := []) (gsN := [wX8 cI cZ cQ rM SM]) (ci := 8) (gi := 0) (qi := 0) X (c_X8_isAbove l D cI cZ cQ rM SM x1 (in_X8_isPerson okm c1)) gX8_both_X8_isAbove rfl hd_X8_isAbove [true] rfl rfl rfl rfl rfl rfl rfl rfl ⟨rfl, rfl⟩ ⟨Nat.le_of_ble_eq_true rfl, Nat.le_of_ble_eq_true rfl⟩ (Nat.le_of_ble_eq_true rfl) ⟨Nat.zero_le _, Nat.zero_le _⟩ dX8_both_38 ?_
          refine ww_if_eq (pc := 41) (tgt := 52) X dX8_both_41 (by decide) (fun c5 => ?_) (fun c5 => ?_)
          · refine ww_ldc (pc := 52) (v := (-1000000003)) X (by decide +kernel) dX8_both_52 ?_
            exact ww_iret X hr rfl (Eq.symm (by unfold f_X8_both; try rw [if_neg c1, if_neg c2, if_neg c3, if_neg c4, if_pos c5]; first | done | rfl)) rfl dX8_both_54
          · refine ww_aload_n (pc := 44) X dX8_both_44 0 rfl rfl ?_
            refine ww_iload_n (pc := 45) X dX8_both_45 2 rfl rfl ?_
            refine ww_gVi (pc := 46) (rest := []) (gsN := [wX8 cI cZ cQ rM SM]) (ci := 8) (gi := 0) (qi := 0) X (c_X8_isAbove l D cI cZ cQ rM SM x2 (in_X8_isPerson okm c2)) gX8_both_X8_isAbove rfl hd_X8_isAbove [true] rfl rfl rfl rfl rfl rfl rfl rfl ⟨rfl, rfl⟩ ⟨Nat.le_of_ble_eq_true rfl, Nat.le_of_ble_eq_true rfl⟩ (Nat.le_of_ble_eq_true rfl) ⟨Nat.zero_le _, Nat.zero_le _⟩ dX8_both_46 ?_
            refine ww_if_ne (pc := 49) (tgt := 55) X dX8_both_49 (by decide) (fun c6 => ?_) (fun c6 => ?_)
            · refine ww_iconst (pc := 55) (v := (-1)) X dX8_both_55 (by decide) ?_
              refine ww_istore (pc := 56) (lv' := [(4, .int (-1)), (0, .ref (rM 0)), (1, .int x1), (2, .int x2), (3, .int x3)]) X dX8_both_56 (by decide) rfl ?_
              refine ww_iconst (pc := 58) (v := (-1)) X dX8_both_58 (by decide) ?_
              refine ww_istore (pc := 59) (lv' := [(5, .int (-1)), (4, .int (-1)), (0, .ref (rM 0)), (1, .int x1), (2, .int x2), (3, .int x3)]) X dX8_both_59 (by decide) rfl ?_
              refine ww_iconst (pc := 61) (v := 0) X dX8_both_61 (by decide) ?_
              refine ww_istore (pc := 62) (lv' := [(6, .int 0), (5, .int (-1)), (4, .int (-1)), (0, .ref (rM 0)), (1, .int x1), (2, .int x2), (3, .int x3)]) X dX8_both_62 (by decide) rfl ?_
              have L64 : ∀ (k_64 j_64 : Nat), j_64 + k_64 = 2500 → WW p l e (headSpec wsX8_both { frames := 2, cells := 0, slots := 0, locals := 43 }).room s m args below meth c 15 D A 0 0 (RQi below args s D A (f_X8_both SM x1 x2 x3) (fl [wX8 cI cZ cQ rM SM])) (fl [wX8 cI cZ cQ rM SM]) [(0, .ref (rM 0)), (1, .int x1), (2, .int x2), (3, .int x3), (4, .int ((it_X8_both_64 SM x1 x2 x3 ((-1), (-1)) 2500).1)), (5, .int ((it_X8_both_64 SM x1 x2 x3 ((-1), (-1)) 2500).2)), (6, .int (nI 2500))] 255 [] → WW p l e (headSpec wsX8_both { frames := 2, cells := 0, slots := 0, locals := 43 }).room s m args below meth c 15 D A 0 0 (RQi below args s D A (f_X8_both SM x1 x2 x3) (fl [wX8 cI cZ cQ rM SM])) (fl [wX8 cI cZ cQ rM SM]) [(0, .ref (rM 0)), (1, .int x1), (2, .int x2), (3, .int x3), (4, .int ((it_X8_both_64 SM x1 x2 x3 ((-1), (-1)) j_64).1)), (5, .int ((it_X8_both_64 SM x1 x2 x3 ((-1), (-1)) j_64).2)), (6, .int (nI j_64))] 64 [] := by
                intro k_64
                induction k_64 with
                | zero =>
                  intro j_64 hj K
                  have hjB : j_64 = 2500 := by omega
                  subst hjB
                  refine ww_iload (pc := 64) X dX8_both_64 6 rfl ?_
                  refine ww_sipush (pc := 66) (v := 2500) X dX8_both_66 (by decide) ?_
                  exact ww_icmp_ge (pc := 69) (tgt := 255) X dX8_both_69 (by decide) (fun _ => K) (fun c9 => absurd (lp_ge0 rfl (Nat.le_refl _) (by decide)) c9)
                | succ k_64 ih =>
                  intro j_64 hj K
                  have hjB : j_64 < 2500 := by omega
                  refine ww_iload (pc := 64) X dX8_both_64 6 rfl ?_
                  refine ww_sipush (pc := 66) (v := 2500) X dX8_both_66 (by decide) ?_
                  refine ww_icmp_ge (pc := 69) (tgt := 255) X dX8_both_69 (by decide) (fun c9 => absurd c9 (lp_ge1 rfl hjB (by decide))) (fun _ => ?_)
                  refine ww_iload (pc := 72) X dX8_both_72 6 rfl ?_
                  refine ww_bipush (pc := 74) (v := 50) X dX8_both_74 (by decide) ?_
                  refine ww_idiv (pc := 76) X dX8_both_76 (by decide) ?_
                  refine ww_istore (pc := 77) (lv' := [(7, .int ((nI j_64) / 50)), (0, .ref (rM 0)), (1, .int x1), (2, .int x2), (3, .int x3), (4, .int ((it_X8_both_64 SM x1 x2 x3 ((-1), (-1)) j_64).1)), (5, .int ((it_X8_both_64 SM x1 x2 x3 ((-1), (-1)) j_64).2)), (6, .int (nI j_64))]) X dX8_both_77 (by decide) rfl ?_
                  refine ww_iload (pc := 79) X dX8_both_79 7 rfl ?_
                  refine ww_bipush (pc := 81) (v := 50) X dX8_both_81 (by decide) ?_
                  refine ww_irem (pc := 83) X dX8_both_83 (by decide) ?_
                  refine ww_istore (pc := 84) (lv' := [(8, .int ((nI j_64) - (nI j_64) / 50 * 50)), (7, .int ((nI j_64) / 50)), (0, .ref (rM 0)), (1, .int x1), (2, .int x2), (3, .int x3), (4, .int ((it_X8_both_64 SM x1 x2 x3 ((-1), (-1)) j_64).1)), (5, .int ((it_X8_both_64 SM x1 x2 x3 ((-1), (-1)) j_64).2)), (6, .int (nI j_64))]) X dX8_both_84 (by decide) rfl ?_
                  refine ww_aload_n (pc := 86) X dX8_both_86 2 rfl rfl ?_
                  refine ww_iload (pc := 87) X dX8_both_87 1 rfl ?_
                  refine ww_gVi (pc := 89) (rest := []) (gsN := [wX8 cI cZ cQ rM SM]) (ci := 8) (gi := 0) (qi := 0) X (c_X8_isStay l D cI cZ cQ rM SM ((nI j_64) / 50)) gX8_both_X8_isStay rfl hd_X8_isStay [true] rfl rfl rfl rfl rfl rfl rfl rfl ⟨rfl, rfl⟩ ⟨Nat.le_of_ble_eq_true rfl, Nat.le_of_ble_eq_true rfl⟩ (Nat.le_of_ble_eq_true rfl) ⟨Nat.zero_le _, Nat.zero_le _⟩ dX8_both_89 ?_
                  refine ww_if_eq (pc := 92) (tgt := 249) X dX8_both_92 (by decide) (fun c52 => ?_) (fun c52 => ?_)
                  · refine ww_iinc (pc := 249) (v := (nI j_64) + 1) (lv' := [(6, .int ((nI j_64) + 1)), (8, .int ((nI j_64) - (nI j_64) / 50 * 50)), (7, .int ((nI j_64) / 50)), (0, .ref (rM 0)), (1, .int x1), (2, .int x2), (3, .int x3), (4, .int ((it_X8_both_64 SM x1 x2 x3 ((-1), (-1)) j_64).1)), (5, .int ((it_X8_both_64 SM x1 x2 x3 ((-1), (-1)) j_64).2))]) X dX8_both_249 8 rfl rfl (by decide) rfl ?_
                    refine ww_goto (pc := 252) (tgt := 64) X dX8_both_252 (by decide) ?_
                    have h53 : (it_X8_both_64 SM x1 x2 x3 ((-1), (-1)) (j_64 + 1)) = ((it_X8_both_64 SM x1 x2 x3 ((-1), (-1)) j_64).1, (it_X8_both_64 SM x1 x2 x3 ((-1), (-1)) j_64).2) := by
                      show bd_X8_both_64 SM x1 x2 x3 j_64 (it_X8_both_64 SM x1 x2 x3 ((-1), (-1)) j_64) = _; unfold bd_X8_both_64; try rw [if_pos c52]; first | done | rfl
                    refine ww_lsub [3, 4, 5, 6, 7, 8, 0] rfl ?_
                    exact ww_castI (fun u9 : Int32 × Int32 => fl [wX8 cI cZ cQ rM SM]) (fun (u9 : Int32 × Int32) (i9 : Int32) => ([(0, .ref (rM 0)), (1, .int x1), (2, .int x2), (3, .int x3), (4, .int u9.1), (5, .int u9.2), (6, .int i9)] : List (Nat × Value))) h53 (ih (j_64 + 1) (by omega) K)
                  · refine ww_aload_n (pc := 95) X dX8_both_95 2 rfl rfl ?_
                    refine ww_iload (pc := 96) X dX8_both_96 0 rfl ?_
                    refine ww_gVi (pc := 98) (rest := []) (gsN := [wX8 cI cZ cQ rM SM]) (ci := 8) (gi := 0) (qi := 0) X (c_X8_isStay l D cI cZ cQ rM SM ((nI j_64) - (nI j_64) / 50 * 50)) gX8_both_X8_isStay rfl hd_X8_isStay [true] rfl rfl rfl rfl rfl rfl rfl rfl ⟨rfl, rfl⟩ ⟨Nat.le_of_ble_eq_true rfl, Nat.le_of_ble_eq_true rfl⟩ (Nat.le_of_ble_eq_true rfl) ⟨Nat.zero_le _, Nat.zero_le _⟩ dX8_both_98 ?_
                    refine ww_if_eq (pc := 101) (tgt := 249) X dX8_both_101 (by decide) (fun c54 => ?_) (fun c54 => ?_)
                    · refine ww_iinc (pc := 249) (v := (nI j_64) + 1) (lv' := [(6, .int ((nI j_64) + 1)), (8, .int ((nI j_64) - (nI j_64) / 50 * 50)), (7, .int ((nI j_64) / 50)), (0, .ref (rM 0)), (1, .int x1), (2, .int x2), (3, .int x3), (4, .int ((it_X8_both_64 SM x1 x2 x3 ((-1), (-1)) j_64).1)), (5, .int ((it_X8_both_64 SM x1 x2 x3 ((-1), (-1)) j_64).2))]) X dX8_both_249 8 rfl rfl (by decide) rfl ?_
                      refine ww_goto (pc := 252) (tgt := 64) X dX8_both_252 (by decide) ?_
                      have h55 : (it_X8_both_64 SM x1 x2 x3 ((-1), (-1)) (j_64 + 1)) = ((it_X8_both_64 SM x1 x2 x3 ((-1), (-1)) j_64).1, (it_X8_both_64 SM x1 x2 x3 ((-1), (-1)) j_64).2) := by
                        show bd_X8_both_64 SM x1 x2 x3 j_64 (it_X8_both_64 SM x1 x2 x3 ((-1), (-1)) j_64) = _; unfold bd_X8_both_64; try rw [if_neg c52, if_pos c54]; first | done | rfl
                      refine ww_lsub [3, 4, 5, 6, 7, 8, 0] rfl ?_
                      exact ww_castI (fun u9 : Int32 × Int32 => fl [wX8 cI cZ cQ rM SM]) (fun (u9 : Int32 × Int32) (i9 : Int32) => ([(0, .ref (rM 0)), (1, .int x1), (2, .int x2), (3, .int x3), (4, .int u9.1), (5, .int u9.2), (6, .int i9)] : List (Nat × Value))) h55 (ih (j_64 + 1) (by omega) K)
                    · refine ww_aload_n (pc := 104) X dX8_both_104 2 rfl rfl ?_
                      refine ww_iload (pc := 105) X dX8_both_105 1 rfl ?_
                      refine ww_gVi (pc := 107) (rest := []) (gsN := [wX8 cI cZ cQ rM SM]) (ci := 8) (gi := 0) (qi := 0) X (c_X8_spanOf l D cI cZ cQ rM SM ((nI j_64) / 50) (st_sp okm c52)) gX8_both_X8_spanOf rfl hd_X8_spanOf [true] rfl rfl rfl rfl rfl rfl rfl rfl ⟨rfl, rfl⟩ ⟨Nat.le_of_ble_eq_true rfl, Nat.le_of_ble_eq_true rfl⟩ (Nat.le_of_ble_eq_true rfl) ⟨Nat.zero_le _, Nat.zero_le _⟩ dX8_both_107 ?_
                      refine ww_istore (pc := 110) (lv' := [(9, .int (f_X8_spanOf SM ((nI j_64) / 50))), (8, .int ((nI j_64) - (nI j_64) / 50 * 50)), (7, .int ((nI j_64) / 50)), (0, .ref (rM 0)), (1, .int x1), (2, .int x2), (3, .int x3), (4, .int ((it_X8_both_64 SM x1 x2 x3 ((-1), (-1)) j_64).1)), (5, .int ((it_X8_both_64 SM x1 x2 x3 ((-1), (-1)) j_64).2)), (6, .int (nI j_64))]) X dX8_both_110 (by decide) rfl ?_
                      refine ww_aload_n (pc := 112) X dX8_both_112 3 rfl rfl ?_
                      refine ww_iload (pc := 113) X dX8_both_113 1 rfl ?_
                      refine ww_gVi (pc := 115) (rest := []) (gsN := [wX8 cI cZ cQ rM SM]) (ci := 8) (gi := 0) (qi := 0) X (c_X8_spanOf l D cI cZ cQ rM SM ((nI j_64) - (nI j_64) / 50 * 50) (st_sp okm c54)) gX8_both_X8_spanOf rfl hd_X8_spanOf [true] rfl rfl rfl rfl rfl rfl rfl rfl ⟨rfl, rfl⟩ ⟨Nat.le_of_ble_eq_true rfl, Nat.le_of_ble_eq_true rfl⟩ (Nat.le_of_ble_eq_true rfl) ⟨Nat.zero_le _, Nat.zero_le _⟩ dX8_both_115 ?_
                      refine ww_istore (pc := 118) (lv' := [(10, .int (f_X8_spanOf SM ((nI j_64) - (nI j_64) / 50 * 50))), (9, .int (f_X8_spanOf SM ((nI j_64) / 50))), (8, .int ((nI j_64) - (nI j_64) / 50 * 50)), (7, .int ((nI j_64) / 50)), (0, .ref (rM 0)), (1, .int x1), (2, .int x2), (3, .int x3), (4, .int ((it_X8_both_64 SM x1 x2 x3 ((-1), (-1)) j_64).1)), (5, .int ((it_X8_both_64 SM x1 x2 x3 ((-1), (-1)) j_64).2)), (6, .int (nI j_64))]) X dX8_both_118 (by decide) rfl ?_
                      refine ww_iload (pc := 120) X dX8_both_120 1 rfl ?_
                      refine ww_iload (pc := 122) X dX8_both_122 0 rfl ?_
                      refine ww_icmp_le (pc := 124) (tgt := 132) X dX8_both_124 (by decide) (fun c56 => ?_) (fun c56 => ?_)
                      · refine ww_iload (pc := 132) X dX8_both_132 0 rfl ?_
                        refine ww_istore (pc := 134) (lv' := [(11, .int (f_X8_spanOf SM ((nI j_64) - (nI j_64) / 50 * 50))), (10, .int (f_X8_spanOf SM ((nI j_64) - (nI j_64) / 50 * 50))), (9, .int (f_X8_spanOf SM ((nI j_64) / 50))), (8, .int ((nI j_64) - (nI j_64) / 50 * 50)), (7, .int ((nI j_64) / 50)), (0, .ref (rM 0)), (1, .int x1), (2, .int x2), (3, .int x3), (4, .int ((it_X8_both_64 SM x1 x2 x3 ((-1), (-1)) j_64).1)), (5, .int ((it_X8_both_64 SM x1 x2 x3 ((-1), (-1)) j_64).2)), (6, .int (nI j_64))]) X dX8_both_134 (by decide) rfl ?_
                        refine ww_aload_n (pc := 136) X dX8_both_136 5 rfl rfl ?_
                        refine ww_get (pc := 137) (ci := 8) (v := .ref (rM 10)) (C := RX8) (T := TX8) (N := 27) X inX8_both_8 0 rfl rfl 11 (by decide) (by decide +kernel) rfl dX8_both_137 ?_
                        refine ww_iconst (pc := 140) (v := 1) X dX8_both_140 (by decide) ?_
                        refine ww_iload_n (pc := 141) X dX8_both_141 6 rfl rfl ?_
                        have hb57 := clb (n := 7) (in_X8_isPerson okm c1)
                        refine ww_iadd (pc := 142) X dX8_both_142 ?_
                        refine ww_iald (pc := 143) (f := SM.2 9) X 10 0 rfl rfl (vn (m := 1 + ((x1 : Int32).toNatClampNeg)) (nat_iadd (a := 1) (b := (x1 : Int32).toNatClampNeg) rfl (cl_of (in_X8_isPerson okm c1))) (by omega) (by decide)) dX8_both_143 ?_
                        refine ww_iload (pc := 144) X dX8_both_144 0 rfl ?_
                        refine ww_iadd (pc := 146) X dX8_both_146 ?_
                        refine ww_iload (pc := 147) X dX8_both_147 2 rfl ?_
                        refine ww_isub (pc := 149) X dX8_both_149 ?_
                        generalize hz58 : ((((SM.2 9) ((1 + x1 : Int32)).toNatClampNeg) + (f_X8_spanOf SM ((nI j_64) - (nI j_64) / 50 * 50))) - (f_X8_spanOf SM ((nI j_64) / 50))) = z58
                        refine ww_istore (pc := 150) (lv' := [(12, .int z58), (11, .int (f_X8_spanOf SM ((nI j_64) - (nI j_64) / 50 * 50))), (10, .int (f_X8_spanOf SM ((nI j_64) - (nI j_64) / 50 * 50))), (9, .int (f_X8_spanOf SM ((nI j_64) / 50))), (8, .int ((nI j_64) - (nI j_64) / 50 * 50)), (7, .int ((nI j_64) / 50)), (0, .ref (rM 0)), (1, .int x1), (2, .int x2), (3, .int x3), (4, .int ((it_X8_both_64 SM x1 x2 x3 ((-1), (-1)) j_64).1)), (5, .int ((it_X8_both_64 SM x1 x2 x3 ((-1), (-1)) j_64).2)), (6, .int (nI j_64))]) X dX8_both_150 (by decide) rfl ?_
                        refine ww_aload_n (pc := 152) X dX8_both_152 6 rfl rfl ?_
                        refine ww_get (pc := 153) (ci := 8) (v := .ref (rM 10)) (C := RX8) (T := TX8) (N := 27) X inX8_both_8 0 rfl rfl 11 (by decide) (by decide +kernel) rfl dX8_both_153 ?_
                        refine ww_iconst (pc := 156) (v := 1) X dX8_both_156 (by decide) ?_
                        refine ww_iload_n (pc := 157) X dX8_both_157 8 rfl rfl ?_
                        have hb59 := clb (n := 7) (in_X8_isPerson okm c2)
                        refine ww_iadd (pc := 158) X dX8_both_158 ?_
                        refine ww_iald (pc := 159) (f := SM.2 9) X 10 0 rfl rfl (vn (m := 1 + ((x2 : Int32).toNatClampNeg)) (nat_iadd (a := 1) (b := (x2 : Int32).toNatClampNeg) rfl (cl_of (in_X8_isPerson okm c2))) (by omega) (by decide)) dX8_both_159 ?_
                        refine ww_iload (pc := 160) X dX8_both_160 1 rfl ?_
                        refine ww_iadd (pc := 162) X dX8_both_162 ?_
                        refine ww_iload (pc := 163) X dX8_both_163 2 rfl ?_
                        refine ww_isub (pc := 165) X dX8_both_165 ?_
                        generalize hz60 : ((((SM.2 9) ((1 + x2 : Int32)).toNatClampNeg) + (f_X8_spanOf SM ((nI j_64) - (nI j_64) / 50 * 50))) - (f_X8_spanOf SM ((nI j_64) - (nI j_64) / 50 * 50))) = z60
                        refine ww_istore (pc := 166) (lv' := [(13, .int z60), (12, .int z58), (11, .int (f_X8_spanOf SM ((nI j_64) - (nI j_64) / 50 * 50))), (10, .int (f_X8_spanOf SM ((nI j_64) - (nI j_64) / 50 * 50))), (9, .int (f_X8_spanOf SM ((nI j_64) / 50))), (8, .int ((nI j_64) - (nI j_64) / 50 * 50)), (7, .int ((nI j_64) / 50)), (0, .ref (rM 0)), (1, .int x1), (2, .int x2), (3, .int x3), (4, .int ((it_X8_both_64 SM x1 x2 x3 ((-1), (-1)) j_64).1)), (5, .int ((it_X8_both_64 SM x1 x2 x3 ((-1), (-1)) j_64).2)), (6, .int (nI j_64))]) X dX8_both_166 (by decide) rfl ?_
                        refine ww_iload (pc := 168) X dX8_both_168 1 rfl ?_
                        refine ww_iload (pc := 170) X dX8_both_170 0 rfl ?_
                        refine ww_icmp_ne (pc := 172) (tgt := 212) X dX8_both_172 (by decide) (fun c61 => ?_) (fun c61 => ?_)
                        · refine ww_iconst (pc := 212) (v := 0) X dX8_both_212 (by decide) ?_
                          refine ww_istore (pc := 213) (lv' := [(14, .int 0), (13, .int z60), (12, .int z58), (11, .int (f_X8_spanOf SM ((nI j_64) - (nI j_64) / 50 * 50))), (10, .int (f_X8_spanOf SM ((nI j_64) - (nI j_64) / 50 * 50))), (9, .int (f_X8_spanOf SM ((nI j_64) / 50))), (8, .int ((nI j_64) - (nI j_64) / 50 * 50)), (7, .int ((nI j_64) / 50)), (0, .ref (rM 0)), (1, .int x1), (2, .int x2), (3, .int x3), (4, .int ((it_X8_both_64 SM x1 x2 x3 ((-1), (-1)) j_64).1)), (5, .int ((it_X8_both_64 SM x1 x2 x3 ((-1), (-1)) j_64).2)), (6, .int (nI j_64))]) X dX8_both_213 (by decide) rfl ?_
                          refine ww_iload (pc := 215) X dX8_both_215 0 rfl ?_
                          refine ww_if_eq (pc := 217) (tgt := 225) X dX8_both_217 (by decide) (fun _ => ?_) (fun c62 => absurd (by decide) c62)
                          refine ww_iload (pc := 225) X dX8_both_225 12 rfl ?_
                          refine ww_istore (pc := 227) (lv' := [(4, .int ((it_X8_both_64 SM x1 x2 x3 ((-1), (-1)) j_64).1)), (14, .int 0), (13, .int z60), (12, .int z58), (11, .int (f_X8_spanOf SM ((nI j_64) - (nI j_64) / 50 * 50))), (10, .int (f_X8_spanOf SM ((nI j_64) - (nI j_64) / 50 * 50))), (9, .int (f_X8_spanOf SM ((nI j_64) / 50))), (8, .int ((nI j_64) - (nI j_64) / 50 * 50)), (7, .int ((nI j_64) / 50)), (0, .ref (rM 0)), (1, .int x1), (2, .int x2), (3, .int x3), (5, .int ((it_X8_both_64 SM x1 x2 x3 ((-1), (-1)) j_64).2)), (6, .int (nI j_64))]) X dX8_both_227 (by decide) rfl ?_
                          refine ww_iload (pc := 229) X dX8_both_229 1 rfl ?_
                          refine ww_if_eq (pc := 231) (tgt := 245) X dX8_both_231 (by decide) (fun _ => ?_) (fun c63 => absurd (by decide) c63)
                          refine ww_iload (pc := 245) X dX8_both_245 13 rfl ?_
                          refine ww_istore (pc := 247) (lv' := [(5, .int ((it_X8_both_64 SM x1 x2 x3 ((-1), (-1)) j_64).2)), (4, .int ((it_X8_both_64 SM x1 x2 x3 ((-1), (-1)) j_64).1)), (14, .int 0), (13, .int z60), (12, .int z58), (11, .int (f_X8_spanOf SM ((nI j_64) - (nI j_64) / 50 * 50))), (10, .int (f_X8_spanOf SM ((nI j_64) - (nI j_64) / 50 * 50))), (9, .int (f_X8_spanOf SM ((nI j_64) / 50))), (8, .int ((nI j_64) - (nI j_64) / 50 * 50)), (7, .int ((nI j_64) / 50)), (0, .ref (rM 0)), (1, .int x1), (2, .int x2), (3, .int x3), (6, .int (nI j_64))]) X dX8_both_247 (by decide) rfl ?_
                          refine ww_iinc (pc := 249) (v := (nI j_64) + 1) (lv' := [(6, .int ((nI j_64) + 1)), (5, .int ((it_X8_both_64 SM x1 x2 x3 ((-1), (-1)) j_64).2)), (4, .int ((it_X8_both_64 SM x1 x2 x3 ((-1), (-1)) j_64).1)), (14, .int 0), (13, .int z60), (12, .int z58), (11, .int (f_X8_spanOf SM ((nI j_64) - (nI j_64) / 50 * 50))), (10, .int (f_X8_spanOf SM ((nI j_64) - (nI j_64) / 50 * 50))), (9, .int (f_X8_spanOf SM ((nI j_64) / 50))), (8, .int ((nI j_64) - (nI j_64) / 50 * 50)), (7, .int ((nI j_64) / 50)), (0, .ref (rM 0)), (1, .int x1), (2, .int x2), (3, .int x3)]) X dX8_both_249 14 rfl rfl (by decide) rfl ?_
                          refine ww_goto (pc := 252) (tgt := 64) X dX8_both_252 (by decide) ?_
                          have h64 : (it_X8_both_64 SM x1 x2 x3 ((-1), (-1)) (j_64 + 1)) = ((it_X8_both_64 SM x1 x2 x3 ((-1), (-1)) j_64).1, (it_X8_both_64 SM x1 x2 x3 ((-1), (-1)) j_64).2) := by
                            show bd_X8_both_64 SM x1 x2 x3 j_64 (it_X8_both_64 SM x1 x2 x3 ((-1), (-1)) j_64) = _; unfold bd_X8_both_64; try rw [if_neg c52, if_neg c54, if_pos c56, hz58]; try unfold bd_X8_both_64_k1; try rw [hz60]; try unfold bd_X8_both_64_k2; try rw [if_neg c61]; first | done | rfl
                          refine ww_lsub [11, 12, 13, 14, 2, 1, 0] rfl ?_
                          exact ww_castI (fun u9 : Int32 × Int32 => fl [wX8 cI cZ cQ rM SM]) (fun (u9 : Int32 × Int32) (i9 : Int32) => ([(0, .ref (rM 0)), (1, .int x1), (2, .int x2), (3, .int x3), (4, .int u9.1), (5, .int u9.2), (6, .int i9)] : List (Nat × Value))) h64 (ih (j_64 + 1) (by omega) K)
                        · refine ww_iload (pc := 175) X dX8_both_175 1 rfl ?_
                          refine ww_aload_n (pc := 177) X dX8_both_177 7 rfl rfl ?_
                          refine ww_iload_n (pc := 178) X dX8_both_178 8 rfl rfl ?_
                          refine ww_gVi (pc := 179) (rest := [.int z58]) (gsN := [wX8 cI cZ cQ rM SM]) (ci := 8) (gi := 0) (qi := 0) X (c_X8_end l D cI cZ cQ rM SM x1 (in_X8_isPerson okm c1)) gX8_both_X8_end rfl hd_X8_end [true] rfl rfl rfl rfl rfl rfl rfl rfl ⟨rfl, rfl⟩ ⟨Nat.le_of_ble_eq_true rfl, Nat.le_of_ble_eq_true rfl⟩ (Nat.le_of_ble_eq_true rfl) ⟨Nat.zero_le _, Nat.zero_le _⟩ dX8_both_179 ?_
                          refine ww_icmp_ge (pc := 182) (tgt := 212) X dX8_both_182 (by decide) (fun c65 => ?_) (fun c65 => ?_)
                          · refine ww_iconst (pc := 212) (v := 0) X dX8_both_212 (by decide) ?_
                            refine ww_istore (pc := 213) (lv' := [(14, .int 0), (13, .int z60), (12, .int z58), (11, .int (f_X8_spanOf SM ((nI j_64) - (nI j_64) / 50 * 50))), (10, .int (f_X8_spanOf SM ((nI j_64) - (nI j_64) / 50 * 50))), (9, .int (f_X8_spanOf SM ((nI j_64) / 50))), (8, .int ((nI j_64) - (nI j_64) / 50 * 50)), (7, .int ((nI j_64) / 50)), (0, .ref (rM 0)), (1, .int x1), (2, .int x2), (3, .int x3), (4, .int ((it_X8_both_64 SM x1 x2 x3 ((-1), (-1)) j_64).1)), (5, .int ((it_X8_both_64 SM x1 x2 x3 ((-1), (-1)) j_64).2)), (6, .int (nI j_64))]) X dX8_both_213 (by decide) rfl ?_
                            refine ww_iload (pc := 215) X dX8_both_215 0 rfl ?_
                            refine ww_if_eq (pc := 217) (tgt := 225) X dX8_both_217 (by decide) (fun _ => ?_) (fun c66 => absurd (by decide) c66)
                            refine ww_iload (pc := 225) X dX8_both_225 12 rfl ?_
                            refine ww_istore (pc := 227) (lv' := [(4, .int ((it_X8_both_64 SM x1 x2 x3 ((-1), (-1)) j_64).1)), (14, .int 0), (13, .int z60), (12, .int z58), (11, .int (f_X8_spanOf SM ((nI j_64) - (nI j_64) / 50 * 50))), (10, .int (f_X8_spanOf SM ((nI j_64) - (nI j_64) / 50 * 50))), (9, .int (f_X8_spanOf SM ((nI j_64) / 50))), (8, .int ((nI j_64) - (nI j_64) / 50 * 50)), (7, .int ((nI j_64) / 50)), (0, .ref (rM 0)), (1, .int x1), (2, .int x2), (3, .int x3), (5, .int ((it_X8_both_64 SM x1 x2 x3 ((-1), (-1)) j_64).2)), (6, .int (nI j_64))]) X dX8_both_227 (by decide) rfl ?_
                            refine ww_iload (pc := 229) X dX8_both_229 1 rfl ?_
                            refine ww_if_eq (pc := 231) (tgt := 245) X dX8_both_231 (by decide) (fun _ => ?_) (fun c67 => absurd (by decide) c67)
                            refine ww_iload (pc := 245) X dX8_both_245 13 rfl ?_
                            refine ww_istore (pc := 247) (lv' := [(5, .int ((it_X8_both_64 SM x1 x2 x3 ((-1), (-1)) j_64).2)), (4, .int ((it_X8_both_64 SM x1 x2 x3 ((-1), (-1)) j_64).1)), (14, .int 0), (13, .int z60), (12, .int z58), (11, .int (f_X8_spanOf SM ((nI j_64) - (nI j_64) / 50 * 50))), (10, .int (f_X8_spanOf SM ((nI j_64) - (nI j_64) / 50 * 50))), (9, .int (f_X8_spanOf SM ((nI j_64) / 50))), (8, .int ((nI j_64) - (nI j_64) / 50 * 50)), (7, .int ((nI j_64) / 50)), (0, .ref (rM 0)), (1, .int x1), (2, .int x2), (3, .int x3), (6, .int (nI j_64))]) X dX8_both_247 (by decide) rfl ?_
                            refine ww_iinc (pc := 249) (v := (nI j_64) + 1) (lv' := [(6, .int ((nI j_64) + 1)), (5, .int ((it_X8_both_64 SM x1 x2 x3 ((-1), (-1)) j_64).2)), (4, .int ((it_X8_both_64 SM x1 x2 x3 ((-1), (-1)) j_64).1)), (14, .int 0), (13, .int z60), (12, .int z58), (11, .int (f_X8_spanOf SM ((nI j_64) - (nI j_64) / 50 * 50))), (10, .int (f_X8_spanOf SM ((nI j_64) - (nI j_64) / 50 * 50))), (9, .int (f_X8_spanOf SM ((nI j_64) / 50))), (8, .int ((nI j_64) - (nI j_64) / 50 * 50)), (7, .int ((nI j_64) / 50)), (0, .ref (rM 0)), (1, .int x1), (2, .int x2), (3, .int x3)]) X dX8_both_249 14 rfl rfl (by decide) rfl ?_
                            refine ww_goto (pc := 252) (tgt := 64) X dX8_both_252 (by decide) ?_
                            have h68 : (it_X8_both_64 SM x1 x2 x3 ((-1), (-1)) (j_64 + 1)) = ((it_X8_both_64 SM x1 x2 x3 ((-1), (-1)) j_64).1, (it_X8_both_64 SM x1 x2 x3 ((-1), (-1)) j_64).2) := by
                              show bd_X8_both_64 SM x1 x2 x3 j_64 (it_X8_both_64 SM x1 x2 x3 ((-1), (-1)) j_64) = _; unfold bd_X8_both_64; try rw [if_neg c52, if_neg c54, if_pos c56, hz58]; try unfold bd_X8_both_64_k1; try rw [hz60]; try unfold bd_X8_both_64_k2; try rw [if_pos c61, if_pos c65]; first | done | rfl
                            refine ww_lsub [11, 12, 13, 14, 2, 1, 0] rfl ?_
                            exact ww_castI (fun u9 : Int32 × Int32 => fl [wX8 cI cZ cQ rM SM]) (fun (u9 : Int32 × Int32) (i9 : Int32) => ([(0, .ref (rM 0)), (1, .int x1), (2, .int x2), (3, .int x3), (4, .int u9.1), (5, .int u9.2), (6, .int i9)] : List (Nat × Value))) h68 (ih (j_64 + 1) (by omega) K)
                          · refine ww_iload (pc := 185) X dX8_both_185 0 rfl ?_
                            refine ww_aload_n (pc := 187) X dX8_both_187 7 rfl rfl ?_
                            refine ww_iload_n (pc := 188) X dX8_both_188 9 rfl rfl ?_
                            refine ww_gVi (pc := 189) (rest := [.int z60]) (gsN := [wX8 cI cZ cQ rM SM]) (ci := 8) (gi := 0) (qi := 0) X (c_X8_end l D cI cZ cQ rM SM x2 (in_X8_isPerson okm c2)) gX8_both_X8_end rfl hd_X8_end [true] rfl rfl rfl rfl rfl rfl rfl rfl ⟨rfl, rfl⟩ ⟨Nat.le_of_ble_eq_true rfl, Nat.le_of_ble_eq_true rfl⟩ (Nat.le_of_ble_eq_true rfl) ⟨Nat.zero_le _, Nat.zero_le _⟩ dX8_both_189 ?_
                            refine ww_icmp_ge (pc := 192) (tgt := 212) X dX8_both_192 (by decide) (fun c69 => ?_) (fun c69 => ?_)
                            · refine ww_iconst (pc := 212) (v := 0) X dX8_both_212 (by decide) ?_
                              refine ww_istore (pc := 213) (lv' := [(14, .int 0), (13, .int z60), (12, .int z58), (11, .int (f_X8_spanOf SM ((nI j_64) - (nI j_64) / 50 * 50))), (10, .int (f_X8_spanOf SM ((nI j_64) - (nI j_64) / 50 * 50))), (9, .int (f_X8_spanOf SM ((nI j_64) / 50))), (8, .int ((nI j_64) - (nI j_64) / 50 * 50)), (7, .int ((nI j_64) / 50)), (0, .ref (rM 0)), (1, .int x1), (2, .int x2), (3, .int x3), (4, .int ((it_X8_both_64 SM x1 x2 x3 ((-1), (-1)) j_64).1)), (5, .int ((it_X8_both_64 SM x1 x2 x3 ((-1), (-1)) j_64).2)), (6, .int (nI j_64))]) X dX8_both_213 (by decide) rfl ?_
                              refine ww_iload (pc := 215) X dX8_both_215 0 rfl ?_
                              refine ww_if_eq (pc := 217) (tgt := 225) X dX8_both_217 (by decide) (fun _ => ?_) (fun c70 => absurd (by decide) c70)
                              refine ww_iload (pc := 225) X dX8_both_225 12 rfl ?_
                              refine ww_istore (pc := 227) (lv' := [(4, .int ((it_X8_both_64 SM x1 x2 x3 ((-1), (-1)) j_64).1)), (14, .int 0), (13, .int z60), (12, .int z58), (11, .int (f_X8_spanOf SM ((nI j_64) - (nI j_64) / 50 * 50))), (10, .int (f_X8_spanOf SM ((nI j_64) - (nI j_64) / 50 * 50))), (9, .int (f_X8_spanOf SM ((nI j_64) / 50))), (8, .int ((nI j_64) - (nI j_64) / 50 * 50)), (7, .int ((nI j_64) / 50)), (0, .ref (rM 0)), (1, .int x1), (2, .int x2), (3, .int x3), (5, .int ((it_X8_both_64 SM x1 x2 x3 ((-1), (-1)) j_64).2)), (6, .int (nI j_64))]) X dX8_both_227 (by decide) rfl ?_
                              refine ww_iload (pc := 229) X dX8_both_229 1 rfl ?_
                              refine ww_if_eq (pc := 231) (tgt := 245) X dX8_both_231 (by decide) (fun _ => ?_) (fun c71 => absurd (by decide) c71)
                              refine ww_iload (pc := 245) X dX8_both_245 13 rfl ?_
                              refine ww_istore (pc := 247) (lv' := [(5, .int ((it_X8_both_64 SM x1 x2 x3 ((-1), (-1)) j_64).2)), (4, .int ((it_X8_both_64 SM x1 x2 x3 ((-1), (-1)) j_64).1)), (14, .int 0), (13, .int z60), (12, .int z58), (11, .int (f_X8_spanOf SM ((nI j_64) - (nI j_64) / 50 * 50))), (10, .int (f_X8_spanOf SM ((nI j_64) - (nI j_64) / 50 * 50))), (9, .int (f_X8_spanOf SM ((nI j_64) / 50))), (8, .int ((nI j_64) - (nI j_64) / 50 * 50)), (7, .int ((nI j_64) / 50)), (0, .ref (rM 0)), (1, .int x1), (2, .int x2), (3, .int x3), (6, .int (nI j_64))]) X dX8_both_247 (by decide) rfl ?_
                              refine ww_iinc (pc := 249) (v := (nI j_64) + 1) (lv' := [(6, .int ((nI j_64) + 1)), (5, .int ((it_X8_both_64 SM x1 x2 x3 ((-1), (-1)) j_64).2)), (4, .int ((it_X8_both_64 SM x1 x2 x3 ((-1), (-1)) j_64).1)), (14, .int 0), (13, .int z60), (12, .int z58), (11, .int (f_X8_spanOf SM ((nI j_64) - (nI j_64) / 50 * 50))), (10, .int (f_X8_spanOf SM ((nI j_64) - (nI j_64) / 50 * 50))), (9, .int (f_X8_spanOf SM ((nI j_64) / 50))), (8, .int ((nI j_64) - (nI j_64) / 50 * 50)), (7, .int ((nI j_64) / 50)), (0, .ref (rM 0)), (1, .int x1), (2, .int x2), (3, .int x3)]) X dX8_both_249 14 rfl rfl (by decide) rfl ?_
                              refine ww_goto (pc := 252) (tgt := 64) X dX8_both_252 (by decide) ?_
                              have h72 : (it_X8_both_64 SM x1 x2 x3 ((-1), (-1)) (j_64 + 1)) = ((it_X8_both_64 SM x1 x2 x3 ((-1), (-1)) j_64).1, (it_X8_both_64 SM x1 x2 x3 ((-1), (-1)) j_64).2) := by
                                show bd_X8_both_64 SM x1 x2 x3 j_64 (it_X8_both_64 SM x1 x2 x3 ((-1), (-1)) j_64) = _; unfold bd_X8_both_64; try rw [if_neg c52, if_neg c54, if_pos c56, hz58]; try unfold bd_X8_both_64_k1; try rw [hz60]; try unfold bd_X8_both_64_k2; try rw [if_pos c61, if_neg c65, if_pos c69]; first | done | rfl
                              refine ww_lsub [11, 12, 13, 14, 2, 1, 0] rfl ?_
                              exact ww_castI (fun u9 : Int32 × Int32 => fl [wX8 cI cZ cQ rM SM]) (fun (u9 : Int32 × Int32) (i9 : Int32) => ([(0, .ref (rM 0)), (1, .int x1), (2, .int x2), (3, .int x3), (4, .int u9.1), (5, .int u9.2), (6, .int i9)] : List (Nat × Value))) h72 (ih (j_64 + 1) (by omega) K)
                            · refine ww_iload (pc := 195) X dX8_both_195 12 rfl ?_
                              refine ww_iconst (pc := 197) (v := (-1)) X dX8_both_197 (by decide) ?_
                              refine ww_icmp_eq (pc := 198) (tgt := 208) X dX8_both_198 (by decide) (fun c73 => ?_) (fun c73 => ?_)
                              · refine ww_iconst (pc := 208) (v := 1) X dX8_both_208 (by decide) ?_
                                refine ww_goto (pc := 209) (tgt := 213) X dX8_both_209 (by decide) ?_
                                refine ww_istore (pc := 213) (lv' := [(14, .int 1), (13, .int z60), (12, .int z58), (11, .int (f_X8_spanOf SM ((nI j_64) - (nI j_64) / 50 * 50))), (10, .int (f_X8_spanOf SM ((nI j_64) - (nI j_64) / 50 * 50))), (9, .int (f_X8_spanOf SM ((nI j_64) / 50))), (8, .int ((nI j_64) - (nI j_64) / 50 * 50)), (7, .int ((nI j_64) / 50)), (0, .ref (rM 0)), (1, .int x1), (2, .int x2), (3, .int x3), (4, .int ((it_X8_both_64 SM x1 x2 x3 ((-1), (-1)) j_64).1)), (5, .int ((it_X8_both_64 SM x1 x2 x3 ((-1), (-1)) j_64).2)), (6, .int (nI j_64))]) X dX8_both_213 (by decide) rfl ?_
                                refine ww_iload (pc := 215) X dX8_both_215 0 rfl ?_
                                refine ww_if_eq (pc := 217) (tgt := 225) X dX8_both_217 (by decide) (fun c74 => absurd c74 (by decide)) (fun _ => ?_)
                                refine ww_iload (pc := 220) X dX8_both_220 3 rfl ?_
                                refine ww_goto (pc := 222) (tgt := 227) X dX8_both_222 (by decide) ?_
                                refine ww_istore (pc := 227) (lv' := [(4, .int (f_X8_spanOf SM ((nI j_64) - (nI j_64) / 50 * 50))), (14, .int 1), (13, .int z60), (12, .int z58), (11, .int (f_X8_spanOf SM ((nI j_64) - (nI j_64) / 50 * 50))), (10, .int (f_X8_spanOf SM ((nI j_64) - (nI j_64) / 50 * 50))), (9, .int (f_X8_spanOf SM ((nI j_64) / 50))), (8, .int ((nI j_64) - (nI j_64) / 50 * 50)), (7, .int ((nI j_64) / 50)), (0, .ref (rM 0)), (1, .int x1), (2, .int x2), (3, .int x3), (5, .int ((it_X8_both_64 SM x1 x2 x3 ((-1), (-1)) j_64).2)), (6, .int (nI j_64))]) X dX8_both_227 (by decide) rfl ?_
                                refine ww_iload (pc := 229) X dX8_both_229 1 rfl ?_
                                refine ww_if_eq (pc := 231) (tgt := 245) X dX8_both_231 (by decide) (fun c75 => absurd c75 (by decide)) (fun _ => ?_)
                                refine ww_bipush (pc := 234) (v := 100) X dX8_both_234 (by decide) ?_
                                refine ww_iload (pc := 236) X dX8_both_236 8 rfl ?_
                                refine ww_imul (pc := 238) X dX8_both_238 ?_
                                refine ww_iload (pc := 239) X dX8_both_239 7 rfl ?_
                                refine ww_iadd (pc := 241) X dX8_both_241 ?_
                                refine ww_goto (pc := 242) (tgt := 247) X dX8_both_242 (by decide) ?_
                                refine ww_istore (pc := 247) (lv' := [(5, .int ((100 * ((nI j_64) / 50)) + ((nI j_64) - (nI j_64) / 50 * 50))), (4, .int (f_X8_spanOf SM ((nI j_64) - (nI j_64) / 50 * 50))), (14, .int 1), (13, .int z60), (12, .int z58), (11, .int (f_X8_spanOf SM ((nI j_64) - (nI j_64) / 50 * 50))), (10, .int (f_X8_spanOf SM ((nI j_64) - (nI j_64) / 50 * 50))), (9, .int (f_X8_spanOf SM ((nI j_64) / 50))), (8, .int ((nI j_64) - (nI j_64) / 50 * 50)), (7, .int ((nI j_64) / 50)), (0, .ref (rM 0)), (1, .int x1), (2, .int x2), (3, .int x3), (6, .int (nI j_64))]) X dX8_both_247 (by decide) rfl ?_
                                refine ww_iinc (pc := 249) (v := (nI j_64) + 1) (lv' := [(6, .int ((nI j_64) + 1)), (5, .int ((100 * ((nI j_64) / 50)) + ((nI j_64) - (nI j_64) / 50 * 50))), (4, .int (f_X8_spanOf SM ((nI j_64) - (nI j_64) / 50 * 50))), (14, .int 1), (13, .int z60), (12, .int z58), (11, .int (f_X8_spanOf SM ((nI j_64) - (nI j_64) / 50 * 50))), (10, .int (f_X8_spanOf SM ((nI j_64) - (nI j_64) / 50 * 50))), (9, .int (f_X8_spanOf SM ((nI j_64) / 50))), (8, .int ((nI j_64) - (nI j_64) / 50 * 50)), (7, .int ((nI j_64) / 50)), (0, .ref (rM 0)), (1, .int x1), (2, .int x2), (3, .int x3)]) X dX8_both_249 14 rfl rfl (by decide) rfl ?_
                                refine ww_goto (pc := 252) (tgt := 64) X dX8_both_252 (by decide) ?_
                                have h76 : (it_X8_both_64 SM x1 x2 x3 ((-1), (-1)) (j_64 + 1)) = (f_X8_spanOf SM ((nI j_64) - (nI j_64) / 50 * 50), (100 * ((nI j_64) / 50)) + ((nI j_64) - (nI j_64) / 50 * 50)) := by
                                  show bd_X8_both_64 SM x1 x2 x3 j_64 (it_X8_both_64 SM x1 x2 x3 ((-1), (-1)) j_64) = _; unfold bd_X8_both_64; try rw [if_neg c52, if_neg c54, if_pos c56, hz58]; try unfold bd_X8_both_64_k1; try rw [hz60]; try unfold bd_X8_both_64_k2; try rw [if_pos c61, if_neg c65, if_neg c69, if_pos c73]; first | done | rfl
                                refine ww_lsub [11, 12, 13, 14, 2, 1, 0] rfl ?_
                                exact ww_castI (fun u9 : Int32 × Int32 => fl [wX8 cI cZ cQ rM SM]) (fun (u9 : Int32 × Int32) (i9 : Int32) => ([(0, .ref (rM 0)), (1, .int x1), (2, .int x2), (3, .int x3), (4, .int u9.1), (5, .int u9.2), (6, .int i9)] : List (Nat × Value))) h76 (ih (j_64 + 1) (by omega) K)
                              · refine ww_iload (pc := 201) X dX8_both_201 2 rfl ?_
                                refine ww_iload (pc := 203) X dX8_both_203 11 rfl ?_
                                refine ww_icmp_ge (pc := 205) (tgt := 212) X dX8_both_205 (by decide) (fun c77 => ?_) (fun c77 => ?_)
                                · refine ww_iconst (pc := 212) (v := 0) X dX8_both_212 (by decide) ?_
                                  refine ww_istore (pc := 213) (lv' := [(14, .int 0), (13, .int z60), (12, .int z58), (11, .int (f_X8_spanOf SM ((nI j_64) - (nI j_64) / 50 * 50))), (10, .int (f_X8_spanOf SM ((nI j_64) - (nI j_64) / 50 * 50))), (9, .int (f_X8_spanOf SM ((nI j_64) / 50))), (8, .int ((nI j_64) - (nI j_64) / 50 * 50)), (7, .int ((nI j_64) / 50)), (0, .ref (rM 0)), (1, .int x1), (2, .int x2), (3, .int x3), (4, .int ((it_X8_both_64 SM x1 x2 x3 ((-1), (-1)) j_64).1)), (5, .int ((it_X8_both_64 SM x1 x2 x3 ((-1), (-1)) j_64).2)), (6, .int (nI j_64))]) X dX8_both_213 (by decide) rfl ?_
                                  refine ww_iload (pc := 215) X dX8_both_215 0 rfl ?_
                                  refine ww_if_eq (pc := 217) (tgt := 225) X dX8_both_217 (by decide) (fun _ => ?_) (fun c78 => absurd (by decide) c78)
                                  refine ww_iload (pc := 225) X dX8_both_225 12 rfl ?_
                                  refine ww_istore (pc := 227) (lv' := [(4, .int ((it_X8_both_64 SM x1 x2 x3 ((-1), (-1)) j_64).1)), (14, .int 0), (13, .int z60), (12, .int z58), (11, .int (f_X8_spanOf SM ((nI j_64) - (nI j_64) / 50 * 50))), (10, .int (f_X8_spanOf SM ((nI j_64) - (nI j_64) / 50 * 50))), (9, .int (f_X8_spanOf SM ((nI j_64) / 50))), (8, .int ((nI j_64) - (nI j_64) / 50 * 50)), (7, .int ((nI j_64) / 50)), (0, .ref (rM 0)), (1, .int x1), (2, .int x2), (3, .int x3), (5, .int ((it_X8_both_64 SM x1 x2 x3 ((-1), (-1)) j_64).2)), (6, .int (nI j_64))]) X dX8_both_227 (by decide) rfl ?_
                                  refine ww_iload (pc := 229) X dX8_both_229 1 rfl ?_
                                  refine ww_if_eq (pc := 231) (tgt := 245) X dX8_both_231 (by decide) (fun _ => ?_) (fun c79 => absurd (by decide) c79)
                                  refine ww_iload (pc := 245) X dX8_both_245 13 rfl ?_
                                  refine ww_istore (pc := 247) (lv' := [(5, .int ((it_X8_both_64 SM x1 x2 x3 ((-1), (-1)) j_64).2)), (4, .int ((it_X8_both_64 SM x1 x2 x3 ((-1), (-1)) j_64).1)), (14, .int 0), (13, .int z60), (12, .int z58), (11, .int (f_X8_spanOf SM ((nI j_64) - (nI j_64) / 50 * 50))), (10, .int (f_X8_spanOf SM ((nI j_64) - (nI j_64) / 50 * 50))), (9, .int (f_X8_spanOf SM ((nI j_64) / 50))), (8, .int ((nI j_64) - (nI j_64) / 50 * 50)), (7, .int ((nI j_64) / 50)), (0, .ref (rM 0)), (1, .int x1), (2, .int x2), (3, .int x3), (6, .int (nI j_64))]) X dX8_both_247 (by decide) rfl ?_
                                  refine ww_iinc (pc := 249) (v := (nI j_64) + 1) (lv' := [(6, .int ((nI j_64) + 1)), (5, .int ((it_X8_both_64 SM x1 x2 x3 ((-1), (-1)) j_64).2)), (4, .int ((it_X8_both_64 SM x1 x2 x3 ((-1), (-1)) j_64).1)), (14, .int 0), (13, .int z60), (12, .int z58), (11, .int (f_X8_spanOf SM ((nI j_64) - (nI j_64) / 50 * 50))), (10, .int (f_X8_spanOf SM ((nI j_64) - (nI j_64) / 50 * 50))), (9, .int (f_X8_spanOf SM ((nI j_64) / 50))), (8, .int ((nI j_64) - (nI j_64) / 50 * 50)), (7, .int ((nI j_64) / 50)), (0, .ref (rM 0)), (1, .int x1), (2, .int x2), (3, .int x3)]) X dX8_both_249 14 rfl rfl (by decide) rfl ?_
                                  refine ww_goto (pc := 252) (tgt := 64) X dX8_both_252 (by decide) ?_
                                  have h80 : (it_X8_both_64 SM x1 x2 x3 ((-1), (-1)) (j_64 + 1)) = ((it_X8_both_64 SM x1 x2 x3 ((-1), (-1)) j_64).1, (it_X8_both_64 SM x1 x2 x3 ((-1), (-1)) j_64).2) := by
                                    show bd_X8_both_64 SM x1 x2 x3 j_64 (it_X8_both_64 SM x1 x2 x3 ((-1), (-1)) j_64) = _; unfold bd_X8_both_64; try rw [if_neg c52, if_neg c54, if_pos c56, hz58]; try unfold bd_X8_both_64_k1; try rw [hz60]; try unfold bd_X8_both_64_k2; try rw [if_pos c61, if_neg c65, if_neg c69, if_neg c73, if_pos c77]; first | done | rfl
                                  refine ww_lsub [11, 12, 13, 14, 2, 1, 0] rfl ?_
                                  exact ww_castI (fun u9 : Int32 × Int32 => fl [wX8 cI cZ cQ rM SM]) (fun (u9 : Int32 × Int32) (i9 : Int32) => ([(0, .ref (rM 0)), (1, .int x1), (2, .int x2), (3, .int x3), (4, .int u9.1), (5, .int u9.2), (6, .int i9)] : List (Nat × Value))) h80 (ih (j_64 + 1) (by omega) K)
                                · refine ww_iconst (pc := 208) (v := 1) X dX8_both_208 (by decide) ?_
                                  refine ww_goto (pc := 209) (tgt := 213) X dX8_both_209 (by decide) ?_
                                  refine ww_istore (pc := 213) (lv' := [(14, .int 1), (13, .int z60), (12, .int z58), (11, .int (f_X8_spanOf SM ((nI j_64) - (nI j_64) / 50 * 50))), (10, .int (f_X8_spanOf SM ((nI j_64) - (nI j_64) / 50 * 50))), (9, .int (f_X8_spanOf SM ((nI j_64) / 50))), (8, .int ((nI j_64) - (nI j_64) / 50 * 50)), (7, .int ((nI j_64) / 50)), (0, .ref (rM 0)), (1, .int x1), (2, .int x2), (3, .int x3), (4, .int ((it_X8_both_64 SM x1 x2 x3 ((-1), (-1)) j_64).1)), (5, .int ((it_X8_both_64 SM x1 x2 x3 ((-1), (-1)) j_64).2)), (6, .int (nI j_64))]) X dX8_both_213 (by decide) rfl ?_
                                  refine ww_iload (pc := 215) X dX8_both_215 0 rfl ?_
                                  refine ww_if_eq (pc := 217) (tgt := 225) X dX8_both_217 (by decide) (fun c81 => absurd c81 (by decide)) (fun _ => ?_)
                                  refine ww_iload (pc := 220) X dX8_both_220 3 rfl ?_
                                  refine ww_goto (pc := 222) (tgt := 227) X dX8_both_222 (by decide) ?_
                                  refine ww_istore (pc := 227) (lv' := [(4, .int (f_X8_spanOf SM ((nI j_64) - (nI j_64) / 50 * 50))), (14, .int 1), (13, .int z60), (12, .int z58), (11, .int (f_X8_spanOf SM ((nI j_64) - (nI j_64) / 50 * 50))), (10, .int (f_X8_spanOf SM ((nI j_64) - (nI j_64) / 50 * 50))), (9, .int (f_X8_spanOf SM ((nI j_64) / 50))), (8, .int ((nI j_64) - (nI j_64) / 50 * 50)), (7, .int ((nI j_64) / 50)), (0, .ref (rM 0)), (1, .int x1), (2, .int x2), (3, .int x3), (5, .int ((it_X8_both_64 SM x1 x2 x3 ((-1), (-1)) j_64).2)), (6, .int (nI j_64))]) X dX8_both_227 (by decide) rfl ?_
                                  refine ww_iload (pc := 229) X dX8_both_229 1 rfl ?_
                                  refine ww_if_eq (pc := 231) (tgt := 245) X dX8_both_231 (by decide) (fun c82 => absurd c82 (by decide)) (fun _ => ?_)
                                  refine ww_bipush (pc := 234) (v := 100) X dX8_both_234 (by decide) ?_
                                  refine ww_iload (pc := 236) X dX8_both_236 8 rfl ?_
                                  refine ww_imul (pc := 238) X dX8_both_238 ?_
                                  refine ww_iload (pc := 239) X dX8_both_239 7 rfl ?_
                                  refine ww_iadd (pc := 241) X dX8_both_241 ?_
                                  refine ww_goto (pc := 242) (tgt := 247) X dX8_both_242 (by decide) ?_
                                  refine ww_istore (pc := 247) (lv' := [(5, .int ((100 * ((nI j_64) / 50)) + ((nI j_64) - (nI j_64) / 50 * 50))), (4, .int (f_X8_spanOf SM ((nI j_64) - (nI j_64) / 50 * 50))), (14, .int 1), (13, .int z60), (12, .int z58), (11, .int (f_X8_spanOf SM ((nI j_64) - (nI j_64) / 50 * 50))), (10, .int (f_X8_spanOf SM ((nI j_64) - (nI j_64) / 50 * 50))), (9, .int (f_X8_spanOf SM ((nI j_64) / 50))), (8, .int ((nI j_64) - (nI j_64) / 50 * 50)), (7, .int ((nI j_64) / 50)), (0, .ref (rM 0)), (1, .int x1), (2, .int x2), (3, .int x3), (6, .int (nI j_64))]) X dX8_both_247 (by decide) rfl ?_
                                  refine ww_iinc (pc := 249) (v := (nI j_64) + 1) (lv' := [(6, .int ((nI j_64) + 1)), (5, .int ((100 * ((nI j_64) / 50)) + ((nI j_64) - (nI j_64) / 50 * 50))), (4, .int (f_X8_spanOf SM ((nI j_64) - (nI j_64) / 50 * 50))), (14, .int 1), (13, .int z60), (12, .int z58), (11, .int (f_X8_spanOf SM ((nI j_64) - (nI j_64) / 50 * 50))), (10, .int (f_X8_spanOf SM ((nI j_64) - (nI j_64) / 50 * 50))), (9, .int (f_X8_spanOf SM ((nI j_64) / 50))), (8, .int ((nI j_64) - (nI j_64) / 50 * 50)), (7, .int ((nI j_64) / 50)), (0, .ref (rM 0)), (1, .int x1), (2, .int x2), (3, .int x3)]) X dX8_both_249 14 rfl rfl (by decide) rfl ?_
                                  refine ww_goto (pc := 252) (tgt := 64) X dX8_both_252 (by decide) ?_
                                  have h83 : (it_X8_both_64 SM x1 x2 x3 ((-1), (-1)) (j_64 + 1)) = (f_X8_spanOf SM ((nI j_64) - (nI j_64) / 50 * 50), (100 * ((nI j_64) / 50)) + ((nI j_64) - (nI j_64) / 50 * 50)) := by
                                    show bd_X8_both_64 SM x1 x2 x3 j_64 (it_X8_both_64 SM x1 x2 x3 ((-1), (-1)) j_64) = _; unfold bd_X8_both_64; try rw [if_neg c52, if_neg c54, if_pos c56, hz58]; try unfold bd_X8_both_64_k1; try rw [hz60]; try unfold bd_X8_both_64_k2; try rw [if_pos c61, if_neg c65, if_neg c69, if_neg c73, if_neg c77]; first | done | rfl
                                  refine ww_lsub [11, 12, 13, 14, 2, 1, 0] rfl ?_
                                  exact ww_castI (fun u9 : Int32 × Int32 => fl [wX8 cI cZ cQ rM SM]) (fun (u9 : Int32 × Int32) (i9 : Int32) => ([(0, .ref (rM 0)), (1, .int x1), (2, .int x2), (3, .int x3), (4, .int u9.1), (5, .int u9.2), (6, .int i9)] : List (Nat × Value))) h83 (ih (j_64 + 1) (by omega) K)
                      · refine ww_iload (pc := 127) X dX8_both_127 1 rfl ?_
                        refine ww_goto (pc := 129) (tgt := 134) X dX8_both_129 (by decide) ?_
                        refine ww_istore (pc := 134) (lv' := [(11, .int (f_X8_spanOf SM ((nI j_64) / 50))), (10, .int (f_X8_spanOf SM ((nI j_64) - (nI j_64) / 50 * 50))), (9, .int (f_X8_spanOf SM ((nI j_64) / 50))), (8, .int ((nI j_64) - (nI j_64) / 50 * 50)), (7, .int ((nI j_64) / 50)), (0, .ref (rM 0)), (1, .int x1), (2, .int x2), (3, .int x3), (4, .int ((it_X8_both_64 SM x1 x2 x3 ((-1), (-1)) j_64).1)), (5, .int ((it_X8_both_64 SM x1 x2 x3 ((-1), (-1)) j_64).2)), (6, .int (nI j_64))]) X dX8_both_134 (by decide) rfl ?_
                        refine ww_aload_n (pc := 136) X dX8_both_136 5 rfl rfl ?_
                        refine ww_get (pc := 137) (ci := 8) (v := .ref (rM 10)) (C := RX8) (T := TX8) (N := 27) X inX8_both_8 0 rfl rfl 11 (by decide) (by decide +kernel) rfl dX8_both_137 ?_
                        refine ww_iconst (pc := 140) (v := 1) X dX8_both_140 (by decide) ?_
                        refine ww_iload_n (pc := 141) X dX8_both_141 6 rfl rfl ?_
                        have hb84 := clb (n := 7) (in_X8_isPerson okm c1)
                        refine ww_iadd (pc := 142) X dX8_both_142 ?_
                        refine ww_iald (pc := 143) (f := SM.2 9) X 10 0 rfl rfl (vn (m := 1 + ((x1 : Int32).toNatClampNeg)) (nat_iadd (a := 1) (b := (x1 : Int32).toNatClampNeg) rfl (cl_of (in_X8_isPerson okm c1))) (by omega) (by decide)) dX8_both_143 ?_
                        refine ww_iload (pc := 144) X dX8_both_144 0 rfl ?_
                        refine ww_iadd (pc := 146) X dX8_both_146 ?_
                        refine ww_iload (pc := 147) X dX8_both_147 2 rfl ?_
                        refine ww_isub (pc := 149) X dX8_both_149 ?_
                        generalize hz85 : ((((SM.2 9) ((1 + x1 : Int32)).toNatClampNeg) + (f_X8_spanOf SM ((nI j_64) / 50))) - (f_X8_spanOf SM ((nI j_64) / 50))) = z85
                        refine ww_istore (pc := 150) (lv' := [(12, .int z85), (11, .int (f_X8_spanOf SM ((nI j_64) / 50))), (10, .int (f_X8_spanOf SM ((nI j_64) - (nI j_64) / 50 * 50))), (9, .int (f_X8_spanOf SM ((nI j_64) / 50))), (8, .int ((nI j_64) - (nI j_64) / 50 * 50)), (7, .int ((nI j_64) / 50)), (0, .ref (rM 0)), (1, .int x1), (2, .int x2), (3, .int x3), (4, .int ((it_X8_both_64 SM x1 x2 x3 ((-1), (-1)) j_64).1)), (5, .int ((it_X8_both_64 SM x1 x2 x3 ((-1), (-1)) j_64).2)), (6, .int (nI j_64))]) X dX8_both_150 (by decide) rfl ?_
                        refine ww_aload_n (pc := 152) X dX8_both_152 6 rfl rfl ?_
                        refine ww_get (pc := 153) (ci := 8) (v := .ref (rM 10)) (C := RX8) (T := TX8) (N := 27) X inX8_both_8 0 rfl rfl 11 (by decide) (by decide +kernel) rfl dX8_both_153 ?_
                        refine ww_iconst (pc := 156) (v := 1) X dX8_both_156 (by decide) ?_
                        refine ww_iload_n (pc := 157) X dX8_both_157 8 rfl rfl ?_
                        have hb86 := clb (n := 7) (in_X8_isPerson okm c2)
                        refine ww_iadd (pc := 158) X dX8_both_158 ?_
                        refine ww_iald (pc := 159) (f := SM.2 9) X 10 0 rfl rfl (vn (m := 1 + ((x2 : Int32).toNatClampNeg)) (nat_iadd (a := 1) (b := (x2 : Int32).toNatClampNeg) rfl (cl_of (in_X8_isPerson okm c2))) (by omega) (by decide)) dX8_both_159 ?_
                        refine ww_iload (pc := 160) X dX8_both_160 1 rfl ?_
                        refine ww_iadd (pc := 162) X dX8_both_162 ?_
                        refine ww_iload (pc := 163) X dX8_both_163 2 rfl ?_
                        refine ww_isub (pc := 165) X dX8_both_165 ?_
                        generalize hz87 : ((((SM.2 9) ((1 + x2 : Int32)).toNatClampNeg) + (f_X8_spanOf SM ((nI j_64) / 50))) - (f_X8_spanOf SM ((nI j_64) - (nI j_64) / 50 * 50))) = z87
                        refine ww_istore (pc := 166) (lv' := [(13, .int z87), (12, .int z85), (11, .int (f_X8_spanOf SM ((nI j_64) / 50))), (10, .int (f_X8_spanOf SM ((nI j_64) - (nI j_64) / 50 * 50))), (9, .int (f_X8_spanOf SM ((nI j_64) / 50))), (8, .int ((nI j_64) - (nI j_64) / 50 * 50)), (7, .int ((nI j_64) / 50)), (0, .ref (rM 0)), (1, .int x1), (2, .int x2), (3, .int x3), (4, .int ((it_X8_both_64 SM x1 x2 x3 ((-1), (-1)) j_64).1)), (5, .int ((it_X8_both_64 SM x1 x2 x3 ((-1), (-1)) j_64).2)), (6, .int (nI j_64))]) X dX8_both_166 (by decide) rfl ?_
                        refine ww_iload (pc := 168) X dX8_both_168 1 rfl ?_
                        refine ww_iload (pc := 170) X dX8_both_170 0 rfl ?_
                        refine ww_icmp_ne (pc := 172) (tgt := 212) X dX8_both_172 (by decide) (fun c88 => ?_) (fun c88 => ?_)
                        · refine ww_iconst (pc := 212) (v := 0) X dX8_both_212 (by decide) ?_
                          refine ww_istore (pc := 213) (lv' := [(14, .int 0), (13, .int z87), (12, .int z85), (11, .int (f_X8_spanOf SM ((nI j_64) / 50))), (10, .int (f_X8_spanOf SM ((nI j_64) - (nI j_64) / 50 * 50))), (9, .int (f_X8_spanOf SM ((nI j_64) / 50))), (8, .int ((nI j_64) - (nI j_64) / 50 * 50)), (7, .int ((nI j_64) / 50)), (0, .ref (rM 0)), (1, .int x1), (2, .int x2), (3, .int x3), (4, .int ((it_X8_both_64 SM x1 x2 x3 ((-1), (-1)) j_64).1)), (5, .int ((it_X8_both_64 SM x1 x2 x3 ((-1), (-1)) j_64).2)), (6, .int (nI j_64))]) X dX8_both_213 (by decide) rfl ?_
                          refine ww_iload (pc := 215) X dX8_both_215 0 rfl ?_
                          refine ww_if_eq (pc := 217) (tgt := 225) X dX8_both_217 (by decide) (fun _ => ?_) (fun c89 => absurd (by decide) c89)
                          refine ww_iload (pc := 225) X dX8_both_225 12 rfl ?_
                          refine ww_istore (pc := 227) (lv' := [(4, .int ((it_X8_both_64 SM x1 x2 x3 ((-1), (-1)) j_64).1)), (14, .int 0), (13, .int z87), (12, .int z85), (11, .int (f_X8_spanOf SM ((nI j_64) / 50))), (10, .int (f_X8_spanOf SM ((nI j_64) - (nI j_64) / 50 * 50))), (9, .int (f_X8_spanOf SM ((nI j_64) / 50))), (8, .int ((nI j_64) - (nI j_64) / 50 * 50)), (7, .int ((nI j_64) / 50)), (0, .ref (rM 0)), (1, .int x1), (2, .int x2), (3, .int x3), (5, .int ((it_X8_both_64 SM x1 x2 x3 ((-1), (-1)) j_64).2)), (6, .int (nI j_64))]) X dX8_both_227 (by decide) rfl ?_
                          refine ww_iload (pc := 229) X dX8_both_229 1 rfl ?_
                          refine ww_if_eq (pc := 231) (tgt := 245) X dX8_both_231 (by decide) (fun _ => ?_) (fun c90 => absurd (by decide) c90)
                          refine ww_iload (pc := 245) X dX8_both_245 13 rfl ?_
                          refine ww_istore (pc := 247) (lv' := [(5, .int ((it_X8_both_64 SM x1 x2 x3 ((-1), (-1)) j_64).2)), (4, .int ((it_X8_both_64 SM x1 x2 x3 ((-1), (-1)) j_64).1)), (14, .int 0), (13, .int z87), (12, .int z85), (11, .int (f_X8_spanOf SM ((nI j_64) / 50))), (10, .int (f_X8_spanOf SM ((nI j_64) - (nI j_64) / 50 * 50))), (9, .int (f_X8_spanOf SM ((nI j_64) / 50))), (8, .int ((nI j_64) - (nI j_64) / 50 * 50)), (7, .int ((nI j_64) / 50)), (0, .ref (rM 0)), (1, .int x1), (2, .int x2), (3, .int x3), (6, .int (nI j_64))]) X dX8_both_247 (by decide) rfl ?_
                          refine ww_iinc (pc := 249) (v := (nI j_64) + 1) (lv' := [(6, .int ((nI j_64) + 1)), (5, .int ((it_X8_both_64 SM x1 x2 x3 ((-1), (-1)) j_64).2)), (4, .int ((it_X8_both_64 SM x1 x2 x3 ((-1), (-1)) j_64).1)), (14, .int 0), (13, .int z87), (12, .int z85), (11, .int (f_X8_spanOf SM ((nI j_64) / 50))), (10, .int (f_X8_spanOf SM ((nI j_64) - (nI j_64) / 50 * 50))), (9, .int (f_X8_spanOf SM ((nI j_64) / 50))), (8, .int ((nI j_64) - (nI j_64) / 50 * 50)), (7, .int ((nI j_64) / 50)), (0, .ref (rM 0)), (1, .int x1), (2, .int x2), (3, .int x3)]) X dX8_both_249 14 rfl rfl (by decide) rfl ?_
                          refine ww_goto (pc := 252) (tgt := 64) X dX8_both_252 (by decide) ?_
                          have h91 : (it_X8_both_64 SM x1 x2 x3 ((-1), (-1)) (j_64 + 1)) = ((it_X8_both_64 SM x1 x2 x3 ((-1), (-1)) j_64).1, (it_X8_both_64 SM x1 x2 x3 ((-1), (-1)) j_64).2) := by
                            show bd_X8_both_64 SM x1 x2 x3 j_64 (it_X8_both_64 SM x1 x2 x3 ((-1), (-1)) j_64) = _; unfold bd_X8_both_64; try rw [if_neg c52, if_neg c54, if_neg c56, hz85]; try unfold bd_X8_both_64_k3; try rw [hz87]; try unfold bd_X8_both_64_k4; try rw [if_neg c88]; first | done | rfl
                          refine ww_lsub [11, 12, 13, 14, 2, 1, 0] rfl ?_
                          exact ww_castI (fun u9 : Int32 × Int32 => fl [wX8 cI cZ cQ rM SM]) (fun (u9 : Int32 × Int32) (i9 : Int32) => ([(0, .ref (rM 0)), (1, .int x1), (2, .int x2), (3, .int x3), (4, .int u9.1), (5, .int u9.2), (6, .int i9)] : List (Nat × Value))) h91 (ih (j_64 + 1) (by omega) K)
                        · refine ww_iload (pc := 175) X dX8_both_175 1 rfl ?_
                          refine ww_aload_n (pc := 177) X dX8_both_177 7 rfl rfl ?_
                          refine ww_iload_n (pc := 178) X dX8_both_178 8 rfl rfl ?_
                          refine ww_gVi (pc := 179) (rest := [.int z85]) (gsN := [wX8 cI cZ cQ rM SM]) (ci := 8) (gi := 0) (qi := 0) X (c_X8_end l D cI cZ cQ rM SM x1 (in_X8_isPerson okm c1)) gX8_both_X8_end rfl hd_X8_end [true] rfl rfl rfl rfl rfl rfl rfl rfl ⟨rfl, rfl⟩ ⟨Nat.le_of_ble_eq_true rfl, Nat.le_of_ble_eq_true rfl⟩ (Nat.le_of_ble_eq_true rfl) ⟨Nat.zero_le _, Nat.zero_le _⟩ dX8_both_179 ?_
                          refine ww_icmp_ge (pc := 182) (tgt := 212) X dX8_both_182 (by decide) (fun c92 => ?_) (fun c92 => ?_)
                          · refine ww_iconst (pc := 212) (v := 0) X dX8_both_212 (by decide) ?_
                            refine ww_istore (pc := 213) (lv' := [(14, .int 0), (13, .int z87), (12, .int z85), (11, .int (f_X8_spanOf SM ((nI j_64) / 50))), (10, .int (f_X8_spanOf SM ((nI j_64) - (nI j_64) / 50 * 50))), (9, .int (f_X8_spanOf SM ((nI j_64) / 50))), (8, .int ((nI j_64) - (nI j_64) / 50 * 50)), (7, .int ((nI j_64) / 50)), (0, .ref (rM 0)), (1, .int x1), (2, .int x2), (3, .int x3), (4, .int ((it_X8_both_64 SM x1 x2 x3 ((-1), (-1)) j_64).1)), (5, .int ((it_X8_both_64 SM x1 x2 x3 ((-1), (-1)) j_64).2)), (6, .int (nI j_64))]) X dX8_both_213 (by decide) rfl ?_
                            refine ww_iload (pc := 215) X dX8_both_215 0 rfl ?_
                            refine ww_if_eq (pc := 217) (tgt := 225) X dX8_both_217 (by decide) (fun _ => ?_) (fun c93 => absurd (by decide) c93)
                            refine ww_iload (pc := 225) X dX8_both_225 12 rfl ?_
                            refine ww_istore (pc := 227) (lv' := [(4, .int ((it_X8_both_64 SM x1 x2 x3 ((-1), (-1)) j_64).1)), (14, .int 0), (13, .int z87), (12, .int z85), (11, .int (f_X8_spanOf SM ((nI j_64) / 50))), (10, .int (f_X8_spanOf SM ((nI j_64) - (nI j_64) / 50 * 50))), (9, .int (f_X8_spanOf SM ((nI j_64) / 50))), (8, .int ((nI j_64) - (nI j_64) / 50 * 50)), (7, .int ((nI j_64) / 50)), (0, .ref (rM 0)), (1, .int x1), (2, .int x2), (3, .int x3), (5, .int ((it_X8_both_64 SM x1 x2 x3 ((-1), (-1)) j_64).2)), (6, .int (nI j_64))]) X dX8_both_227 (by decide) rfl ?_
                            refine ww_iload (pc := 229) X dX8_both_229 1 rfl ?_
                            refine ww_if_eq (pc := 231) (tgt := 245) X dX8_both_231 (by decide) (fun _ => ?_) (fun c94 => absurd (by decide) c94)
                            refine ww_iload (pc := 245) X dX8_both_245 13 rfl ?_
                            refine ww_istore (pc := 247) (lv' := [(5, .int ((it_X8_both_64 SM x1 x2 x3 ((-1), (-1)) j_64).2)), (4, .int ((it_X8_both_64 SM x1 x2 x3 ((-1), (-1)) j_64).1)), (14, .int 0), (13, .int z87), (12, .int z85), (11, .int (f_X8_spanOf SM ((nI j_64) / 50))), (10, .int (f_X8_spanOf SM ((nI j_64) - (nI j_64) / 50 * 50))), (9, .int (f_X8_spanOf SM ((nI j_64) / 50))), (8, .int ((nI j_64) - (nI j_64) / 50 * 50)), (7, .int ((nI j_64) / 50)), (0, .ref (rM 0)), (1, .int x1), (2, .int x2), (3, .int x3), (6, .int (nI j_64))]) X dX8_both_247 (by decide) rfl ?_
                            refine ww_iinc (pc := 249) (v := (nI j_64) + 1) (lv' := [(6, .int ((nI j_64) + 1)), (5, .int ((it_X8_both_64 SM x1 x2 x3 ((-1), (-1)) j_64).2)), (4, .int ((it_X8_both_64 SM x1 x2 x3 ((-1), (-1)) j_64).1)), (14, .int 0), (13, .int z87), (12, .int z85), (11, .int (f_X8_spanOf SM ((nI j_64) / 50))), (10, .int (f_X8_spanOf SM ((nI j_64) - (nI j_64) / 50 * 50))), (9, .int (f_X8_spanOf SM ((nI j_64) / 50))), (8, .int ((nI j_64) - (nI j_64) / 50 * 50)), (7, .int ((nI j_64) / 50)), (0, .ref (rM 0)), (1, .int x1), (2, .int x2), (3, .int x3)]) X dX8_both_249 14 rfl rfl (by decide) rfl ?_
                            refine ww_goto (pc := 252) (tgt := 64) X dX8_both_252 (by decide) ?_
                            have h95 : (it_X8_both_64 SM x1 x2 x3 ((-1), (-1)) (j_64 + 1)) = ((it_X8_both_64 SM x1 x2 x3 ((-1), (-1)) j_64).1, (it_X8_both_64 SM x1 x2 x3 ((-1), (-1)) j_64).2) := by
                              show bd_X8_both_64 SM x1 x2 x3 j_64 (it_X8_both_64 SM x1 x2 x3 ((-1), (-1)) j_64) = _; unfold bd_X8_both_64; try rw [if_neg c52, if_neg c54, if_neg c56, hz85]; try unfold bd_X8_both_64_k3; try rw [hz87]; try unfold bd_X8_both_64_k4; try rw [if_pos c88, if_pos c92]; first | done | rfl
                            refine ww_lsub [11, 12, 13, 14, 2, 1, 0] rfl ?_
                            exact ww_castI (fun u9 : Int32 × Int32 => fl [wX8 cI cZ cQ rM SM]) (fun (u9 : Int32 × Int32) (i9 : Int32) => ([(0, .ref (rM 0)), (1, .int x1), (2, .int x2), (3, .int x3), (4, .int u9.1), (5, .int u9.2), (6, .int i9)] : List (Nat × Value))) h95 (ih (j_64 + 1) (by omega) K)
                          · refine ww_iload (pc := 185) X dX8_both_185 0 rfl ?_
                            refine ww_aload_n (pc := 187) X dX8_both_187 7 rfl rfl ?_
                            refine ww_iload_n (pc := 188) X dX8_both_188 9 rfl rfl ?_
                            refine ww_gVi (pc := 189) (rest := [.int z87]) (gsN := [wX8 cI cZ cQ rM SM]) (ci := 8) (gi := 0) (qi := 0) X (c_X8_end l D cI cZ cQ rM SM x2 (in_X8_isPerson okm c2)) gX8_both_X8_end rfl hd_X8_end [true] rfl rfl rfl rfl rfl rfl rfl rfl ⟨rfl, rfl⟩ ⟨Nat.le_of_ble_eq_true rfl, Nat.le_of_ble_eq_true rfl⟩ (Nat.le_of_ble_eq_true rfl) ⟨Nat.zero_le _, Nat.zero_le _⟩ dX8_both_189 ?_
                            refine ww_icmp_ge (pc := 192) (tgt := 212) X dX8_both_192 (by decide) (fun c96 => ?_) (fun c96 => ?_)
                            · refine ww_iconst (pc := 212) (v := 0) X dX8_both_212 (by decide) ?_
                              refine ww_istore (pc := 213) (lv' := [(14, .int 0), (13, .int z87), (12, .int z85), (11, .int (f_X8_spanOf SM ((nI j_64) / 50))), (10, .int (f_X8_spanOf SM ((nI j_64) - (nI j_64) / 50 * 50))), (9, .int (f_X8_spanOf SM ((nI j_64) / 50))), (8, .int ((nI j_64) - (nI j_64) / 50 * 50)), (7, .int ((nI j_64) / 50)), (0, .ref (rM 0)), (1, .int x1), (2, .int x2), (3, .int x3), (4, .int ((it_X8_both_64 SM x1 x2 x3 ((-1), (-1)) j_64).1)), (5, .int ((it_X8_both_64 SM x1 x2 x3 ((-1), (-1)) j_64).2)), (6, .int (nI j_64))]) X dX8_both_213 (by decide) rfl ?_
                              refine ww_iload (pc := 215) X dX8_both_215 0 rfl ?_
                              refine ww_if_eq (pc := 217) (tgt := 225) X dX8_both_217 (by decide) (fun _ => ?_) (fun c97 => absurd (by decide) c97)
                              refine ww_iload (pc := 225) X dX8_both_225 12 rfl ?_
                              refine ww_istore (pc := 227) (lv' := [(4, .int ((it_X8_both_64 SM x1 x2 x3 ((-1), (-1)) j_64).1)), (14, .int 0), (13, .int z87), (12, .int z85), (11, .int (f_X8_spanOf SM ((nI j_64) / 50))), (10, .int (f_X8_spanOf SM ((nI j_64) - (nI j_64) / 50 * 50))), (9, .int (f_X8_spanOf SM ((nI j_64) / 50))), (8, .int ((nI j_64) - (nI j_64) / 50 * 50)), (7, .int ((nI j_64) / 50)), (0, .ref (rM 0)), (1, .int x1), (2, .int x2), (3, .int x3), (5, .int ((it_X8_both_64 SM x1 x2 x3 ((-1), (-1)) j_64).2)), (6, .int (nI j_64))]) X dX8_both_227 (by decide) rfl ?_
                              refine ww_iload (pc := 229) X dX8_both_229 1 rfl ?_
                              refine ww_if_eq (pc := 231) (tgt := 245) X dX8_both_231 (by decide) (fun _ => ?_) (fun c98 => absurd (by decide) c98)
                              refine ww_iload (pc := 245) X dX8_both_245 13 rfl ?_
                              refine ww_istore (pc := 247) (lv' := [(5, .int ((it_X8_both_64 SM x1 x2 x3 ((-1), (-1)) j_64).2)), (4, .int ((it_X8_both_64 SM x1 x2 x3 ((-1), (-1)) j_64).1)), (14, .int 0), (13, .int z87), (12, .int z85), (11, .int (f_X8_spanOf SM ((nI j_64) / 50))), (10, .int (f_X8_spanOf SM ((nI j_64) - (nI j_64) / 50 * 50))), (9, .int (f_X8_spanOf SM ((nI j_64) / 50))), (8, .int ((nI j_64) - (nI j_64) / 50 * 50)), (7, .int ((nI j_64) / 50)), (0, .ref (rM 0)), (1, .int x1), (2, .int x2), (3, .int x3), (6, .int (nI j_64))]) X dX8_both_247 (by decide) rfl ?_
                              refine ww_iinc (pc := 249) (v := (nI j_64) + 1) (lv' := [(6, .int ((nI j_64) + 1)), (5, .int ((it_X8_both_64 SM x1 x2 x3 ((-1), (-1)) j_64).2)), (4, .int ((it_X8_both_64 SM x1 x2 x3 ((-1), (-1)) j_64).1)), (14, .int 0), (13, .int z87), (12, .int z85), (11, .int (f_X8_spanOf SM ((nI j_64) / 50))), (10, .int (f_X8_spanOf SM ((nI j_64) - (nI j_64) / 50 * 50))), (9, .int (f_X8_spanOf SM ((nI j_64) / 50))), (8, .int ((nI j_64) - (nI j_64) / 50 * 50)), (7, .int ((nI j_64) / 50)), (0, .ref (rM 0)), (1, .int x1), (2, .int x2), (3, .int x3)]) X dX8_both_249 14 rfl rfl (by decide) rfl ?_
                              refine ww_goto (pc := 252) (tgt := 64) X dX8_both_252 (by decide) ?_
                              have h99 : (it_X8_both_64 SM x1 x2 x3 ((-1), (-1)) (j_64 + 1)) = ((it_X8_both_64 SM x1 x2 x3 ((-1), (-1)) j_64).1, (it_X8_both_64 SM x1 x2 x3 ((-1), (-1)) j_64).2) := by
                                show bd_X8_both_64 SM x1 x2 x3 j_64 (it_X8_both_64 SM x1 x2 x3 ((-1), (-1)) j_64) = _; unfold bd_X8_both_64; try rw [if_neg c52, if_neg c54, if_neg c56, hz85]; try unfold bd_X8_both_64_k3; try rw [hz87]; try unfold bd_X8_both_64_k4; try rw [if_pos c88, if_neg c92, if_pos c96]; first | done | rfl
                              refine ww_lsub [11, 12, 13, 14, 2, 1, 0] rfl ?_
                              exact ww_castI (fun u9 : Int32 × Int32 => fl [wX8 cI cZ cQ rM SM]) (fun (u9 : Int32 × Int32) (i9 : Int32) => ([(0, .ref (rM 0)), (1, .int x1), (2, .int x2), (3, .int x3), (4, .int u9.1), (5, .int u9.2), (6, .int i9)] : List (Nat × Value))) h99 (ih (j_64 + 1) (by omega) K)
                            · refine ww_iload (pc := 195) X dX8_both_195 12 rfl ?_
                              refine ww_iconst (pc := 197) (v := (-1)) X dX8_both_197 (by decide) ?_
                              refine ww_icmp_eq (pc := 198) (tgt := 208) X dX8_both_198 (by decide) (fun c100 => ?_) (fun c100 => ?_)
                              · refine ww_iconst (pc := 208) (v := 1) X dX8_both_208 (by decide) ?_
                                refine ww_goto (pc := 209) (tgt := 213) X dX8_both_209 (by decide) ?_
                                refine ww_istore (pc := 213) (lv' := [(14, .int 1), (13, .int z87), (12, .int z85), (11, .int (f_X8_spanOf SM ((nI j_64) / 50))), (10, .int (f_X8_spanOf SM ((nI j_64) - (nI j_64) / 50 * 50))), (9, .int (f_X8_spanOf SM ((nI j_64) / 50))), (8, .int ((nI j_64) - (nI j_64) / 50 * 50)), (7, .int ((nI j_64) / 50)), (0, .ref (rM 0)), (1, .int x1), (2, .int x2), (3, .int x3), (4, .int ((it_X8_both_64 SM x1 x2 x3 ((-1), (-1)) j_64).1)), (5, .int ((it_X8_both_64 SM x1 x2 x3 ((-1), (-1)) j_64).2)), (6, .int (nI j_64))]) X dX8_both_213 (by decide) rfl ?_
                                refine ww_iload (pc := 215) X dX8_both_215 0 rfl ?_
                                refine ww_if_eq (pc := 217) (tgt := 225) X dX8_both_217 (by decide) (fun c101 => absurd c101 (by decide)) (fun _ => ?_)
                                refine ww_iload (pc := 220) X dX8_both_220 3 rfl ?_
                                refine ww_goto (pc := 222) (tgt := 227) X dX8_both_222 (by decide) ?_
                                refine ww_istore (pc := 227) (lv' := [(4, .int (f_X8_spanOf SM ((nI j_64) / 50))), (14, .int 1), (13, .int z87), (12, .int z85), (11, .int (f_X8_spanOf SM ((nI j_64) / 50))), (10, .int (f_X8_spanOf SM ((nI j_64) - (nI j_64) / 50 * 50))), (9, .int (f_X8_spanOf SM ((nI j_64) / 50))), (8, .int ((nI j_64) - (nI j_64) / 50 * 50)), (7, .int ((nI j_64) / 50)), (0, .ref (rM 0)), (1, .int x1), (2, .int x2), (3, .int x3), (5, .int ((it_X8_both_64 SM x1 x2 x3 ((-1), (-1)) j_64).2)), (6, .int (nI j_64))]) X dX8_both_227 (by decide) rfl ?_
                                refine ww_iload (pc := 229) X dX8_both_229 1 rfl ?_
                                refine ww_if_eq (pc := 231) (tgt := 245) X dX8_both_231 (by decide) (fun c102 => absurd c102 (by decide)) (fun _ => ?_)
                                refine ww_bipush (pc := 234) (v := 100) X dX8_both_234 (by decide) ?_
                                refine ww_iload (pc := 236) X dX8_both_236 8 rfl ?_
                                refine ww_imul (pc := 238) X dX8_both_238 ?_
                                refine ww_iload (pc := 239) X dX8_both_239 7 rfl ?_
                                refine ww_iadd (pc := 241) X dX8_both_241 ?_
                                refine ww_goto (pc := 242) (tgt := 247) X dX8_both_242 (by decide) ?_
                                refine ww_istore (pc := 247) (lv' := [(5, .int ((100 * ((nI j_64) / 50)) + ((nI j_64) - (nI j_64) / 50 * 50))), (4, .int (f_X8_spanOf SM ((nI j_64) / 50))), (14, .int 1), (13, .int z87), (12, .int z85), (11, .int (f_X8_spanOf SM ((nI j_64) / 50))), (10, .int (f_X8_spanOf SM ((nI j_64) - (nI j_64) / 50 * 50))), (9, .int (f_X8_spanOf SM ((nI j_64) / 50))), (8, .int ((nI j_64) - (nI j_64) / 50 * 50)), (7, .int ((nI j_64) / 50)), (0, .ref (rM 0)), (1, .int x1), (2, .int x2), (3, .int x3), (6, .int (nI j_64))]) X dX8_both_247 (by decide) rfl ?_
                                refine ww_iinc (pc := 249) (v := (nI j_64) + 1) (lv' := [(6, .int ((nI j_64) + 1)), (5, .int ((100 * ((nI j_64) / 50)) + ((nI j_64) - (nI j_64) / 50 * 50))), (4, .int (f_X8_spanOf SM ((nI j_64) / 50))), (14, .int 1), (13, .int z87), (12, .int z85), (11, .int (f_X8_spanOf SM ((nI j_64) / 50))), (10, .int (f_X8_spanOf SM ((nI j_64) - (nI j_64) / 50 * 50))), (9, .int (f_X8_spanOf SM ((nI j_64) / 50))), (8, .int ((nI j_64) - (nI j_64) / 50 * 50)), (7, .int ((nI j_64) / 50)), (0, .ref (rM 0)), (1, .int x1), (2, .int x2), (3, .int x3)]) X dX8_both_249 14 rfl rfl (by decide) rfl ?_
                                refine ww_goto (pc := 252) (tgt := 64) X dX8_both_252 (by decide) ?_
                                have h103 : (it_X8_both_64 SM x1 x2 x3 ((-1), (-1)) (j_64 + 1)) = (f_X8_spanOf SM ((nI j_64) / 50), (100 * ((nI j_64) / 50)) + ((nI j_64) - (nI j_64) / 50 * 50)) := by
                                  show bd_X8_both_64 SM x1 x2 x3 j_64 (it_X8_both_64 SM x1 x2 x3 ((-1), (-1)) j_64) = _; unfold bd_X8_both_64; try rw [if_neg c52, if_neg c54, if_neg c56, hz85]; try unfold bd_X8_both_64_k3; try rw [hz87]; try unfold bd_X8_both_64_k4; try rw [if_pos c88, if_neg c92, if_neg c96, if_pos c100]; first | done | rfl
                                refine ww_lsub [11, 12, 13, 14, 2, 1, 0] rfl ?_
                                exact ww_castI (fun u9 : Int32 × Int32 => fl [wX8 cI cZ cQ rM SM]) (fun (u9 : Int32 × Int32) (i9 : Int32) => ([(0, .ref (rM 0)), (1, .int x1), (2, .int x2), (3, .int x3), (4, .int u9.1), (5, .int u9.2), (6, .int i9)] : List (Nat × Value))) h103 (ih (j_64 + 1) (by omega) K)
                              · refine ww_iload (pc := 201) X dX8_both_201 2 rfl ?_
                                refine ww_iload (pc := 203) X dX8_both_203 11 rfl ?_
                                refine ww_icmp_ge (pc := 205) (tgt := 212) X dX8_both_205 (by decide) (fun c104 => ?_) (fun c104 => ?_)
                                · refine ww_iconst (pc := 212) (v := 0) X dX8_both_212 (by decide) ?_
                                  refine ww_istore (pc := 213) (lv' := [(14, .int 0), (13, .int z87), (12, .int z85), (11, .int (f_X8_spanOf SM ((nI j_64) / 50))), (10, .int (f_X8_spanOf SM ((nI j_64) - (nI j_64) / 50 * 50))), (9, .int (f_X8_spanOf SM ((nI j_64) / 50))), (8, .int ((nI j_64) - (nI j_64) / 50 * 50)), (7, .int ((nI j_64) / 50)), (0, .ref (rM 0)), (1, .int x1), (2, .int x2), (3, .int x3), (4, .int ((it_X8_both_64 SM x1 x2 x3 ((-1), (-1)) j_64).1)), (5, .int ((it_X8_both_64 SM x1 x2 x3 ((-1), (-1)) j_64).2)), (6, .int (nI j_64))]) X dX8_both_213 (by decide) rfl ?_
                                  refine ww_iload (pc := 215) X dX8_both_215 0 rfl ?_
                                  refine ww_if_eq (pc := 217) (tgt := 225) X dX8_both_217 (by decide) (fun _ => ?_) (fun c105 => absurd (by decide) c105)
                                  refine ww_iload (pc := 225) X dX8_both_225 12 rfl ?_
                                  refine ww_istore (pc := 227) (lv' := [(4, .int ((it_X8_both_64 SM x1 x2 x3 ((-1), (-1)) j_64).1)), (14, .int 0), (13, .int z87), (12, .int z85), (11, .int (f_X8_spanOf SM ((nI j_64) / 50))), (10, .int (f_X8_spanOf SM ((nI j_64) - (nI j_64) / 50 * 50))), (9, .int (f_X8_spanOf SM ((nI j_64) / 50))), (8, .int ((nI j_64) - (nI j_64) / 50 * 50)), (7, .int ((nI j_64) / 50)), (0, .ref (rM 0)), (1, .int x1), (2, .int x2), (3, .int x3), (5, .int ((it_X8_both_64 SM x1 x2 x3 ((-1), (-1)) j_64).2)), (6, .int (nI j_64))]) X dX8_both_227 (by decide) rfl ?_
                                  refine ww_iload (pc := 229) X dX8_both_229 1 rfl ?_
                                  refine ww_if_eq (pc := 231) (tgt := 245) X dX8_both_231 (by decide) (fun _ => ?_) (fun c106 => absurd (by decide) c106)
                                  refine ww_iload (pc := 245) X dX8_both_245 13 rfl ?_
                                  refine ww_istore (pc := 247) (lv' := [(5, .int ((it_X8_both_64 SM x1 x2 x3 ((-1), (-1)) j_64).2)), (4, .int ((it_X8_both_64 SM x1 x2 x3 ((-1), (-1)) j_64).1)), (14, .int 0), (13, .int z87), (12, .int z85), (11, .int (f_X8_spanOf SM ((nI j_64) / 50))), (10, .int (f_X8_spanOf SM ((nI j_64) - (nI j_64) / 50 * 50))), (9, .int (f_X8_spanOf SM ((nI j_64) / 50))), (8, .int ((nI j_64) - (nI j_64) / 50 * 50)), (7, .int ((nI j_64) / 50)), (0, .ref (rM 0)), (1, .int x1), (2, .int x2), (3, .int x3), (6, .int (nI j_64))]) X dX8_both_247 (by decide) rfl ?_
                                  refine ww_iinc (pc := 249) (v := (nI j_64) + 1) (lv' := [(6, .int ((nI j_64) + 1)), (5, .int ((it_X8_both_64 SM x1 x2 x3 ((-1), (-1)) j_64).2)), (4, .int ((it_X8_both_64 SM x1 x2 x3 ((-1), (-1)) j_64).1)), (14, .int 0), (13, .int z87), (12, .int z85), (11, .int (f_X8_spanOf SM ((nI j_64) / 50))), (10, .int (f_X8_spanOf SM ((nI j_64) - (nI j_64) / 50 * 50))), (9, .int (f_X8_spanOf SM ((nI j_64) / 50))), (8, .int ((nI j_64) - (nI j_64) / 50 * 50)), (7, .int ((nI j_64) / 50)), (0, .ref (rM 0)), (1, .int x1), (2, .int x2), (3, .int x3)]) X dX8_both_249 14 rfl rfl (by decide) rfl ?_
                                  refine ww_goto (pc := 252) (tgt := 64) X dX8_both_252 (by decide) ?_
                                  have h107 : (it_X8_both_64 SM x1 x2 x3 ((-1), (-1)) (j_64 + 1)) = ((it_X8_both_64 SM x1 x2 x3 ((-1), (-1)) j_64).1, (it_X8_both_64 SM x1 x2 x3 ((-1), (-1)) j_64).2) := by
                                    show bd_X8_both_64 SM x1 x2 x3 j_64 (it_X8_both_64 SM x1 x2 x3 ((-1), (-1)) j_64) = _; unfold bd_X8_both_64; try rw [if_neg c52, if_neg c54, if_neg c56, hz85]; try unfold bd_X8_both_64_k3; try rw [hz87]; try unfold bd_X8_both_64_k4; try rw [if_pos c88, if_neg c92, if_neg c96, if_neg c100, if_pos c104]; first | done | rfl
                                  refine ww_lsub [11, 12, 13, 14, 2, 1, 0] rfl ?_
                                  exact ww_castI (fun u9 : Int32 × Int32 => fl [wX8 cI cZ cQ rM SM]) (fun (u9 : Int32 × Int32) (i9 : Int32) => ([(0, .ref (rM 0)), (1, .int x1), (2, .int x2), (3, .int x3), (4, .int u9.1), (5, .int u9.2), (6, .int i9)] : List (Nat × Value))) h107 (ih (j_64 + 1) (by omega) K)
                                · refine ww_iconst (pc := 208) (v := 1) X dX8_both_208 (by decide) ?_
                                  refine ww_goto (pc := 209) (tgt := 213) X dX8_both_209 (by decide) ?_
                                  refine ww_istore (pc := 213) (lv' := [(14, .int 1), (13, .int z87), (12, .int z85), (11, .int (f_X8_spanOf SM ((nI j_64) / 50))), (10, .int (f_X8_spanOf SM ((nI j_64) - (nI j_64) / 50 * 50))), (9, .int (f_X8_spanOf SM ((nI j_64) / 50))), (8, .int ((nI j_64) - (nI j_64) / 50 * 50)), (7, .int ((nI j_64) / 50)), (0, .ref (rM 0)), (1, .int x1), (2, .int x2), (3, .int x3), (4, .int ((it_X8_both_64 SM x1 x2 x3 ((-1), (-1)) j_64).1)), (5, .int ((it_X8_both_64 SM x1 x2 x3 ((-1), (-1)) j_64).2)), (6, .int (nI j_64))]) X dX8_both_213 (by decide) rfl ?_
                                  refine ww_iload (pc := 215) X dX8_both_215 0 rfl ?_
                                  refine ww_if_eq (pc := 217) (tgt := 225) X dX8_both_217 (by decide) (fun c108 => absurd c108 (by decide)) (fun _ => ?_)
                                  refine ww_iload (pc := 220) X dX8_both_220 3 rfl ?_
                                  refine ww_goto (pc := 222) (tgt := 227) X dX8_both_222 (by decide) ?_
                                  refine ww_istore (pc := 227) (lv' := [(4, .int (f_X8_spanOf SM ((nI j_64) / 50))), (14, .int 1), (13, .int z87), (12, .int z85), (11, .int (f_X8_spanOf SM ((nI j_64) / 50))), (10, .int (f_X8_spanOf SM ((nI j_64) - (nI j_64) / 50 * 50))), (9, .int (f_X8_spanOf SM ((nI j_64) / 50))), (8, .int ((nI j_64) - (nI j_64) / 50 * 50)), (7, .int ((nI j_64) / 50)), (0, .ref (rM 0)), (1, .int x1), (2, .int x2), (3, .int x3), (5, .int ((it_X8_both_64 SM x1 x2 x3 ((-1), (-1)) j_64).2)), (6, .int (nI j_64))]) X dX8_both_227 (by decide) rfl ?_
                                  refine ww_iload (pc := 229) X dX8_both_229 1 rfl ?_
                                  refine ww_if_eq (pc := 231) (tgt := 245) X dX8_both_231 (by decide) (fun c109 => absurd c109 (by decide)) (fun _ => ?_)
                                  refine ww_bipush (pc := 234) (v := 100) X dX8_both_234 (by decide) ?_
                                  refine ww_iload (pc := 236) X dX8_both_236 8 rfl ?_
                                  refine ww_imul (pc := 238) X dX8_both_238 ?_
                                  refine ww_iload (pc := 239) X dX8_both_239 7 rfl ?_
                                  refine ww_iadd (pc := 241) X dX8_both_241 ?_
                                  refine ww_goto (pc := 242) (tgt := 247) X dX8_both_242 (by decide) ?_
                                  refine ww_istore (pc := 247) (lv' := [(5, .int ((100 * ((nI j_64) / 50)) + ((nI j_64) - (nI j_64) / 50 * 50))), (4, .int (f_X8_spanOf SM ((nI j_64) / 50))), (14, .int 1), (13, .int z87), (12, .int z85), (11, .int (f_X8_spanOf SM ((nI j_64) / 50))), (10, .int (f_X8_spanOf SM ((nI j_64) - (nI j_64) / 50 * 50))), (9, .int (f_X8_spanOf SM ((nI j_64) / 50))), (8, .int ((nI j_64) - (nI j_64) / 50 * 50)), (7, .int ((nI j_64) / 50)), (0, .ref (rM 0)), (1, .int x1), (2, .int x2), (3, .int x3), (6, .int (nI j_64))]) X dX8_both_247 (by decide) rfl ?_
                                  refine ww_iinc (pc := 249) (v := (nI j_64) + 1) (lv' := [(6, .int ((nI j_64) + 1)), (5, .int ((100 * ((nI j_64) / 50)) + ((nI j_64) - (nI j_64) / 50 * 50))), (4, .int (f_X8_spanOf SM ((nI j_64) / 50))), (14, .int 1), (13, .int z87), (12, .int z85), (11, .int (f_X8_spanOf SM ((nI j_64) / 50))), (10, .int (f_X8_spanOf SM ((nI j_64) - (nI j_64) / 50 * 50))), (9, .int (f_X8_spanOf SM ((nI j_64) / 50))), (8, .int ((nI j_64) - (nI j_64) / 50 * 50)), (7, .int ((nI j_64) / 50)), (0, .ref (rM 0)), (1, .int x1), (2, .int x2), (3, .int x3)]) X dX8_both_249 14 rfl rfl (by decide) rfl ?_
                                  refine ww_goto (pc := 252) (tgt := 64) X dX8_both_252 (by decide) ?_
                                  have h110 : (it_X8_both_64 SM x1 x2 x3 ((-1), (-1)) (j_64 + 1)) = (f_X8_spanOf SM ((nI j_64) / 50), (100 * ((nI j_64) / 50)) + ((nI j_64) - (nI j_64) / 50 * 50)) := by
                                    show bd_X8_both_64 SM x1 x2 x3 j_64 (it_X8_both_64 SM x1 x2 x3 ((-1), (-1)) j_64) = _; unfold bd_X8_both_64; try rw [if_neg c52, if_neg c54, if_neg c56, hz85]; try unfold bd_X8_both_64_k3; try rw [hz87]; try unfold bd_X8_both_64_k4; try rw [if_pos c88, if_neg c92, if_neg c96, if_neg c100, if_neg c104]; first | done | rfl
                                  refine ww_lsub [11, 12, 13, 14, 2, 1, 0] rfl ?_
                                  exact ww_castI (fun u9 : Int32 × Int32 => fl [wX8 cI cZ cQ rM SM]) (fun (u9 : Int32 × Int32) (i9 : Int32) => ([(0, .ref (rM 0)), (1, .int x1), (2, .int x2), (3, .int x3), (4, .int u9.1), (5, .int u9.2), (6, .int i9)] : List (Nat × Value))) h110 (ih (j_64 + 1) (by omega) K)
              refine ww_lsub [3, 4, 5, 6, 2, 1, 0] rfl ?_
              refine L64 2500 0 (by omega) ?_
              generalize hz111 : ((it_X8_both_64 SM x1 x2 x3 ((-1), (-1)) 2500)) = z111
              refine ww_iload_n (pc := 255) X dX8_both_255 3 rfl rfl ?_
              refine ww_if_ne (pc := 256) (tgt := 264) X dX8_both_256 (by decide) (fun c112 => ?_) (fun c112 => ?_)
              · refine ww_iload (pc := 264) X dX8_both_264 5 rfl ?_
                exact ww_iret X hr rfl (Eq.symm (by unfold f_X8_both; try rw [if_neg c1, if_neg c2, if_neg c3, if_neg c4, if_neg c5, if_neg c6, hz111]; try unfold f_X8_both_k1; try rw [if_neg c112]; first | done | rfl)) rfl dX8_both_266
              · refine ww_iload (pc := 259) X dX8_both_259 4 rfl ?_
                refine ww_goto (pc := 261) (tgt := 266) X dX8_both_261 (by decide) ?_
                exact ww_iret X hr rfl (Eq.symm (by unfold f_X8_both; try rw [if_neg c1, if_neg c2, if_neg c3, if_neg c4, if_neg c5, if_neg c6, hz111]; try unfold f_X8_both_k1; try rw [if_pos c112]; first | done | rfl)) rfl dX8_both_266
            · refine ww_ldc (pc := 52) (v := (-1000000003)) X (by decide +kernel) dX8_both_52 ?_
              exact ww_iret X hr rfl (Eq.symm (by unfold f_X8_both; try rw [if_neg c1, if_neg c2, if_neg c3, if_neg c4, if_neg c5, if_pos c6]; first | done | rfl)) rfl dX8_both_54
        · refine ww_ldc (pc := 33) (v := (-1000000002)) X (by decide +kernel) dX8_both_33 ?_
          exact ww_iret X hr rfl (Eq.symm (by unfold f_X8_both; try rw [if_neg c1, if_neg c2, if_neg c3, if_pos c4]; first | done | rfl)) rfl dX8_both_35
      · refine ww_ldc (pc := 21) (v := (-1000000001)) X (by decide +kernel) dX8_both_21 ?_
        exact ww_iret X hr rfl (Eq.symm (by unfold f_X8_both; try rw [if_neg c1, if_neg c2, if_pos c3]; first | done | rfl)) rfl dX8_both_23
