def bd_X8_isSo_4_k1 (SM : St) (x1 : Int32) (j : Nat) (u : Int32) (z4 : Int32) : Int32 :=
  if u = 0 then
    0
  else
    if z4 = ((SM.2 14) (((3 * (nI j)) + 2 : Int32)).toNatClampNeg) then
      1
    else
      0
def bd_X8_isSo_4 (SM : St) (x1 : Int32) (j : Nat) (u : Int32) : Int32 :=
  if ((SM.2 14) ((3 * (nI j) : Int32)).toNatClampNeg) = 0 then
    bd_X8_isSo_4_k1 SM x1 j u ((SM.2 16) (((SM.2 14) (((3 * (nI j)) + 1 : Int32)).toNatClampNeg : Int32)).toNatClampNeg)
  else
    if u = 0 then
      0
    else
      if (x1 / ((SM.2 1) ((1 : Int32)).toNatClampNeg)) = ((SM.2 14) (((3 * (nI j)) + 2 : Int32)).toNatClampNeg) then
        1
      else
        0
def it_X8_isSo_4 (SM : St) (x1 : Int32) (u : Int32) : Nat → Int32
  | 0 => u
  | j + 1 => bd_X8_isSo_4 SM x1 j (it_X8_isSo_4 SM x1 u j)
def f_X8_isSo_k1 (SM : St) (x1 : Int32) (z19 : Int32) : Int32 :=
  z19
def f_X8_isSo (SM : St) (x1 : Int32) : Int32 :=
  f_X8_isSo_k1 SM x1 (it_X8_isSo_4 SM x1 (1 : Int32) ((SM.1 4).toNatClampNeg))
theorem bo_isSo (S : St) (x : Int32) (u : Int32) : ∀ j : Nat, u = 0 ∨ u = 1 → it_X8_isSo_4 S x u j = 0 ∨ it_X8_isSo_4 S x u j = 1
  | 0, h => h
  | j + 1, h => by
    show bd_X8_isSo_4 S x j (it_X8_isSo_4 S x u j) = 0 ∨ bd_X8_isSo_4 S x j (it_X8_isSo_4 S x u j) = 1
    unfold bd_X8_isSo_4 bd_X8_isSo_4_k1
    repeat' split
    all_goals first | exact Or.inl rfl | exact Or.inr rfl
theorem inX8_isSo_8 : ∀ w ∈ wsX80, w ∈ wsX8_isSo := by decide +kernel
theorem hd_X8_isSo : yX8_isSo.cls = RX8 ∧ yX8_isSo.cls ≠ "java/lang/invoke/MethodHandle" ∧ yX8_isSo.cls ≠ "java/lang/invoke/VarHandle" ∧ (parseMethodDescriptor yX8_isSo.desc).map (fun d => d.parameters.length) = some 1 := by decide +kernel
set_option maxHeartbeats 4000000 in
set_option maxRecDepth 100000 in
theorem c_X8_isSo (l : Launch) (D : va_G) (cI cZ cQ : ClassId) (rM : Nat → Nat) (SM : St) (x1 : Int32) (okf : okF SM) (hr1 : ¬ (SM.2 1) ((1 : Int32)).toNatClampNeg = 0) : Ci l yX8_isSo wsX8_isSo { frames := 0, cells := 0, slots := 0, locals := 0 } D (tyL cI cZ cQ) [.ref (rM 0), .int x1] (fl [wX8 cI cZ cQ rM SM]) (f_X8_isSo SM x1) (fl [wX8 cI cZ cQ rM SM]) := by
  refine ci_of (cc := cX8_isSo) (nL := 5) (ty := .boolean) (lv0 := [(0, .ref (rM 0)), (1, .int x1)]) (by decide) rfl (Nat.le_of_ble_eq_true rfl) rfl ?_
  intro p e s m args below meth c A X hr
  refine ww_iconst (pc := 0) (v := 1) X dX8_isSo_0 (by decide) ?_
  refine ww_istore_n (pc := 1) (lv' := [(2, .int 1), (0, .ref (rM 0)), (1, .int x1)]) X dX8_isSo_1 rfl (by decide) rfl ?_
  refine ww_iconst (pc := 2) (v := 0) X dX8_isSo_2 (by decide) ?_
  refine ww_istore_n (pc := 3) (lv' := [(3, .int 0), (2, .int 1), (0, .ref (rM 0)), (1, .int x1)]) X dX8_isSo_3 rfl (by decide) rfl ?_
  have L4 : ∀ (k_4 j_4 : Nat), j_4 + k_4 = (SM.1 4).toNatClampNeg → WW p l e (headSpec wsX8_isSo { frames := 0, cells := 0, slots := 0, locals := 0 }).room s m args below meth c 5 D A 0 0 (RQi below args s D A (f_X8_isSo SM x1) (fl [wX8 cI cZ cQ rM SM])) (fl [wX8 cI cZ cQ rM SM]) [(0, .ref (rM 0)), (1, .int x1), (2, .int (it_X8_isSo_4 SM x1 (1 : Int32) ((SM.1 4).toNatClampNeg))), (3, .int (nI ((SM.1 4).toNatClampNeg)))] 82 [] → WW p l e (headSpec wsX8_isSo { frames := 0, cells := 0, slots := 0, locals := 0 }).room s m args below meth c 5 D A 0 0 (RQi below args s D A (f_X8_isSo SM x1) (fl [wX8 cI cZ cQ rM SM])) (fl [wX8 cI cZ cQ rM SM]) [(0, .ref (rM 0)), (1, .int x1), (2, .int (it_X8_isSo_4 SM x1 (1 : Int32) j_4)), (3, .int (nI j_4))] 4 [] := by
    intro k_4
    induction k_4 with
    | zero =>
      intro j_4 hj K
      have hjB : j_4 = (SM.1 4).toNatClampNeg := by omega
      subst hjB
      refine ww_iload_n (pc := 4) X dX8_isSo_4 3 rfl rfl ?_
      refine ww_aload_n (pc := 5) X dX8_isSo_5 0 rfl rfl ?_
      refine ww_get (pc := 6) (ci := 8) (v := .int (SM.1 4)) (C := RX8) (T := TX8) (N := 27) X inX8_isSo_8 0 rfl rfl 19 (by decide) (by decide +kernel) rfl dX8_isSo_6 ?_
      exact ww_icmp_ge (pc := 9) (tgt := 82) X dX8_isSo_9 (by decide) (fun _ => K) (fun c9 => absurd (lp_ge0c (Nat.le_refl _) (cl_lt _)) c9)
    | succ k_4 ih =>
      intro j_4 hj K
      have hjB : j_4 < (SM.1 4).toNatClampNeg := by omega
      have h6 := okf.1
      refine ww_iload_n (pc := 4) X dX8_isSo_4 3 rfl rfl ?_
      refine ww_aload_n (pc := 5) X dX8_isSo_5 0 rfl rfl ?_
      refine ww_get (pc := 6) (ci := 8) (v := .int (SM.1 4)) (C := RX8) (T := TX8) (N := 27) X inX8_isSo_8 0 rfl rfl 19 (by decide) (by decide +kernel) rfl dX8_isSo_6 ?_
      refine ww_icmp_ge (pc := 9) (tgt := 82) X dX8_isSo_9 (by decide) (fun c9 => absurd c9 (lp_ge1c hjB)) (fun _ => ?_)
      refine ww_aload_n (pc := 12) X dX8_isSo_12 0 rfl rfl ?_
      refine ww_get (pc := 13) (ci := 8) (v := .ref (rM 15)) (C := RX8) (T := TX8) (N := 27) X inX8_isSo_8 0 rfl rfl 18 (by decide) (by decide +kernel) rfl dX8_isSo_13 ?_
      refine ww_iconst (pc := 16) (v := 3) X dX8_isSo_16 (by decide) ?_
      refine ww_iload_n (pc := 17) X dX8_isSo_17 3 rfl rfl ?_
      refine ww_imul (pc := 18) X dX8_isSo_18 ?_
      refine ww_iald (pc := 19) (f := SM.2 14) X 15 0 rfl rfl (vn (m := 3 * j_4) (nat_imul (a := 3) (b := j_4) rfl rfl) (by omega) (by decide)) dX8_isSo_19 ?_
      refine ww_if_ne (pc := 20) (tgt := 41) X dX8_isSo_20 (by decide) (fun c7 => ?_) (fun c7 => ?_)
      · refine ww_iload_n (pc := 41) X dX8_isSo_41 1 rfl rfl ?_
        refine ww_aload_n (pc := 42) X dX8_isSo_42 0 rfl rfl ?_
        refine ww_get (pc := 43) (ci := 8) (v := .ref (rM 2)) (C := RX8) (T := TX8) (N := 27) X inX8_isSo_8 0 rfl rfl 3 (by decide) (by decide +kernel) rfl dX8_isSo_43 ?_
        refine ww_iconst (pc := 46) (v := 1) X dX8_isSo_46 (by decide) ?_
        refine ww_iald (pc := 47) (f := SM.2 1) X 2 0 rfl rfl (vl_in (by decide)) dX8_isSo_47 ?_
        refine ww_idiv (pc := 48) X dX8_isSo_48 hr1 ?_
        refine ww_istore (pc := 49) (lv' := [(4, .int (x1 / ((SM.2 1) ((1 : Int32)).toNatClampNeg))), (0, .ref (rM 0)), (1, .int x1), (2, .int (it_X8_isSo_4 SM x1 (1 : Int32) j_4)), (3, .int (nI j_4))]) X dX8_isSo_49 (by decide) rfl ?_
        refine ww_iload_n (pc := 51) X dX8_isSo_51 3 rfl rfl ?_
        refine ww_if_eq (pc := 52) (tgt := 74) X dX8_isSo_52 (by decide) (fun c8 => ?_) (fun c8 => ?_)
        · refine ww_iconst (pc := 74) (v := 0) X dX8_isSo_74 (by decide) ?_
          refine ww_istore_n (pc := 75) (lv' := [(2, .int 0), (4, .int (x1 / ((SM.2 1) ((1 : Int32)).toNatClampNeg))), (0, .ref (rM 0)), (1, .int x1), (3, .int (nI j_4))]) X dX8_isSo_75 rfl (by decide) rfl ?_
          refine ww_iinc (pc := 76) (v := (nI j_4) + 1) (lv' := [(3, .int ((nI j_4) + 1)), (2, .int 0), (4, .int (x1 / ((SM.2 1) ((1 : Int32)).toNatClampNeg))), (0, .ref (rM 0)), (1, .int x1)]) X dX8_isSo_76 4 rfl rfl (by decide) rfl ?_
          refine ww_goto (pc := 79) (tgt := 4) X dX8_isSo_79 (by decide) ?_
          have h9 : (it_X8_isSo_4 SM x1 (1 : Int32) (j_4 + 1)) = 0 := by
            show bd_X8_isSo_4 SM x1 j_4 (it_X8_isSo_4 SM x1 (1 : Int32) j_4) = _; unfold bd_X8_isSo_4; try rw [if_neg c7, if_pos c8]; first | done | rfl
          refine ww_lsub [3, 4, 1, 0] rfl ?_
          exact ww_castI (fun u9 : Int32 => fl [wX8 cI cZ cQ rM SM]) (fun (u9 : Int32) (i9 : Int32) => ([(0, .ref (rM 0)), (1, .int x1), (2, .int u9), (3, .int i9)] : List (Nat × Value))) h9 (ih (j_4 + 1) (by omega) K)
        · refine ww_iload (pc := 55) X dX8_isSo_55 0 rfl ?_
          refine ww_aload_n (pc := 57) X dX8_isSo_57 1 rfl rfl ?_
          refine ww_get (pc := 58) (ci := 8) (v := .ref (rM 15)) (C := RX8) (T := TX8) (N := 27) X inX8_isSo_8 0 rfl rfl 18 (by decide) (by decide +kernel) rfl dX8_isSo_58 ?_
          refine ww_iconst (pc := 61) (v := 3) X dX8_isSo_61 (by decide) ?_
          refine ww_iload_n (pc := 62) X dX8_isSo_62 4 rfl rfl ?_
          refine ww_imul (pc := 63) X dX8_isSo_63 ?_
          refine ww_iconst (pc := 64) (v := 2) X dX8_isSo_64 (by decide) ?_
          refine ww_iadd (pc := 65) X dX8_isSo_65 ?_
          refine ww_iald (pc := 66) (f := SM.2 14) X 15 0 rfl rfl (vn (m := (3 * j_4) + 2) (nat_iadd (a := 3 * j_4) (b := 2) (nat_imul (a := 3) (b := j_4) rfl rfl) rfl) (by omega) (by decide)) dX8_isSo_66 ?_
          refine ww_icmp_ne (pc := 67) (tgt := 74) X dX8_isSo_67 (by decide) (fun c10 => ?_) (fun c10 => ?_)
          · refine ww_iconst (pc := 74) (v := 0) X dX8_isSo_74 (by decide) ?_
            refine ww_istore_n (pc := 75) (lv' := [(2, .int 0), (4, .int (x1 / ((SM.2 1) ((1 : Int32)).toNatClampNeg))), (0, .ref (rM 0)), (1, .int x1), (3, .int (nI j_4))]) X dX8_isSo_75 rfl (by decide) rfl ?_
            refine ww_iinc (pc := 76) (v := (nI j_4) + 1) (lv' := [(3, .int ((nI j_4) + 1)), (2, .int 0), (4, .int (x1 / ((SM.2 1) ((1 : Int32)).toNatClampNeg))), (0, .ref (rM 0)), (1, .int x1)]) X dX8_isSo_76 4 rfl rfl (by decide) rfl ?_
            refine ww_goto (pc := 79) (tgt := 4) X dX8_isSo_79 (by decide) ?_
            have h11 : (it_X8_isSo_4 SM x1 (1 : Int32) (j_4 + 1)) = 0 := by
              show bd_X8_isSo_4 SM x1 j_4 (it_X8_isSo_4 SM x1 (1 : Int32) j_4) = _; unfold bd_X8_isSo_4; try rw [if_neg c7, if_neg c8, if_neg c10]; first | done | rfl
            refine ww_lsub [3, 4, 1, 0] rfl ?_
            exact ww_castI (fun u9 : Int32 => fl [wX8 cI cZ cQ rM SM]) (fun (u9 : Int32) (i9 : Int32) => ([(0, .ref (rM 0)), (1, .int x1), (2, .int u9), (3, .int i9)] : List (Nat × Value))) h11 (ih (j_4 + 1) (by omega) K)
          · refine ww_iconst (pc := 70) (v := 1) X dX8_isSo_70 (by decide) ?_
            refine ww_goto (pc := 71) (tgt := 75) X dX8_isSo_71 (by decide) ?_
            refine ww_istore_n (pc := 75) (lv' := [(2, .int 1), (4, .int (x1 / ((SM.2 1) ((1 : Int32)).toNatClampNeg))), (0, .ref (rM 0)), (1, .int x1), (3, .int (nI j_4))]) X dX8_isSo_75 rfl (by decide) rfl ?_
            refine ww_iinc (pc := 76) (v := (nI j_4) + 1) (lv' := [(3, .int ((nI j_4) + 1)), (2, .int 1), (4, .int (x1 / ((SM.2 1) ((1 : Int32)).toNatClampNeg))), (0, .ref (rM 0)), (1, .int x1)]) X dX8_isSo_76 4 rfl rfl (by decide) rfl ?_
            refine ww_goto (pc := 79) (tgt := 4) X dX8_isSo_79 (by decide) ?_
            have h12 : (it_X8_isSo_4 SM x1 (1 : Int32) (j_4 + 1)) = 1 := by
              show bd_X8_isSo_4 SM x1 j_4 (it_X8_isSo_4 SM x1 (1 : Int32) j_4) = _; unfold bd_X8_isSo_4; try rw [if_neg c7, if_neg c8, if_pos c10]; first | done | rfl
            refine ww_lsub [3, 4, 1, 0] rfl ?_
            exact ww_castI (fun u9 : Int32 => fl [wX8 cI cZ cQ rM SM]) (fun (u9 : Int32) (i9 : Int32) => ([(0, .ref (rM 0)), (1, .int x1), (2, .int u9), (3, .int i9)] : List (Nat × Value))) h12 (ih (j_4 + 1) (by omega) K)
      · refine ww_aload_n (pc := 23) X dX8_isSo_23 0 rfl rfl ?_
        refine ww_get (pc := 24) (ci := 8) (v := .ref (rM 17)) (C := RX8) (T := TX8) (N := 27) X inX8_isSo_8 0 rfl rfl 24 (by decide) (by decide +kernel) rfl dX8_isSo_24 ?_
        refine ww_aload_n (pc := 27) X dX8_isSo_27 0 rfl rfl ?_
        refine ww_get (pc := 28) (ci := 8) (v := .ref (rM 15)) (C := RX8) (T := TX8) (N := 27) X inX8_isSo_8 0 rfl rfl 18 (by decide) (by decide +kernel) rfl dX8_isSo_28 ?_
        refine ww_iconst (pc := 31) (v := 3) X dX8_isSo_31 (by decide) ?_
        refine ww_iload_n (pc := 32) X dX8_isSo_32 3 rfl rfl ?_
        refine ww_imul (pc := 33) X dX8_isSo_33 ?_
        refine ww_iconst (pc := 34) (v := 1) X dX8_isSo_34 (by decide) ?_
        refine ww_iadd (pc := 35) X dX8_isSo_35 ?_
        refine ww_iald (pc := 36) (f := SM.2 14) X 15 0 rfl rfl (vn (m := (3 * j_4) + 1) (nat_iadd (a := 3 * j_4) (b := 1) (nat_imul (a := 3) (b := j_4) rfl rfl) rfl) (by omega) (by decide)) dX8_isSo_36 ?_
        refine ww_iald (pc := 37) (f := SM.2 16) X 17 0 rfl rfl (okf.2 _ (by omega) c7) dX8_isSo_37 ?_
        refine ww_goto (pc := 38) (tgt := 49) X dX8_isSo_38 (by decide) ?_
        generalize hz13 : ((SM.2 16) (((SM.2 14) (((3 * (nI j_4)) + 1 : Int32)).toNatClampNeg : Int32)).toNatClampNeg) = z13
        refine ww_istore (pc := 49) (lv' := [(4, .int z13), (0, .ref (rM 0)), (1, .int x1), (2, .int (it_X8_isSo_4 SM x1 (1 : Int32) j_4)), (3, .int (nI j_4))]) X dX8_isSo_49 (by decide) rfl ?_
        refine ww_iload_n (pc := 51) X dX8_isSo_51 3 rfl rfl ?_
        refine ww_if_eq (pc := 52) (tgt := 74) X dX8_isSo_52 (by decide) (fun c14 => ?_) (fun c14 => ?_)
        · refine ww_iconst (pc := 74) (v := 0) X dX8_isSo_74 (by decide) ?_
          refine ww_istore_n (pc := 75) (lv' := [(2, .int 0), (4, .int z13), (0, .ref (rM 0)), (1, .int x1), (3, .int (nI j_4))]) X dX8_isSo_75 rfl (by decide) rfl ?_
          refine ww_iinc (pc := 76) (v := (nI j_4) + 1) (lv' := [(3, .int ((nI j_4) + 1)), (2, .int 0), (4, .int z13), (0, .ref (rM 0)), (1, .int x1)]) X dX8_isSo_76 4 rfl rfl (by decide) rfl ?_
          refine ww_goto (pc := 79) (tgt := 4) X dX8_isSo_79 (by decide) ?_
          have h15 : (it_X8_isSo_4 SM x1 (1 : Int32) (j_4 + 1)) = 0 := by
            show bd_X8_isSo_4 SM x1 j_4 (it_X8_isSo_4 SM x1 (1 : Int32) j_4) = _; unfold bd_X8_isSo_4; try rw [if_pos c7, hz13]; try unfold bd_X8_isSo_4_k1; try rw [if_pos c14]; first | done | rfl
          refine ww_lsub [3, 4, 1, 0] rfl ?_
          exact ww_castI (fun u9 : Int32 => fl [wX8 cI cZ cQ rM SM]) (fun (u9 : Int32) (i9 : Int32) => ([(0, .ref (rM 0)), (1, .int x1), (2, .int u9), (3, .int i9)] : List (Nat × Value))) h15 (ih (j_4 + 1) (by omega) K)
        · refine ww_iload (pc := 55) X dX8_isSo_55 0 rfl ?_
          refine ww_aload_n (pc := 57) X dX8_isSo_57 1 rfl rfl ?_
          refine ww_get (pc := 58) (ci := 8) (v := .ref (rM 15)) (C := RX8) (T := TX8) (N := 27) X inX8_isSo_8 0 rfl rfl 18 (by decide) (by decide +kernel) rfl dX8_isSo_58 ?_
          refine ww_iconst (pc := 61) (v := 3) X dX8_isSo_61 (by decide) ?_
          refine ww_iload_n (pc := 62) X dX8_isSo_62 4 rfl rfl ?_
          refine ww_imul (pc := 63) X dX8_isSo_63 ?_
          refine ww_iconst (pc := 64) (v := 2) X dX8_isSo_64 (by decide) ?_
          refine ww_iadd (pc := 65) X dX8_isSo_65 ?_
          refine ww_iald (pc := 66) (f := SM.2 14) X 15 0 rfl rfl (vn (m := (3 * j_4) + 2) (nat_iadd (a := 3 * j_4) (b := 2) (nat_imul (a := 3) (b := j_4) rfl rfl) rfl) (by omega) (by decide)) dX8_isSo_66 ?_
          refine ww_icmp_ne (pc := 67) (tgt := 74) X dX8_isSo_67 (by decide) (fun c16 => ?_) (fun c16 => ?_)
          · refine ww_iconst (pc := 74) (v := 0) X dX8_isSo_74 (by decide) ?_
            refine ww_istore_n (pc := 75) (lv' := [(2, .int 0), (4, .int z13), (0, .ref (rM 0)), (1, .int x1), (3, .int (nI j_4))]) X dX8_isSo_75 rfl (by decide) rfl ?_
            refine ww_iinc (pc := 76) (v := (nI j_4) + 1) (lv' := [(3, .int ((nI j_4) + 1)), (2, .int 0), (4, .int z13), (0, .ref (rM 0)), (1, .int x1)]) X dX8_isSo_76 4 rfl rfl (by decide) rfl ?_
            refine ww_goto (pc := 79) (tgt := 4) X dX8_isSo_79 (by decide) ?_
            have h17 : (it_X8_isSo_4 SM x1 (1 : Int32) (j_4 + 1)) = 0 := by
              show bd_X8_isSo_4 SM x1 j_4 (it_X8_isSo_4 SM x1 (1 : Int32) j_4) = _; unfold bd_X8_isSo_4; try rw [if_pos c7, hz13]; try unfold bd_X8_isSo_4_k1; try rw [if_neg c14, if_neg c16]; first | done | rfl
            refine ww_lsub [3, 4, 1, 0] rfl ?_
            exact ww_castI (fun u9 : Int32 => fl [wX8 cI cZ cQ rM SM]) (fun (u9 : Int32) (i9 : Int32) => ([(0, .ref (rM 0)), (1, .int x1), (2, .int u9), (3, .int i9)] : List (Nat × Value))) h17 (ih (j_4 + 1) (by omega) K)
          · refine ww_iconst (pc := 70) (v := 1) X dX8_isSo_70 (by decide) ?_
            refine ww_goto (pc := 71) (tgt := 75) X dX8_isSo_71 (by decide) ?_
            refine ww_istore_n (pc := 75) (lv' := [(2, .int 1), (4, .int z13), (0, .ref (rM 0)), (1, .int x1), (3, .int (nI j_4))]) X dX8_isSo_75 rfl (by decide) rfl ?_
            refine ww_iinc (pc := 76) (v := (nI j_4) + 1) (lv' := [(3, .int ((nI j_4) + 1)), (2, .int 1), (4, .int z13), (0, .ref (rM 0)), (1, .int x1)]) X dX8_isSo_76 4 rfl rfl (by decide) rfl ?_
            refine ww_goto (pc := 79) (tgt := 4) X dX8_isSo_79 (by decide) ?_
            have h18 : (it_X8_isSo_4 SM x1 (1 : Int32) (j_4 + 1)) = 1 := by
              show bd_X8_isSo_4 SM x1 j_4 (it_X8_isSo_4 SM x1 (1 : Int32) j_4) = _; unfold bd_X8_isSo_4; try rw [if_pos c7, hz13]; try unfold bd_X8_isSo_4_k1; try rw [if_neg c14, if_pos c16]; first | done | rfl
            refine ww_lsub [3, 4, 1, 0] rfl ?_
            exact ww_castI (fun u9 : Int32 => fl [wX8 cI cZ cQ rM SM]) (fun (u9 : Int32) (i9 : Int32) => ([(0, .ref (rM 0)), (1, .int x1), (2, .int u9), (3, .int i9)] : List (Nat × Value))) h18 (ih (j_4 + 1) (by omega) K)
  refine ww_lsub [2, 3, 1, 0] rfl ?_
  refine L4 ((SM.1 4).toNatClampNeg) 0 (by omega) ?_
  generalize hz19 : ((it_X8_isSo_4 SM x1 (1 : Int32) ((SM.1 4).toNatClampNeg))) = z19
  refine ww_iload_n (pc := 82) X dX8_isSo_82 2 rfl rfl ?_
  exact ww_iret X hr (nb (by subst_vars; exact bo_isSo _ _ _ _ (Or.inr rfl))) (Eq.symm (by unfold f_X8_isSo; try rw [hz19]; try unfold f_X8_isSo_k1; first | done | rfl)) rfl dX8_isSo_83
def l0_X8_judge_2 (SM : St) (j : Nat) (u : Unit) : Int32 :=
  (-1)
def lb_X8_judge_2 (SM : St) (rec : Nat → (Unit) → Int32) (j : Nat) (u : Unit) : Int32 :=
  if ((SM.2 9) ((1 + ((SM.2 15) ((2 * (nI j) : Int32)).toNatClampNeg) : Int32)).toNatClampNeg) = ((SM.2 15) (((2 * (nI j)) + 1 : Int32)).toNatClampNeg) then
    rec (j + 1) ()
  else
    (nI j)
def lp_X8_judge_2 (SM : St) : Nat → Nat → (Unit) → Int32
  | 0, j, u => l0_X8_judge_2 SM j u
  | k + 1, j, u => lb_X8_judge_2 SM (lp_X8_judge_2 SM k) j u
def f_X8_judge (SM : St) : Int32 :=
  lp_X8_judge_2 SM ((SM.1 5).toNatClampNeg) 0 ()
theorem inX8_judge_8 : ∀ w ∈ wsX80, w ∈ wsX8_judge := by decide +kernel
theorem hd_X8_judge : yX8_judge.cls = RX8 ∧ yX8_judge.cls ≠ "java/lang/invoke/MethodHandle" ∧ yX8_judge.cls ≠ "java/lang/invoke/VarHandle" ∧ (parseMethodDescriptor yX8_judge.desc).map (fun d => d.parameters.length) = some 0 := by decide +kernel
set_option maxHeartbeats 4000000 in
set_option maxRecDepth 100000 in
theorem c_X8_judge (l : Launch) (D : va_G) (cI cZ cQ : ClassId) (rM : Nat → Nat) (SM : St) (okb : okB SM) : Ci l yX8_judge wsX8_judge { frames := 0, cells := 0, slots := 0, locals := 0 } D (tyL cI cZ cQ) [.ref (rM 0)] (fl [wX8 cI cZ cQ rM SM]) (f_X8_judge SM) (fl [wX8 cI cZ cQ rM SM]) := by
  refine ci_of (cc := cX8_judge) (nL := 2) (ty := .int) (lv0 := [(0, .ref (rM 0))]) (by decide) rfl (Nat.le_of_ble_eq_true rfl) rfl ?_
  intro p e s m args below meth c A X hr
  refine ww_iconst (pc := 0) (v := 0) X dX8_judge_0 (by decide) ?_
  refine ww_istore_n (pc := 1) (lv' := [(1, .int 0), (0, .ref (rM 0))]) X dX8_judge_1 rfl (by decide) rfl ?_
  have L2 : ∀ (k_2 j_2 : Nat) (u_2 : Unit), j_2 + k_2 = (SM.1 5).toNatClampNeg → True → f_X8_judge SM = lp_X8_judge_2 SM k_2 j_2 u_2 → WW p l e (headSpec wsX8_judge { frames := 0, cells := 0, slots := 0, locals := 0 }).room s m args below meth c 2 D A 0 0 (RQi below args s D A (f_X8_judge SM) (fl [wX8 cI cZ cQ rM SM])) (fl [wX8 cI cZ cQ rM SM]) [(0, .ref (rM 0)), (1, .int (nI j_2))] 2 [] := by
    intro k_2
    induction k_2 with
    | zero =>
      intro j_2 u_2 hj hi hf
      have hjB : j_2 = (SM.1 5).toNatClampNeg := by omega
      subst hjB
      refine ww_iload_n (pc := 2) X dX8_judge_2 1 rfl rfl ?_
      refine ww_aload_n (pc := 3) X dX8_judge_3 0 rfl rfl ?_
      refine ww_get (pc := 4) (ci := 8) (v := .int (SM.1 5)) (C := RX8) (T := TX8) (N := 27) X inX8_judge_8 0 rfl rfl 21 (by decide) (by decide +kernel) rfl dX8_judge_4 ?_
      refine ww_icmp_ge (pc := 7) (tgt := 46) X dX8_judge_7 (by decide) (fun _ => ?_) (fun c9 => absurd (lp_ge0c (Nat.le_refl _) (cl_lt _)) c9)
      refine ww_iconst (pc := 46) (v := (-1)) X dX8_judge_46 (by decide) ?_
      exact ww_iret X hr rfl (Eq.symm (by rw [hf]; show l0_X8_judge_2 SM ((SM.1 5).toNatClampNeg) u_2 = _; unfold l0_X8_judge_2; first | done | rfl)) rfl dX8_judge_47
    | succ k_2 ih =>
      intro j_2 u_2 hj hi hf
      have hjB : j_2 < (SM.1 5).toNatClampNeg := by omega
      have h15 := okb.1
      refine ww_iload_n (pc := 2) X dX8_judge_2 1 rfl rfl ?_
      refine ww_aload_n (pc := 3) X dX8_judge_3 0 rfl rfl ?_
      refine ww_get (pc := 4) (ci := 8) (v := .int (SM.1 5)) (C := RX8) (T := TX8) (N := 27) X inX8_judge_8 0 rfl rfl 21 (by decide) (by decide +kernel) rfl dX8_judge_4 ?_
      refine ww_icmp_ge (pc := 7) (tgt := 46) X dX8_judge_7 (by decide) (fun c9 => absurd c9 (lp_ge1c hjB)) (fun _ => ?_)
      refine ww_aload_n (pc := 10) X dX8_judge_10 0 rfl rfl ?_
      refine ww_get (pc := 11) (ci := 8) (v := .ref (rM 10)) (C := RX8) (T := TX8) (N := 27) X inX8_judge_8 0 rfl rfl 11 (by decide) (by decide +kernel) rfl dX8_judge_11 ?_
      refine ww_iconst (pc := 14) (v := 1) X dX8_judge_14 (by decide) ?_
      refine ww_aload_n (pc := 15) X dX8_judge_15 0 rfl rfl ?_
      refine ww_get (pc := 16) (ci := 8) (v := .ref (rM 16)) (C := RX8) (T := TX8) (N := 27) X inX8_judge_8 0 rfl rfl 20 (by decide) (by decide +kernel) rfl dX8_judge_16 ?_
      refine ww_iconst (pc := 19) (v := 2) X dX8_judge_19 (by decide) ?_
      refine ww_iload_n (pc := 20) X dX8_judge_20 1 rfl rfl ?_
      refine ww_imul (pc := 21) X dX8_judge_21 ?_
      refine ww_iald (pc := 22) (f := SM.2 15) X 16 0 rfl rfl (vn (m := 2 * j_2) (nat_imul (a := 2) (b := j_2) rfl rfl) (by omega) (by decide)) dX8_judge_22 ?_
      refine ww_iadd (pc := 23) X dX8_judge_23 ?_
      refine ww_iald (pc := 24) (f := SM.2 9) X 10 0 rfl rfl (vp_off (n := 7) (okb.2 _ (by omega)) rfl (by decide) (by decide)) dX8_judge_24 ?_
      refine ww_aload_n (pc := 25) X dX8_judge_25 0 rfl rfl ?_
      refine ww_get (pc := 26) (ci := 8) (v := .ref (rM 16)) (C := RX8) (T := TX8) (N := 27) X inX8_judge_8 0 rfl rfl 20 (by decide) (by decide +kernel) rfl dX8_judge_26 ?_
      refine ww_iconst (pc := 29) (v := 2) X dX8_judge_29 (by decide) ?_
      refine ww_iload_n (pc := 30) X dX8_judge_30 1 rfl rfl ?_
      refine ww_imul (pc := 31) X dX8_judge_31 ?_
      refine ww_iconst (pc := 32) (v := 1) X dX8_judge_32 (by decide) ?_
      refine ww_iadd (pc := 33) X dX8_judge_33 ?_
      refine ww_iald (pc := 34) (f := SM.2 15) X 16 0 rfl rfl (vn (m := (2 * j_2) + 1) (nat_iadd (a := 2 * j_2) (b := 1) (nat_imul (a := 2) (b := j_2) rfl rfl) rfl) (by omega) (by decide)) dX8_judge_34 ?_
      refine ww_icmp_eq (pc := 35) (tgt := 40) X dX8_judge_35 (by decide) (fun c2 => ?_) (fun c2 => ?_)
      · refine ww_iinc (pc := 40) (v := (nI j_2) + 1) (lv' := [(1, .int ((nI j_2) + 1)), (0, .ref (rM 0))]) X dX8_judge_40 1 rfl rfl (by decide) rfl ?_
        refine ww_goto (pc := 43) (tgt := 2) X dX8_judge_43 (by decide) ?_
        refine ww_lsub [1, 0] rfl ?_
        have h3 : f_X8_judge SM = lp_X8_judge_2 SM k_2 (j_2 + 1) () := by rw [hf]; show lb_X8_judge_2 SM (lp_X8_judge_2 SM k_2) j_2 u_2 = _; unfold lb_X8_judge_2; try rw [if_pos c2]; first | done | rfl
        exact ww_cast rfl (congrArg (fun (i9 : Int32) => ([(0, .ref (rM 0)), (1, .int i9)] : List (Nat × Value))) (nI_1 j_2).symm) (ih (j_2 + 1) () (by omega) trivial h3)
      · refine ww_iload_n (pc := 38) X dX8_judge_38 1 rfl rfl ?_
        exact ww_iret X hr rfl (Eq.symm (by rw [hf]; show lb_X8_judge_2 SM (lp_X8_judge_2 SM k_2) j_2 u_2 = _; unfold lb_X8_judge_2; try rw [if_neg c2]; first | done | rfl)) rfl dX8_judge_39
  refine ww_lsub [1, 0] rfl ?_
  exact L2 ((SM.1 5).toNatClampNeg) 0 () (by omega) trivial (by unfold f_X8_judge; first | done | rfl)
def f_X8_isStay (SM : St) (x1 : Int32) : Int32 :=
  if x1 = 0 then
    1
  else
    if (x1 - x1 / 10 * 10) ≤ 0 then
      0
    else
      if (f_X8_in (x1 / 10) 1 ((SM.2 1) ((2 : Int32)).toNatClampNeg)) = 0 then
        0
      else
        1
theorem st_sp {S : St} {x : Int32} (ok : okM S) (h : ¬ f_X8_isStay S x = 0) : x = 0 ∨ vp_in ((x / 10) - 1) 4 := by
  unfold f_X8_isStay at h
  by_cases h0 : x = 0
  · exact Or.inl h0
  · right
    rw [if_neg h0] at h
    split at h
    · exact absurd rfl h
    · split at h
      · exact absurd rfl h
      · rename_i h1 h2
        unfold f_X8_in at h2
        split at h2
        · exact absurd rfl h2
        · split at h2
          · exact absurd rfl h2
          · rename_i h3 h4
            have h5 : ¬ x / 10 < 0 := fun q => h3 (Int32.lt_trans q (by decide))
            obtain ⟨j, hj, e⟩ := nI_of h5
            obtain ⟨k, hk, e2⟩ := nI_of ok.1.1
            have h6 : k ≤ 4 := (nI_leI hk (by decide)).mp (by rw [← e2]; exact ok.1.2)
            rw [e] at h3 h4 ⊢
            rw [e2] at h4
            have h7 : j ≤ k := by
              rcases Nat.lt_or_ge k j with q | q
              · exact absurd (nI_lt q hj) h4
              · exact q
            have h8 : j ≠ 0 := fun q => h3 (by rw [q]; decide)
            obtain ⟨i, rfl⟩ : ∃ i, j = i + 1 := ⟨j - 1, by omega⟩
            rw [nI_pred]
            exact vp_in_nI (by omega) (by decide)
theorem inX8_isStay_8 : ∀ w ∈ wsX80, w ∈ wsX8_isStay := by decide +kernel
theorem hd_X8_isStay : yX8_isStay.cls = RX8 ∧ yX8_isStay.cls ≠ "java/lang/invoke/MethodHandle" ∧ yX8_isStay.cls ≠ "java/lang/invoke/VarHandle" ∧ (parseMethodDescriptor yX8_isStay.desc).map (fun d => d.parameters.length) = some 1 := by decide +kernel
set_option maxHeartbeats 4000000 in
set_option maxRecDepth 100000 in
theorem c_X8_isStay (l : Launch) (D : va_G) (cI cZ cQ : ClassId) (rM : Nat → Nat) (SM : St) (x1 : Int32) : Ci l yX8_isStay wsX8_isStay { frames := 1, cells := 0, slots := 0, locals := 22 } D (tyL cI cZ cQ) [.ref (rM 0), .int x1] (fl [wX8 cI cZ cQ rM SM]) (f_X8_isStay SM x1) (fl [wX8 cI cZ cQ rM SM]) := by
  refine ci_of (cc := cX8_isStay) (nL := 2) (ty := .boolean) (lv0 := [(0, .ref (rM 0)), (1, .int x1)]) (by decide) rfl (Nat.le_of_ble_eq_true rfl) rfl ?_
  intro p e s m args below meth c A X hr
  refine ww_iload_n (pc := 0) X dX8_isStay_0 1 rfl rfl ?_
  refine ww_if_eq (pc := 1) (tgt := 28) X dX8_isStay_1 (by decide) (fun c1 => ?_) (fun c1 => ?_)
  · refine ww_iconst (pc := 28) (v := 1) X dX8_isStay_28 (by decide) ?_
    refine ww_goto (pc := 29) (tgt := 33) X dX8_isStay_29 (by decide) ?_
    exact ww_iret X hr rfl (Eq.symm (by unfold f_X8_isStay; try rw [if_pos c1]; first | done | rfl)) rfl dX8_isStay_33
  · refine ww_iload_n (pc := 4) X dX8_isStay_4 1 rfl rfl ?_
    refine ww_bipush (pc := 5) (v := 10) X dX8_isStay_5 (by decide) ?_
    refine ww_irem (pc := 7) X dX8_isStay_7 (by decide) ?_
    refine ww_if_le (pc := 8) (tgt := 32) X dX8_isStay_8 (by decide) (fun c2 => ?_) (fun c2 => ?_)
    · refine ww_iconst (pc := 32) (v := 0) X dX8_isStay_32 (by decide) ?_
      exact ww_iret X hr rfl (Eq.symm (by unfold f_X8_isStay; try rw [if_neg c1, if_pos c2]; first | done | rfl)) rfl dX8_isStay_33
    · refine ww_iload_n (pc := 11) X dX8_isStay_11 1 rfl rfl ?_
      refine ww_bipush (pc := 12) (v := 10) X dX8_isStay_12 (by decide) ?_
      refine ww_idiv (pc := 14) X dX8_isStay_14 (by decide) ?_
      refine ww_iconst (pc := 15) (v := 1) X dX8_isStay_15 (by decide) ?_
      refine ww_aload_n (pc := 16) X dX8_isStay_16 0 rfl rfl ?_
      refine ww_get (pc := 17) (ci := 8) (v := .ref (rM 2)) (C := RX8) (T := TX8) (N := 27) X inX8_isStay_8 0 rfl rfl 3 (by decide) (by decide +kernel) rfl dX8_isStay_17 ?_
      refine ww_iconst (pc := 20) (v := 2) X dX8_isStay_20 (by decide) ?_
      refine ww_iald (pc := 21) (f := SM.2 1) X 2 0 rfl rfl (vl_in (by decide)) dX8_isStay_21 ?_
      refine ww_gSi (pc := 22) (rest := []) (gsN := [wX8 cI cZ cQ rM SM]) X (c_X8_in l D cI cZ cQ (x1 / 10) 1 ((SM.2 1) ((2 : Int32)).toNatClampNeg)) gX8_isStay_X8_in rfl hd_X8_in [false] rfl rfl rfl rfl ⟨rfl, rfl⟩ ⟨Nat.le_of_ble_eq_true rfl, Nat.le_of_ble_eq_true rfl⟩ (Nat.le_of_ble_eq_true rfl) ⟨Nat.zero_le _, Nat.zero_le _⟩ dX8_isStay_22 ?_
      refine ww_if_eq (pc := 25) (tgt := 32) X dX8_isStay_25 (by decide) (fun c3 => ?_) (fun c3 => ?_)
      · refine ww_iconst (pc := 32) (v := 0) X dX8_isStay_32 (by decide) ?_
        exact ww_iret X hr rfl (Eq.symm (by unfold f_X8_isStay; try rw [if_neg c1, if_neg c2, if_pos c3]; first | done | rfl)) rfl dX8_isStay_33
      · refine ww_iconst (pc := 28) (v := 1) X dX8_isStay_28 (by decide) ?_
        refine ww_goto (pc := 29) (tgt := 33) X dX8_isStay_29 (by decide) ?_
        exact ww_iret X hr rfl (Eq.symm (by unfold f_X8_isStay; try rw [if_neg c1, if_neg c2, if_neg c3]; first | done | rfl)) rfl dX8_isStay_33
def f_X8_spanOf (SM : St) (x1 : Int32) : Int32 :=
  if x1 = 0 then
    0
  else
    ((SM.2 2) (((x1 / 10) - 1 : Int32)).toNatClampNeg) * (x1 - x1 / 10 * 10)
theorem inX8_spanOf_8 : ∀ w ∈ wsX80, w ∈ wsX8_spanOf := by decide +kernel
theorem hd_X8_spanOf : yX8_spanOf.cls = RX8 ∧ yX8_spanOf.cls ≠ "java/lang/invoke/MethodHandle" ∧ yX8_spanOf.cls ≠ "java/lang/invoke/VarHandle" ∧ (parseMethodDescriptor yX8_spanOf.desc).map (fun d => d.parameters.length) = some 1 := by decide +kernel
set_option maxHeartbeats 4000000 in
set_option maxRecDepth 100000 in
theorem c_X8_spanOf (l : Launch) (D : va_G) (cI cZ cQ : ClassId) (rM : Nat → Nat) (SM : St) (x1 : Int32) (hst : x1 = 0 ∨ vp_in ((x1 / 10) - 1) 4) : Ci l yX8_spanOf wsX8_spanOf { frames := 0, cells := 0, slots := 0, locals := 0 } D (tyL cI cZ cQ) [.ref (rM 0), .int x1] (fl [wX8 cI cZ cQ rM SM]) (f_X8_spanOf SM x1) (fl [wX8 cI cZ cQ rM SM]) := by
  refine ci_of (cc := cX8_spanOf) (nL := 2) (ty := .int) (lv0 := [(0, .ref (rM 0)), (1, .int x1)]) (by decide) rfl (Nat.le_of_ble_eq_true rfl) rfl ?_
  intro p e s m args below meth c A X hr
  refine ww_iload_n (pc := 0) X dX8_spanOf_0 1 rfl rfl ?_
  refine ww_if_ne (pc := 1) (tgt := 8) X dX8_spanOf_1 (by decide) (fun c1 => ?_) (fun c1 => ?_)
  · refine ww_aload_n (pc := 8) X dX8_spanOf_8 0 rfl rfl ?_
    refine ww_get (pc := 9) (ci := 8) (v := .ref (rM 3)) (C := RX8) (T := TX8) (N := 27) X inX8_spanOf_8 0 rfl rfl 4 (by decide) (by decide +kernel) rfl dX8_spanOf_9 ?_
    refine ww_iload_n (pc := 12) X dX8_spanOf_12 1 rfl rfl ?_
    refine ww_bipush (pc := 13) (v := 10) X dX8_spanOf_13 (by decide) ?_
    refine ww_idiv (pc := 15) X dX8_spanOf_15 (by decide) ?_
    refine ww_iconst (pc := 16) (v := 1) X dX8_spanOf_16 (by decide) ?_
    refine ww_isub (pc := 17) X dX8_spanOf_17 ?_
    refine ww_iald (pc := 18) (f := SM.2 2) X 3 0 rfl rfl (hst.resolve_left c1) dX8_spanOf_18 ?_
    refine ww_iload_n (pc := 19) X dX8_spanOf_19 1 rfl rfl ?_
    refine ww_bipush (pc := 20) (v := 10) X dX8_spanOf_20 (by decide) ?_
    refine ww_irem (pc := 22) X dX8_spanOf_22 (by decide) ?_
    refine ww_imul (pc := 23) X dX8_spanOf_23 ?_
    exact ww_iret X hr rfl (Eq.symm (by unfold f_X8_spanOf; try rw [if_neg c1]; first | done | rfl)) rfl dX8_spanOf_24
  · refine ww_iconst (pc := 4) (v := 0) X dX8_spanOf_4 (by decide) ?_
    refine ww_goto (pc := 5) (tgt := 24) X dX8_spanOf_5 (by decide) ?_
    exact ww_iret X hr rfl (Eq.symm (by unfold f_X8_spanOf; try rw [if_pos c1]; first | done | rfl)) rfl dX8_spanOf_24
def bd_X8_both_64_k2 (SM : St) (x1 : Int32) (x2 : Int32) (x3 : Int32) (j : Nat) (u : Int32 × Int32) (z11 : Int32) (z13 : Int32) : Int32 × Int32 :=
  if z11 = z13 then
    if (f_X8_end SM x1) ≤ z11 then
      (u.1, u.2)
    else
      if (f_X8_end SM x2) ≤ z13 then
        (u.1, u.2)
      else
        if u.2 = (-1) then
          (f_X8_spanOf SM ((nI j) - (nI j) / 50 * 50), (100 * ((nI j) / 50)) + ((nI j) - (nI j) / 50 * 50))
        else
          if u.1 ≤ (f_X8_spanOf SM ((nI j) - (nI j) / 50 * 50)) then
            (u.1, u.2)
          else
            (f_X8_spanOf SM ((nI j) - (nI j) / 50 * 50), (100 * ((nI j) / 50)) + ((nI j) - (nI j) / 50 * 50))
  else
    (u.1, u.2)
def bd_X8_both_64_k1 (SM : St) (x1 : Int32) (x2 : Int32) (x3 : Int32) (j : Nat) (u : Int32 × Int32) (z11 : Int32) : Int32 × Int32 :=
  bd_X8_both_64_k2 SM x1 x2 x3 j u z11 ((((SM.2 9) ((1 + x2 : Int32)).toNatClampNeg) + (f_X8_spanOf SM ((nI j) - (nI j) / 50 * 50))) - (f_X8_spanOf SM ((nI j) - (nI j) / 50 * 50)))
def bd_X8_both_64_k4 (SM : St) (x1 : Int32) (x2 : Int32) (x3 : Int32) (j : Nat) (u : Int32 × Int32) (z32 : Int32) (z34 : Int32) : Int32 × Int32 :=
  if z32 = z34 then
    if (f_X8_end SM x1) ≤ z32 then
      (u.1, u.2)
    else
      if (f_X8_end SM x2) ≤ z34 then
        (u.1, u.2)
      else
        if u.2 = (-1) then
          (f_X8_spanOf SM ((nI j) / 50), (100 * ((nI j) / 50)) + ((nI j) - (nI j) / 50 * 50))
        else
          if u.1 ≤ (f_X8_spanOf SM ((nI j) / 50)) then
            (u.1, u.2)
          else
            (f_X8_spanOf SM ((nI j) / 50), (100 * ((nI j) / 50)) + ((nI j) - (nI j) / 50 * 50))
  else
    (u.1, u.2)
def bd_X8_both_64_k3 (SM : St) (x1 : Int32) (x2 : Int32) (x3 : Int32) (j : Nat) (u : Int32 × Int32) (z32 : Int32) : Int32 × Int32 :=
  bd_X8_both_64_k4 SM x1 x2 x3 j u z32 ((((SM.2 9) ((1 + x2 : Int32)).toNatClampNeg) + (f_X8_spanOf SM ((nI j) / 50))) - (f_X8_spanOf SM ((nI j) - (nI j) / 50 * 50)))
def bd_X8_both_64 (SM : St) (x1 : Int32) (x2 : Int32) (x3 : Int32) (j : Nat) (u : Int32 × Int32) : Int32 × Int32 :=
  if (f_X8_isStay SM ((nI j) / 50)) = 0 then
    (u.1, u.2)
  else
    if (f_X8_isStay SM ((nI j) - (nI j) / 50 * 50)) = 0 then
      (u.1, u.2)
    else
      if (f_X8_spanOf SM ((nI j) / 50)) ≤ (f_X8_spanOf SM ((nI j) - (nI j) / 50 * 50)) then
        bd_X8_both_64_k1 SM x1 x2 x3 j u ((((SM.2 9) ((1 + x1 : Int32)).toNatClampNeg) + (f_X8_spanOf SM ((nI j) - (nI j) / 50 * 50))) - (f_X8_spanOf SM ((nI j) / 50)))
      else
        bd_X8_both_64_k3 SM x1 x2 x3 j u ((((SM.2 9) ((1 + x1 : Int32)).toNatClampNeg) + (f_X8_spanOf SM ((nI j) / 50))) - (f_X8_spanOf SM ((nI j) / 50)))
def it_X8_both_64 (SM : St) (x1 : Int32) (x2 : Int32) (x3 : Int32) (u : Int32 × Int32) : Nat → Int32 × Int32
  | 0 => u
  | j + 1 => bd_X8_both_64 SM x1 x2 x3 j (it_X8_both_64 SM x1 x2 x3 u j)
def f_X8_both_k1 (SM : St) (x1 : Int32) (x2 : Int32) (x3 : Int32) (z111 : Int32 × Int32) : Int32 :=
  if x3 = 0 then
    z111.1
  else
    z111.2
def f_X8_both (SM : St) (x1 : Int32) (x2 : Int32) (x3 : Int32) : Int32 :=
  if (f_X8_isPerson SM x1) = 0 then
    (-1000000001)
  else
    if (f_X8_isPerson SM x2) = 0 then
      (-1000000001)
    else
      if x1 = x2 then
        (-1000000001)
      else
        if (f_X8_in x3 0 1) = 0 then
          (-1000000002)
        else
          if (f_X8_isAbove SM x1) = 0 then
            (-1000000003)
          else
            if (f_X8_isAbove SM x2) = 0 then
              (-1000000003)
            else
              f_X8_both_k1 SM x1 x2 x3 (it_X8_both_64 SM x1 x2 x3 ((-1), (-1)) 2500)
theorem inX8_both_8 : ∀ w ∈ wsX80, w ∈ wsX8_both := by decide +kernel
theorem hd_X8_both : yX8_both.cls = RX8 ∧ yX8_both.cls ≠ "java/lang/invoke/MethodHandle" ∧ yX8_both.cls ≠ "java/lang/invoke/VarHandle" ∧ (parseMethodDescriptor yX8_both.desc).map (fun d => d.parameters.length) = some 3 := by decide +kernel
set_option maxHeartbeats 4000000 in
set_option maxRecDepth 100000 in
theorem c_X8_both (l : Launch) (D : va_G) (cI cZ cQ : ClassId) (rM : Nat → Nat) (SM : St) (x1 : Int32) (x2 : Int32) (x3 : Int32) (okM : okM SM) : Ci l yX8_both wsX8_both { frames := 2, cells := 0, slots := 0, locals := 43 } D (tyL cI cZ cQ) [.ref (rM 0), .int x1, .int x2, .int x3] (fl [wX8 cI cZ cQ rM SM]) (f_X8_both SM x1 x2 x3) (fl [wX8 cI cZ cQ rM SM]) := by
  refine ci_of (cc := cX8_both) (nL := 15) (ty := .int) (lv0 := [(0, .ref (rM 0)), (1, .int x1), (2, .int x2), (3, .int x3)]) (by decide) rfl (Nat.le_of_ble_eq_true rfl) rfl ?_
  intro p e s m args below meth c A X hr
  refine ww_aload_n (pc := 0) X dX8_both_0 0 rfl rfl ?_
  refine ww_iload_n (pc := 1) X dX8_both_1 1 rfl rfl ?_
  refine ww_gVi (pc := 2) (rest := []) (gsN := [wX8 cI cZ cQ rM SM]) (ci := 8) (gi := 0) (qi := 0) X (c_X8_isPerson l D cI cZ cQ rM SM x1) gX8_both_X8_isPerson rfl hd_X8_isPerson [true] rfl rfl rfl rfl rfl rfl rfl rfl ⟨rfl, rfl⟩ ⟨Nat.le_of_ble_eq_true rfl, Nat.le_of_ble_eq_true rfl⟩ (Nat.le_of_ble_eq_true rfl) ⟨Nat.zero_le _, Nat.zero_le _⟩ dX8_both_2 ?_
  refine ww_if_eq (pc := 5) (tgt := 21) X dX8_both_5 (by decide) (fun c1 => ?_) (fun c1 => ?_)
  · refine ww_ldc (pc := 21) (v := (-1000000001)) X (by decide +kernel) dX8_both_21 ?_
    exact ww_iret X hr rfl (Eq.symm (by unfold f_X8_both; try rw [if_pos c1]; first | done | rfl)) rfl dX8_both_23
  · refine ww_aload_n (pc := 8) X dX8_both_8 0 rfl rfl ?_
    refine ww_iload_n (pc := 9) X dX8_both_9 2 rfl rfl ?_
    refine ww_gVi (pc := 10) (rest := []) (gsN := [wX8 cI cZ cQ rM SM]) (ci := 8) (gi := 0) (qi := 0) X (c_X8_isPerson l D cI cZ cQ rM SM x2) gX8_both_X8_isPerson rfl hd_X8_isPerson [true] rfl rfl rfl rfl rfl rfl rfl rfl ⟨rfl, rfl⟩ ⟨Nat.le_of_ble_eq_true rfl, Nat.le_of_ble_eq_true rfl⟩ (Nat.le_of_ble_eq_true rfl) ⟨Nat.zero_le _, Nat.zero_le _⟩ dX8_both_10 ?_
    refine ww_if_eq (pc := 13) (tgt := 21) X dX8_both_13 (by decide) (fun c2 => ?_) (fun c2 => ?_)
    · refine ww_ldc (pc := 21) (v := (-1000000001)) X (by decide +kernel) dX8_both_21 ?_
      exact ww_iret X hr rfl (Eq.symm (by unfold f_X8_both; try rw [if_neg c1, if_pos c2]; first | done | rfl)) rfl dX8_both_23
    · refine ww_iload_n (pc := 16) X dX8_both_16 1 rfl rfl ?_
      refine ww_iload_n (pc := 17) X dX8_both_17 2 rfl rfl ?_
      refine ww_icmp_ne (pc := 18) (tgt := 24) X dX8_both_18 (by decide) (fun c3 => ?_) (fun c3 => ?_)
      · refine ww_iload_n (pc := 24) X dX8_both_24 3 rfl rfl ?_
        refine ww_iconst (pc := 25) (v := 0) X dX8_both_25 (by decide) ?_
        refine ww_iconst (pc := 26) (v := 1) X dX8_both_26 (by decide) ?_
        refine ww_gSi (pc := 27) (rest := []) (gsN := [wX8 cI cZ cQ rM SM]) X (c_X8_in l D cI cZ cQ x3 0 1) gX8_both_X8_in rfl hd_X8_in [false] rfl rfl rfl rfl ⟨rfl, rfl⟩ ⟨Nat.le_of_ble_eq_true rfl, Nat.le_of_ble_eq_true rfl⟩ (Nat.le_of_ble_eq_true rfl) ⟨Nat.zero_le _, Nat.zero_le _⟩ dX8_both_27 ?_
        refine ww_if_ne (pc := 30) (tgt := 36) X dX8_both_30 (by decide) (fun c4 => ?_) (fun c4 => ?_)
        · refine ww_aload_n (pc := 36) X dX8_both_36 0 rfl rfl ?_
          refine ww_iload_n (pc := 37) X dX8_both_37 1 rfl rfl ?_
          refine ww_gVi (pc := 38) (rest := []) (gsN := [wX8 cI cZ cQ rM SM]) (ci := 8) (gi := 0) (qi := 0) X (c_X8_isAbove l D cI cZ cQ rM SM x1 (in_X8_isPerson okM c1)) gX8_both_X8_isAbove rfl hd_X8_isAbove [true] rfl rfl rfl rfl rfl rfl rfl rfl ⟨rfl, rfl⟩ ⟨Nat.le_of_ble_eq_true rfl, Nat.le_of_ble_eq_true rfl⟩ (Nat.le_of_ble_eq_true rfl) ⟨Nat.zero_le _, Nat.zero_le _⟩ dX8_both_38 ?_
          refine ww_if_eq (pc := 41) (tgt := 52) X dX8_both_41 (by decide) (fun c5 => ?_) (fun c5 => ?_)
          · refine ww_ldc (pc := 52) (v := (-1000000003)) X (by decide +kernel) dX8_both_52 ?_
            exact ww_iret X hr rfl (Eq.symm (by unfold f_X8_both; try rw [if_neg c1, if_neg c2, if_neg c3, if_neg c4, if_pos c5]; first | done | rfl)) rfl dX8_both_54
          · refine ww_aload_n (pc := 44) X dX8_both_44 0 rfl rfl ?_
            refine ww_iload_n (pc := 45) X dX8_both_45 2 rfl rfl ?_
            refine ww_gVi (pc := 46) (rest := []) (gsN := [wX8 cI cZ cQ rM SM]) (ci := 8) (gi := 0) (qi := 0) X (c_X8_isAbove l D cI cZ cQ rM SM x2 (in_X8_isPerson okM c2)) gX8_both_X8_isAbove rfl hd_X8_isAbove [true] rfl rfl rfl rfl rfl rfl rfl rfl ⟨rfl, rfl⟩ ⟨Nat.le_of_ble_eq_true rfl, Nat.le_of_ble_eq_true rfl⟩ (Nat.le_of_ble_eq_true rfl) ⟨Nat.zero_le _, Nat.zero_le _⟩ dX8_both_46 ?_
            refine ww_if_ne (pc := 49) (tgt := 55) X dX8_both_49 (by decide) (fun c6 => ?_) (fun c6 => ?_)
            · refine ww_iconst (pc := 55) (v := (-1)) X dX8_both_55 (by decide) ?_
              refine ww_istore (pc := 56) (lv' := [(4, .int (-1)), (0, .ref (rM 0)), (1, .int x1), (2, .int x2), (3, .int x3)]) X dX8_both_56 (by decide) rfl ?_
              refine ww_iconst (pc := 58) (v := (-1)) X dX8_both_58 (by decide) ?_
              refine ww_istore (pc := 59) (lv' := [(5, .int (-1)), (4, .int (-1)), (0, .ref (rM 0)), (1, .int x1), (2, .int x2), (3, .int x3)]) X dX8_both_59 (by decide) rfl ?_
              refine ww_iconst (pc := 61) (v := 0) X dX8_both_61 (by decide) ?_
              refine ww_istore (pc := 62) (lv' := [(6, .int 0), (5, .int (-1)), (4, .int (-1)), (0, .ref (rM 0)), (1, .int x1), (2, .int x2), (3, .int x3)]) X dX8_both_62 (by decide) rfl ?_
              have L64 : ∀ (k_64 j_64 : Nat), j_64 + k_64 = 2500 → WW p l e (headSpec wsX8_both { frames := 2, cells := 0, slots := 0, locals := 43 }).room s m args below meth c 15 D A 0 0 (RQi below args s D A (f_X8_both SM x1 x2 x3) (fl [wX8 cI cZ cQ rM SM])) (fl [wX8 cI cZ cQ rM SM]) [(0, .ref (rM 0)), (1, .int x1), (2, .int x2), (3, .int x3), (4, .int ((it_X8_both_64 SM x1 x2 x3 ((-1), (-1)) 2500).1)), (5, .int ((it_X8_both_64 SM x1 x2 x3 ((-1), (-1)) 2500).2)), (6, .int (nI 2500))] 255 [] → WW p l e (headSpec wsX8_both { frames := 2, cells := 0, slots := 0, locals := 43 }).room s m args below meth c 15 D A 0 0 (RQi below args s D A (f_X8_both SM x1 x2 x3) (fl [wX8 cI cZ cQ rM SM])) (fl [wX8 cI cZ cQ rM SM]) [(0, .ref (rM 0)), (1, .int x1), (2, .int x2), (3, .int x3), (4, .int ((it_X8_both_64 SM x1 x2 x3 ((-1), (-1)) j_64).1)), (5, .int ((it_X8_both_64 SM x1 x2 x3 ((-1), (-1)) j_64).2)), (6, .int (nI j_64))] 64 [] := by
                intro k_64
                induction k_64 with
                | zero =>
                  intro j_64 hj K
                  have hjB : j_64 = 2500 := by omega
                  subst hjB
                  refine ww_iload (pc := 64) X dX8_both_64 6 rfl ?_
                  refine ww_sipush (pc := 66) (v := 2500) X dX8_both_66 (by decide) ?_
                  exact ww_icmp_ge (pc := 69) (tgt := 255) X dX8_both_69 (by decide) (fun _ => K) (fun c9 => absurd (lp_ge0 rfl (Nat.le_refl _) (by decide)) c9)
                | succ k_64 ih =>
                  intro j_64 hj K
                  have hjB : j_64 < 2500 := by omega
                  refine ww_iload (pc := 64) X dX8_both_64 6 rfl ?_
                  refine ww_sipush (pc := 66) (v := 2500) X dX8_both_66 (by decide) ?_
                  refine ww_icmp_ge (pc := 69) (tgt := 255) X dX8_both_69 (by decide) (fun c9 => absurd c9 (lp_ge1 rfl hjB (by decide))) (fun _ => ?_)
                  refine ww_iload (pc := 72) X dX8_both_72 6 rfl ?_
                  refine ww_bipush (pc := 74) (v := 50) X dX8_both_74 (by decide) ?_
                  refine ww_idiv (pc := 76) X dX8_both_76 (by decide) ?_
                  refine ww_istore (pc := 77) (lv' := [(7, .int ((nI j_64) / 50)), (0, .ref (rM 0)), (1, .int x1), (2, .int x2), (3, .int x3), (4, .int ((it_X8_both_64 SM x1 x2 x3 ((-1), (-1)) j_64).1)), (5, .int ((it_X8_both_64 SM x1 x2 x3 ((-1), (-1)) j_64).2)), (6, .int (nI j_64))]) X dX8_both_77 (by decide) rfl ?_
                  refine ww_iload (pc := 79) X dX8_both_79 7 rfl ?_
                  refine ww_bipush (pc := 81) (v := 50) X dX8_both_81 (by decide) ?_
                  refine ww_irem (pc := 83) X dX8_both_83 (by decide) ?_
                  refine ww_istore (pc := 84) (lv' := [(8, .int ((nI j_64) - (nI j_64) / 50 * 50)), (7, .int ((nI j_64) / 50)), (0, .ref (rM 0)), (1, .int x1), (2, .int x2), (3, .int x3), (4, .int ((it_X8_both_64 SM x1 x2 x3 ((-1), (-1)) j_64).1)), (5, .int ((it_X8_both_64 SM x1 x2 x3 ((-1), (-1)) j_64).2)), (6, .int (nI j_64))]) X dX8_both_84 (by decide) rfl ?_
                  refine ww_aload_n (pc := 86) X dX8_both_86 2 rfl rfl ?_
                  refine ww_iload (pc := 87) X dX8_both_87 1 rfl ?_
                  refine ww_gVi (pc := 89) (rest := []) (gsN := [wX8 cI cZ cQ rM SM]) (ci := 8) (gi := 0) (qi := 0) X (c_X8_isStay l D cI cZ cQ rM SM ((nI j_64) / 50)) gX8_both_X8_isStay rfl hd_X8_isStay [true] rfl rfl rfl rfl rfl rfl rfl rfl ⟨rfl, rfl⟩ ⟨Nat.le_of_ble_eq_true rfl, Nat.le_of_ble_eq_true rfl⟩ (Nat.le_of_ble_eq_true rfl) ⟨Nat.zero_le _, Nat.zero_le _⟩ dX8_both_89 ?_
                  refine ww_if_eq (pc := 92) (tgt := 249) X dX8_both_92 (by decide) (fun c52 => ?_) (fun c52 => ?_)
                  · refine ww_iinc (pc := 249) (v := (nI j_64) + 1) (lv' := [(6, .int ((nI j_64) + 1)), (8, .int ((nI j_64) - (nI j_64) / 50 * 50)), (7, .int ((nI j_64) / 50)), (0, .ref (rM 0)), (1, .int x1), (2, .int x2), (3, .int x3), (4, .int ((it_X8_both_64 SM x1 x2 x3 ((-1), (-1)) j_64).1)), (5, .int ((it_X8_both_64 SM x1 x2 x3 ((-1), (-1)) j_64).2))]) X dX8_both_249 8 rfl rfl (by decide) rfl ?_
                    refine ww_goto (pc := 252) (tgt := 64) X dX8_both_252 (by decide) ?_
                    have h53 : (it_X8_both_64 SM x1 x2 x3 ((-1), (-1)) (j_64 + 1)) = ((it_X8_both_64 SM x1 x2 x3 ((-1), (-1)) j_64).1, (it_X8_both_64 SM x1 x2 x3 ((-1), (-1)) j_64).2) := by
                      show bd_X8_both_64 SM x1 x2 x3 j_64 (it_X8_both_64 SM x1 x2 x3 ((-1), (-1)) j_64) = _; unfold bd_X8_both_64; try rw [if_pos c52]; first | done | rfl
                    refine ww_lsub [3, 4, 5, 6, 7, 8, 0] rfl ?_
                    exact ww_castI (fun u9 : Int32 × Int32 => fl [wX8 cI cZ cQ rM SM]) (fun (u9 : Int32 × Int32) (i9 : Int32) => ([(0, .ref (rM 0)), (1, .int x1), (2, .int x2), (3, .int x3), (4, .int u9.1), (5, .int u9.2), (6, .int i9)] : List (Nat × Value))) h53 (ih (j_64 + 1) (by omega) K)
                  · refine ww_aload_n (pc := 95) X dX8_both_95 2 rfl rfl ?_
                    refine ww_iload (pc := 96) X dX8_both_96 0 rfl ?_
                    refine ww_gVi (pc := 98) (rest := []) (gsN := [wX8 cI cZ cQ rM SM]) (ci := 8) (gi := 0) (qi := 0) X (c_X8_isStay l D cI cZ cQ rM SM ((nI j_64) - (nI j_64) / 50 * 50)) gX8_both_X8_isStay rfl hd_X8_isStay [true] rfl rfl rfl rfl rfl rfl rfl rfl ⟨rfl, rfl⟩ ⟨Nat.le_of_ble_eq_true rfl, Nat.le_of_ble_eq_true rfl⟩ (Nat.le_of_ble_eq_true rfl) ⟨Nat.zero_le _, Nat.zero_le _⟩ dX8_both_98 ?_
                    refine ww_if_eq (pc := 101) (tgt := 249) X dX8_both_101 (by decide) (fun c54 => ?_) (fun c54 => ?_)
                    · refine ww_iinc (pc := 249) (v := (nI j_64) + 1) (lv' := [(6, .int ((nI j_64) + 1)), (8, .int ((nI j_64) - (nI j_64) / 50 * 50)), (7, .int ((nI j_64) / 50)), (0, .ref (rM 0)), (1, .int x1), (2, .int x2), (3, .int x3), (4, .int ((it_X8_both_64 SM x1 x2 x3 ((-1), (-1)) j_64).1)), (5, .int ((it_X8_both_64 SM x1 x2 x3 ((-1), (-1)) j_64).2))]) X dX8_both_249 8 rfl rfl (by decide) rfl ?_
                      refine ww_goto (pc := 252) (tgt := 64) X dX8_both_252 (by decide) ?_
                      have h55 : (it_X8_both_64 SM x1 x2 x3 ((-1), (-1)) (j_64 + 1)) = ((it_X8_both_64 SM x1 x2 x3 ((-1), (-1)) j_64).1, (it_X8_both_64 SM x1 x2 x3 ((-1), (-1)) j_64).2) := by
                        show bd_X8_both_64 SM x1 x2 x3 j_64 (it_X8_both_64 SM x1 x2 x3 ((-1), (-1)) j_64) = _; unfold bd_X8_both_64; try rw [if_neg c52, if_pos c54]; first | done | rfl
                      refine ww_lsub [3, 4, 5, 6, 7, 8, 0] rfl ?_
                      exact ww_castI (fun u9 : Int32 × Int32 => fl [wX8 cI cZ cQ rM SM]) (fun (u9 : Int32 × Int32) (i9 : Int32) => ([(0, .ref (rM 0)), (1, .int x1), (2, .int x2), (3, .int x3), (4, .int u9.1), (5, .int u9.2), (6, .int i9)] : List (Nat × Value))) h55 (ih (j_64 + 1) (by omega) K)
                    · refine ww_aload_n (pc := 104) X dX8_both_104 2 rfl rfl ?_
                      refine ww_iload (pc := 105) X dX8_both_105 1 rfl ?_
                      refine ww_gVi (pc := 107) (rest := []) (gsN := [wX8 cI cZ cQ rM SM]) (ci := 8) (gi := 0) (qi := 0) X (c_X8_spanOf l D cI cZ cQ rM SM ((nI j_64) / 50) (st_sp okM c52)) gX8_both_X8_spanOf rfl hd_X8_spanOf [true] rfl rfl rfl rfl rfl rfl rfl rfl ⟨rfl, rfl⟩ ⟨Nat.le_of_ble_eq_true rfl, Nat.le_of_ble_eq_true rfl⟩ (Nat.le_of_ble_eq_true rfl) ⟨Nat.zero_le _, Nat.zero_le _⟩ dX8_both_107 ?_
                      refine ww_istore (pc := 110) (lv' := [(9, .int (f_X8_spanOf SM ((nI j_64) / 50))), (8, .int ((nI j_64) - (nI j_64) / 50 * 50)), (7, .int ((nI j_64) / 50)), (0, .ref (rM 0)), (1, .int x1), (2, .int x2), (3, .int x3), (4, .int ((it_X8_both_64 SM x1 x2 x3 ((-1), (-1)) j_64).1)), (5, .int ((it_X8_both_64 SM x1 x2 x3 ((-1), (-1)) j_64).2)), (6, .int (nI j_64))]) X dX8_both_110 (by decide) rfl ?_
                      refine ww_aload_n (pc := 112) X dX8_both_112 3 rfl rfl ?_
                      refine ww_iload (pc := 113) X dX8_both_113 1 rfl ?_
                      refine ww_gVi (pc := 115) (rest := []) (gsN := [wX8 cI cZ cQ rM SM]) (ci := 8) (gi := 0) (qi := 0) X (c_X8_spanOf l D cI cZ cQ rM SM ((nI j_64) - (nI j_64) / 50 * 50) (st_sp okM c54)) gX8_both_X8_spanOf rfl hd_X8_spanOf [true] rfl rfl rfl rfl rfl rfl rfl rfl ⟨rfl, rfl⟩ ⟨Nat.le_of_ble_eq_true rfl, Nat.le_of_ble_eq_true rfl⟩ (Nat.le_of_ble_eq_true rfl) ⟨Nat.zero_le _, Nat.zero_le _⟩ dX8_both_115 ?_
                      refine ww_istore (pc := 118) (lv' := [(10, .int (f_X8_spanOf SM ((nI j_64) - (nI j_64) / 50 * 50))), (9, .int (f_X8_spanOf SM ((nI j_64) / 50))), (8, .int ((nI j_64) - (nI j_64) / 50 * 50)), (7, .int ((nI j_64) / 50)), (0, .ref (rM 0)), (1, .int x1), (2, .int x2), (3, .int x3), (4, .int ((it_X8_both_64 SM x1 x2 x3 ((-1), (-1)) j_64).1)), (5, .int ((it_X8_both_64 SM x1 x2 x3 ((-1), (-1)) j_64).2)), (6, .int (nI j_64))]) X dX8_both_118 (by decide) rfl ?_
                      refine ww_iload (pc := 120) X dX8_both_120 1 rfl ?_
                      refine ww_iload (pc := 122) X dX8_both_122 0 rfl ?_
                      refine ww_icmp_le (pc := 124) (tgt := 132) X dX8_both_124 (by decide) (fun c56 => ?_) (fun c56 => ?_)
                      · refine ww_iload (pc := 132) X dX8_both_132 0 rfl ?_
                        refine ww_istore (pc := 134) (lv' := [(11, .int (f_X8_spanOf SM ((nI j_64) - (nI j_64) / 50 * 50))), (10, .int (f_X8_spanOf SM ((nI j_64) - (nI j_64) / 50 * 50))), (9, .int (f_X8_spanOf SM ((nI j_64) / 50))), (8, .int ((nI j_64) - (nI j_64) / 50 * 50)), (7, .int ((nI j_64) / 50)), (0, .ref (rM 0)), (1, .int x1), (2, .int x2), (3, .int x3), (4, .int ((it_X8_both_64 SM x1 x2 x3 ((-1), (-1)) j_64).1)), (5, .int ((it_X8_both_64 SM x1 x2 x3 ((-1), (-1)) j_64).2)), (6, .int (nI j_64))]) X dX8_both_134 (by decide) rfl ?_
                        refine ww_aload_n (pc := 136) X dX8_both_136 5 rfl rfl ?_
                        refine ww_get (pc := 137) (ci := 8) (v := .ref (rM 10)) (C := RX8) (T := TX8) (N := 27) X inX8_both_8 0 rfl rfl 11 (by decide) (by decide +kernel) rfl dX8_both_137 ?_
                        refine ww_iconst (pc := 140) (v := 1) X dX8_both_140 (by decide) ?_
                        refine ww_iload_n (pc := 141) X dX8_both_141 6 rfl rfl ?_
                        have hb57 := clb (in_X8_isPerson okM c1)
                        refine ww_iadd (pc := 142) X dX8_both_142 ?_
                        refine ww_iald (pc := 143) (f := SM.2 9) X 10 0 rfl rfl (vn (m := 1 + ((x1 : Int32).toNatClampNeg)) (nat_iadd (a := 1) (b := (x1 : Int32).toNatClampNeg) rfl (cl_of (in_X8_isPerson okM c1))) (by omega) (by decide)) dX8_both_143 ?_
                        refine ww_iload (pc := 144) X dX8_both_144 0 rfl ?_
                        refine ww_iadd (pc := 146) X dX8_both_146 ?_
                        refine ww_iload (pc := 147) X dX8_both_147 2 rfl ?_
                        refine ww_isub (pc := 149) X dX8_both_149 ?_
                        generalize hz58 : ((((SM.2 9) ((1 + x1 : Int32)).toNatClampNeg) + (f_X8_spanOf SM ((nI j_64) - (nI j_64) / 50 * 50))) - (f_X8_spanOf SM ((nI j_64) / 50))) = z58
                        refine ww_istore (pc := 150) (lv' := [(12, .int z58), (11, .int (f_X8_spanOf SM ((nI j_64) - (nI j_64) / 50 * 50))), (10, .int (f_X8_spanOf SM ((nI j_64) - (nI j_64) / 50 * 50))), (9, .int (f_X8_spanOf SM ((nI j_64) / 50))), (8, .int ((nI j_64) - (nI j_64) / 50 * 50)), (7, .int ((nI j_64) / 50)), (0, .ref (rM 0)), (1, .int x1), (2, .int x2), (3, .int x3), (4, .int ((it_X8_both_64 SM x1 x2 x3 ((-1), (-1)) j_64).1)), (5, .int ((it_X8_both_64 SM x1 x2 x3 ((-1), (-1)) j_64).2)), (6, .int (nI j_64))]) X dX8_both_150 (by decide) rfl ?_
                        refine ww_aload_n (pc := 152) X dX8_both_152 6 rfl rfl ?_
                        refine ww_get (pc := 153) (ci := 8) (v := .ref (rM 10)) (C := RX8) (T := TX8) (N := 27) X inX8_both_8 0 rfl rfl 11 (by decide) (by decide +kernel) rfl dX8_both_153 ?_
                        refine ww_iconst (pc := 156) (v := 1) X dX8_both_156 (by decide) ?_
                        refine ww_iload_n (pc := 157) X dX8_both_157 8 rfl rfl ?_
                        have hb59 := clb (in_X8_isPerson okM c2)
                        refine ww_iadd (pc := 158) X dX8_both_158 ?_
                        refine ww_iald (pc := 159) (f := SM.2 9) X 10 0 rfl rfl (vn (m := 1 + ((x2 : Int32).toNatClampNeg)) (nat_iadd (a := 1) (b := (x2 : Int32).toNatClampNeg) rfl (cl_of (in_X8_isPerson okM c2))) (by omega) (by decide)) dX8_both_159 ?_
                        refine ww_iload (pc := 160) X dX8_both_160 1 rfl ?_
                        refine ww_iadd (pc := 162) X dX8_both_162 ?_
                        refine ww_iload (pc := 163) X dX8_both_163 2 rfl ?_
                        refine ww_isub (pc := 165) X dX8_both_165 ?_
                        generalize hz60 : ((((SM.2 9) ((1 + x2 : Int32)).toNatClampNeg) + (f_X8_spanOf SM ((nI j_64) - (nI j_64) / 50 * 50))) - (f_X8_spanOf SM ((nI j_64) - (nI j_64) / 50 * 50))) = z60
                        refine ww_istore (pc := 166) (lv' := [(13, .int z60), (12, .int z58), (11, .int (f_X8_spanOf SM ((nI j_64) - (nI j_64) / 50 * 50))), (10, .int (f_X8_spanOf SM ((nI j_64) - (nI j_64) / 50 * 50))), (9, .int (f_X8_spanOf SM ((nI j_64) / 50))), (8, .int ((nI j_64) - (nI j_64) / 50 * 50)), (7, .int ((nI j_64) / 50)), (0, .ref (rM 0)), (1, .int x1), (2, .int x2), (3, .int x3), (4, .int ((it_X8_both_64 SM x1 x2 x3 ((-1), (-1)) j_64).1)), (5, .int ((it_X8_both_64 SM x1 x2 x3 ((-1), (-1)) j_64).2)), (6, .int (nI j_64))]) X dX8_both_166 (by decide) rfl ?_
                        refine ww_iload (pc := 168) X dX8_both_168 1 rfl ?_
                        refine ww_iload (pc := 170) X dX8_both_170 0 rfl ?_
                        refine ww_icmp_ne (pc := 172) (tgt := 212) X dX8_both_172 (by decide) (fun c61 => ?_) (fun c61 => ?_)
                        · refine ww_iconst (pc := 212) (v := 0) X dX8_both_212 (by decide) ?_
                          refine ww_istore (pc := 213) (lv' := [(14, .int 0), (13, .int z60), (12, .int z58), (11, .int (f_X8_spanOf SM ((nI j_64) - (nI j_64) / 50 * 50))), (10, .int (f_X8_spanOf SM ((nI j_64) - (nI j_64) / 50 * 50))), (9, .int (f_X8_spanOf SM ((nI j_64) / 50))), (8, .int ((nI j_64) - (nI j_64) / 50 * 50)), (7, .int ((nI j_64) / 50)), (0, .ref (rM 0)), (1, .int x1), (2, .int x2), (3, .int x3), (4, .int ((it_X8_both_64 SM x1 x2 x3 ((-1), (-1)) j_64).1)), (5, .int ((it_X8_both_64 SM x1 x2 x3 ((-1), (-1)) j_64).2)), (6, .int (nI j_64))]) X dX8_both_213 (by decide) rfl ?_
                          refine ww_iload (pc := 215) X dX8_both_215 0 rfl ?_
                          refine ww_if_eq (pc := 217) (tgt := 225) X dX8_both_217 (by decide) (fun _ => ?_) (fun c62 => absurd (by decide) c62)
                          refine ww_iload (pc := 225) X dX8_both_225 12 rfl ?_
                          refine ww_istore (pc := 227) (lv' := [(4, .int ((it_X8_both_64 SM x1 x2 x3 ((-1), (-1)) j_64).1)), (14, .int 0), (13, .int z60), (12, .int z58), (11, .int (f_X8_spanOf SM ((nI j_64) - (nI j_64) / 50 * 50))), (10, .int (f_X8_spanOf SM ((nI j_64) - (nI j_64) / 50 * 50))), (9, .int (f_X8_spanOf SM ((nI j_64) / 50))), (8, .int ((nI j_64) - (nI j_64) / 50 * 50)), (7, .int ((nI j_64) / 50)), (0, .ref (rM 0)), (1, .int x1), (2, .int x2), (3, .int x3), (5, .int ((it_X8_both_64 SM x1 x2 x3 ((-1), (-1)) j_64).2)), (6, .int (nI j_64))]) X dX8_both_227 (by decide) rfl ?_
                          refine ww_iload (pc := 229) X dX8_both_229 1 rfl ?_
                          refine ww_if_eq (pc := 231) (tgt := 245) X dX8_both_231 (by decide) (fun _ => ?_) (fun c63 => absurd (by decide) c63)
                          refine ww_iload (pc := 245) X dX8_both_245 13 rfl ?_
                          refine ww_istore (pc := 247) (lv' := [(5, .int ((it_X8_both_64 SM x1 x2 x3 ((-1), (-1)) j_64).2)), (4, .int ((it_X8_both_64 SM x1 x2 x3 ((-1), (-1)) j_64).1)), (14, .int 0), (13, .int z60), (12, .int z58), (11, .int (f_X8_spanOf SM ((nI j_64) - (nI j_64) / 50 * 50))), (10, .int (f_X8_spanOf SM ((nI j_64) - (nI j_64) / 50 * 50))), (9, .int (f_X8_spanOf SM ((nI j_64) / 50))), (8, .int ((nI j_64) - (nI j_64) / 50 * 50)), (7, .int ((nI j_64) / 50)), (0, .ref (rM 0)), (1, .int x1), (2, .int x2), (3, .int x3), (6, .int (nI j_64))]) X dX8_both_247 (by decide) rfl ?_
                          refine ww_iinc (pc := 249) (v := (nI j_64) + 1) (lv' := [(6, .int ((nI j_64) + 1)), (5, .int ((it_X8_both_64 SM x1 x2 x3 ((-1), (-1)) j_64).2)), (4, .int ((it_X8_both_64 SM x1 x2 x3 ((-1), (-1)) j_64).1)), (14, .int 0), (13, .int z60), (12, .int z58), (11, .int (f_X8_spanOf SM ((nI j_64) - (nI j_64) / 50 * 50))), (10, .int (f_X8_spanOf SM ((nI j_64) - (nI j_64) / 50 * 50))), (9, .int (f_X8_spanOf SM ((nI j_64) / 50))), (8, .int ((nI j_64) - (nI j_64) / 50 * 50)), (7, .int ((nI j_64) / 50)), (0, .ref (rM 0)), (1, .int x1), (2, .int x2), (3, .int x3)]) X dX8_both_249 14 rfl rfl (by decide) rfl ?_
                          refine ww_goto (pc := 252) (tgt := 64) X dX8_both_252 (by decide) ?_
                          have h64 : (it_X8_both_64 SM x1 x2 x3 ((-1), (-1)) (j_64 + 1)) = ((it_X8_both_64 SM x1 x2 x3 ((-1), (-1)) j_64).1, (it_X8_both_64 SM x1 x2 x3 ((-1), (-1)) j_64).2) := by
                            show bd_X8_both_64 SM x1 x2 x3 j_64 (it_X8_both_64 SM x1 x2 x3 ((-1), (-1)) j_64) = _; unfold bd_X8_both_64; try rw [if_neg c52, if_neg c54, if_pos c56, hz58]; try unfold bd_X8_both_64_k1; try rw [hz60]; try unfold bd_X8_both_64_k2; try rw [if_neg c61]; first | done | rfl
                          refine ww_lsub [11, 12, 13, 14, 2, 1, 0] rfl ?_
                          exact ww_castI (fun u9 : Int32 × Int32 => fl [wX8 cI cZ cQ rM SM]) (fun (u9 : Int32 × Int32) (i9 : Int32) => ([(0, .ref (rM 0)), (1, .int x1), (2, .int x2), (3, .int x3), (4, .int u9.1), (5, .int u9.2), (6, .int i9)] : List (Nat × Value))) h64 (ih (j_64 + 1) (by omega) K)
                        · refine ww_iload (pc := 175) X dX8_both_175 1 rfl ?_
                          refine ww_aload_n (pc := 177) X dX8_both_177 7 rfl rfl ?_
                          refine ww_iload_n (pc := 178) X dX8_both_178 8 rfl rfl ?_
                          refine ww_gVi (pc := 179) (rest := [.int z58]) (gsN := [wX8 cI cZ cQ rM SM]) (ci := 8) (gi := 0) (qi := 0) X (c_X8_end l D cI cZ cQ rM SM x1 (in_X8_isPerson okM c1)) gX8_both_X8_end rfl hd_X8_end [true] rfl rfl rfl rfl rfl rfl rfl rfl ⟨rfl, rfl⟩ ⟨Nat.le_of_ble_eq_true rfl, Nat.le_of_ble_eq_true rfl⟩ (Nat.le_of_ble_eq_true rfl) ⟨Nat.zero_le _, Nat.zero_le _⟩ dX8_both_179 ?_
                          refine ww_icmp_ge (pc := 182) (tgt := 212) X dX8_both_182 (by decide) (fun c65 => ?_) (fun c65 => ?_)
                          · refine ww_iconst (pc := 212) (v := 0) X dX8_both_212 (by decide) ?_
                            refine ww_istore (pc := 213) (lv' := [(14, .int 0), (13, .int z60), (12, .int z58), (11, .int (f_X8_spanOf SM ((nI j_64) - (nI j_64) / 50 * 50))), (10, .int (f_X8_spanOf SM ((nI j_64) - (nI j_64) / 50 * 50))), (9, .int (f_X8_spanOf SM ((nI j_64) / 50))), (8, .int ((nI j_64) - (nI j_64) / 50 * 50)), (7, .int ((nI j_64) / 50)), (0, .ref (rM 0)), (1, .int x1), (2, .int x2), (3, .int x3), (4, .int ((it_X8_both_64 SM x1 x2 x3 ((-1), (-1)) j_64).1)), (5, .int ((it_X8_both_64 SM x1 x2 x3 ((-1), (-1)) j_64).2)), (6, .int (nI j_64))]) X dX8_both_213 (by decide) rfl ?_
                            refine ww_iload (pc := 215) X dX8_both_215 0 rfl ?_
                            refine ww_if_eq (pc := 217) (tgt := 225) X dX8_both_217 (by decide) (fun _ => ?_) (fun c66 => absurd (by decide) c66)
                            refine ww_iload (pc := 225) X dX8_both_225 12 rfl ?_
                            refine ww_istore (pc := 227) (lv' := [(4, .int ((it_X8_both_64 SM x1 x2 x3 ((-1), (-1)) j_64).1)), (14, .int 0), (13, .int z60), (12, .int z58), (11, .int (f_X8_spanOf SM ((nI j_64) - (nI j_64) / 50 * 50))), (10, .int (f_X8_spanOf SM ((nI j_64) - (nI j_64) / 50 * 50))), (9, .int (f_X8_spanOf SM ((nI j_64) / 50))), (8, .int ((nI j_64) - (nI j_64) / 50 * 50)), (7, .int ((nI j_64) / 50)), (0, .ref (rM 0)), (1, .int x1), (2, .int x2), (3, .int x3), (5, .int ((it_X8_both_64 SM x1 x2 x3 ((-1), (-1)) j_64).2)), (6, .int (nI j_64))]) X dX8_both_227 (by decide) rfl ?_
                            refine ww_iload (pc := 229) X dX8_both_229 1 rfl ?_
                            refine ww_if_eq (pc := 231) (tgt := 245) X dX8_both_231 (by decide) (fun _ => ?_) (fun c67 => absurd (by decide) c67)
                            refine ww_iload (pc := 245) X dX8_both_245 13 rfl ?_
                            refine ww_istore (pc := 247) (lv' := [(5, .int ((it_X8_both_64 SM x1 x2 x3 ((-1), (-1)) j_64).2)), (4, .int ((it_X8_both_64 SM x1 x2 x3 ((-1), (-1)) j_64).1)), (14, .int 0), (13, .int z60), (12, .int z58), (11, .int (f_X8_spanOf SM ((nI j_64) - (nI j_64) / 50 * 50))), (10, .int (f_X8_spanOf SM ((nI j_64) - (nI j_64) / 50 * 50))), (9, .int (f_X8_spanOf SM ((nI j_64) / 50))), (8, .int ((nI j_64) - (nI j_64) / 50 * 50)), (7, .int ((nI j_64) / 50)), (0, .ref (rM 0)), (1, .int x1), (2, .int x2), (3, .int x3), (6, .int (nI j_64))]) X dX8_both_247 (by decide) rfl ?_
                            refine ww_iinc (pc := 249) (v := (nI j_64) + 1) (lv' := [(6, .int ((nI j_64) + 1)), (5, .int ((it_X8_both_64 SM x1 x2 x3 ((-1), (-1)) j_64).2)), (4, .int ((it_X8_both_64 SM x1 x2 x3 ((-1), (-1)) j_64).1)), (14, .int 0), (13, .int z60), (12, .int z58), (11, .int (f_X8_spanOf SM ((nI j_64) - (nI j_64) / 50 * 50))), (10, .int (f_X8_spanOf SM ((nI j_64) - (nI j_64) / 50 * 50))), (9, .int (f_X8_spanOf SM ((nI j_64) / 50))), (8, .int ((nI j_64) - (nI j_64) / 50 * 50)), (7, .int ((nI j_64) / 50)), (0, .ref (rM 0)), (1, .int x1), (2, .int x2), (3, .int x3)]) X dX8_both_249 14 rfl rfl (by decide) rfl ?_
                            refine ww_goto (pc := 252) (tgt := 64) X dX8_both_252 (by decide) ?_
                            have h68 : (it_X8_both_64 SM x1 x2 x3 ((-1), (-1)) (j_64 + 1)) = ((it_X8_both_64 SM x1 x2 x3 ((-1), (-1)) j_64).1, (it_X8_both_64 SM x1 x2 x3 ((-1), (-1)) j_64).2) := by
                              show bd_X8_both_64 SM x1 x2 x3 j_64 (it_X8_both_64 SM x1 x2 x3 ((-1), (-1)) j_64) = _; unfold bd_X8_both_64; try rw [if_neg c52, if_neg c54, if_pos c56, hz58]; try unfold bd_X8_both_64_k1; try rw [hz60]; try unfold bd_X8_both_64_k2; try rw [if_pos c61, if_pos c65]; first | done | rfl
                            refine ww_lsub [11, 12, 13, 14, 2, 1, 0] rfl ?_
                            exact ww_castI (fun u9 : Int32 × Int32 => fl [wX8 cI cZ cQ rM SM]) (fun (u9 : Int32 × Int32) (i9 : Int32) => ([(0, .ref (rM 0)), (1, .int x1), (2, .int x2), (3, .int x3), (4, .int u9.1), (5, .int u9.2), (6, .int i9)] : List (Nat × Value))) h68 (ih (j_64 + 1) (by omega) K)
                          · refine ww_iload (pc := 185) X dX8_both_185 0 rfl ?_
                            refine ww_aload_n (pc := 187) X dX8_both_187 7 rfl rfl ?_
                            refine ww_iload_n (pc := 188) X dX8_both_188 9 rfl rfl ?_
                            refine ww_gVi (pc := 189) (rest := [.int z60]) (gsN := [wX8 cI cZ cQ rM SM]) (ci := 8) (gi := 0) (qi := 0) X (c_X8_end l D cI cZ cQ rM SM x2 (in_X8_isPerson okM c2)) gX8_both_X8_end rfl hd_X8_end [true] rfl rfl rfl rfl rfl rfl rfl rfl ⟨rfl, rfl⟩ ⟨Nat.le_of_ble_eq_true rfl, Nat.le_of_ble_eq_true rfl⟩ (Nat.le_of_ble_eq_true rfl) ⟨Nat.zero_le _, Nat.zero_le _⟩ dX8_both_189 ?_
                            refine ww_icmp_ge (pc := 192) (tgt := 212) X dX8_both_192 (by decide) (fun c69 => ?_) (fun c69 => ?_)
                            · refine ww_iconst (pc := 212) (v := 0) X dX8_both_212 (by decide) ?_
                              refine ww_istore (pc := 213) (lv' := [(14, .int 0), (13, .int z60), (12, .int z58), (11, .int (f_X8_spanOf SM ((nI j_64) - (nI j_64) / 50 * 50))), (10, .int (f_X8_spanOf SM ((nI j_64) - (nI j_64) / 50 * 50))), (9, .int (f_X8_spanOf SM ((nI j_64) / 50))), (8, .int ((nI j_64) - (nI j_64) / 50 * 50)), (7, .int ((nI j_64) / 50)), (0, .ref (rM 0)), (1, .int x1), (2, .int x2), (3, .int x3), (4, .int ((it_X8_both_64 SM x1 x2 x3 ((-1), (-1)) j_64).1)), (5, .int ((it_X8_both_64 SM x1 x2 x3 ((-1), (-1)) j_64).2)), (6, .int (nI j_64))]) X dX8_both_213 (by decide) rfl ?_
                              refine ww_iload (pc := 215) X dX8_both_215 0 rfl ?_
                              refine ww_if_eq (pc := 217) (tgt := 225) X dX8_both_217 (by decide) (fun _ => ?_) (fun c70 => absurd (by decide) c70)
                              refine ww_iload (pc := 225) X dX8_both_225 12 rfl ?_
                              refine ww_istore (pc := 227) (lv' := [(4, .int ((it_X8_both_64 SM x1 x2 x3 ((-1), (-1)) j_64).1)), (14, .int 0), (13, .int z60), (12, .int z58), (11, .int (f_X8_spanOf SM ((nI j_64) - (nI j_64) / 50 * 50))), (10, .int (f_X8_spanOf SM ((nI j_64) - (nI j_64) / 50 * 50))), (9, .int (f_X8_spanOf SM ((nI j_64) / 50))), (8, .int ((nI j_64) - (nI j_64) / 50 * 50)), (7, .int ((nI j_64) / 50)), (0, .ref (rM 0)), (1, .int x1), (2, .int x2), (3, .int x3), (5, .int ((it_X8_both_64 SM x1 x2 x3 ((-1), (-1)) j_64).2)), (6, .int (nI j_64))]) X dX8_both_227 (by decide) rfl ?_
                              refine ww_iload (pc := 229) X dX8_both_229 1 rfl ?_
                              refine ww_if_eq (pc := 231) (tgt := 245) X dX8_both_231 (by decide) (fun _ => ?_) (fun c71 => absurd (by decide) c71)
                              refine ww_iload (pc := 245) X dX8_both_245 13 rfl ?_
                              refine ww_istore (pc := 247) (lv' := [(5, .int ((it_X8_both_64 SM x1 x2 x3 ((-1), (-1)) j_64).2)), (4, .int ((it_X8_both_64 SM x1 x2 x3 ((-1), (-1)) j_64).1)), (14, .int 0), (13, .int z60), (12, .int z58), (11, .int (f_X8_spanOf SM ((nI j_64) - (nI j_64) / 50 * 50))), (10, .int (f_X8_spanOf SM ((nI j_64) - (nI j_64) / 50 * 50))), (9, .int (f_X8_spanOf SM ((nI j_64) / 50))), (8, .int ((nI j_64) - (nI j_64) / 50 * 50)), (7, .int ((nI j_64) / 50)), (0, .ref (rM 0)), (1, .int x1), (2, .int x2), (3, .int x3), (6, .int (nI j_64))]) X dX8_both_247 (by decide) rfl ?_
                              refine ww_iinc (pc := 249) (v := (nI j_64) + 1) (lv' := [(6, .int ((nI j_64) + 1)), (5, .int ((it_X8_both_64 SM x1 x2 x3 ((-1), (-1)) j_64).2)), (4, .int ((it_X8_both_64 SM x1 x2 x3 ((-1), (-1)) j_64).1)), (14, .int 0), (13, .int z60), (12, .int z58), (11, .int (f_X8_spanOf SM ((nI j_64) - (nI j_64) / 50 * 50))), (10, .int (f_X8_spanOf SM ((nI j_64) - (nI j_64) / 50 * 50))), (9, .int (f_X8_spanOf SM ((nI j_64) / 50))), (8, .int ((nI j_64) - (nI j_64) / 50 * 50)), (7, .int ((nI j_64) / 50)), (0, .ref (rM 0)), (1, .int x1), (2, .int x2), (3, .int x3)]) X dX8_both_249 14 rfl rfl (by decide) rfl ?_
                              refine ww_goto (pc := 252) (tgt := 64) X dX8_both_252 (by decide) ?_
                              have h72 : (it_X8_both_64 SM x1 x2 x3 ((-1), (-1)) (j_64 + 1)) = ((it_X8_both_64 SM x1 x2 x3 ((-1), (-1)) j_64).1, (it_X8_both_64 SM x1 x2 x3 ((-1), (-1)) j_64).2) := by
                                show bd_X8_both_64 SM x1 x2 x3 j_64 (it_X8_both_64 SM x1 x2 x3 ((-1), (-1)) j_64) = _; unfold bd_X8_both_64; try rw [if_neg c52, if_neg c54, if_pos c56, hz58]; try unfold bd_X8_both_64_k1; try rw [hz60]; try unfold bd_X8_both_64_k2; try rw [if_pos c61, if_neg c65, if_pos c69]; first | done | rfl
                              refine ww_lsub [11, 12, 13, 14, 2, 1, 0] rfl ?_
                              exact ww_castI (fun u9 : Int32 × Int32 => fl [wX8 cI cZ cQ rM SM]) (fun (u9 : Int32 × Int32) (i9 : Int32) => ([(0, .ref (rM 0)), (1, .int x1), (2, .int x2), (3, .int x3), (4, .int u9.1), (5, .int u9.2), (6, .int i9)] : List (Nat × Value))) h72 (ih (j_64 + 1) (by omega) K)
                            · refine ww_iload (pc := 195) X dX8_both_195 12 rfl ?_
                              refine ww_iconst (pc := 197) (v := (-1)) X dX8_both_197 (by decide) ?_
                              refine ww_icmp_eq (pc := 198) (tgt := 208) X dX8_both_198 (by decide) (fun c73 => ?_) (fun c73 => ?_)
                              · refine ww_iconst (pc := 208) (v := 1) X dX8_both_208 (by decide) ?_
                                refine ww_goto (pc := 209) (tgt := 213) X dX8_both_209 (by decide) ?_
                                refine ww_istore (pc := 213) (lv' := [(14, .int 1), (13, .int z60), (12, .int z58), (11, .int (f_X8_spanOf SM ((nI j_64) - (nI j_64) / 50 * 50))), (10, .int (f_X8_spanOf SM ((nI j_64) - (nI j_64) / 50 * 50))), (9, .int (f_X8_spanOf SM ((nI j_64) / 50))), (8, .int ((nI j_64) - (nI j_64) / 50 * 50)), (7, .int ((nI j_64) / 50)), (0, .ref (rM 0)), (1, .int x1), (2, .int x2), (3, .int x3), (4, .int ((it_X8_both_64 SM x1 x2 x3 ((-1), (-1)) j_64).1)), (5, .int ((it_X8_both_64 SM x1 x2 x3 ((-1), (-1)) j_64).2)), (6, .int (nI j_64))]) X dX8_both_213 (by decide) rfl ?_
                                refine ww_iload (pc := 215) X dX8_both_215 0 rfl ?_
                                refine ww_if_eq (pc := 217) (tgt := 225) X dX8_both_217 (by decide) (fun c74 => absurd c74 (by decide)) (fun _ => ?_)
                                refine ww_iload (pc := 220) X dX8_both_220 3 rfl ?_
                                refine ww_goto (pc := 222) (tgt := 227) X dX8_both_222 (by decide) ?_
                                refine ww_istore (pc := 227) (lv' := [(4, .int (f_X8_spanOf SM ((nI j_64) - (nI j_64) / 50 * 50))), (14, .int 1), (13, .int z60), (12, .int z58), (11, .int (f_X8_spanOf SM ((nI j_64) - (nI j_64) / 50 * 50))), (10, .int (f_X8_spanOf SM ((nI j_64) - (nI j_64) / 50 * 50))), (9, .int (f_X8_spanOf SM ((nI j_64) / 50))), (8, .int ((nI j_64) - (nI j_64) / 50 * 50)), (7, .int ((nI j_64) / 50)), (0, .ref (rM 0)), (1, .int x1), (2, .int x2), (3, .int x3), (5, .int ((it_X8_both_64 SM x1 x2 x3 ((-1), (-1)) j_64).2)), (6, .int (nI j_64))]) X dX8_both_227 (by decide) rfl ?_
                                refine ww_iload (pc := 229) X dX8_both_229 1 rfl ?_
                                refine ww_if_eq (pc := 231) (tgt := 245) X dX8_both_231 (by decide) (fun c75 => absurd c75 (by decide)) (fun _ => ?_)
                                refine ww_bipush (pc := 234) (v := 100) X dX8_both_234 (by decide) ?_
                                refine ww_iload (pc := 236) X dX8_both_236 8 rfl ?_
                                refine ww_imul (pc := 238) X dX8_both_238 ?_
                                refine ww_iload (pc := 239) X dX8_both_239 7 rfl ?_
                                refine ww_iadd (pc := 241) X dX8_both_241 ?_
                                refine ww_goto (pc := 242) (tgt := 247) X dX8_both_242 (by decide) ?_
                                refine ww_istore (pc := 247) (lv' := [(5, .int ((100 * ((nI j_64) / 50)) + ((nI j_64) - (nI j_64) / 50 * 50))), (4, .int (f_X8_spanOf SM ((nI j_64) - (nI j_64) / 50 * 50))), (14, .int 1), (13, .int z60), (12, .int z58), (11, .int (f_X8_spanOf SM ((nI j_64) - (nI j_64) / 50 * 50))), (10, .int (f_X8_spanOf SM ((nI j_64) - (nI j_64) / 50 * 50))), (9, .int (f_X8_spanOf SM ((nI j_64) / 50))), (8, .int ((nI j_64) - (nI j_64) / 50 * 50)), (7, .int ((nI j_64) / 50)), (0, .ref (rM 0)), (1, .int x1), (2, .int x2), (3, .int x3), (6, .int (nI j_64))]) X dX8_both_247 (by decide) rfl ?_
                                refine ww_iinc (pc := 249) (v := (nI j_64) + 1) (lv' := [(6, .int ((nI j_64) + 1)), (5, .int ((100 * ((nI j_64) / 50)) + ((nI j_64) - (nI j_64) / 50 * 50))), (4, .int (f_X8_spanOf SM ((nI j_64) - (nI j_64) / 50 * 50))), (14, .int 1), (13, .int z60), (12, .int z58), (11, .int (f_X8_spanOf SM ((nI j_64) - (nI j_64) / 50 * 50))), (10, .int (f_X8_spanOf SM ((nI j_64) - (nI j_64) / 50 * 50))), (9, .int (f_X8_spanOf SM ((nI j_64) / 50))), (8, .int ((nI j_64) - (nI j_64) / 50 * 50)), (7, .int ((nI j_64) / 50)), (0, .ref (rM 0)), (1, .int x1), (2, .int x2), (3, .int x3)]) X dX8_both_249 14 rfl rfl (by decide) rfl ?_
                                refine ww_goto (pc := 252) (tgt := 64) X dX8_both_252 (by decide) ?_
                                have h76 : (it_X8_both_64 SM x1 x2 x3 ((-1), (-1)) (j_64 + 1)) = (f_X8_spanOf SM ((nI j_64) - (nI j_64) / 50 * 50), (100 * ((nI j_64) / 50)) + ((nI j_64) - (nI j_64) / 50 * 50)) := by
                                  show bd_X8_both_64 SM x1 x2 x3 j_64 (it_X8_both_64 SM x1 x2 x3 ((-1), (-1)) j_64) = _; unfold bd_X8_both_64; try rw [if_neg c52, if_neg c54, if_pos c56, hz58]; try unfold bd_X8_both_64_k1; try rw [hz60]; try unfold bd_X8_both_64_k2; try rw [if_pos c61, if_neg c65, if_neg c69, if_pos c73]; first | done | rfl
                                refine ww_lsub [11, 12, 13, 14, 2, 1, 0] rfl ?_
                                exact ww_castI (fun u9 : Int32 × Int32 => fl [wX8 cI cZ cQ rM SM]) (fun (u9 : Int32 × Int32) (i9 : Int32) => ([(0, .ref (rM 0)), (1, .int x1), (2, .int x2), (3, .int x3), (4, .int u9.1), (5, .int u9.2), (6, .int i9)] : List (Nat × Value))) h76 (ih (j_64 + 1) (by omega) K)
                              · refine ww_iload (pc := 201) X dX8_both_201 2 rfl ?_
                                refine ww_iload (pc := 203) X dX8_both_203 11 rfl ?_
                                refine ww_icmp_ge (pc := 205) (tgt := 212) X dX8_both_205 (by decide) (fun c77 => ?_) (fun c77 => ?_)
                                · refine ww_iconst (pc := 212) (v := 0) X dX8_both_212 (by decide) ?_
                                  refine ww_istore (pc := 213) (lv' := [(14, .int 0), (13, .int z60), (12, .int z58), (11, .int (f_X8_spanOf SM ((nI j_64) - (nI j_64) / 50 * 50))), (10, .int (f_X8_spanOf SM ((nI j_64) - (nI j_64) / 50 * 50))), (9, .int (f_X8_spanOf SM ((nI j_64) / 50))), (8, .int ((nI j_64) - (nI j_64) / 50 * 50)), (7, .int ((nI j_64) / 50)), (0, .ref (rM 0)), (1, .int x1), (2, .int x2), (3, .int x3), (4, .int ((it_X8_both_64 SM x1 x2 x3 ((-1), (-1)) j_64).1)), (5, .int ((it_X8_both_64 SM x1 x2 x3 ((-1), (-1)) j_64).2)), (6, .int (nI j_64))]) X dX8_both_213 (by decide) rfl ?_
                                  refine ww_iload (pc := 215) X dX8_both_215 0 rfl ?_
                                  refine ww_if_eq (pc := 217) (tgt := 225) X dX8_both_217 (by decide) (fun _ => ?_) (fun c78 => absurd (by decide) c78)
                                  refine ww_iload (pc := 225) X dX8_both_225 12 rfl ?_
                                  refine ww_istore (pc := 227) (lv' := [(4, .int ((it_X8_both_64 SM x1 x2 x3 ((-1), (-1)) j_64).1)), (14, .int 0), (13, .int z60), (12, .int z58), (11, .int (f_X8_spanOf SM ((nI j_64) - (nI j_64) / 50 * 50))), (10, .int (f_X8_spanOf SM ((nI j_64) - (nI j_64) / 50 * 50))), (9, .int (f_X8_spanOf SM ((nI j_64) / 50))), (8, .int ((nI j_64) - (nI j_64) / 50 * 50)), (7, .int ((nI j_64) / 50)), (0, .ref (rM 0)), (1, .int x1), (2, .int x2), (3, .int x3), (5, .int ((it_X8_both_64 SM x1 x2 x3 ((-1), (-1)) j_64).2)), (6, .int (nI j_64))]) X dX8_both_227 (by decide) rfl ?_
                                  refine ww_iload (pc := 229) X dX8_both_229 1 rfl ?_
                                  refine ww_if_eq (pc := 231) (tgt := 245) X dX8_both_231 (by decide) (fun _ => ?_) (fun c79 => absurd (by decide) c79)
                                  refine ww_iload (pc := 245) X dX8_both_245 13 rfl ?_
                                  refine ww_istore (pc := 247) (lv' := [(5, .int ((it_X8_both_64 SM x1 x2 x3 ((-1), (-1)) j_64).2)), (4, .int ((it_X8_both_64 SM x1 x2 x3 ((-1), (-1)) j_64).1)), (14, .int 0), (13, .int z60), (12, .int z58), (11, .int (f_X8_spanOf SM ((nI j_64) - (nI j_64) / 50 * 50))), (10, .int (f_X8_spanOf SM ((nI j_64) - (nI j_64) / 50 * 50))), (9, .int (f_X8_spanOf SM ((nI j_64) / 50))), (8, .int ((nI j_64) - (nI j_64) / 50 * 50)), (7, .int ((nI j_64) / 50)), (0, .ref (rM 0)), (1, .int x1), (2, .int x2), (3, .int x3), (6, .int (nI j_64))]) X dX8_both_247 (by decide) rfl ?_
                                  refine ww_iinc (pc := 249) (v := (nI j_64) + 1) (lv' := [(6, .int ((nI j_64) + 1)), (5, .int ((it_X8_both_64 SM x1 x2 x3 ((-1), (-1)) j_64).2)), (4, .int ((it_X8_both_64 SM x1 x2 x3 ((-1), (-1)) j_64).1)), (14, .int 0), (13, .int z60), (12, .int z58), (11, .int (f_X8_spanOf SM ((nI j_64) - (nI j_64) / 50 * 50))), (10, .int (f_X8_spanOf SM ((nI j_64) - (nI j_64) / 50 * 50))), (9, .int (f_X8_spanOf SM ((nI j_64) / 50))), (8, .int ((nI j_64) - (nI j_64) / 50 * 50)), (7, .int ((nI j_64) / 50)), (0, .ref (rM 0)), (1, .int x1), (2, .int x2), (3, .int x3)]) X dX8_both_249 14 rfl rfl (by decide) rfl ?_
                                  refine ww_goto (pc := 252) (tgt := 64) X dX8_both_252 (by decide) ?_
                                  have h80 : (it_X8_both_64 SM x1 x2 x3 ((-1), (-1)) (j_64 + 1)) = ((it_X8_both_64 SM x1 x2 x3 ((-1), (-1)) j_64).1, (it_X8_both_64 SM x1 x2 x3 ((-1), (-1)) j_64).2) := by
                                    show bd_X8_both_64 SM x1 x2 x3 j_64 (it_X8_both_64 SM x1 x2 x3 ((-1), (-1)) j_64) = _; unfold bd_X8_both_64; try rw [if_neg c52, if_neg c54, if_pos c56, hz58]; try unfold bd_X8_both_64_k1; try rw [hz60]; try unfold bd_X8_both_64_k2; try rw [if_pos c61, if_neg c65, if_neg c69, if_neg c73, if_pos c77]; first | done | rfl
                                  refine ww_lsub [11, 12, 13, 14, 2, 1, 0] rfl ?_
                                  exact ww_castI (fun u9 : Int32 × Int32 => fl [wX8 cI cZ cQ rM SM]) (fun (u9 : Int32 × Int32) (i9 : Int32) => ([(0, .ref (rM 0)), (1, .int x1), (2, .int x2), (3, .int x3), (4, .int u9.1), (5, .int u9.2), (6, .int i9)] : List (Nat × Value))) h80 (ih (j_64 + 1) (by omega) K)
                                · refine ww_iconst (pc := 208) (v := 1) X dX8_both_208 (by decide) ?_
                                  refine ww_goto (pc := 209) (tgt := 213) X dX8_both_209 (by decide) ?_
                                  refine ww_istore (pc := 213) (lv' := [(14, .int 1), (13, .int z60), (12, .int z58), (11, .int (f_X8_spanOf SM ((nI j_64) - (nI j_64) / 50 * 50))), (10, .int (f_X8_spanOf SM ((nI j_64) - (nI j_64) / 50 * 50))), (9, .int (f_X8_spanOf SM ((nI j_64) / 50))), (8, .int ((nI j_64) - (nI j_64) / 50 * 50)), (7, .int ((nI j_64) / 50)), (0, .ref (rM 0)), (1, .int x1), (2, .int x2), (3, .int x3), (4, .int ((it_X8_both_64 SM x1 x2 x3 ((-1), (-1)) j_64).1)), (5, .int ((it_X8_both_64 SM x1 x2 x3 ((-1), (-1)) j_64).2)), (6, .int (nI j_64))]) X dX8_both_213 (by decide) rfl ?_
                                  refine ww_iload (pc := 215) X dX8_both_215 0 rfl ?_
                                  refine ww_if_eq (pc := 217) (tgt := 225) X dX8_both_217 (by decide) (fun c81 => absurd c81 (by decide)) (fun _ => ?_)
                                  refine ww_iload (pc := 220) X dX8_both_220 3 rfl ?_
                                  refine ww_goto (pc := 222) (tgt := 227) X dX8_both_222 (by decide) ?_
                                  refine ww_istore (pc := 227) (lv' := [(4, .int (f_X8_spanOf SM ((nI j_64) - (nI j_64) / 50 * 50))), (14, .int 1), (13, .int z60), (12, .int z58), (11, .int (f_X8_spanOf SM ((nI j_64) - (nI j_64) / 50 * 50))), (10, .int (f_X8_spanOf SM ((nI j_64) - (nI j_64) / 50 * 50))), (9, .int (f_X8_spanOf SM ((nI j_64) / 50))), (8, .int ((nI j_64) - (nI j_64) / 50 * 50)), (7, .int ((nI j_64) / 50)), (0, .ref (rM 0)), (1, .int x1), (2, .int x2), (3, .int x3), (5, .int ((it_X8_both_64 SM x1 x2 x3 ((-1), (-1)) j_64).2)), (6, .int (nI j_64))]) X dX8_both_227 (by decide) rfl ?_
                                  refine ww_iload (pc := 229) X dX8_both_229 1 rfl ?_
                                  refine ww_if_eq (pc := 231) (tgt := 245) X dX8_both_231 (by decide) (fun c82 => absurd c82 (by decide)) (fun _ => ?_)
                                  refine ww_bipush (pc := 234) (v := 100) X dX8_both_234 (by decide) ?_
                                  refine ww_iload (pc := 236) X dX8_both_236 8 rfl ?_
                                  refine ww_imul (pc := 238) X dX8_both_238 ?_
                                  refine ww_iload (pc := 239) X dX8_both_239 7 rfl ?_
                                  refine ww_iadd (pc := 241) X dX8_both_241 ?_
                                  refine ww_goto (pc := 242) (tgt := 247) X dX8_both_242 (by decide) ?_
                                  refine ww_istore (pc := 247) (lv' := [(5, .int ((100 * ((nI j_64) / 50)) + ((nI j_64) - (nI j_64) / 50 * 50))), (4, .int (f_X8_spanOf SM ((nI j_64) - (nI j_64) / 50 * 50))), (14, .int 1), (13, .int z60), (12, .int z58), (11, .int (f_X8_spanOf SM ((nI j_64) - (nI j_64) / 50 * 50))), (10, .int (f_X8_spanOf SM ((nI j_64) - (nI j_64) / 50 * 50))), (9, .int (f_X8_spanOf SM ((nI j_64) / 50))), (8, .int ((nI j_64) - (nI j_64) / 50 * 50)), (7, .int ((nI j_64) / 50)), (0, .ref (rM 0)), (1, .int x1), (2, .int x2), (3, .int x3), (6, .int (nI j_64))]) X dX8_both_247 (by decide) rfl ?_
                                  refine ww_iinc (pc := 249) (v := (nI j_64) + 1) (lv' := [(6, .int ((nI j_64) + 1)), (5, .int ((100 * ((nI j_64) / 50)) + ((nI j_64) - (nI j_64) / 50 * 50))), (4, .int (f_X8_spanOf SM ((nI j_64) - (nI j_64) / 50 * 50))), (14, .int 1), (13, .int z60), (12, .int z58), (11, .int (f_X8_spanOf SM ((nI j_64) - (nI j_64) / 50 * 50))), (10, .int (f_X8_spanOf SM ((nI j_64) - (nI j_64) / 50 * 50))), (9, .int (f_X8_spanOf SM ((nI j_64) / 50))), (8, .int ((nI j_64) - (nI j_64) / 50 * 50)), (7, .int ((nI j_64) / 50)), (0, .ref (rM 0)), (1, .int x1), (2, .int x2), (3, .int x3)]) X dX8_both_249 14 rfl rfl (by decide) rfl ?_
                                  refine ww_goto (pc := 252) (tgt := 64) X dX8_both_252 (by decide) ?_
                                  have h83 : (it_X8_both_64 SM x1 x2 x3 ((-1), (-1)) (j_64 + 1)) = (f_X8_spanOf SM ((nI j_64) - (nI j_64) / 50 * 50), (100 * ((nI j_64) / 50)) + ((nI j_64) - (nI j_64) / 50 * 50)) := by
                                    show bd_X8_both_64 SM x1 x2 x3 j_64 (it_X8_both_64 SM x1 x2 x3 ((-1), (-1)) j_64) = _; unfold bd_X8_both_64; try rw [if_neg c52, if_neg c54, if_pos c56, hz58]; try unfold bd_X8_both_64_k1; try rw [hz60]; try unfold bd_X8_both_64_k2; try rw [if_pos c61, if_neg c65, if_neg c69, if_neg c73, if_neg c77]; first | done | rfl
                                  refine ww_lsub [11, 12, 13, 14, 2, 1, 0] rfl ?_
                                  exact ww_castI (fun u9 : Int32 × Int32 => fl [wX8 cI cZ cQ rM SM]) (fun (u9 : Int32 × Int32) (i9 : Int32) => ([(0, .ref (rM 0)), (1, .int x1), (2, .int x2), (3, .int x3), (4, .int u9.1), (5, .int u9.2), (6, .int i9)] : List (Nat × Value))) h83 (ih (j_64 + 1) (by omega) K)
                      · refine ww_iload (pc := 127) X dX8_both_127 1 rfl ?_
                        refine ww_goto (pc := 129) (tgt := 134) X dX8_both_129 (by decide) ?_
                        refine ww_istore (pc := 134) (lv' := [(11, .int (f_X8_spanOf SM ((nI j_64) / 50))), (10, .int (f_X8_spanOf SM ((nI j_64) - (nI j_64) / 50 * 50))), (9, .int (f_X8_spanOf SM ((nI j_64) / 50))), (8, .int ((nI j_64) - (nI j_64) / 50 * 50)), (7, .int ((nI j_64) / 50)), (0, .ref (rM 0)), (1, .int x1), (2, .int x2), (3, .int x3), (4, .int ((it_X8_both_64 SM x1 x2 x3 ((-1), (-1)) j_64).1)), (5, .int ((it_X8_both_64 SM x1 x2 x3 ((-1), (-1)) j_64).2)), (6, .int (nI j_64))]) X dX8_both_134 (by decide) rfl ?_
                        refine ww_aload_n (pc := 136) X dX8_both_136 5 rfl rfl ?_
                        refine ww_get (pc := 137) (ci := 8) (v := .ref (rM 10)) (C := RX8) (T := TX8) (N := 27) X inX8_both_8 0 rfl rfl 11 (by decide) (by decide +kernel) rfl dX8_both_137 ?_
                        refine ww_iconst (pc := 140) (v := 1) X dX8_both_140 (by decide) ?_
                        refine ww_iload_n (pc := 141) X dX8_both_141 6 rfl rfl ?_
                        have hb84 := clb (in_X8_isPerson okM c1)
                        refine ww_iadd (pc := 142) X dX8_both_142 ?_
                        refine ww_iald (pc := 143) (f := SM.2 9) X 10 0 rfl rfl (vn (m := 1 + ((x1 : Int32).toNatClampNeg)) (nat_iadd (a := 1) (b := (x1 : Int32).toNatClampNeg) rfl (cl_of (in_X8_isPerson okM c1))) (by omega) (by decide)) dX8_both_143 ?_
                        refine ww_iload (pc := 144) X dX8_both_144 0 rfl ?_
                        refine ww_iadd (pc := 146) X dX8_both_146 ?_
                        refine ww_iload (pc := 147) X dX8_both_147 2 rfl ?_
                        refine ww_isub (pc := 149) X dX8_both_149 ?_
                        generalize hz85 : ((((SM.2 9) ((1 + x1 : Int32)).toNatClampNeg) + (f_X8_spanOf SM ((nI j_64) / 50))) - (f_X8_spanOf SM ((nI j_64) / 50))) = z85
                        refine ww_istore (pc := 150) (lv' := [(12, .int z85), (11, .int (f_X8_spanOf SM ((nI j_64) / 50))), (10, .int (f_X8_spanOf SM ((nI j_64) - (nI j_64) / 50 * 50))), (9, .int (f_X8_spanOf SM ((nI j_64) / 50))), (8, .int ((nI j_64) - (nI j_64) / 50 * 50)), (7, .int ((nI j_64) / 50)), (0, .ref (rM 0)), (1, .int x1), (2, .int x2), (3, .int x3), (4, .int ((it_X8_both_64 SM x1 x2 x3 ((-1), (-1)) j_64).1)), (5, .int ((it_X8_both_64 SM x1 x2 x3 ((-1), (-1)) j_64).2)), (6, .int (nI j_64))]) X dX8_both_150 (by decide) rfl ?_
                        refine ww_aload_n (pc := 152) X dX8_both_152 6 rfl rfl ?_
                        refine ww_get (pc := 153) (ci := 8) (v := .ref (rM 10)) (C := RX8) (T := TX8) (N := 27) X inX8_both_8 0 rfl rfl 11 (by decide) (by decide +kernel) rfl dX8_both_153 ?_
                        refine ww_iconst (pc := 156) (v := 1) X dX8_both_156 (by decide) ?_
                        refine ww_iload_n (pc := 157) X dX8_both_157 8 rfl rfl ?_
                        have hb86 := clb (in_X8_isPerson okM c2)
                        refine ww_iadd (pc := 158) X dX8_both_158 ?_
                        refine ww_iald (pc := 159) (f := SM.2 9) X 10 0 rfl rfl (vn (m := 1 + ((x2 : Int32).toNatClampNeg)) (nat_iadd (a := 1) (b := (x2 : Int32).toNatClampNeg) rfl (cl_of (in_X8_isPerson okM c2))) (by omega) (by decide)) dX8_both_159 ?_
                        refine ww_iload (pc := 160) X dX8_both_160 1 rfl ?_
                        refine ww_iadd (pc := 162) X dX8_both_162 ?_
                        refine ww_iload (pc := 163) X dX8_both_163 2 rfl ?_
                        refine ww_isub (pc := 165) X dX8_both_165 ?_
                        generalize hz87 : ((((SM.2 9) ((1 + x2 : Int32)).toNatClampNeg) + (f_X8_spanOf SM ((nI j_64) / 50))) - (f_X8_spanOf SM ((nI j_64) - (nI j_64) / 50 * 50))) = z87
                        refine ww_istore (pc := 166) (lv' := [(13, .int z87), (12, .int z85), (11, .int (f_X8_spanOf SM ((nI j_64) / 50))), (10, .int (f_X8_spanOf SM ((nI j_64) - (nI j_64) / 50 * 50))), (9, .int (f_X8_spanOf SM ((nI j_64) / 50))), (8, .int ((nI j_64) - (nI j_64) / 50 * 50)), (7, .int ((nI j_64) / 50)), (0, .ref (rM 0)), (1, .int x1), (2, .int x2), (3, .int x3), (4, .int ((it_X8_both_64 SM x1 x2 x3 ((-1), (-1)) j_64).1)), (5, .int ((it_X8_both_64 SM x1 x2 x3 ((-1), (-1)) j_64).2)), (6, .int (nI j_64))]) X dX8_both_166 (by decide) rfl ?_
                        refine ww_iload (pc := 168) X dX8_both_168 1 rfl ?_
                        refine ww_iload (pc := 170) X dX8_both_170 0 rfl ?_
                        refine ww_icmp_ne (pc := 172) (tgt := 212) X dX8_both_172 (by decide) (fun c88 => ?_) (fun c88 => ?_)
                        · refine ww_iconst (pc := 212) (v := 0) X dX8_both_212 (by decide) ?_
                          refine ww_istore (pc := 213) (lv' := [(14, .int 0), (13, .int z87), (12, .int z85), (11, .int (f_X8_spanOf SM ((nI j_64) / 50))), (10, .int (f_X8_spanOf SM ((nI j_64) - (nI j_64) / 50 * 50))), (9, .int (f_X8_spanOf SM ((nI j_64) / 50))), (8, .int ((nI j_64) - (nI j_64) / 50 * 50)), (7, .int ((nI j_64) / 50)), (0, .ref (rM 0)), (1, .int x1), (2, .int x2), (3, .int x3), (4, .int ((it_X8_both_64 SM x1 x2 x3 ((-1), (-1)) j_64).1)), (5, .int ((it_X8_both_64 SM x1 x2 x3 ((-1), (-1)) j_64).2)), (6, .int (nI j_64))]) X dX8_both_213 (by decide) rfl ?_
                          refine ww_iload (pc := 215) X dX8_both_215 0 rfl ?_
                          refine ww_if_eq (pc := 217) (tgt := 225) X dX8_both_217 (by decide) (fun _ => ?_) (fun c89 => absurd (by decide) c89)
                          refine ww_iload (pc := 225) X dX8_both_225 12 rfl ?_
                          refine ww_istore (pc := 227) (lv' := [(4, .int ((it_X8_both_64 SM x1 x2 x3 ((-1), (-1)) j_64).1)), (14, .int 0), (13, .int z87), (12, .int z85), (11, .int (f_X8_spanOf SM ((nI j_64) / 50))), (10, .int (f_X8_spanOf SM ((nI j_64) - (nI j_64) / 50 * 50))), (9, .int (f_X8_spanOf SM ((nI j_64) / 50))), (8, .int ((nI j_64) - (nI j_64) / 50 * 50)), (7, .int ((nI j_64) / 50)), (0, .ref (rM 0)), (1, .int x1), (2, .int x2), (3, .int x3), (5, .int ((it_X8_both_64 SM x1 x2 x3 ((-1), (-1)) j_64).2)), (6, .int (nI j_64))]) X dX8_both_227 (by decide) rfl ?_
                          refine ww_iload (pc := 229) X dX8_both_229 1 rfl ?_
                          refine ww_if_eq (pc := 231) (tgt := 245) X dX8_both_231 (by decide) (fun _ => ?_) (fun c90 => absurd (by decide) c90)
                          refine ww_iload (pc := 245) X dX8_both_245 13 rfl ?_
                          refine ww_istore (pc := 247) (lv' := [(5, .int ((it_X8_both_64 SM x1 x2 x3 ((-1), (-1)) j_64).2)), (4, .int ((it_X8_both_64 SM x1 x2 x3 ((-1), (-1)) j_64).1)), (14, .int 0), (13, .int z87), (12, .int z85), (11, .int (f_X8_spanOf SM ((nI j_64) / 50))), (10, .int (f_X8_spanOf SM ((nI j_64) - (nI j_64) / 50 * 50))), (9, .int (f_X8_spanOf SM ((nI j_64) / 50))), (8, .int ((nI j_64) - (nI j_64) / 50 * 50)), (7, .int ((nI j_64) / 50)), (0, .ref (rM 0)), (1, .int x1), (2, .int x2), (3, .int x3), (6, .int (nI j_64))]) X dX8_both_247 (by decide) rfl ?_
                          refine ww_iinc (pc := 249) (v := (nI j_64) + 1) (lv' := [(6, .int ((nI j_64) + 1)), (5, .int ((it_X8_both_64 SM x1 x2 x3 ((-1), (-1)) j_64).2)), (4, .int ((it_X8_both_64 SM x1 x2 x3 ((-1), (-1)) j_64).1)), (14, .int 0), (13, .int z87), (12, .int z85), (11, .int (f_X8_spanOf SM ((nI j_64) / 50))), (10, .int (f_X8_spanOf SM ((nI j_64) - (nI j_64) / 50 * 50))), (9, .int (f_X8_spanOf SM ((nI j_64) / 50))), (8, .int ((nI j_64) - (nI j_64) / 50 * 50)), (7, .int ((nI j_64) / 50)), (0, .ref (rM 0)), (1, .int x1), (2, .int x2), (3, .int x3)]) X dX8_both_249 14 rfl rfl (by decide) rfl ?_
                          refine ww_goto (pc := 252) (tgt := 64) X dX8_both_252 (by decide) ?_
                          have h91 : (it_X8_both_64 SM x1 x2 x3 ((-1), (-1)) (j_64 + 1)) = ((it_X8_both_64 SM x1 x2 x3 ((-1), (-1)) j_64).1, (it_X8_both_64 SM x1 x2 x3 ((-1), (-1)) j_64).2) := by
                            show bd_X8_both_64 SM x1 x2 x3 j_64 (it_X8_both_64 SM x1 x2 x3 ((-1), (-1)) j_64) = _; unfold bd_X8_both_64; try rw [if_neg c52, if_neg c54, if_neg c56, hz85]; try unfold bd_X8_both_64_k3; try rw [hz87]; try unfold bd_X8_both_64_k4; try rw [if_neg c88]; first | done | rfl
                          refine ww_lsub [11, 12, 13, 14, 2, 1, 0] rfl ?_
                          exact ww_castI (fun u9 : Int32 × Int32 => fl [wX8 cI cZ cQ rM SM]) (fun (u9 : Int32 × Int32) (i9 : Int32) => ([(0, .ref (rM 0)), (1, .int x1), (2, .int x2), (3, .int x3), (4, .int u9.1), (5, .int u9.2), (6, .int i9)] : List (Nat × Value))) h91 (ih (j_64 + 1) (by omega) K)
                        · refine ww_iload (pc := 175) X dX8_both_175 1 rfl ?_
                          refine ww_aload_n (pc := 177) X dX8_both_177 7 rfl rfl ?_
                          refine ww_iload_n (pc := 178) X dX8_both_178 8 rfl rfl ?_
                          refine ww_gVi (pc := 179) (rest := [.int z85]) (gsN := [wX8 cI cZ cQ rM SM]) (ci := 8) (gi := 0) (qi := 0) X (c_X8_end l D cI cZ cQ rM SM x1 (in_X8_isPerson okM c1)) gX8_both_X8_end rfl hd_X8_end [true] rfl rfl rfl rfl rfl rfl rfl rfl ⟨rfl, rfl⟩ ⟨Nat.le_of_ble_eq_true rfl, Nat.le_of_ble_eq_true rfl⟩ (Nat.le_of_ble_eq_true rfl) ⟨Nat.zero_le _, Nat.zero_le _⟩ dX8_both_179 ?_
                          refine ww_icmp_ge (pc := 182) (tgt := 212) X dX8_both_182 (by decide) (fun c92 => ?_) (fun c92 => ?_)
                          · refine ww_iconst (pc := 212) (v := 0) X dX8_both_212 (by decide) ?_
                            refine ww_istore (pc := 213) (lv' := [(14, .int 0), (13, .int z87), (12, .int z85), (11, .int (f_X8_spanOf SM ((nI j_64) / 50))), (10, .int (f_X8_spanOf SM ((nI j_64) - (nI j_64) / 50 * 50))), (9, .int (f_X8_spanOf SM ((nI j_64) / 50))), (8, .int ((nI j_64) - (nI j_64) / 50 * 50)), (7, .int ((nI j_64) / 50)), (0, .ref (rM 0)), (1, .int x1), (2, .int x2), (3, .int x3), (4, .int ((it_X8_both_64 SM x1 x2 x3 ((-1), (-1)) j_64).1)), (5, .int ((it_X8_both_64 SM x1 x2 x3 ((-1), (-1)) j_64).2)), (6, .int (nI j_64))]) X dX8_both_213 (by decide) rfl ?_
                            refine ww_iload (pc := 215) X dX8_both_215 0 rfl ?_
                            refine ww_if_eq (pc := 217) (tgt := 225) X dX8_both_217 (by decide) (fun _ => ?_) (fun c93 => absurd (by decide) c93)
                            refine ww_iload (pc := 225) X dX8_both_225 12 rfl ?_
                            refine ww_istore (pc := 227) (lv' := [(4, .int ((it_X8_both_64 SM x1 x2 x3 ((-1), (-1)) j_64).1)), (14, .int 0), (13, .int z87), (12, .int z85), (11, .int (f_X8_spanOf SM ((nI j_64) / 50))), (10, .int (f_X8_spanOf SM ((nI j_64) - (nI j_64) / 50 * 50))), (9, .int (f_X8_spanOf SM ((nI j_64) / 50))), (8, .int ((nI j_64) - (nI j_64) / 50 * 50)), (7, .int ((nI j_64) / 50)), (0, .ref (rM 0)), (1, .int x1), (2, .int x2), (3, .int x3), (5, .int ((it_X8_both_64 SM x1 x2 x3 ((-1), (-1)) j_64).2)), (6, .int (nI j_64))]) X dX8_both_227 (by decide) rfl ?_
                            refine ww_iload (pc := 229) X dX8_both_229 1 rfl ?_
                            refine ww_if_eq (pc := 231) (tgt := 245) X dX8_both_231 (by decide) (fun _ => ?_) (fun c94 => absurd (by decide) c94)
                            refine ww_iload (pc := 245) X dX8_both_245 13 rfl ?_
                            refine ww_istore (pc := 247) (lv' := [(5, .int ((it_X8_both_64 SM x1 x2 x3 ((-1), (-1)) j_64).2)), (4, .int ((it_X8_both_64 SM x1 x2 x3 ((-1), (-1)) j_64).1)), (14, .int 0), (13, .int z87), (12, .int z85), (11, .int (f_X8_spanOf SM ((nI j_64) / 50))), (10, .int (f_X8_spanOf SM ((nI j_64) - (nI j_64) / 50 * 50))), (9, .int (f_X8_spanOf SM ((nI j_64) / 50))), (8, .int ((nI j_64) - (nI j_64) / 50 * 50)), (7, .int ((nI j_64) / 50)), (0, .ref (rM 0)), (1, .int x1), (2, .int x2), (3, .int x3), (6, .int (nI j_64))]) X dX8_both_247 (by decide) rfl ?_
                            refine ww_iinc (pc := 249) (v := (nI j_64) + 1) (lv' := [(6, .int ((nI j_64) + 1)), (5, .int ((it_X8_both_64 SM x1 x2 x3 ((-1), (-1)) j_64).2)), (4, .int ((it_X8_both_64 SM x1 x2 x3 ((-1), (-1)) j_64).1)), (14, .int 0), (13, .int z87), (12, .int z85), (11, .int (f_X8_spanOf SM ((nI j_64) / 50))), (10, .int (f_X8_spanOf SM ((nI j_64) - (nI j_64) / 50 * 50))), (9, .int (f_X8_spanOf SM ((nI j_64) / 50))), (8, .int ((nI j_64) - (nI j_64) / 50 * 50)), (7, .int ((nI j_64) / 50)), (0, .ref (rM 0)), (1, .int x1), (2, .int x2), (3, .int x3)]) X dX8_both_249 14 rfl rfl (by decide) rfl ?_
                            refine ww_goto (pc := 252) (tgt := 64) X dX8_both_252 (by decide) ?_
                            have h95 : (it_X8_both_64 SM x1 x2 x3 ((-1), (-1)) (j_64 + 1)) = ((it_X8_both_64 SM x1 x2 x3 ((-1), (-1)) j_64).1, (it_X8_both_64 SM x1 x2 x3 ((-1), (-1)) j_64).2) := by
                              show bd_X8_both_64 SM x1 x2 x3 j_64 (it_X8_both_64 SM x1 x2 x3 ((-1), (-1)) j_64) = _; unfold bd_X8_both_64; try rw [if_neg c52, if_neg c54, if_neg c56, hz85]; try unfold bd_X8_both_64_k3; try rw [hz87]; try unfold bd_X8_both_64_k4; try rw [if_pos c88, if_pos c92]; first | done | rfl
                            refine ww_lsub [11, 12, 13, 14, 2, 1, 0] rfl ?_
                            exact ww_castI (fun u9 : Int32 × Int32 => fl [wX8 cI cZ cQ rM SM]) (fun (u9 : Int32 × Int32) (i9 : Int32) => ([(0, .ref (rM 0)), (1, .int x1), (2, .int x2), (3, .int x3), (4, .int u9.1), (5, .int u9.2), (6, .int i9)] : List (Nat × Value))) h95 (ih (j_64 + 1) (by omega) K)
                          · refine ww_iload (pc := 185) X dX8_both_185 0 rfl ?_
                            refine ww_aload_n (pc := 187) X dX8_both_187 7 rfl rfl ?_
                            refine ww_iload_n (pc := 188) X dX8_both_188 9 rfl rfl ?_
                            refine ww_gVi (pc := 189) (rest := [.int z87]) (gsN := [wX8 cI cZ cQ rM SM]) (ci := 8) (gi := 0) (qi := 0) X (c_X8_end l D cI cZ cQ rM SM x2 (in_X8_isPerson okM c2)) gX8_both_X8_end rfl hd_X8_end [true] rfl rfl rfl rfl rfl rfl rfl rfl ⟨rfl, rfl⟩ ⟨Nat.le_of_ble_eq_true rfl, Nat.le_of_ble_eq_true rfl⟩ (Nat.le_of_ble_eq_true rfl) ⟨Nat.zero_le _, Nat.zero_le _⟩ dX8_both_189 ?_
                            refine ww_icmp_ge (pc := 192) (tgt := 212) X dX8_both_192 (by decide) (fun c96 => ?_) (fun c96 => ?_)
                            · refine ww_iconst (pc := 212) (v := 0) X dX8_both_212 (by decide) ?_
                              refine ww_istore (pc := 213) (lv' := [(14, .int 0), (13, .int z87), (12, .int z85), (11, .int (f_X8_spanOf SM ((nI j_64) / 50))), (10, .int (f_X8_spanOf SM ((nI j_64) - (nI j_64) / 50 * 50))), (9, .int (f_X8_spanOf SM ((nI j_64) / 50))), (8, .int ((nI j_64) - (nI j_64) / 50 * 50)), (7, .int ((nI j_64) / 50)), (0, .ref (rM 0)), (1, .int x1), (2, .int x2), (3, .int x3), (4, .int ((it_X8_both_64 SM x1 x2 x3 ((-1), (-1)) j_64).1)), (5, .int ((it_X8_both_64 SM x1 x2 x3 ((-1), (-1)) j_64).2)), (6, .int (nI j_64))]) X dX8_both_213 (by decide) rfl ?_
                              refine ww_iload (pc := 215) X dX8_both_215 0 rfl ?_
                              refine ww_if_eq (pc := 217) (tgt := 225) X dX8_both_217 (by decide) (fun _ => ?_) (fun c97 => absurd (by decide) c97)
                              refine ww_iload (pc := 225) X dX8_both_225 12 rfl ?_
                              refine ww_istore (pc := 227) (lv' := [(4, .int ((it_X8_both_64 SM x1 x2 x3 ((-1), (-1)) j_64).1)), (14, .int 0), (13, .int z87), (12, .int z85), (11, .int (f_X8_spanOf SM ((nI j_64) / 50))), (10, .int (f_X8_spanOf SM ((nI j_64) - (nI j_64) / 50 * 50))), (9, .int (f_X8_spanOf SM ((nI j_64) / 50))), (8, .int ((nI j_64) - (nI j_64) / 50 * 50)), (7, .int ((nI j_64) / 50)), (0, .ref (rM 0)), (1, .int x1), (2, .int x2), (3, .int x3), (5, .int ((it_X8_both_64 SM x1 x2 x3 ((-1), (-1)) j_64).2)), (6, .int (nI j_64))]) X dX8_both_227 (by decide) rfl ?_
                              refine ww_iload (pc := 229) X dX8_both_229 1 rfl ?_
                              refine ww_if_eq (pc := 231) (tgt := 245) X dX8_both_231 (by decide) (fun _ => ?_) (fun c98 => absurd (by decide) c98)
                              refine ww_iload (pc := 245) X dX8_both_245 13 rfl ?_
                              refine ww_istore (pc := 247) (lv' := [(5, .int ((it_X8_both_64 SM x1 x2 x3 ((-1), (-1)) j_64).2)), (4, .int ((it_X8_both_64 SM x1 x2 x3 ((-1), (-1)) j_64).1)), (14, .int 0), (13, .int z87), (12, .int z85), (11, .int (f_X8_spanOf SM ((nI j_64) / 50))), (10, .int (f_X8_spanOf SM ((nI j_64) - (nI j_64) / 50 * 50))), (9, .int (f_X8_spanOf SM ((nI j_64) / 50))), (8, .int ((nI j_64) - (nI j_64) / 50 * 50)), (7, .int ((nI j_64) / 50)), (0, .ref (rM 0)), (1, .int x1), (2, .int x2), (3, .int x3), (6, .int (nI j_64))]) X dX8_both_247 (by decide) rfl ?_
                              refine ww_iinc (pc := 249) (v := (nI j_64) + 1) (lv' := [(6, .int ((nI j_64) + 1)), (5, .int ((it_X8_both_64 SM x1 x2 x3 ((-1), (-1)) j_64).2)), (4, .int ((it_X8_both_64 SM x1 x2 x3 ((-1), (-1)) j_64).1)), (14, .int 0), (13, .int z87), (12, .int z85), (11, .int (f_X8_spanOf SM ((nI j_64) / 50))), (10, .int (f_X8_spanOf SM ((nI j_64) - (nI j_64) / 50 * 50))), (9, .int (f_X8_spanOf SM ((nI j_64) / 50))), (8, .int ((nI j_64) - (nI j_64) / 50 * 50)), (7, .int ((nI j_64) / 50)), (0, .ref (rM 0)), (1, .int x1), (2, .int x2), (3, .int x3)]) X dX8_both_249 14 rfl rfl (by decide) rfl ?_
                              refine ww_goto (pc := 252) (tgt := 64) X dX8_both_252 (by decide) ?_
                              have h99 : (it_X8_both_64 SM x1 x2 x3 ((-1), (-1)) (j_64 + 1)) = ((it_X8_both_64 SM x1 x2 x3 ((-1), (-1)) j_64).1, (it_X8_both_64 SM x1 x2 x3 ((-1), (-1)) j_64).2) := by
                                show bd_X8_both_64 SM x1 x2 x3 j_64 (it_X8_both_64 SM x1 x2 x3 ((-1), (-1)) j_64) = _; unfold bd_X8_both_64; try rw [if_neg c52, if_neg c54, if_neg c56, hz85]; try unfold bd_X8_both_64_k3; try rw [hz87]; try unfold bd_X8_both_64_k4; try rw [if_pos c88, if_neg c92, if_pos c96]; first | done | rfl
                              refine ww_lsub [11, 12, 13, 14, 2, 1, 0] rfl ?_
                              exact ww_castI (fun u9 : Int32 × Int32 => fl [wX8 cI cZ cQ rM SM]) (fun (u9 : Int32 × Int32) (i9 : Int32) => ([(0, .ref (rM 0)), (1, .int x1), (2, .int x2), (3, .int x3), (4, .int u9.1), (5, .int u9.2), (6, .int i9)] : List (Nat × Value))) h99 (ih (j_64 + 1) (by omega) K)
                            · refine ww_iload (pc := 195) X dX8_both_195 12 rfl ?_
                              refine ww_iconst (pc := 197) (v := (-1)) X dX8_both_197 (by decide) ?_
                              refine ww_icmp_eq (pc := 198) (tgt := 208) X dX8_both_198 (by decide) (fun c100 => ?_) (fun c100 => ?_)
                              · refine ww_iconst (pc := 208) (v := 1) X dX8_both_208 (by decide) ?_
                                refine ww_goto (pc := 209) (tgt := 213) X dX8_both_209 (by decide) ?_
                                refine ww_istore (pc := 213) (lv' := [(14, .int 1), (13, .int z87), (12, .int z85), (11, .int (f_X8_spanOf SM ((nI j_64) / 50))), (10, .int (f_X8_spanOf SM ((nI j_64) - (nI j_64) / 50 * 50))), (9, .int (f_X8_spanOf SM ((nI j_64) / 50))), (8, .int ((nI j_64) - (nI j_64) / 50 * 50)), (7, .int ((nI j_64) / 50)), (0, .ref (rM 0)), (1, .int x1), (2, .int x2), (3, .int x3), (4, .int ((it_X8_both_64 SM x1 x2 x3 ((-1), (-1)) j_64).1)), (5, .int ((it_X8_both_64 SM x1 x2 x3 ((-1), (-1)) j_64).2)), (6, .int (nI j_64))]) X dX8_both_213 (by decide) rfl ?_
                                refine ww_iload (pc := 215) X dX8_both_215 0 rfl ?_
                                refine ww_if_eq (pc := 217) (tgt := 225) X dX8_both_217 (by decide) (fun c101 => absurd c101 (by decide)) (fun _ => ?_)
                                refine ww_iload (pc := 220) X dX8_both_220 3 rfl ?_
                                refine ww_goto (pc := 222) (tgt := 227) X dX8_both_222 (by decide) ?_
                                refine ww_istore (pc := 227) (lv' := [(4, .int (f_X8_spanOf SM ((nI j_64) / 50))), (14, .int 1), (13, .int z87), (12, .int z85), (11, .int (f_X8_spanOf SM ((nI j_64) / 50))), (10, .int (f_X8_spanOf SM ((nI j_64) - (nI j_64) / 50 * 50))), (9, .int (f_X8_spanOf SM ((nI j_64) / 50))), (8, .int ((nI j_64) - (nI j_64) / 50 * 50)), (7, .int ((nI j_64) / 50)), (0, .ref (rM 0)), (1, .int x1), (2, .int x2), (3, .int x3), (5, .int ((it_X8_both_64 SM x1 x2 x3 ((-1), (-1)) j_64).2)), (6, .int (nI j_64))]) X dX8_both_227 (by decide) rfl ?_
                                refine ww_iload (pc := 229) X dX8_both_229 1 rfl ?_
                                refine ww_if_eq (pc := 231) (tgt := 245) X dX8_both_231 (by decide) (fun c102 => absurd c102 (by decide)) (fun _ => ?_)
                                refine ww_bipush (pc := 234) (v := 100) X dX8_both_234 (by decide) ?_
                                refine ww_iload (pc := 236) X dX8_both_236 8 rfl ?_
                                refine ww_imul (pc := 238) X dX8_both_238 ?_
                                refine ww_iload (pc := 239) X dX8_both_239 7 rfl ?_
                                refine ww_iadd (pc := 241) X dX8_both_241 ?_
                                refine ww_goto (pc := 242) (tgt := 247) X dX8_both_242 (by decide) ?_
                                refine ww_istore (pc := 247) (lv' := [(5, .int ((100 * ((nI j_64) / 50)) + ((nI j_64) - (nI j_64) / 50 * 50))), (4, .int (f_X8_spanOf SM ((nI j_64) / 50))), (14, .int 1), (13, .int z87), (12, .int z85), (11, .int (f_X8_spanOf SM ((nI j_64) / 50))), (10, .int (f_X8_spanOf SM ((nI j_64) - (nI j_64) / 50 * 50))), (9, .int (f_X8_spanOf SM ((nI j_64) / 50))), (8, .int ((nI j_64) - (nI j_64) / 50 * 50)), (7, .int ((nI j_64) / 50)), (0, .ref (rM 0)), (1, .int x1), (2, .int x2), (3, .int x3), (6, .int (nI j_64))]) X dX8_both_247 (by decide) rfl ?_
                                refine ww_iinc (pc := 249) (v := (nI j_64) + 1) (lv' := [(6, .int ((nI j_64) + 1)), (5, .int ((100 * ((nI j_64) / 50)) + ((nI j_64) - (nI j_64) / 50 * 50))), (4, .int (f_X8_spanOf SM ((nI j_64) / 50))), (14, .int 1), (13, .int z87), (12, .int z85), (11, .int (f_X8_spanOf SM ((nI j_64) / 50))), (10, .int (f_X8_spanOf SM ((nI j_64) - (nI j_64) / 50 * 50))), (9, .int (f_X8_spanOf SM ((nI j_64) / 50))), (8, .int ((nI j_64) - (nI j_64) / 50 * 50)), (7, .int ((nI j_64) / 50)), (0, .ref (rM 0)), (1, .int x1), (2, .int x2), (3, .int x3)]) X dX8_both_249 14 rfl rfl (by decide) rfl ?_
                                refine ww_goto (pc := 252) (tgt := 64) X dX8_both_252 (by decide) ?_
                                have h103 : (it_X8_both_64 SM x1 x2 x3 ((-1), (-1)) (j_64 + 1)) = (f_X8_spanOf SM ((nI j_64) / 50), (100 * ((nI j_64) / 50)) + ((nI j_64) - (nI j_64) / 50 * 50)) := by
                                  show bd_X8_both_64 SM x1 x2 x3 j_64 (it_X8_both_64 SM x1 x2 x3 ((-1), (-1)) j_64) = _; unfold bd_X8_both_64; try rw [if_neg c52, if_neg c54, if_neg c56, hz85]; try unfold bd_X8_both_64_k3; try rw [hz87]; try unfold bd_X8_both_64_k4; try rw [if_pos c88, if_neg c92, if_neg c96, if_pos c100]; first | done | rfl
                                refine ww_lsub [11, 12, 13, 14, 2, 1, 0] rfl ?_
                                exact ww_castI (fun u9 : Int32 × Int32 => fl [wX8 cI cZ cQ rM SM]) (fun (u9 : Int32 × Int32) (i9 : Int32) => ([(0, .ref (rM 0)), (1, .int x1), (2, .int x2), (3, .int x3), (4, .int u9.1), (5, .int u9.2), (6, .int i9)] : List (Nat × Value))) h103 (ih (j_64 + 1) (by omega) K)
                              · refine ww_iload (pc := 201) X dX8_both_201 2 rfl ?_
                                refine ww_iload (pc := 203) X dX8_both_203 11 rfl ?_
                                refine ww_icmp_ge (pc := 205) (tgt := 212) X dX8_both_205 (by decide) (fun c104 => ?_) (fun c104 => ?_)
                                · refine ww_iconst (pc := 212) (v := 0) X dX8_both_212 (by decide) ?_
                                  refine ww_istore (pc := 213) (lv' := [(14, .int 0), (13, .int z87), (12, .int z85), (11, .int (f_X8_spanOf SM ((nI j_64) / 50))), (10, .int (f_X8_spanOf SM ((nI j_64) - (nI j_64) / 50 * 50))), (9, .int (f_X8_spanOf SM ((nI j_64) / 50))), (8, .int ((nI j_64) - (nI j_64) / 50 * 50)), (7, .int ((nI j_64) / 50)), (0, .ref (rM 0)), (1, .int x1), (2, .int x2), (3, .int x3), (4, .int ((it_X8_both_64 SM x1 x2 x3 ((-1), (-1)) j_64).1)), (5, .int ((it_X8_both_64 SM x1 x2 x3 ((-1), (-1)) j_64).2)), (6, .int (nI j_64))]) X dX8_both_213 (by decide) rfl ?_
                                  refine ww_iload (pc := 215) X dX8_both_215 0 rfl ?_
                                  refine ww_if_eq (pc := 217) (tgt := 225) X dX8_both_217 (by decide) (fun _ => ?_) (fun c105 => absurd (by decide) c105)
                                  refine ww_iload (pc := 225) X dX8_both_225 12 rfl ?_
                                  refine ww_istore (pc := 227) (lv' := [(4, .int ((it_X8_both_64 SM x1 x2 x3 ((-1), (-1)) j_64).1)), (14, .int 0), (13, .int z87), (12, .int z85), (11, .int (f_X8_spanOf SM ((nI j_64) / 50))), (10, .int (f_X8_spanOf SM ((nI j_64) - (nI j_64) / 50 * 50))), (9, .int (f_X8_spanOf SM ((nI j_64) / 50))), (8, .int ((nI j_64) - (nI j_64) / 50 * 50)), (7, .int ((nI j_64) / 50)), (0, .ref (rM 0)), (1, .int x1), (2, .int x2), (3, .int x3), (5, .int ((it_X8_both_64 SM x1 x2 x3 ((-1), (-1)) j_64).2)), (6, .int (nI j_64))]) X dX8_both_227 (by decide) rfl ?_
                                  refine ww_iload (pc := 229) X dX8_both_229 1 rfl ?_
                                  refine ww_if_eq (pc := 231) (tgt := 245) X dX8_both_231 (by decide) (fun _ => ?_) (fun c106 => absurd (by decide) c106)
                                  refine ww_iload (pc := 245) X dX8_both_245 13 rfl ?_
                                  refine ww_istore (pc := 247) (lv' := [(5, .int ((it_X8_both_64 SM x1 x2 x3 ((-1), (-1)) j_64).2)), (4, .int ((it_X8_both_64 SM x1 x2 x3 ((-1), (-1)) j_64).1)), (14, .int 0), (13, .int z87), (12, .int z85), (11, .int (f_X8_spanOf SM ((nI j_64) / 50))), (10, .int (f_X8_spanOf SM ((nI j_64) - (nI j_64) / 50 * 50))), (9, .int (f_X8_spanOf SM ((nI j_64) / 50))), (8, .int ((nI j_64) - (nI j_64) / 50 * 50)), (7, .int ((nI j_64) / 50)), (0, .ref (rM 0)), (1, .int x1), (2, .int x2), (3, .int x3), (6, .int (nI j_64))]) X dX8_both_247 (by decide) rfl ?_
                                  refine ww_iinc (pc := 249) (v := (nI j_64) + 1) (lv' := [(6, .int ((nI j_64) + 1)), (5, .int ((it_X8_both_64 SM x1 x2 x3 ((-1), (-1)) j_64).2)), (4, .int ((it_X8_both_64 SM x1 x2 x3 ((-1), (-1)) j_64).1)), (14, .int 0), (13, .int z87), (12, .int z85), (11, .int (f_X8_spanOf SM ((nI j_64) / 50))), (10, .int (f_X8_spanOf SM ((nI j_64) - (nI j_64) / 50 * 50))), (9, .int (f_X8_spanOf SM ((nI j_64) / 50))), (8, .int ((nI j_64) - (nI j_64) / 50 * 50)), (7, .int ((nI j_64) / 50)), (0, .ref (rM 0)), (1, .int x1), (2, .int x2), (3, .int x3)]) X dX8_both_249 14 rfl rfl (by decide) rfl ?_
                                  refine ww_goto (pc := 252) (tgt := 64) X dX8_both_252 (by decide) ?_
                                  have h107 : (it_X8_both_64 SM x1 x2 x3 ((-1), (-1)) (j_64 + 1)) = ((it_X8_both_64 SM x1 x2 x3 ((-1), (-1)) j_64).1, (it_X8_both_64 SM x1 x2 x3 ((-1), (-1)) j_64).2) := by
                                    show bd_X8_both_64 SM x1 x2 x3 j_64 (it_X8_both_64 SM x1 x2 x3 ((-1), (-1)) j_64) = _; unfold bd_X8_both_64; try rw [if_neg c52, if_neg c54, if_neg c56, hz85]; try unfold bd_X8_both_64_k3; try rw [hz87]; try unfold bd_X8_both_64_k4; try rw [if_pos c88, if_neg c92, if_neg c96, if_neg c100, if_pos c104]; first | done | rfl
                                  refine ww_lsub [11, 12, 13, 14, 2, 1, 0] rfl ?_
                                  exact ww_castI (fun u9 : Int32 × Int32 => fl [wX8 cI cZ cQ rM SM]) (fun (u9 : Int32 × Int32) (i9 : Int32) => ([(0, .ref (rM 0)), (1, .int x1), (2, .int x2), (3, .int x3), (4, .int u9.1), (5, .int u9.2), (6, .int i9)] : List (Nat × Value))) h107 (ih (j_64 + 1) (by omega) K)
                                · refine ww_iconst (pc := 208) (v := 1) X dX8_both_208 (by decide) ?_
                                  refine ww_goto (pc := 209) (tgt := 213) X dX8_both_209 (by decide) ?_
                                  refine ww_istore (pc := 213) (lv' := [(14, .int 1), (13, .int z87), (12, .int z85), (11, .int (f_X8_spanOf SM ((nI j_64) / 50))), (10, .int (f_X8_spanOf SM ((nI j_64) - (nI j_64) / 50 * 50))), (9, .int (f_X8_spanOf SM ((nI j_64) / 50))), (8, .int ((nI j_64) - (nI j_64) / 50 * 50)), (7, .int ((nI j_64) / 50)), (0, .ref (rM 0)), (1, .int x1), (2, .int x2), (3, .int x3), (4, .int ((it_X8_both_64 SM x1 x2 x3 ((-1), (-1)) j_64).1)), (5, .int ((it_X8_both_64 SM x1 x2 x3 ((-1), (-1)) j_64).2)), (6, .int (nI j_64))]) X dX8_both_213 (by decide) rfl ?_
                                  refine ww_iload (pc := 215) X dX8_both_215 0 rfl ?_
                                  refine ww_if_eq (pc := 217) (tgt := 225) X dX8_both_217 (by decide) (fun c108 => absurd c108 (by decide)) (fun _ => ?_)
                                  refine ww_iload (pc := 220) X dX8_both_220 3 rfl ?_
                                  refine ww_goto (pc := 222) (tgt := 227) X dX8_both_222 (by decide) ?_
                                  refine ww_istore (pc := 227) (lv' := [(4, .int (f_X8_spanOf SM ((nI j_64) / 50))), (14, .int 1), (13, .int z87), (12, .int z85), (11, .int (f_X8_spanOf SM ((nI j_64) / 50))), (10, .int (f_X8_spanOf SM ((nI j_64) - (nI j_64) / 50 * 50))), (9, .int (f_X8_spanOf SM ((nI j_64) / 50))), (8, .int ((nI j_64) - (nI j_64) / 50 * 50)), (7, .int ((nI j_64) / 50)), (0, .ref (rM 0)), (1, .int x1), (2, .int x2), (3, .int x3), (5, .int ((it_X8_both_64 SM x1 x2 x3 ((-1), (-1)) j_64).2)), (6, .int (nI j_64))]) X dX8_both_227 (by decide) rfl ?_
                                  refine ww_iload (pc := 229) X dX8_both_229 1 rfl ?_
                                  refine ww_if_eq (pc := 231) (tgt := 245) X dX8_both_231 (by decide) (fun c109 => absurd c109 (by decide)) (fun _ => ?_)
                                  refine ww_bipush (pc := 234) (v := 100) X dX8_both_234 (by decide) ?_
                                  refine ww_iload (pc := 236) X dX8_both_236 8 rfl ?_
                                  refine ww_imul (pc := 238) X dX8_both_238 ?_
                                  refine ww_iload (pc := 239) X dX8_both_239 7 rfl ?_
                                  refine ww_iadd (pc := 241) X dX8_both_241 ?_
                                  refine ww_goto (pc := 242) (tgt := 247) X dX8_both_242 (by decide) ?_
                                  refine ww_istore (pc := 247) (lv' := [(5, .int ((100 * ((nI j_64) / 50)) + ((nI j_64) - (nI j_64) / 50 * 50))), (4, .int (f_X8_spanOf SM ((nI j_64) / 50))), (14, .int 1), (13, .int z87), (12, .int z85), (11, .int (f_X8_spanOf SM ((nI j_64) / 50))), (10, .int (f_X8_spanOf SM ((nI j_64) - (nI j_64) / 50 * 50))), (9, .int (f_X8_spanOf SM ((nI j_64) / 50))), (8, .int ((nI j_64) - (nI j_64) / 50 * 50)), (7, .int ((nI j_64) / 50)), (0, .ref (rM 0)), (1, .int x1), (2, .int x2), (3, .int x3), (6, .int (nI j_64))]) X dX8_both_247 (by decide) rfl ?_
                                  refine ww_iinc (pc := 249) (v := (nI j_64) + 1) (lv' := [(6, .int ((nI j_64) + 1)), (5, .int ((100 * ((nI j_64) / 50)) + ((nI j_64) - (nI j_64) / 50 * 50))), (4, .int (f_X8_spanOf SM ((nI j_64) / 50))), (14, .int 1), (13, .int z87), (12, .int z85), (11, .int (f_X8_spanOf SM ((nI j_64) / 50))), (10, .int (f_X8_spanOf SM ((nI j_64) - (nI j_64) / 50 * 50))), (9, .int (f_X8_spanOf SM ((nI j_64) / 50))), (8, .int ((nI j_64) - (nI j_64) / 50 * 50)), (7, .int ((nI j_64) / 50)), (0, .ref (rM 0)), (1, .int x1), (2, .int x2), (3, .int x3)]) X dX8_both_249 14 rfl rfl (by decide) rfl ?_
                                  refine ww_goto (pc := 252) (tgt := 64) X dX8_both_252 (by decide) ?_
                                  have h110 : (it_X8_both_64 SM x1 x2 x3 ((-1), (-1)) (j_64 + 1)) = (f_X8_spanOf SM ((nI j_64) / 50), (100 * ((nI j_64) / 50)) + ((nI j_64) - (nI j_64) / 50 * 50)) := by
                                    show bd_X8_both_64 SM x1 x2 x3 j_64 (it_X8_both_64 SM x1 x2 x3 ((-1), (-1)) j_64) = _; unfold bd_X8_both_64; try rw [if_neg c52, if_neg c54, if_neg c56, hz85]; try unfold bd_X8_both_64_k3; try rw [hz87]; try unfold bd_X8_both_64_k4; try rw [if_pos c88, if_neg c92, if_neg c96, if_neg c100, if_neg c104]; first | done | rfl
                                  refine ww_lsub [11, 12, 13, 14, 2, 1, 0] rfl ?_
                                  exact ww_castI (fun u9 : Int32 × Int32 => fl [wX8 cI cZ cQ rM SM]) (fun (u9 : Int32 × Int32) (i9 : Int32) => ([(0, .ref (rM 0)), (1, .int x1), (2, .int x2), (3, .int x3), (4, .int u9.1), (5, .int u9.2), (6, .int i9)] : List (Nat × Value))) h110 (ih (j_64 + 1) (by omega) K)
              refine ww_lsub [3, 4, 5, 6, 2, 1, 0] rfl ?_
              refine L64 2500 0 (by omega) ?_
              generalize hz111 : ((it_X8_both_64 SM x1 x2 x3 ((-1), (-1)) 2500)) = z111
              refine ww_iload_n (pc := 255) X dX8_both_255 3 rfl rfl ?_
              refine ww_if_ne (pc := 256) (tgt := 264) X dX8_both_256 (by decide) (fun c112 => ?_) (fun c112 => ?_)
              · refine ww_iload (pc := 264) X dX8_both_264 5 rfl ?_
                exact ww_iret X hr rfl (Eq.symm (by unfold f_X8_both; try rw [if_neg c1, if_neg c2, if_neg c3, if_neg c4, if_neg c5, if_neg c6, hz111]; try unfold f_X8_both_k1; try rw [if_neg c112]; first | done | rfl)) rfl dX8_both_266
              · refine ww_iload (pc := 259) X dX8_both_259 4 rfl ?_
                refine ww_goto (pc := 261) (tgt := 266) X dX8_both_261 (by decide) ?_
                exact ww_iret X hr rfl (Eq.symm (by unfold f_X8_both; try rw [if_neg c1, if_neg c2, if_neg c3, if_neg c4, if_neg c5, if_neg c6, hz111]; try unfold f_X8_both_k1; try rw [if_pos c112]; first | done | rfl)) rfl dX8_both_266
            · refine ww_ldc (pc := 52) (v := (-1000000003)) X (by decide +kernel) dX8_both_52 ?_
              exact ww_iret X hr rfl (Eq.symm (by unfold f_X8_both; try rw [if_neg c1, if_neg c2, if_neg c3, if_neg c4, if_neg c5, if_pos c6]; first | done | rfl)) rfl dX8_both_54
        · refine ww_ldc (pc := 33) (v := (-1000000002)) X (by decide +kernel) dX8_both_33 ?_
          exact ww_iret X hr rfl (Eq.symm (by unfold f_X8_both; try rw [if_neg c1, if_neg c2, if_neg c3, if_pos c4]; first | done | rfl)) rfl dX8_both_35
      · refine ww_ldc (pc := 21) (v := (-1000000001)) X (by decide +kernel) dX8_both_21 ?_
        exact ww_iret X hr rfl (Eq.symm (by unfold f_X8_both; try rw [if_neg c1, if_neg c2, if_pos c3]; first | done | rfl)) rfl dX8_both_23
def f_X8_off (x0 : Int32) (x1 : Int32) : Int32 :=
  if x0 ≤ x1 then
    x1 - x0
  else
    x0 - x1
theorem hd_X8_off : yX8_off.cls = RX8 ∧ yX8_off.cls ≠ "java/lang/invoke/MethodHandle" ∧ yX8_off.cls ≠ "java/lang/invoke/VarHandle" ∧ (parseMethodDescriptor yX8_off.desc).map (fun d => d.parameters.length) = some 2 := by decide +kernel
set_option maxHeartbeats 4000000 in
set_option maxRecDepth 100000 in
theorem c_X8_off (l : Launch) (D : va_G) (cI cZ cQ : ClassId) (x0 : Int32) (x1 : Int32) : Ci l yX8_off wsX8_off { frames := 0, cells := 0, slots := 0, locals := 0 } D (tyL cI cZ cQ) [.int x0, .int x1] (fl []) (f_X8_off x0 x1) (fl []) := by
  refine ci_of (cc := cX8_off) (nL := 2) (ty := .int) (lv0 := [(0, .int x0), (1, .int x1)]) (by decide) rfl (Nat.le_of_ble_eq_true rfl) rfl ?_
  intro p e s m args below meth c A X hr
  refine ww_iload_n (pc := 0) X dX8_off_0 0 rfl rfl ?_
  refine ww_iload_n (pc := 1) X dX8_off_1 1 rfl rfl ?_
  refine ww_icmp_le (pc := 2) (tgt := 11) X dX8_off_2 (by decide) (fun c1 => ?_) (fun c1 => ?_)
  · refine ww_iload_n (pc := 11) X dX8_off_11 1 rfl rfl ?_
    refine ww_iload_n (pc := 12) X dX8_off_12 0 rfl rfl ?_
    refine ww_isub (pc := 13) X dX8_off_13 ?_
    exact ww_iret X hr rfl (Eq.symm (by unfold f_X8_off; try rw [if_pos c1]; first | done | rfl)) rfl dX8_off_14
  · refine ww_iload_n (pc := 5) X dX8_off_5 0 rfl rfl ?_
    refine ww_iload_n (pc := 6) X dX8_off_6 1 rfl rfl ?_
    refine ww_isub (pc := 7) X dX8_off_7 ?_
    refine ww_goto (pc := 8) (tgt := 14) X dX8_off_8 (by decide) ?_
    exact ww_iret X hr rfl (Eq.symm (by unfold f_X8_off; try rw [if_neg c1]; first | done | rfl)) rfl dX8_off_14
def bd_X8_meet_87_k2 (SM : St) (x1 : Int32) (x2 : Int32) (x3 : Int32) (x4 : Int32) (x5 : Int32) (j : Nat) (u : Int32 × Int32) (z10 : Int32) (z12 : Int32) : Int32 × Int32 :=
  if (f_X8_end SM x1) ≤ z10 then
    (u.1, u.2)
  else
    if u.1 = (-1) then
      ((nI j), z12)
    else
      if u.2 ≤ z12 then
        (u.1, u.2)
      else
        ((nI j), z12)
def bd_X8_meet_87_k1 (SM : St) (x1 : Int32) (x2 : Int32) (x3 : Int32) (x4 : Int32) (x5 : Int32) (j : Nat) (u : Int32 × Int32) (z10 : Int32) : Int32 × Int32 :=
  bd_X8_meet_87_k2 SM x1 x2 x3 x4 x5 j u z10 (f_X8_off (z10 - ((SM.2 9) ((1 + x2 : Int32)).toNatClampNeg)) x4)
def bd_X8_meet_87 (SM : St) (x1 : Int32) (x2 : Int32) (x3 : Int32) (x4 : Int32) (x5 : Int32) (j : Nat) (u : Int32 × Int32) : Int32 × Int32 :=
  bd_X8_meet_87_k1 SM x1 x2 x3 x4 x5 j u (((SM.2 9) ((1 + x1 : Int32)).toNatClampNeg) + ((nI j) * ((SM.2 2) ((x3 : Int32)).toNatClampNeg)))
def it_X8_meet_87 (SM : St) (x1 : Int32) (x2 : Int32) (x3 : Int32) (x4 : Int32) (x5 : Int32) (u : Int32 × Int32) : Nat → Int32 × Int32
  | 0 => u
  | j + 1 => bd_X8_meet_87 SM x1 x2 x3 x4 x5 j (it_X8_meet_87 SM x1 x2 x3 x4 x5 u j)
def f_X8_meet_k1 (SM : St) (x1 : Int32) (x2 : Int32) (x3 : Int32) (x4 : Int32) (x5 : Int32) (z43 : Int32 × Int32) : Int32 :=
  if x5 = 0 then
    z43.1
  else
    z43.2
def f_X8_meet (SM : St) (x1 : Int32) (x2 : Int32) (x3 : Int32) (x4 : Int32) (x5 : Int32) : Int32 :=
  if (f_X8_isPerson SM x1) = 0 then
    (-1000000001)
  else
    if (f_X8_isPerson SM x2) = 0 then
      (-1000000001)
    else
      if x1 = x2 then
        (-1000000001)
      else
        if (f_X8_isDepth SM x3) = 0 then
          (-1000000001)
        else
          if (f_X8_in x4 (-199) 199) = 0 then
            (-1000000002)
          else
            if (f_X8_in x5 0 1) = 0 then
              (-1000000002)
            else
              if (f_X8_isAbove SM x1) = 0 then
                (-1000000003)
              else
                if (f_X8_isAbove SM x2) = 0 then
                  (-1000000003)
                else
                  f_X8_meet_k1 SM x1 x2 x3 x4 x5 (it_X8_meet_87 SM x1 x2 x3 x4 x5 ((-1), (-1)) 100)
theorem inX8_meet_8 : ∀ w ∈ wsX80, w ∈ wsX8_meet := by decide +kernel
theorem hd_X8_meet : yX8_meet.cls = RX8 ∧ yX8_meet.cls ≠ "java/lang/invoke/MethodHandle" ∧ yX8_meet.cls ≠ "java/lang/invoke/VarHandle" ∧ (parseMethodDescriptor yX8_meet.desc).map (fun d => d.parameters.length) = some 5 := by decide +kernel
set_option maxHeartbeats 4000000 in
set_option maxRecDepth 100000 in
theorem c_X8_meet (l : Launch) (D : va_G) (cI cZ cQ : ClassId) (rM : Nat → Nat) (SM : St) (x1 : Int32) (x2 : Int32) (x3 : Int32) (x4 : Int32) (x5 : Int32) (okM : okM SM) : Ci l yX8_meet wsX8_meet { frames := 2, cells := 0, slots := 0, locals := 43 } D (tyL cI cZ cQ) [.ref (rM 0), .int x1, .int x2, .int x3, .int x4, .int x5] (fl [wX8 cI cZ cQ rM SM]) (f_X8_meet SM x1 x2 x3 x4 x5) (fl [wX8 cI cZ cQ rM SM]) := by
  refine ci_of (cc := cX8_meet) (nL := 12) (ty := .int) (lv0 := [(0, .ref (rM 0)), (1, .int x1), (2, .int x2), (3, .int x3), (4, .int x4), (5, .int x5)]) (by decide) rfl (Nat.le_of_ble_eq_true rfl) rfl ?_
  intro p e s m args below meth c A X hr
  refine ww_aload_n (pc := 0) X dX8_meet_0 0 rfl rfl ?_
  refine ww_iload_n (pc := 1) X dX8_meet_1 1 rfl rfl ?_
  refine ww_gVi (pc := 2) (rest := []) (gsN := [wX8 cI cZ cQ rM SM]) (ci := 8) (gi := 0) (qi := 0) X (c_X8_isPerson l D cI cZ cQ rM SM x1) gX8_meet_X8_isPerson rfl hd_X8_isPerson [true] rfl rfl rfl rfl rfl rfl rfl rfl ⟨rfl, rfl⟩ ⟨Nat.le_of_ble_eq_true rfl, Nat.le_of_ble_eq_true rfl⟩ (Nat.le_of_ble_eq_true rfl) ⟨Nat.zero_le _, Nat.zero_le _⟩ dX8_meet_2 ?_
  refine ww_if_eq (pc := 5) (tgt := 29) X dX8_meet_5 (by decide) (fun c1 => ?_) (fun c1 => ?_)
  · refine ww_ldc (pc := 29) (v := (-1000000001)) X (by decide +kernel) dX8_meet_29 ?_
    exact ww_iret X hr rfl (Eq.symm (by unfold f_X8_meet; try rw [if_pos c1]; first | done | rfl)) rfl dX8_meet_31
  · refine ww_aload_n (pc := 8) X dX8_meet_8 0 rfl rfl ?_
    refine ww_iload_n (pc := 9) X dX8_meet_9 2 rfl rfl ?_
    refine ww_gVi (pc := 10) (rest := []) (gsN := [wX8 cI cZ cQ rM SM]) (ci := 8) (gi := 0) (qi := 0) X (c_X8_isPerson l D cI cZ cQ rM SM x2) gX8_meet_X8_isPerson rfl hd_X8_isPerson [true] rfl rfl rfl rfl rfl rfl rfl rfl ⟨rfl, rfl⟩ ⟨Nat.le_of_ble_eq_true rfl, Nat.le_of_ble_eq_true rfl⟩ (Nat.le_of_ble_eq_true rfl) ⟨Nat.zero_le _, Nat.zero_le _⟩ dX8_meet_10 ?_
    refine ww_if_eq (pc := 13) (tgt := 29) X dX8_meet_13 (by decide) (fun c2 => ?_) (fun c2 => ?_)
    · refine ww_ldc (pc := 29) (v := (-1000000001)) X (by decide +kernel) dX8_meet_29 ?_
      exact ww_iret X hr rfl (Eq.symm (by unfold f_X8_meet; try rw [if_neg c1, if_pos c2]; first | done | rfl)) rfl dX8_meet_31
    · refine ww_iload_n (pc := 16) X dX8_meet_16 1 rfl rfl ?_
      refine ww_iload_n (pc := 17) X dX8_meet_17 2 rfl rfl ?_
      refine ww_icmp_eq (pc := 18) (tgt := 29) X dX8_meet_18 (by decide) (fun c3 => ?_) (fun c3 => ?_)
      · refine ww_ldc (pc := 29) (v := (-1000000001)) X (by decide +kernel) dX8_meet_29 ?_
        exact ww_iret X hr rfl (Eq.symm (by unfold f_X8_meet; try rw [if_neg c1, if_neg c2, if_pos c3]; first | done | rfl)) rfl dX8_meet_31
      · refine ww_aload_n (pc := 21) X dX8_meet_21 0 rfl rfl ?_
        refine ww_iload_n (pc := 22) X dX8_meet_22 3 rfl rfl ?_
        refine ww_gVi (pc := 23) (rest := []) (gsN := [wX8 cI cZ cQ rM SM]) (ci := 8) (gi := 0) (qi := 0) X (c_X8_isDepth l D cI cZ cQ rM SM x3) gX8_meet_X8_isDepth rfl hd_X8_isDepth [true] rfl rfl rfl rfl rfl rfl rfl rfl ⟨rfl, rfl⟩ ⟨Nat.le_of_ble_eq_true rfl, Nat.le_of_ble_eq_true rfl⟩ (Nat.le_of_ble_eq_true rfl) ⟨Nat.zero_le _, Nat.zero_le _⟩ dX8_meet_23 ?_
        refine ww_if_ne (pc := 26) (tgt := 32) X dX8_meet_26 (by decide) (fun c4 => ?_) (fun c4 => ?_)
        · refine ww_iload (pc := 32) X dX8_meet_32 4 rfl ?_
          refine ww_sipush (pc := 34) (v := (-199)) X dX8_meet_34 (by decide) ?_
          refine ww_sipush (pc := 37) (v := 199) X dX8_meet_37 (by decide) ?_
          refine ww_gSi (pc := 40) (rest := []) (gsN := [wX8 cI cZ cQ rM SM]) X (c_X8_in l D cI cZ cQ x4 (-199) 199) gX8_meet_X8_in rfl hd_X8_in [false] rfl rfl rfl rfl ⟨rfl, rfl⟩ ⟨Nat.le_of_ble_eq_true rfl, Nat.le_of_ble_eq_true rfl⟩ (Nat.le_of_ble_eq_true rfl) ⟨Nat.zero_le _, Nat.zero_le _⟩ dX8_meet_40 ?_
          refine ww_if_eq (pc := 43) (tgt := 56) X dX8_meet_43 (by decide) (fun c5 => ?_) (fun c5 => ?_)
          · refine ww_ldc (pc := 56) (v := (-1000000002)) X (by decide +kernel) dX8_meet_56 ?_
            exact ww_iret X hr rfl (Eq.symm (by unfold f_X8_meet; try rw [if_neg c1, if_neg c2, if_neg c3, if_neg c4, if_pos c5]; first | done | rfl)) rfl dX8_meet_58
          · refine ww_iload (pc := 46) X dX8_meet_46 5 rfl ?_
            refine ww_iconst (pc := 48) (v := 0) X dX8_meet_48 (by decide) ?_
            refine ww_iconst (pc := 49) (v := 1) X dX8_meet_49 (by decide) ?_
            refine ww_gSi (pc := 50) (rest := []) (gsN := [wX8 cI cZ cQ rM SM]) X (c_X8_in l D cI cZ cQ x5 0 1) gX8_meet_X8_in rfl hd_X8_in [false] rfl rfl rfl rfl ⟨rfl, rfl⟩ ⟨Nat.le_of_ble_eq_true rfl, Nat.le_of_ble_eq_true rfl⟩ (Nat.le_of_ble_eq_true rfl) ⟨Nat.zero_le _, Nat.zero_le _⟩ dX8_meet_50 ?_
            refine ww_if_ne (pc := 53) (tgt := 59) X dX8_meet_53 (by decide) (fun c6 => ?_) (fun c6 => ?_)
            · refine ww_aload_n (pc := 59) X dX8_meet_59 0 rfl rfl ?_
              refine ww_iload_n (pc := 60) X dX8_meet_60 1 rfl rfl ?_
              refine ww_gVi (pc := 61) (rest := []) (gsN := [wX8 cI cZ cQ rM SM]) (ci := 8) (gi := 0) (qi := 0) X (c_X8_isAbove l D cI cZ cQ rM SM x1 (in_X8_isPerson okM c1)) gX8_meet_X8_isAbove rfl hd_X8_isAbove [true] rfl rfl rfl rfl rfl rfl rfl rfl ⟨rfl, rfl⟩ ⟨Nat.le_of_ble_eq_true rfl, Nat.le_of_ble_eq_true rfl⟩ (Nat.le_of_ble_eq_true rfl) ⟨Nat.zero_le _, Nat.zero_le _⟩ dX8_meet_61 ?_
              refine ww_if_eq (pc := 64) (tgt := 75) X dX8_meet_64 (by decide) (fun c7 => ?_) (fun c7 => ?_)
              · refine ww_ldc (pc := 75) (v := (-1000000003)) X (by decide +kernel) dX8_meet_75 ?_
                exact ww_iret X hr rfl (Eq.symm (by unfold f_X8_meet; try rw [if_neg c1, if_neg c2, if_neg c3, if_neg c4, if_neg c5, if_neg c6, if_pos c7]; first | done | rfl)) rfl dX8_meet_77
              · refine ww_aload_n (pc := 67) X dX8_meet_67 0 rfl rfl ?_
                refine ww_iload_n (pc := 68) X dX8_meet_68 2 rfl rfl ?_
                refine ww_gVi (pc := 69) (rest := []) (gsN := [wX8 cI cZ cQ rM SM]) (ci := 8) (gi := 0) (qi := 0) X (c_X8_isAbove l D cI cZ cQ rM SM x2 (in_X8_isPerson okM c2)) gX8_meet_X8_isAbove rfl hd_X8_isAbove [true] rfl rfl rfl rfl rfl rfl rfl rfl ⟨rfl, rfl⟩ ⟨Nat.le_of_ble_eq_true rfl, Nat.le_of_ble_eq_true rfl⟩ (Nat.le_of_ble_eq_true rfl) ⟨Nat.zero_le _, Nat.zero_le _⟩ dX8_meet_69 ?_
                refine ww_if_ne (pc := 72) (tgt := 78) X dX8_meet_72 (by decide) (fun c8 => ?_) (fun c8 => ?_)
                · refine ww_iconst (pc := 78) (v := (-1)) X dX8_meet_78 (by decide) ?_
                  refine ww_istore (pc := 79) (lv' := [(6, .int (-1)), (0, .ref (rM 0)), (1, .int x1), (2, .int x2), (3, .int x3), (4, .int x4), (5, .int x5)]) X dX8_meet_79 (by decide) rfl ?_
                  refine ww_iconst (pc := 81) (v := (-1)) X dX8_meet_81 (by decide) ?_
                  refine ww_istore (pc := 82) (lv' := [(7, .int (-1)), (6, .int (-1)), (0, .ref (rM 0)), (1, .int x1), (2, .int x2), (3, .int x3), (4, .int x4), (5, .int x5)]) X dX8_meet_82 (by decide) rfl ?_
                  refine ww_iconst (pc := 84) (v := 0) X dX8_meet_84 (by decide) ?_
                  refine ww_istore (pc := 85) (lv' := [(8, .int 0), (7, .int (-1)), (6, .int (-1)), (0, .ref (rM 0)), (1, .int x1), (2, .int x2), (3, .int x3), (4, .int x4), (5, .int x5)]) X dX8_meet_85 (by decide) rfl ?_
                  have L87 : ∀ (k_87 j_87 : Nat), j_87 + k_87 = 100 → WW p l e (headSpec wsX8_meet { frames := 2, cells := 0, slots := 0, locals := 43 }).room s m args below meth c 12 D A 0 0 (RQi below args s D A (f_X8_meet SM x1 x2 x3 x4 x5) (fl [wX8 cI cZ cQ rM SM])) (fl [wX8 cI cZ cQ rM SM]) [(0, .ref (rM 0)), (1, .int x1), (2, .int x2), (3, .int x3), (4, .int x4), (5, .int x5), (6, .int ((it_X8_meet_87 SM x1 x2 x3 x4 x5 ((-1), (-1)) 100).1)), (7, .int ((it_X8_meet_87 SM x1 x2 x3 x4 x5 ((-1), (-1)) 100).2)), (8, .int (nI 100))] 196 [] → WW p l e (headSpec wsX8_meet { frames := 2, cells := 0, slots := 0, locals := 43 }).room s m args below meth c 12 D A 0 0 (RQi below args s D A (f_X8_meet SM x1 x2 x3 x4 x5) (fl [wX8 cI cZ cQ rM SM])) (fl [wX8 cI cZ cQ rM SM]) [(0, .ref (rM 0)), (1, .int x1), (2, .int x2), (3, .int x3), (4, .int x4), (5, .int x5), (6, .int ((it_X8_meet_87 SM x1 x2 x3 x4 x5 ((-1), (-1)) j_87).1)), (7, .int ((it_X8_meet_87 SM x1 x2 x3 x4 x5 ((-1), (-1)) j_87).2)), (8, .int (nI j_87))] 87 [] := by
                    intro k_87
                    induction k_87 with
                    | zero =>
                      intro j_87 hj K
                      have hjB : j_87 = 100 := by omega
                      subst hjB
                      refine ww_iload (pc := 87) X dX8_meet_87 8 rfl ?_
                      refine ww_bipush (pc := 89) (v := 100) X dX8_meet_89 (by decide) ?_
                      exact ww_icmp_ge (pc := 91) (tgt := 196) X dX8_meet_91 (by decide) (fun _ => K) (fun c9 => absurd (lp_ge0 rfl (Nat.le_refl _) (by decide)) c9)
                    | succ k_87 ih =>
                      intro j_87 hj K
                      have hjB : j_87 < 100 := by omega
                      refine ww_iload (pc := 87) X dX8_meet_87 8 rfl ?_
                      refine ww_bipush (pc := 89) (v := 100) X dX8_meet_89 (by decide) ?_
                      refine ww_icmp_ge (pc := 91) (tgt := 196) X dX8_meet_91 (by decide) (fun c9 => absurd c9 (lp_ge1 rfl hjB (by decide))) (fun _ => ?_)
                      refine ww_aload_n (pc := 94) X dX8_meet_94 0 rfl rfl ?_
                      refine ww_get (pc := 95) (ci := 8) (v := .ref (rM 10)) (C := RX8) (T := TX8) (N := 27) X inX8_meet_8 0 rfl rfl 11 (by decide) (by decide +kernel) rfl dX8_meet_95 ?_
                      refine ww_iconst (pc := 98) (v := 1) X dX8_meet_98 (by decide) ?_
                      refine ww_iload_n (pc := 99) X dX8_meet_99 1 rfl rfl ?_
                      have hb24 := clb (in_X8_isPerson okM c1)
                      refine ww_iadd (pc := 100) X dX8_meet_100 ?_
                      refine ww_iald (pc := 101) (f := SM.2 9) X 10 0 rfl rfl (vn (m := 1 + ((x1 : Int32).toNatClampNeg)) (nat_iadd (a := 1) (b := (x1 : Int32).toNatClampNeg) rfl (cl_of (in_X8_isPerson okM c1))) (by omega) (by decide)) dX8_meet_101 ?_
                      refine ww_iload (pc := 102) X dX8_meet_102 8 rfl ?_
                      refine ww_aload_n (pc := 104) X dX8_meet_104 0 rfl rfl ?_
                      refine ww_get (pc := 105) (ci := 8) (v := .ref (rM 3)) (C := RX8) (T := TX8) (N := 27) X inX8_meet_8 0 rfl rfl 4 (by decide) (by decide +kernel) rfl dX8_meet_105 ?_
                      refine ww_iload_n (pc := 108) X dX8_meet_108 3 rfl rfl ?_
                      refine ww_iald (pc := 109) (f := SM.2 2) X 3 0 rfl rfl (in_X8_isDepth okM c4) dX8_meet_109 ?_
                      refine ww_imul (pc := 110) X dX8_meet_110 ?_
                      refine ww_iadd (pc := 111) X dX8_meet_111 ?_
                      generalize hz25 : (((SM.2 9) ((1 + x1 : Int32)).toNatClampNeg) + ((nI j_87) * ((SM.2 2) ((x3 : Int32)).toNatClampNeg))) = z25
                      refine ww_istore (pc := 112) (lv' := [(9, .int z25), (0, .ref (rM 0)), (1, .int x1), (2, .int x2), (3, .int x3), (4, .int x4), (5, .int x5), (6, .int ((it_X8_meet_87 SM x1 x2 x3 x4 x5 ((-1), (-1)) j_87).1)), (7, .int ((it_X8_meet_87 SM x1 x2 x3 x4 x5 ((-1), (-1)) j_87).2)), (8, .int (nI j_87))]) X dX8_meet_112 (by decide) rfl ?_
                      refine ww_iload (pc := 114) X dX8_meet_114 0 rfl ?_
                      refine ww_aload_n (pc := 116) X dX8_meet_116 1 rfl rfl ?_
                      refine ww_get (pc := 117) (ci := 8) (v := .ref (rM 10)) (C := RX8) (T := TX8) (N := 27) X inX8_meet_8 0 rfl rfl 11 (by decide) (by decide +kernel) rfl dX8_meet_117 ?_
                      refine ww_iconst (pc := 120) (v := 1) X dX8_meet_120 (by decide) ?_
                      refine ww_iload_n (pc := 121) X dX8_meet_121 3 rfl rfl ?_
                      have hb26 := clb (in_X8_isPerson okM c2)
                      refine ww_iadd (pc := 122) X dX8_meet_122 ?_
                      refine ww_iald (pc := 123) (f := SM.2 9) X 10 0 rfl rfl (vn (m := 1 + ((x2 : Int32).toNatClampNeg)) (nat_iadd (a := 1) (b := (x2 : Int32).toNatClampNeg) rfl (cl_of (in_X8_isPerson okM c2))) (by omega) (by decide)) dX8_meet_123 ?_
                      refine ww_isub (pc := 124) X dX8_meet_124 ?_
                      refine ww_iload (pc := 125) X dX8_meet_125 5 rfl ?_
                      refine ww_gSi (pc := 127) (rest := []) (gsN := [wX8 cI cZ cQ rM SM]) X (c_X8_off l D cI cZ cQ (z25 - ((SM.2 9) ((1 + x2 : Int32)).toNatClampNeg)) x4) gX8_meet_X8_off rfl hd_X8_off [false] rfl rfl rfl rfl ⟨rfl, rfl⟩ ⟨Nat.le_of_ble_eq_true rfl, Nat.le_of_ble_eq_true rfl⟩ (Nat.le_of_ble_eq_true rfl) ⟨Nat.zero_le _, Nat.zero_le _⟩ dX8_meet_127 ?_
                      generalize hz27 : (f_X8_off (z25 - ((SM.2 9) ((1 + x2 : Int32)).toNatClampNeg)) x4) = z27
                      refine ww_istore (pc := 130) (lv' := [(10, .int z27), (9, .int z25), (0, .ref (rM 0)), (1, .int x1), (2, .int x2), (3, .int x3), (4, .int x4), (5, .int x5), (6, .int ((it_X8_meet_87 SM x1 x2 x3 x4 x5 ((-1), (-1)) j_87).1)), (7, .int ((it_X8_meet_87 SM x1 x2 x3 x4 x5 ((-1), (-1)) j_87).2)), (8, .int (nI j_87))]) X dX8_meet_130 (by decide) rfl ?_
                      refine ww_iload (pc := 132) X dX8_meet_132 1 rfl ?_
                      refine ww_aload_n (pc := 134) X dX8_meet_134 2 rfl rfl ?_
                      refine ww_iload_n (pc := 135) X dX8_meet_135 3 rfl rfl ?_
                      refine ww_gVi (pc := 136) (rest := [.int z25]) (gsN := [wX8 cI cZ cQ rM SM]) (ci := 8) (gi := 0) (qi := 0) X (c_X8_end l D cI cZ cQ rM SM x1 (in_X8_isPerson okM c1)) gX8_meet_X8_end rfl hd_X8_end [true] rfl rfl rfl rfl rfl rfl rfl rfl ⟨rfl, rfl⟩ ⟨Nat.le_of_ble_eq_true rfl, Nat.le_of_ble_eq_true rfl⟩ (Nat.le_of_ble_eq_true rfl) ⟨Nat.zero_le _, Nat.zero_le _⟩ dX8_meet_136 ?_
                      refine ww_icmp_ge (pc := 139) (tgt := 159) X dX8_meet_139 (by decide) (fun c28 => ?_) (fun c28 => ?_)
                      · refine ww_iconst (pc := 159) (v := 0) X dX8_meet_159 (by decide) ?_
                        refine ww_istore (pc := 160) (lv' := [(11, .int 0), (10, .int z27), (9, .int z25), (0, .ref (rM 0)), (1, .int x1), (2, .int x2), (3, .int x3), (4, .int x4), (5, .int x5), (6, .int ((it_X8_meet_87 SM x1 x2 x3 x4 x5 ((-1), (-1)) j_87).1)), (7, .int ((it_X8_meet_87 SM x1 x2 x3 x4 x5 ((-1), (-1)) j_87).2)), (8, .int (nI j_87))]) X dX8_meet_160 (by decide) rfl ?_
                        refine ww_iload (pc := 162) X dX8_meet_162 0 rfl ?_
                        refine ww_if_eq (pc := 164) (tgt := 172) X dX8_meet_164 (by decide) (fun _ => ?_) (fun c29 => absurd (by decide) c29)
                        refine ww_iload (pc := 172) X dX8_meet_172 9 rfl ?_
                        refine ww_istore (pc := 174) (lv' := [(6, .int ((it_X8_meet_87 SM x1 x2 x3 x4 x5 ((-1), (-1)) j_87).1)), (11, .int 0), (10, .int z27), (9, .int z25), (0, .ref (rM 0)), (1, .int x1), (2, .int x2), (3, .int x3), (4, .int x4), (5, .int x5), (7, .int ((it_X8_meet_87 SM x1 x2 x3 x4 x5 ((-1), (-1)) j_87).2)), (8, .int (nI j_87))]) X dX8_meet_174 (by decide) rfl ?_
                        refine ww_iload (pc := 176) X dX8_meet_176 1 rfl ?_
                        refine ww_if_eq (pc := 178) (tgt := 186) X dX8_meet_178 (by decide) (fun _ => ?_) (fun c30 => absurd (by decide) c30)
                        refine ww_iload (pc := 186) X dX8_meet_186 10 rfl ?_
                        refine ww_istore (pc := 188) (lv' := [(7, .int ((it_X8_meet_87 SM x1 x2 x3 x4 x5 ((-1), (-1)) j_87).2)), (6, .int ((it_X8_meet_87 SM x1 x2 x3 x4 x5 ((-1), (-1)) j_87).1)), (11, .int 0), (10, .int z27), (9, .int z25), (0, .ref (rM 0)), (1, .int x1), (2, .int x2), (3, .int x3), (4, .int x4), (5, .int x5), (8, .int (nI j_87))]) X dX8_meet_188 (by decide) rfl ?_
                        refine ww_iinc (pc := 190) (v := (nI j_87) + 1) (lv' := [(8, .int ((nI j_87) + 1)), (7, .int ((it_X8_meet_87 SM x1 x2 x3 x4 x5 ((-1), (-1)) j_87).2)), (6, .int ((it_X8_meet_87 SM x1 x2 x3 x4 x5 ((-1), (-1)) j_87).1)), (11, .int 0), (10, .int z27), (9, .int z25), (0, .ref (rM 0)), (1, .int x1), (2, .int x2), (3, .int x3), (4, .int x4), (5, .int x5)]) X dX8_meet_190 11 rfl rfl (by decide) rfl ?_
                        refine ww_goto (pc := 193) (tgt := 87) X dX8_meet_193 (by decide) ?_
                        have h31 : (it_X8_meet_87 SM x1 x2 x3 x4 x5 ((-1), (-1)) (j_87 + 1)) = ((it_X8_meet_87 SM x1 x2 x3 x4 x5 ((-1), (-1)) j_87).1, (it_X8_meet_87 SM x1 x2 x3 x4 x5 ((-1), (-1)) j_87).2) := by
                          show bd_X8_meet_87 SM x1 x2 x3 x4 x5 j_87 (it_X8_meet_87 SM x1 x2 x3 x4 x5 ((-1), (-1)) j_87) = _; unfold bd_X8_meet_87; try rw [hz25]; try unfold bd_X8_meet_87_k1; try rw [hz27]; try unfold bd_X8_meet_87_k2; try rw [if_pos c28]; first | done | rfl
                        refine ww_lsub [6, 7, 8, 9, 10, 11, 2, 1, 0] rfl ?_
                        exact ww_castI (fun u9 : Int32 × Int32 => fl [wX8 cI cZ cQ rM SM]) (fun (u9 : Int32 × Int32) (i9 : Int32) => ([(0, .ref (rM 0)), (1, .int x1), (2, .int x2), (3, .int x3), (4, .int x4), (5, .int x5), (6, .int u9.1), (7, .int u9.2), (8, .int i9)] : List (Nat × Value))) h31 (ih (j_87 + 1) (by omega) K)
                      · refine ww_iload (pc := 142) X dX8_meet_142 8 rfl ?_
                        refine ww_iconst (pc := 144) (v := (-1)) X dX8_meet_144 (by decide) ?_
                        refine ww_icmp_eq (pc := 145) (tgt := 155) X dX8_meet_145 (by decide) (fun c32 => ?_) (fun c32 => ?_)
                        · refine ww_iconst (pc := 155) (v := 1) X dX8_meet_155 (by decide) ?_
                          refine ww_goto (pc := 156) (tgt := 160) X dX8_meet_156 (by decide) ?_
                          refine ww_istore (pc := 160) (lv' := [(11, .int 1), (10, .int z27), (9, .int z25), (0, .ref (rM 0)), (1, .int x1), (2, .int x2), (3, .int x3), (4, .int x4), (5, .int x5), (6, .int ((it_X8_meet_87 SM x1 x2 x3 x4 x5 ((-1), (-1)) j_87).1)), (7, .int ((it_X8_meet_87 SM x1 x2 x3 x4 x5 ((-1), (-1)) j_87).2)), (8, .int (nI j_87))]) X dX8_meet_160 (by decide) rfl ?_
                          refine ww_iload (pc := 162) X dX8_meet_162 0 rfl ?_
                          refine ww_if_eq (pc := 164) (tgt := 172) X dX8_meet_164 (by decide) (fun c33 => absurd c33 (by decide)) (fun _ => ?_)
                          refine ww_iload (pc := 167) X dX8_meet_167 11 rfl ?_
                          refine ww_goto (pc := 169) (tgt := 174) X dX8_meet_169 (by decide) ?_
                          refine ww_istore (pc := 174) (lv' := [(6, .int (nI j_87)), (11, .int 1), (10, .int z27), (9, .int z25), (0, .ref (rM 0)), (1, .int x1), (2, .int x2), (3, .int x3), (4, .int x4), (5, .int x5), (7, .int ((it_X8_meet_87 SM x1 x2 x3 x4 x5 ((-1), (-1)) j_87).2)), (8, .int (nI j_87))]) X dX8_meet_174 (by decide) rfl ?_
                          refine ww_iload (pc := 176) X dX8_meet_176 1 rfl ?_
                          refine ww_if_eq (pc := 178) (tgt := 186) X dX8_meet_178 (by decide) (fun c34 => absurd c34 (by decide)) (fun _ => ?_)
                          refine ww_iload (pc := 181) X dX8_meet_181 2 rfl ?_
                          refine ww_goto (pc := 183) (tgt := 188) X dX8_meet_183 (by decide) ?_
                          refine ww_istore (pc := 188) (lv' := [(7, .int z27), (6, .int (nI j_87)), (11, .int 1), (10, .int z27), (9, .int z25), (0, .ref (rM 0)), (1, .int x1), (2, .int x2), (3, .int x3), (4, .int x4), (5, .int x5), (8, .int (nI j_87))]) X dX8_meet_188 (by decide) rfl ?_
                          refine ww_iinc (pc := 190) (v := (nI j_87) + 1) (lv' := [(8, .int ((nI j_87) + 1)), (7, .int z27), (6, .int (nI j_87)), (11, .int 1), (10, .int z27), (9, .int z25), (0, .ref (rM 0)), (1, .int x1), (2, .int x2), (3, .int x3), (4, .int x4), (5, .int x5)]) X dX8_meet_190 11 rfl rfl (by decide) rfl ?_
                          refine ww_goto (pc := 193) (tgt := 87) X dX8_meet_193 (by decide) ?_
                          have h35 : (it_X8_meet_87 SM x1 x2 x3 x4 x5 ((-1), (-1)) (j_87 + 1)) = ((nI j_87), z27) := by
                            show bd_X8_meet_87 SM x1 x2 x3 x4 x5 j_87 (it_X8_meet_87 SM x1 x2 x3 x4 x5 ((-1), (-1)) j_87) = _; unfold bd_X8_meet_87; try rw [hz25]; try unfold bd_X8_meet_87_k1; try rw [hz27]; try unfold bd_X8_meet_87_k2; try rw [if_neg c28, if_pos c32]; first | done | rfl
                          refine ww_lsub [6, 7, 8, 9, 10, 11, 2, 1, 0] rfl ?_
                          exact ww_castI (fun u9 : Int32 × Int32 => fl [wX8 cI cZ cQ rM SM]) (fun (u9 : Int32 × Int32) (i9 : Int32) => ([(0, .ref (rM 0)), (1, .int x1), (2, .int x2), (3, .int x3), (4, .int x4), (5, .int x5), (6, .int u9.1), (7, .int u9.2), (8, .int i9)] : List (Nat × Value))) h35 (ih (j_87 + 1) (by omega) K)
                        · refine ww_iload (pc := 148) X dX8_meet_148 0 rfl ?_
                          refine ww_iload (pc := 150) X dX8_meet_150 9 rfl ?_
                          refine ww_icmp_ge (pc := 152) (tgt := 159) X dX8_meet_152 (by decide) (fun c36 => ?_) (fun c36 => ?_)
                          · refine ww_iconst (pc := 159) (v := 0) X dX8_meet_159 (by decide) ?_
                            refine ww_istore (pc := 160) (lv' := [(11, .int 0), (10, .int z27), (9, .int z25), (0, .ref (rM 0)), (1, .int x1), (2, .int x2), (3, .int x3), (4, .int x4), (5, .int x5), (6, .int ((it_X8_meet_87 SM x1 x2 x3 x4 x5 ((-1), (-1)) j_87).1)), (7, .int ((it_X8_meet_87 SM x1 x2 x3 x4 x5 ((-1), (-1)) j_87).2)), (8, .int (nI j_87))]) X dX8_meet_160 (by decide) rfl ?_
                            refine ww_iload (pc := 162) X dX8_meet_162 0 rfl ?_
                            refine ww_if_eq (pc := 164) (tgt := 172) X dX8_meet_164 (by decide) (fun _ => ?_) (fun c37 => absurd (by decide) c37)
                            refine ww_iload (pc := 172) X dX8_meet_172 9 rfl ?_
                            refine ww_istore (pc := 174) (lv' := [(6, .int ((it_X8_meet_87 SM x1 x2 x3 x4 x5 ((-1), (-1)) j_87).1)), (11, .int 0), (10, .int z27), (9, .int z25), (0, .ref (rM 0)), (1, .int x1), (2, .int x2), (3, .int x3), (4, .int x4), (5, .int x5), (7, .int ((it_X8_meet_87 SM x1 x2 x3 x4 x5 ((-1), (-1)) j_87).2)), (8, .int (nI j_87))]) X dX8_meet_174 (by decide) rfl ?_
                            refine ww_iload (pc := 176) X dX8_meet_176 1 rfl ?_
                            refine ww_if_eq (pc := 178) (tgt := 186) X dX8_meet_178 (by decide) (fun _ => ?_) (fun c38 => absurd (by decide) c38)
                            refine ww_iload (pc := 186) X dX8_meet_186 10 rfl ?_
                            refine ww_istore (pc := 188) (lv' := [(7, .int ((it_X8_meet_87 SM x1 x2 x3 x4 x5 ((-1), (-1)) j_87).2)), (6, .int ((it_X8_meet_87 SM x1 x2 x3 x4 x5 ((-1), (-1)) j_87).1)), (11, .int 0), (10, .int z27), (9, .int z25), (0, .ref (rM 0)), (1, .int x1), (2, .int x2), (3, .int x3), (4, .int x4), (5, .int x5), (8, .int (nI j_87))]) X dX8_meet_188 (by decide) rfl ?_
                            refine ww_iinc (pc := 190) (v := (nI j_87) + 1) (lv' := [(8, .int ((nI j_87) + 1)), (7, .int ((it_X8_meet_87 SM x1 x2 x3 x4 x5 ((-1), (-1)) j_87).2)), (6, .int ((it_X8_meet_87 SM x1 x2 x3 x4 x5 ((-1), (-1)) j_87).1)), (11, .int 0), (10, .int z27), (9, .int z25), (0, .ref (rM 0)), (1, .int x1), (2, .int x2), (3, .int x3), (4, .int x4), (5, .int x5)]) X dX8_meet_190 11 rfl rfl (by decide) rfl ?_
                            refine ww_goto (pc := 193) (tgt := 87) X dX8_meet_193 (by decide) ?_
                            have h39 : (it_X8_meet_87 SM x1 x2 x3 x4 x5 ((-1), (-1)) (j_87 + 1)) = ((it_X8_meet_87 SM x1 x2 x3 x4 x5 ((-1), (-1)) j_87).1, (it_X8_meet_87 SM x1 x2 x3 x4 x5 ((-1), (-1)) j_87).2) := by
                              show bd_X8_meet_87 SM x1 x2 x3 x4 x5 j_87 (it_X8_meet_87 SM x1 x2 x3 x4 x5 ((-1), (-1)) j_87) = _; unfold bd_X8_meet_87; try rw [hz25]; try unfold bd_X8_meet_87_k1; try rw [hz27]; try unfold bd_X8_meet_87_k2; try rw [if_neg c28, if_neg c32, if_pos c36]; first | done | rfl
                            refine ww_lsub [6, 7, 8, 9, 10, 11, 2, 1, 0] rfl ?_
                            exact ww_castI (fun u9 : Int32 × Int32 => fl [wX8 cI cZ cQ rM SM]) (fun (u9 : Int32 × Int32) (i9 : Int32) => ([(0, .ref (rM 0)), (1, .int x1), (2, .int x2), (3, .int x3), (4, .int x4), (5, .int x5), (6, .int u9.1), (7, .int u9.2), (8, .int i9)] : List (Nat × Value))) h39 (ih (j_87 + 1) (by omega) K)
                          · refine ww_iconst (pc := 155) (v := 1) X dX8_meet_155 (by decide) ?_
                            refine ww_goto (pc := 156) (tgt := 160) X dX8_meet_156 (by decide) ?_
                            refine ww_istore (pc := 160) (lv' := [(11, .int 1), (10, .int z27), (9, .int z25), (0, .ref (rM 0)), (1, .int x1), (2, .int x2), (3, .int x3), (4, .int x4), (5, .int x5), (6, .int ((it_X8_meet_87 SM x1 x2 x3 x4 x5 ((-1), (-1)) j_87).1)), (7, .int ((it_X8_meet_87 SM x1 x2 x3 x4 x5 ((-1), (-1)) j_87).2)), (8, .int (nI j_87))]) X dX8_meet_160 (by decide) rfl ?_
                            refine ww_iload (pc := 162) X dX8_meet_162 0 rfl ?_
                            refine ww_if_eq (pc := 164) (tgt := 172) X dX8_meet_164 (by decide) (fun c40 => absurd c40 (by decide)) (fun _ => ?_)
                            refine ww_iload (pc := 167) X dX8_meet_167 11 rfl ?_
                            refine ww_goto (pc := 169) (tgt := 174) X dX8_meet_169 (by decide) ?_
                            refine ww_istore (pc := 174) (lv' := [(6, .int (nI j_87)), (11, .int 1), (10, .int z27), (9, .int z25), (0, .ref (rM 0)), (1, .int x1), (2, .int x2), (3, .int x3), (4, .int x4), (5, .int x5), (7, .int ((it_X8_meet_87 SM x1 x2 x3 x4 x5 ((-1), (-1)) j_87).2)), (8, .int (nI j_87))]) X dX8_meet_174 (by decide) rfl ?_
                            refine ww_iload (pc := 176) X dX8_meet_176 1 rfl ?_
                            refine ww_if_eq (pc := 178) (tgt := 186) X dX8_meet_178 (by decide) (fun c41 => absurd c41 (by decide)) (fun _ => ?_)
                            refine ww_iload (pc := 181) X dX8_meet_181 2 rfl ?_
                            refine ww_goto (pc := 183) (tgt := 188) X dX8_meet_183 (by decide) ?_
                            refine ww_istore (pc := 188) (lv' := [(7, .int z27), (6, .int (nI j_87)), (11, .int 1), (10, .int z27), (9, .int z25), (0, .ref (rM 0)), (1, .int x1), (2, .int x2), (3, .int x3), (4, .int x4), (5, .int x5), (8, .int (nI j_87))]) X dX8_meet_188 (by decide) rfl ?_
                            refine ww_iinc (pc := 190) (v := (nI j_87) + 1) (lv' := [(8, .int ((nI j_87) + 1)), (7, .int z27), (6, .int (nI j_87)), (11, .int 1), (10, .int z27), (9, .int z25), (0, .ref (rM 0)), (1, .int x1), (2, .int x2), (3, .int x3), (4, .int x4), (5, .int x5)]) X dX8_meet_190 11 rfl rfl (by decide) rfl ?_
                            refine ww_goto (pc := 193) (tgt := 87) X dX8_meet_193 (by decide) ?_
                            have h42 : (it_X8_meet_87 SM x1 x2 x3 x4 x5 ((-1), (-1)) (j_87 + 1)) = ((nI j_87), z27) := by
                              show bd_X8_meet_87 SM x1 x2 x3 x4 x5 j_87 (it_X8_meet_87 SM x1 x2 x3 x4 x5 ((-1), (-1)) j_87) = _; unfold bd_X8_meet_87; try rw [hz25]; try unfold bd_X8_meet_87_k1; try rw [hz27]; try unfold bd_X8_meet_87_k2; try rw [if_neg c28, if_neg c32, if_neg c36]; first | done | rfl
                            refine ww_lsub [6, 7, 8, 9, 10, 11, 2, 1, 0] rfl ?_
                            exact ww_castI (fun u9 : Int32 × Int32 => fl [wX8 cI cZ cQ rM SM]) (fun (u9 : Int32 × Int32) (i9 : Int32) => ([(0, .ref (rM 0)), (1, .int x1), (2, .int x2), (3, .int x3), (4, .int x4), (5, .int x5), (6, .int u9.1), (7, .int u9.2), (8, .int i9)] : List (Nat × Value))) h42 (ih (j_87 + 1) (by omega) K)
                  refine ww_lsub [3, 4, 5, 6, 7, 8, 2, 1, 0] rfl ?_
                  refine L87 100 0 (by omega) ?_
                  generalize hz43 : ((it_X8_meet_87 SM x1 x2 x3 x4 x5 ((-1), (-1)) 100)) = z43
                  refine ww_iload (pc := 196) X dX8_meet_196 5 rfl ?_
                  refine ww_if_ne (pc := 198) (tgt := 206) X dX8_meet_198 (by decide) (fun c44 => ?_) (fun c44 => ?_)
                  · refine ww_iload (pc := 206) X dX8_meet_206 7 rfl ?_
                    exact ww_iret X hr rfl (Eq.symm (by unfold f_X8_meet; try rw [if_neg c1, if_neg c2, if_neg c3, if_neg c4, if_neg c5, if_neg c6, if_neg c7, if_neg c8, hz43]; try unfold f_X8_meet_k1; try rw [if_neg c44]; first | done | rfl)) rfl dX8_meet_208
                  · refine ww_iload (pc := 201) X dX8_meet_201 6 rfl ?_
                    refine ww_goto (pc := 203) (tgt := 208) X dX8_meet_203 (by decide) ?_
                    exact ww_iret X hr rfl (Eq.symm (by unfold f_X8_meet; try rw [if_neg c1, if_neg c2, if_neg c3, if_neg c4, if_neg c5, if_neg c6, if_neg c7, if_neg c8, hz43]; try unfold f_X8_meet_k1; try rw [if_pos c44]; first | done | rfl)) rfl dX8_meet_208
                · refine ww_ldc (pc := 75) (v := (-1000000003)) X (by decide +kernel) dX8_meet_75 ?_
                  exact ww_iret X hr rfl (Eq.symm (by unfold f_X8_meet; try rw [if_neg c1, if_neg c2, if_neg c3, if_neg c4, if_neg c5, if_neg c6, if_neg c7, if_pos c8]; first | done | rfl)) rfl dX8_meet_77
            · refine ww_ldc (pc := 56) (v := (-1000000002)) X (by decide +kernel) dX8_meet_56 ?_
              exact ww_iret X hr rfl (Eq.symm (by unfold f_X8_meet; try rw [if_neg c1, if_neg c2, if_neg c3, if_neg c4, if_neg c5, if_pos c6]; first | done | rfl)) rfl dX8_meet_58
        · refine ww_ldc (pc := 29) (v := (-1000000001)) X (by decide +kernel) dX8_meet_29 ?_
          exact ww_iret X hr rfl (Eq.symm (by unfold f_X8_meet; try rw [if_neg c1, if_neg c2, if_neg c3, if_pos c4]; first | done | rfl)) rfl dX8_meet_31
def bd_X8_worthIn_6 (SM : St) (x1 : Int32) (x2 : Int32) (x3 : Int32) (j : Nat) (u : Int32) : Int32 :=
  f_X8_later SM x1 u
def it_X8_worthIn_6 (SM : St) (x1 : Int32) (x2 : Int32) (x3 : Int32) (u : Int32) : Nat → Int32
  | 0 => u
  | j + 1 => bd_X8_worthIn_6 SM x1 x2 x3 j (it_X8_worthIn_6 SM x1 x2 x3 u j)
def f_X8_worthIn_k1 (SM : St) (x1 : Int32) (x2 : Int32) (x3 : Int32) (z3 : Int32) : Int32 :=
  z3
def f_X8_worthIn (SM : St) (x1 : Int32) (x2 : Int32) (x3 : Int32) : Int32 :=
  f_X8_worthIn_k1 SM x1 x2 x3 (it_X8_worthIn_6 SM x1 x2 x3 (x2 : Int32) x3.toNatClampNeg)
theorem hd_X8_worthIn : yX8_worthIn.cls = RX8 ∧ yX8_worthIn.cls ≠ "java/lang/invoke/MethodHandle" ∧ yX8_worthIn.cls ≠ "java/lang/invoke/VarHandle" ∧ (parseMethodDescriptor yX8_worthIn.desc).map (fun d => d.parameters.length) = some 3 := by decide +kernel
set_option maxHeartbeats 4000000 in
set_option maxRecDepth 100000 in
theorem c_X8_worthIn (l : Launch) (D : va_G) (cI cZ cQ : ClassId) (rM : Nat → Nat) (SM : St) (x1 : Int32) (x2 : Int32) (x3 : Int32) (hg : vp_in x1 6) : Ci l yX8_worthIn wsX8_worthIn { frames := 1, cells := 0, slots := 0, locals := 24 } D (tyL cI cZ cQ) [.ref (rM 0), .int x1, .int x2, .int x3] (fl [wX8 cI cZ cQ rM SM]) (f_X8_worthIn SM x1 x2 x3) (fl [wX8 cI cZ cQ rM SM]) := by
  refine ci_of (cc := cX8_worthIn) (nL := 6) (ty := .int) (lv0 := [(0, .ref (rM 0)), (1, .int x1), (2, .int x2), (3, .int x3)]) (by decide) rfl (Nat.le_of_ble_eq_true rfl) rfl ?_
  intro p e s m args below meth c A X hr
  refine ww_iload_n (pc := 0) X dX8_worthIn_0 2 rfl rfl ?_
  refine ww_istore (pc := 1) (lv' := [(4, .int x2), (0, .ref (rM 0)), (1, .int x1), (2, .int x2), (3, .int x3)]) X dX8_worthIn_1 (by decide) rfl ?_
  refine ww_iconst (pc := 3) (v := 0) X dX8_worthIn_3 (by decide) ?_
  refine ww_istore (pc := 4) (lv' := [(5, .int 0), (4, .int x2), (0, .ref (rM 0)), (1, .int x1), (2, .int x2), (3, .int x3)]) X dX8_worthIn_4 (by decide) rfl ?_
  have L6 : ∀ (k_6 j_6 : Nat), j_6 + k_6 = x3.toNatClampNeg → WW p l e (headSpec wsX8_worthIn { frames := 1, cells := 0, slots := 0, locals := 24 }).room s m args below meth c 6 D A 0 0 (RQi below args s D A (f_X8_worthIn SM x1 x2 x3) (fl [wX8 cI cZ cQ rM SM])) (fl [wX8 cI cZ cQ rM SM]) [(0, .ref (rM 0)), (1, .int x1), (2, .int x2), (3, .int x3), (4, .int (it_X8_worthIn_6 SM x1 x2 x3 (x2 : Int32) x3.toNatClampNeg)), (5, .int (nI x3.toNatClampNeg))] 27 [] → WW p l e (headSpec wsX8_worthIn { frames := 1, cells := 0, slots := 0, locals := 24 }).room s m args below meth c 6 D A 0 0 (RQi below args s D A (f_X8_worthIn SM x1 x2 x3) (fl [wX8 cI cZ cQ rM SM])) (fl [wX8 cI cZ cQ rM SM]) [(0, .ref (rM 0)), (1, .int x1), (2, .int x2), (3, .int x3), (4, .int (it_X8_worthIn_6 SM x1 x2 x3 (x2 : Int32) j_6)), (5, .int (nI j_6))] 6 [] := by
    intro k_6
    induction k_6 with
    | zero =>
      intro j_6 hj K
      have hjB : j_6 = x3.toNatClampNeg := by omega
      subst hjB
      refine ww_iload (pc := 6) X dX8_worthIn_6 5 rfl ?_
      refine ww_iload_n (pc := 8) X dX8_worthIn_8 3 rfl rfl ?_
      exact ww_icmp_ge (pc := 9) (tgt := 27) X dX8_worthIn_9 (by decide) (fun _ => K) (fun c9 => absurd (lp_ge0c (Nat.le_refl _) (cl_lt _)) c9)
    | succ k_6 ih =>
      intro j_6 hj K
      have hjB : j_6 < x3.toNatClampNeg := by omega
      refine ww_iload (pc := 6) X dX8_worthIn_6 5 rfl ?_
      refine ww_iload_n (pc := 8) X dX8_worthIn_8 3 rfl rfl ?_
      refine ww_icmp_ge (pc := 9) (tgt := 27) X dX8_worthIn_9 (by decide) (fun c9 => absurd c9 (lp_ge1c hjB)) (fun _ => ?_)
      refine ww_aload_n (pc := 12) X dX8_worthIn_12 0 rfl rfl ?_
      refine ww_iload_n (pc := 13) X dX8_worthIn_13 1 rfl rfl ?_
      refine ww_iload (pc := 14) X dX8_worthIn_14 4 rfl ?_
      refine ww_gVi (pc := 16) (rest := []) (gsN := [wX8 cI cZ cQ rM SM]) (ci := 8) (gi := 0) (qi := 0) X (c_X8_later l D cI cZ cQ rM SM x1 (it_X8_worthIn_6 SM x1 x2 x3 (x2 : Int32) j_6) hg) gX8_worthIn_X8_later rfl hd_X8_later [true] rfl rfl rfl rfl rfl rfl rfl rfl ⟨rfl, rfl⟩ ⟨Nat.le_of_ble_eq_true rfl, Nat.le_of_ble_eq_true rfl⟩ (Nat.le_of_ble_eq_true rfl) ⟨Nat.zero_le _, Nat.zero_le _⟩ dX8_worthIn_16 ?_
      generalize hz1 : (f_X8_later SM x1 (it_X8_worthIn_6 SM x1 x2 x3 (x2 : Int32) j_6)) = z1
      refine ww_istore (pc := 19) (lv' := [(4, .int z1), (0, .ref (rM 0)), (1, .int x1), (2, .int x2), (3, .int x3), (5, .int (nI j_6))]) X dX8_worthIn_19 (by decide) rfl ?_
      refine ww_iinc (pc := 21) (v := (nI j_6) + 1) (lv' := [(5, .int ((nI j_6) + 1)), (4, .int z1), (0, .ref (rM 0)), (1, .int x1), (2, .int x2), (3, .int x3)]) X dX8_worthIn_21 5 rfl rfl (by decide) rfl ?_
      refine ww_goto (pc := 24) (tgt := 6) X dX8_worthIn_24 (by decide) ?_
      have h2 : (it_X8_worthIn_6 SM x1 x2 x3 (x2 : Int32) (j_6 + 1)) = z1 := by
        show bd_X8_worthIn_6 SM x1 x2 x3 j_6 (it_X8_worthIn_6 SM x1 x2 x3 (x2 : Int32) j_6) = _; unfold bd_X8_worthIn_6; try rw [hz1]; try unfold bd_X8_worthIn_6_k1; first | done | rfl
      refine ww_lsub [2, 3, 4, 5, 1, 0] rfl ?_
      exact ww_castI (fun u9 : Int32 => fl [wX8 cI cZ cQ rM SM]) (fun (u9 : Int32) (i9 : Int32) => ([(0, .ref (rM 0)), (1, .int x1), (2, .int x2), (3, .int x3), (4, .int u9), (5, .int i9)] : List (Nat × Value))) h2 (ih (j_6 + 1) (by omega) K)
  refine ww_lsub [2, 3, 4, 5, 1, 0] rfl ?_
  refine L6 x3.toNatClampNeg 0 (by omega) ?_
  generalize hz3 : ((it_X8_worthIn_6 SM x1 x2 x3 (x2 : Int32) x3.toNatClampNeg)) = z3
  refine ww_iload (pc := 27) X dX8_worthIn_27 4 rfl ?_
  exact ww_iret X hr rfl (Eq.symm (by unfold f_X8_worthIn; try rw [hz3]; try unfold f_X8_worthIn_k1; first | done | rfl)) rfl dX8_worthIn_29
def bd_X8_leave_31_k1 (SM : St) (x1 : Int32) (x2 : Int32) (j : Nat) (u : Int32 × Int32) (z3 : Int32) : Int32 × Int32 :=
  if z3 ≤ u.2 then
    (u.1, u.2)
  else
    ((nI j), z3)
def bd_X8_leave_31 (SM : St) (x1 : Int32) (x2 : Int32) (j : Nat) (u : Int32 × Int32) : Int32 × Int32 :=
  bd_X8_leave_31_k1 SM x1 x2 j u (f_X8_worthIn SM (nI j) ((SM.2 9) ((29 + (nI j) : Int32)).toNatClampNeg) x1)
def it_X8_leave_31 (SM : St) (x1 : Int32) (x2 : Int32) (u : Int32 × Int32) : Nat → Int32 × Int32
  | 0 => u
  | j + 1 => bd_X8_leave_31 SM x1 x2 j (it_X8_leave_31 SM x1 x2 u j)
def f_X8_leave_k1 (SM : St) (x1 : Int32) (x2 : Int32) (z13 : Int32 × Int32) : Int32 :=
  if x2 = 0 then
    z13.1
  else
    z13.2
def f_X8_leave (SM : St) (x1 : Int32) (x2 : Int32) : Int32 :=
  if (f_X8_in x1 0 300) = 0 then
    (-1000000002)
  else
    if (f_X8_in x2 0 1) = 0 then
      (-1000000002)
    else
      f_X8_leave_k1 SM x1 x2 (it_X8_leave_31 SM x1 x2 ((-1), (-1)) (((SM.2 1) ((4 : Int32)).toNatClampNeg).toNatClampNeg))
theorem inX8_leave_8 : ∀ w ∈ wsX80, w ∈ wsX8_leave := by decide +kernel
theorem hd_X8_leave : yX8_leave.cls = RX8 ∧ yX8_leave.cls ≠ "java/lang/invoke/MethodHandle" ∧ yX8_leave.cls ≠ "java/lang/invoke/VarHandle" ∧ (parseMethodDescriptor yX8_leave.desc).map (fun d => d.parameters.length) = some 2 := by decide +kernel
set_option maxHeartbeats 4000000 in
set_option maxRecDepth 100000 in
theorem c_X8_leave (l : Launch) (D : va_G) (cI cZ cQ : ClassId) (rM : Nat → Nat) (SM : St) (x1 : Int32) (x2 : Int32) (okM : okM SM) : Ci l yX8_leave wsX8_leave { frames := 2, cells := 0, slots := 0, locals := 49 } D (tyL cI cZ cQ) [.ref (rM 0), .int x1, .int x2] (fl [wX8 cI cZ cQ rM SM]) (f_X8_leave SM x1 x2) (fl [wX8 cI cZ cQ rM SM]) := by
  refine ci_of (cc := cX8_leave) (nL := 7) (ty := .int) (lv0 := [(0, .ref (rM 0)), (1, .int x1), (2, .int x2)]) (by decide) rfl (Nat.le_of_ble_eq_true rfl) rfl ?_
  intro p e s m args below meth c A X hr
  refine ww_iload_n (pc := 0) X dX8_leave_0 1 rfl rfl ?_
  refine ww_iconst (pc := 1) (v := 0) X dX8_leave_1 (by decide) ?_
  refine ww_sipush (pc := 2) (v := 300) X dX8_leave_2 (by decide) ?_
  refine ww_gSi (pc := 5) (rest := []) (gsN := [wX8 cI cZ cQ rM SM]) X (c_X8_in l D cI cZ cQ x1 0 300) gX8_leave_X8_in rfl hd_X8_in [false] rfl rfl rfl rfl ⟨rfl, rfl⟩ ⟨Nat.le_of_ble_eq_true rfl, Nat.le_of_ble_eq_true rfl⟩ (Nat.le_of_ble_eq_true rfl) ⟨Nat.zero_le _, Nat.zero_le _⟩ dX8_leave_5 ?_
  refine ww_if_eq (pc := 8) (tgt := 20) X dX8_leave_8 (by decide) (fun c1 => ?_) (fun c1 => ?_)
  · refine ww_ldc (pc := 20) (v := (-1000000002)) X (by decide +kernel) dX8_leave_20 ?_
    exact ww_iret X hr rfl (Eq.symm (by unfold f_X8_leave; try rw [if_pos c1]; first | done | rfl)) rfl dX8_leave_22
  · refine ww_iload_n (pc := 11) X dX8_leave_11 2 rfl rfl ?_
    refine ww_iconst (pc := 12) (v := 0) X dX8_leave_12 (by decide) ?_
    refine ww_iconst (pc := 13) (v := 1) X dX8_leave_13 (by decide) ?_
    refine ww_gSi (pc := 14) (rest := []) (gsN := [wX8 cI cZ cQ rM SM]) X (c_X8_in l D cI cZ cQ x2 0 1) gX8_leave_X8_in rfl hd_X8_in [false] rfl rfl rfl rfl ⟨rfl, rfl⟩ ⟨Nat.le_of_ble_eq_true rfl, Nat.le_of_ble_eq_true rfl⟩ (Nat.le_of_ble_eq_true rfl) ⟨Nat.zero_le _, Nat.zero_le _⟩ dX8_leave_14 ?_
    refine ww_if_ne (pc := 17) (tgt := 23) X dX8_leave_17 (by decide) (fun c2 => ?_) (fun c2 => ?_)
    · refine ww_iconst (pc := 23) (v := (-1)) X dX8_leave_23 (by decide) ?_
      refine ww_istore_n (pc := 24) (lv' := [(3, .int (-1)), (0, .ref (rM 0)), (1, .int x1), (2, .int x2)]) X dX8_leave_24 rfl (by decide) rfl ?_
      refine ww_iconst (pc := 25) (v := (-1)) X dX8_leave_25 (by decide) ?_
      refine ww_istore (pc := 26) (lv' := [(4, .int (-1)), (3, .int (-1)), (0, .ref (rM 0)), (1, .int x1), (2, .int x2)]) X dX8_leave_26 (by decide) rfl ?_
      refine ww_iconst (pc := 28) (v := 0) X dX8_leave_28 (by decide) ?_
      refine ww_istore (pc := 29) (lv' := [(5, .int 0), (4, .int (-1)), (3, .int (-1)), (0, .ref (rM 0)), (1, .int x1), (2, .int x2)]) X dX8_leave_29 (by decide) rfl ?_
      have L31 : ∀ (k_31 j_31 : Nat), j_31 + k_31 = ((SM.2 1) ((4 : Int32)).toNatClampNeg).toNatClampNeg → WW p l e (headSpec wsX8_leave { frames := 2, cells := 0, slots := 0, locals := 49 }).room s m args below meth c 7 D A 0 0 (RQi below args s D A (f_X8_leave SM x1 x2) (fl [wX8 cI cZ cQ rM SM])) (fl [wX8 cI cZ cQ rM SM]) [(0, .ref (rM 0)), (1, .int x1), (2, .int x2), (3, .int ((it_X8_leave_31 SM x1 x2 ((-1), (-1)) (((SM.2 1) ((4 : Int32)).toNatClampNeg).toNatClampNeg)).1)), (4, .int ((it_X8_leave_31 SM x1 x2 ((-1), (-1)) (((SM.2 1) ((4 : Int32)).toNatClampNeg).toNatClampNeg)).2)), (5, .int (nI (((SM.2 1) ((4 : Int32)).toNatClampNeg).toNatClampNeg)))] 97 [] → WW p l e (headSpec wsX8_leave { frames := 2, cells := 0, slots := 0, locals := 49 }).room s m args below meth c 7 D A 0 0 (RQi below args s D A (f_X8_leave SM x1 x2) (fl [wX8 cI cZ cQ rM SM])) (fl [wX8 cI cZ cQ rM SM]) [(0, .ref (rM 0)), (1, .int x1), (2, .int x2), (3, .int ((it_X8_leave_31 SM x1 x2 ((-1), (-1)) j_31).1)), (4, .int ((it_X8_leave_31 SM x1 x2 ((-1), (-1)) j_31).2)), (5, .int (nI j_31))] 31 [] := by
        intro k_31
        induction k_31 with
        | zero =>
          intro j_31 hj K
          have hjB : j_31 = ((SM.2 1) ((4 : Int32)).toNatClampNeg).toNatClampNeg := by omega
          subst hjB
          refine ww_iload (pc := 31) X dX8_leave_31 5 rfl ?_
          refine ww_aload_n (pc := 33) X dX8_leave_33 0 rfl rfl ?_
          refine ww_get (pc := 34) (ci := 8) (v := .ref (rM 2)) (C := RX8) (T := TX8) (N := 27) X inX8_leave_8 0 rfl rfl 3 (by decide) (by decide +kernel) rfl dX8_leave_34 ?_
          refine ww_iconst (pc := 37) (v := 4) X dX8_leave_37 (by decide) ?_
          refine ww_iald (pc := 38) (f := SM.2 1) X 2 0 rfl rfl (vl_in (by decide)) dX8_leave_38 ?_
          exact ww_icmp_ge (pc := 39) (tgt := 97) X dX8_leave_39 (by decide) (fun _ => K) (fun c9 => absurd (lp_ge0c (Nat.le_refl _) (cl_lt _)) c9)
        | succ k_31 ih =>
          intro j_31 hj K
          have hjB : j_31 < ((SM.2 1) ((4 : Int32)).toNatClampNeg).toNatClampNeg := by omega
          have h6_31 := okM_g okM
          refine ww_iload (pc := 31) X dX8_leave_31 5 rfl ?_
          refine ww_aload_n (pc := 33) X dX8_leave_33 0 rfl rfl ?_
          refine ww_get (pc := 34) (ci := 8) (v := .ref (rM 2)) (C := RX8) (T := TX8) (N := 27) X inX8_leave_8 0 rfl rfl 3 (by decide) (by decide +kernel) rfl dX8_leave_34 ?_
          refine ww_iconst (pc := 37) (v := 4) X dX8_leave_37 (by decide) ?_
          refine ww_iald (pc := 38) (f := SM.2 1) X 2 0 rfl rfl (vl_in (by decide)) dX8_leave_38 ?_
          refine ww_icmp_ge (pc := 39) (tgt := 97) X dX8_leave_39 (by decide) (fun c9 => absurd c9 (lp_ge1c hjB)) (fun _ => ?_)
          refine ww_aload_n (pc := 42) X dX8_leave_42 0 rfl rfl ?_
          refine ww_iload (pc := 43) X dX8_leave_43 5 rfl ?_
          refine ww_aload_n (pc := 45) X dX8_leave_45 0 rfl rfl ?_
          refine ww_get (pc := 46) (ci := 8) (v := .ref (rM 10)) (C := RX8) (T := TX8) (N := 27) X inX8_leave_8 0 rfl rfl 11 (by decide) (by decide +kernel) rfl dX8_leave_46 ?_
          refine ww_bipush (pc := 49) (v := 29) X dX8_leave_49 (by decide) ?_
          refine ww_iload (pc := 51) X dX8_leave_51 5 rfl ?_
          refine ww_iadd (pc := 53) X dX8_leave_53 ?_
          refine ww_iald (pc := 54) (f := SM.2 9) X 10 0 rfl rfl (vn (m := 29 + j_31) (nat_iadd (a := 29) (b := j_31) rfl rfl) (by omega) (by decide)) dX8_leave_54 ?_
          refine ww_iload_n (pc := 55) X dX8_leave_55 1 rfl rfl ?_
          refine ww_gVi (pc := 56) (rest := []) (gsN := [wX8 cI cZ cQ rM SM]) (ci := 8) (gi := 0) (qi := 0) X (c_X8_worthIn l D cI cZ cQ rM SM (nI j_31) ((SM.2 9) ((29 + (nI j_31) : Int32)).toNatClampNeg) x1 (vn (m := j_31) rfl (by omega) (by decide))) gX8_leave_X8_worthIn rfl hd_X8_worthIn [true] rfl rfl rfl rfl rfl rfl rfl rfl ⟨rfl, rfl⟩ ⟨Nat.le_of_ble_eq_true rfl, Nat.le_of_ble_eq_true rfl⟩ (Nat.le_of_ble_eq_true rfl) ⟨Nat.zero_le _, Nat.zero_le _⟩ dX8_leave_56 ?_
          generalize hz7 : (f_X8_worthIn SM (nI j_31) ((SM.2 9) ((29 + (nI j_31) : Int32)).toNatClampNeg) x1) = z7
          refine ww_istore (pc := 59) (lv' := [(6, .int z7), (0, .ref (rM 0)), (1, .int x1), (2, .int x2), (3, .int ((it_X8_leave_31 SM x1 x2 ((-1), (-1)) j_31).1)), (4, .int ((it_X8_leave_31 SM x1 x2 ((-1), (-1)) j_31).2)), (5, .int (nI j_31))]) X dX8_leave_59 (by decide) rfl ?_
          refine ww_iload (pc := 61) X dX8_leave_61 0 rfl ?_
          refine ww_iload (pc := 63) X dX8_leave_63 5 rfl ?_
          refine ww_icmp_le (pc := 65) (tgt := 73) X dX8_leave_65 (by decide) (fun c8 => ?_) (fun c8 => ?_)
          · refine ww_iload_n (pc := 73) X dX8_leave_73 4 rfl rfl ?_
            refine ww_istore_n (pc := 74) (lv' := [(3, .int ((it_X8_leave_31 SM x1 x2 ((-1), (-1)) j_31).1)), (6, .int z7), (0, .ref (rM 0)), (1, .int x1), (2, .int x2), (4, .int ((it_X8_leave_31 SM x1 x2 ((-1), (-1)) j_31).2)), (5, .int (nI j_31))]) X dX8_leave_74 rfl (by decide) rfl ?_
            refine ww_iload (pc := 75) X dX8_leave_75 1 rfl ?_
            refine ww_iload (pc := 77) X dX8_leave_77 5 rfl ?_
            refine ww_icmp_le (pc := 79) (tgt := 87) X dX8_leave_79 (by decide) (fun _ => ?_) (fun c9 => absurd c8 c9)
            refine ww_iload (pc := 87) X dX8_leave_87 5 rfl ?_
            refine ww_istore (pc := 89) (lv' := [(4, .int ((it_X8_leave_31 SM x1 x2 ((-1), (-1)) j_31).2)), (3, .int ((it_X8_leave_31 SM x1 x2 ((-1), (-1)) j_31).1)), (6, .int z7), (0, .ref (rM 0)), (1, .int x1), (2, .int x2), (5, .int (nI j_31))]) X dX8_leave_89 (by decide) rfl ?_
            refine ww_iinc (pc := 91) (v := (nI j_31) + 1) (lv' := [(5, .int ((nI j_31) + 1)), (4, .int ((it_X8_leave_31 SM x1 x2 ((-1), (-1)) j_31).2)), (3, .int ((it_X8_leave_31 SM x1 x2 ((-1), (-1)) j_31).1)), (6, .int z7), (0, .ref (rM 0)), (1, .int x1), (2, .int x2)]) X dX8_leave_91 6 rfl rfl (by decide) rfl ?_
            refine ww_goto (pc := 94) (tgt := 31) X dX8_leave_94 (by decide) ?_
            have h10 : (it_X8_leave_31 SM x1 x2 ((-1), (-1)) (j_31 + 1)) = ((it_X8_leave_31 SM x1 x2 ((-1), (-1)) j_31).1, (it_X8_leave_31 SM x1 x2 ((-1), (-1)) j_31).2) := by
              show bd_X8_leave_31 SM x1 x2 j_31 (it_X8_leave_31 SM x1 x2 ((-1), (-1)) j_31) = _; unfold bd_X8_leave_31; try rw [hz7]; try unfold bd_X8_leave_31_k1; try rw [if_pos c8]; first | done | rfl
            refine ww_lsub [4, 5, 6, 2, 1, 0] rfl ?_
            exact ww_castI (fun u9 : Int32 × Int32 => fl [wX8 cI cZ cQ rM SM]) (fun (u9 : Int32 × Int32) (i9 : Int32) => ([(0, .ref (rM 0)), (1, .int x1), (2, .int x2), (3, .int u9.1), (4, .int u9.2), (5, .int i9)] : List (Nat × Value))) h10 (ih (j_31 + 1) (by omega) K)
          · refine ww_iload (pc := 68) X dX8_leave_68 6 rfl ?_
            refine ww_goto (pc := 70) (tgt := 74) X dX8_leave_70 (by decide) ?_
            refine ww_istore_n (pc := 74) (lv' := [(3, .int (nI j_31)), (6, .int z7), (0, .ref (rM 0)), (1, .int x1), (2, .int x2), (4, .int ((it_X8_leave_31 SM x1 x2 ((-1), (-1)) j_31).2)), (5, .int (nI j_31))]) X dX8_leave_74 rfl (by decide) rfl ?_
            refine ww_iload (pc := 75) X dX8_leave_75 1 rfl ?_
            refine ww_iload (pc := 77) X dX8_leave_77 5 rfl ?_
            refine ww_icmp_le (pc := 79) (tgt := 87) X dX8_leave_79 (by decide) (fun c11 => absurd c11 c8) (fun _ => ?_)
            refine ww_iload (pc := 82) X dX8_leave_82 1 rfl ?_
            refine ww_goto (pc := 84) (tgt := 89) X dX8_leave_84 (by decide) ?_
            refine ww_istore (pc := 89) (lv' := [(4, .int z7), (3, .int (nI j_31)), (6, .int z7), (0, .ref (rM 0)), (1, .int x1), (2, .int x2), (5, .int (nI j_31))]) X dX8_leave_89 (by decide) rfl ?_
            refine ww_iinc (pc := 91) (v := (nI j_31) + 1) (lv' := [(5, .int ((nI j_31) + 1)), (4, .int z7), (3, .int (nI j_31)), (6, .int z7), (0, .ref (rM 0)), (1, .int x1), (2, .int x2)]) X dX8_leave_91 6 rfl rfl (by decide) rfl ?_
            refine ww_goto (pc := 94) (tgt := 31) X dX8_leave_94 (by decide) ?_
            have h12 : (it_X8_leave_31 SM x1 x2 ((-1), (-1)) (j_31 + 1)) = ((nI j_31), z7) := by
              show bd_X8_leave_31 SM x1 x2 j_31 (it_X8_leave_31 SM x1 x2 ((-1), (-1)) j_31) = _; unfold bd_X8_leave_31; try rw [hz7]; try unfold bd_X8_leave_31_k1; try rw [if_neg c8]; first | done | rfl
            refine ww_lsub [4, 5, 6, 2, 1, 0] rfl ?_
            exact ww_castI (fun u9 : Int32 × Int32 => fl [wX8 cI cZ cQ rM SM]) (fun (u9 : Int32 × Int32) (i9 : Int32) => ([(0, .ref (rM 0)), (1, .int x1), (2, .int x2), (3, .int u9.1), (4, .int u9.2), (5, .int i9)] : List (Nat × Value))) h12 (ih (j_31 + 1) (by omega) K)
      refine ww_lsub [3, 4, 5, 2, 1, 0] rfl ?_
      refine L31 (((SM.2 1) ((4 : Int32)).toNatClampNeg).toNatClampNeg) 0 (by omega) ?_
      generalize hz13 : ((it_X8_leave_31 SM x1 x2 ((-1), (-1)) (((SM.2 1) ((4 : Int32)).toNatClampNeg).toNatClampNeg))) = z13
      refine ww_iload_n (pc := 97) X dX8_leave_97 2 rfl rfl ?_
      refine ww_if_ne (pc := 98) (tgt := 105) X dX8_leave_98 (by decide) (fun c14 => ?_) (fun c14 => ?_)
      · refine ww_iload (pc := 105) X dX8_leave_105 4 rfl ?_
        exact ww_iret X hr rfl (Eq.symm (by unfold f_X8_leave; try rw [if_neg c1, if_neg c2, hz13]; try unfold f_X8_leave_k1; try rw [if_neg c14]; first | done | rfl)) rfl dX8_leave_107
      · refine ww_iload_n (pc := 101) X dX8_leave_101 3 rfl rfl ?_
        refine ww_goto (pc := 102) (tgt := 107) X dX8_leave_102 (by decide) ?_
        exact ww_iret X hr rfl (Eq.symm (by unfold f_X8_leave; try rw [if_neg c1, if_neg c2, hz13]; try unfold f_X8_leave_k1; try rw [if_pos c14]; first | done | rfl)) rfl dX8_leave_107
    · refine ww_ldc (pc := 20) (v := (-1000000002)) X (by decide +kernel) dX8_leave_20 ?_
      exact ww_iret X hr rfl (Eq.symm (by unfold f_X8_leave; try rw [if_neg c1, if_pos c2]; first | done | rfl)) rfl dX8_leave_22
def l0_X8_when_38 (SM : St) (x1 : Int32) (x2 : Int32) (j : Nat) (u : Int32) : Int32 :=
  (-1)
def lb_X8_when_38 (SM : St) (x1 : Int32) (x2 : Int32) (rec : Nat → (Int32) → Int32) (j : Nat) (u : Int32) : Int32 :=
  if u < x2 then
    rec (j + 1) (f_X8_later SM x1 u)
  else
    (nI j)
def lp_X8_when_38 (SM : St) (x1 : Int32) (x2 : Int32) : Nat → Nat → (Int32) → Int32
  | 0, j, u => l0_X8_when_38 SM x1 x2 j u
  | k + 1, j, u => lb_X8_when_38 SM x1 x2 (lp_X8_when_38 SM x1 x2 k) j u
def f_X8_when (SM : St) (x1 : Int32) (x2 : Int32) : Int32 :=
  if (f_X8_isGood SM x1) = 0 then
    (-1000000001)
  else
    if (f_X8_in x2 0 9999) = 0 then
      (-1000000002)
    else
      lp_X8_when_38 SM x1 x2 301 0 ((SM.2 9) ((29 + x1 : Int32)).toNatClampNeg)
theorem inX8_when_8 : ∀ w ∈ wsX80, w ∈ wsX8_when := by decide +kernel
theorem hd_X8_when : yX8_when.cls = RX8 ∧ yX8_when.cls ≠ "java/lang/invoke/MethodHandle" ∧ yX8_when.cls ≠ "java/lang/invoke/VarHandle" ∧ (parseMethodDescriptor yX8_when.desc).map (fun d => d.parameters.length) = some 2 := by decide +kernel
set_option maxHeartbeats 4000000 in
set_option maxRecDepth 100000 in
theorem c_X8_when (l : Launch) (D : va_G) (cI cZ cQ : ClassId) (rM : Nat → Nat) (SM : St) (x1 : Int32) (x2 : Int32) (okM : okM SM) : Ci l yX8_when wsX8_when { frames := 2, cells := 0, slots := 0, locals := 43 } D (tyL cI cZ cQ) [.ref (rM 0), .int x1, .int x2] (fl [wX8 cI cZ cQ rM SM]) (f_X8_when SM x1 x2) (fl [wX8 cI cZ cQ rM SM]) := by
  refine ci_of (cc := cX8_when) (nL := 5) (ty := .int) (lv0 := [(0, .ref (rM 0)), (1, .int x1), (2, .int x2)]) (by decide) rfl (Nat.le_of_ble_eq_true rfl) rfl ?_
  intro p e s m args below meth c A X hr
  refine ww_aload_n (pc := 0) X dX8_when_0 0 rfl rfl ?_
  refine ww_iload_n (pc := 1) X dX8_when_1 1 rfl rfl ?_
  refine ww_gVi (pc := 2) (rest := []) (gsN := [wX8 cI cZ cQ rM SM]) (ci := 8) (gi := 0) (qi := 0) X (c_X8_isGood l D cI cZ cQ rM SM x1) gX8_when_X8_isGood rfl hd_X8_isGood [true] rfl rfl rfl rfl rfl rfl rfl rfl ⟨rfl, rfl⟩ ⟨Nat.le_of_ble_eq_true rfl, Nat.le_of_ble_eq_true rfl⟩ (Nat.le_of_ble_eq_true rfl) ⟨Nat.zero_le _, Nat.zero_le _⟩ dX8_when_2 ?_
  refine ww_if_ne (pc := 5) (tgt := 11) X dX8_when_5 (by decide) (fun c1 => ?_) (fun c1 => ?_)
  · refine ww_iload_n (pc := 11) X dX8_when_11 2 rfl rfl ?_
    refine ww_iconst (pc := 12) (v := 0) X dX8_when_12 (by decide) ?_
    refine ww_sipush (pc := 13) (v := 9999) X dX8_when_13 (by decide) ?_
    refine ww_gSi (pc := 16) (rest := []) (gsN := [wX8 cI cZ cQ rM SM]) X (c_X8_in l D cI cZ cQ x2 0 9999) gX8_when_X8_in rfl hd_X8_in [false] rfl rfl rfl rfl ⟨rfl, rfl⟩ ⟨Nat.le_of_ble_eq_true rfl, Nat.le_of_ble_eq_true rfl⟩ (Nat.le_of_ble_eq_true rfl) ⟨Nat.zero_le _, Nat.zero_le _⟩ dX8_when_16 ?_
    refine ww_if_ne (pc := 19) (tgt := 25) X dX8_when_19 (by decide) (fun c2 => ?_) (fun c2 => ?_)
    · refine ww_aload_n (pc := 25) X dX8_when_25 0 rfl rfl ?_
      refine ww_get (pc := 26) (ci := 8) (v := .ref (rM 10)) (C := RX8) (T := TX8) (N := 27) X inX8_when_8 0 rfl rfl 11 (by decide) (by decide +kernel) rfl dX8_when_26 ?_
      refine ww_bipush (pc := 29) (v := 29) X dX8_when_29 (by decide) ?_
      refine ww_iload_n (pc := 31) X dX8_when_31 1 rfl rfl ?_
      have hb3 := clb (in_X8_isGood okM c1)
      refine ww_iadd (pc := 32) X dX8_when_32 ?_
      refine ww_iald (pc := 33) (f := SM.2 9) X 10 0 rfl rfl (vn (m := 29 + ((x1 : Int32).toNatClampNeg)) (nat_iadd (a := 29) (b := (x1 : Int32).toNatClampNeg) rfl (cl_of (in_X8_isGood okM c1))) (by omega) (by decide)) dX8_when_33 ?_
      refine ww_istore_n (pc := 34) (lv' := [(3, .int ((SM.2 9) ((29 + x1 : Int32)).toNatClampNeg)), (0, .ref (rM 0)), (1, .int x1), (2, .int x2)]) X dX8_when_34 rfl (by decide) rfl ?_
      refine ww_iconst (pc := 35) (v := 0) X dX8_when_35 (by decide) ?_
      refine ww_istore (pc := 36) (lv' := [(4, .int 0), (3, .int ((SM.2 9) ((29 + x1 : Int32)).toNatClampNeg)), (0, .ref (rM 0)), (1, .int x1), (2, .int x2)]) X dX8_when_36 (by decide) rfl ?_
      have L38 : ∀ (k_38 j_38 : Nat) (u_38 : Int32), j_38 + k_38 = 301 → True → f_X8_when SM x1 x2 = lp_X8_when_38 SM x1 x2 k_38 j_38 u_38 → WW p l e (headSpec wsX8_when { frames := 2, cells := 0, slots := 0, locals := 43 }).room s m args below meth c 5 D A 0 0 (RQi below args s D A (f_X8_when SM x1 x2) (fl [wX8 cI cZ cQ rM SM])) (fl [wX8 cI cZ cQ rM SM]) [(0, .ref (rM 0)), (1, .int x1), (2, .int x2), (3, .int u_38), (4, .int (nI j_38))] 38 [] := by
        intro k_38
        induction k_38 with
        | zero =>
          intro j_38 u_38 hj hi hf
          have hjB : j_38 = 301 := by omega
          subst hjB
          refine ww_iload (pc := 38) X dX8_when_38 4 rfl ?_
          refine ww_sipush (pc := 40) (v := 301) X dX8_when_40 (by decide) ?_
          refine ww_icmp_ge (pc := 43) (tgt := 67) X dX8_when_43 (by decide) (fun _ => ?_) (fun c9 => absurd (lp_ge0 rfl (Nat.le_refl _) (by decide)) c9)
          refine ww_iconst (pc := 67) (v := (-1)) X dX8_when_67 (by decide) ?_
          exact ww_iret X hr rfl (Eq.symm (by rw [hf]; show l0_X8_when_38 SM x1 x2 301 u_38 = _; unfold l0_X8_when_38; first | done | rfl)) rfl dX8_when_68
        | succ k_38 ih =>
          intro j_38 u_38 hj hi hf
          have hjB : j_38 < 301 := by omega
          refine ww_iload (pc := 38) X dX8_when_38 4 rfl ?_
          refine ww_sipush (pc := 40) (v := 301) X dX8_when_40 (by decide) ?_
          refine ww_icmp_ge (pc := 43) (tgt := 67) X dX8_when_43 (by decide) (fun c9 => absurd c9 (lp_ge1 rfl hjB (by decide))) (fun _ => ?_)
          refine ww_iload_n (pc := 46) X dX8_when_46 3 rfl rfl ?_
          refine ww_iload_n (pc := 47) X dX8_when_47 2 rfl rfl ?_
          refine ww_icmp_lt (pc := 48) (tgt := 54) X dX8_when_48 (by decide) (fun c5 => ?_) (fun c5 => ?_)
          · refine ww_aload_n (pc := 54) X dX8_when_54 0 rfl rfl ?_
            refine ww_iload_n (pc := 55) X dX8_when_55 1 rfl rfl ?_
            refine ww_iload_n (pc := 56) X dX8_when_56 3 rfl rfl ?_
            refine ww_gVi (pc := 57) (rest := []) (gsN := [wX8 cI cZ cQ rM SM]) (ci := 8) (gi := 0) (qi := 0) X (c_X8_later l D cI cZ cQ rM SM x1 u_38 (in_X8_isGood okM c1)) gX8_when_X8_later rfl hd_X8_later [true] rfl rfl rfl rfl rfl rfl rfl rfl ⟨rfl, rfl⟩ ⟨Nat.le_of_ble_eq_true rfl, Nat.le_of_ble_eq_true rfl⟩ (Nat.le_of_ble_eq_true rfl) ⟨Nat.zero_le _, Nat.zero_le _⟩ dX8_when_57 ?_
            refine ww_istore_n (pc := 60) (lv' := [(3, .int (f_X8_later SM x1 u_38)), (0, .ref (rM 0)), (1, .int x1), (2, .int x2), (4, .int (nI j_38))]) X dX8_when_60 rfl (by decide) rfl ?_
            refine ww_iinc (pc := 61) (v := (nI j_38) + 1) (lv' := [(4, .int ((nI j_38) + 1)), (3, .int (f_X8_later SM x1 u_38)), (0, .ref (rM 0)), (1, .int x1), (2, .int x2)]) X dX8_when_61 4 rfl rfl (by decide) rfl ?_
            refine ww_goto (pc := 64) (tgt := 38) X dX8_when_64 (by decide) ?_
            refine ww_lsub [2, 3, 4, 1, 0] rfl ?_
            have h6 : f_X8_when SM x1 x2 = lp_X8_when_38 SM x1 x2 k_38 (j_38 + 1) (f_X8_later SM x1 u_38) := by rw [hf]; show lb_X8_when_38 SM x1 x2 (lp_X8_when_38 SM x1 x2 k_38) j_38 u_38 = _; unfold lb_X8_when_38; try rw [if_pos c5]; first | done | rfl
            exact ww_cast rfl (congrArg (fun (i9 : Int32) => ([(0, .ref (rM 0)), (1, .int x1), (2, .int x2), (3, .int (f_X8_later SM x1 u_38)), (4, .int i9)] : List (Nat × Value))) (nI_1 j_38).symm) (ih (j_38 + 1) (f_X8_later SM x1 u_38) (by omega) trivial h6)
          · refine ww_iload (pc := 51) X dX8_when_51 4 rfl ?_
            exact ww_iret X hr rfl (Eq.symm (by rw [hf]; show lb_X8_when_38 SM x1 x2 (lp_X8_when_38 SM x1 x2 k_38) j_38 u_38 = _; unfold lb_X8_when_38; try rw [if_neg c5]; first | done | rfl)) rfl dX8_when_53
      refine ww_lsub [2, 3, 4, 1, 0] rfl ?_
      exact L38 301 0 ((SM.2 9) ((29 + x1 : Int32)).toNatClampNeg) (by omega) trivial (by unfold f_X8_when; try rw [if_neg c1, if_neg c2]; first | done | rfl)
    · refine ww_ldc (pc := 22) (v := (-1000000002)) X (by decide +kernel) dX8_when_22 ?_
      exact ww_iret X hr rfl (Eq.symm (by unfold f_X8_when; try rw [if_neg c1, if_pos c2]; first | done | rfl)) rfl dX8_when_24
  · refine ww_ldc (pc := 8) (v := (-1000000001)) X (by decide +kernel) dX8_when_8 ?_
    exact ww_iret X hr rfl (Eq.symm (by unfold f_X8_when; try rw [if_pos c1]; first | done | rfl)) rfl dX8_when_10
def f_X8_letters (SM : St) (x1 : Int32) (x2 : Int32) : Int32 :=
  if (f_X8_isDepth SM x1) = 0 then
    (-1000000001)
  else
    if (f_X8_in x2 1 9) = 0 then
      (-1000000002)
    else
      (((((SM.2 9) ((0 : Int32)).toNatClampNeg) / ((SM.2 2) ((x1 : Int32)).toNatClampNeg)) + x2) * ((SM.2 2) ((x1 : Int32)).toNatClampNeg)) - ((SM.2 9) ((0 : Int32)).toNatClampNeg)
theorem inX8_letters_8 : ∀ w ∈ wsX80, w ∈ wsX8_letters := by decide +kernel
theorem hd_X8_letters : yX8_letters.cls = RX8 ∧ yX8_letters.cls ≠ "java/lang/invoke/MethodHandle" ∧ yX8_letters.cls ≠ "java/lang/invoke/VarHandle" ∧ (parseMethodDescriptor yX8_letters.desc).map (fun d => d.parameters.length) = some 2 := by decide +kernel
set_option maxHeartbeats 4000000 in
set_option maxRecDepth 100000 in
theorem c_X8_letters (l : Launch) (D : va_G) (cI cZ cQ : ClassId) (rM : Nat → Nat) (SM : St) (x1 : Int32) (x2 : Int32) (okM : okM SM) (okd : okD SM) : Ci l yX8_letters wsX8_letters { frames := 2, cells := 0, slots := 0, locals := 43 } D (tyL cI cZ cQ) [.ref (rM 0), .int x1, .int x2] (fl [wX8 cI cZ cQ rM SM]) (f_X8_letters SM x1 x2) (fl [wX8 cI cZ cQ rM SM]) := by
  refine ci_of (cc := cX8_letters) (nL := 3) (ty := .int) (lv0 := [(0, .ref (rM 0)), (1, .int x1), (2, .int x2)]) (by decide) rfl (Nat.le_of_ble_eq_true rfl) rfl ?_
  intro p e s m args below meth c A X hr
  refine ww_aload_n (pc := 0) X dX8_letters_0 0 rfl rfl ?_
  refine ww_iload_n (pc := 1) X dX8_letters_1 1 rfl rfl ?_
  refine ww_gVi (pc := 2) (rest := []) (gsN := [wX8 cI cZ cQ rM SM]) (ci := 8) (gi := 0) (qi := 0) X (c_X8_isDepth l D cI cZ cQ rM SM x1) gX8_letters_X8_isDepth rfl hd_X8_isDepth [true] rfl rfl rfl rfl rfl rfl rfl rfl ⟨rfl, rfl⟩ ⟨Nat.le_of_ble_eq_true rfl, Nat.le_of_ble_eq_true rfl⟩ (Nat.le_of_ble_eq_true rfl) ⟨Nat.zero_le _, Nat.zero_le _⟩ dX8_letters_2 ?_
  refine ww_if_ne (pc := 5) (tgt := 11) X dX8_letters_5 (by decide) (fun c1 => ?_) (fun c1 => ?_)
  · refine ww_iload_n (pc := 11) X dX8_letters_11 2 rfl rfl ?_
    refine ww_iconst (pc := 12) (v := 1) X dX8_letters_12 (by decide) ?_
    refine ww_bipush (pc := 13) (v := 9) X dX8_letters_13 (by decide) ?_
    refine ww_gSi (pc := 15) (rest := []) (gsN := [wX8 cI cZ cQ rM SM]) X (c_X8_in l D cI cZ cQ x2 1 9) gX8_letters_X8_in rfl hd_X8_in [false] rfl rfl rfl rfl ⟨rfl, rfl⟩ ⟨Nat.le_of_ble_eq_true rfl, Nat.le_of_ble_eq_true rfl⟩ (Nat.le_of_ble_eq_true rfl) ⟨Nat.zero_le _, Nat.zero_le _⟩ dX8_letters_15 ?_
    refine ww_if_ne (pc := 18) (tgt := 24) X dX8_letters_18 (by decide) (fun c2 => ?_) (fun c2 => ?_)
    · refine ww_aload_n (pc := 24) X dX8_letters_24 0 rfl rfl ?_
      refine ww_get (pc := 25) (ci := 8) (v := .ref (rM 10)) (C := RX8) (T := TX8) (N := 27) X inX8_letters_8 0 rfl rfl 11 (by decide) (by decide +kernel) rfl dX8_letters_25 ?_
      refine ww_iconst (pc := 28) (v := 0) X dX8_letters_28 (by decide) ?_
      refine ww_iald (pc := 29) (f := SM.2 9) X 10 0 rfl rfl (vl_in (by decide)) dX8_letters_29 ?_
      refine ww_aload_n (pc := 30) X dX8_letters_30 0 rfl rfl ?_
      refine ww_get (pc := 31) (ci := 8) (v := .ref (rM 3)) (C := RX8) (T := TX8) (N := 27) X inX8_letters_8 0 rfl rfl 4 (by decide) (by decide +kernel) rfl dX8_letters_31 ?_
      refine ww_iload_n (pc := 34) X dX8_letters_34 1 rfl rfl ?_
      refine ww_iald (pc := 35) (f := SM.2 2) X 3 0 rfl rfl (in_X8_isDepth okM c1) dX8_letters_35 ?_
      refine ww_idiv (pc := 36) X dX8_letters_36 (okd x1 c1) ?_
      refine ww_iload_n (pc := 37) X dX8_letters_37 2 rfl rfl ?_
      refine ww_iadd (pc := 38) X dX8_letters_38 ?_
      refine ww_aload_n (pc := 39) X dX8_letters_39 0 rfl rfl ?_
      refine ww_get (pc := 40) (ci := 8) (v := .ref (rM 3)) (C := RX8) (T := TX8) (N := 27) X inX8_letters_8 0 rfl rfl 4 (by decide) (by decide +kernel) rfl dX8_letters_40 ?_
      refine ww_iload_n (pc := 43) X dX8_letters_43 1 rfl rfl ?_
      refine ww_iald (pc := 44) (f := SM.2 2) X 3 0 rfl rfl (in_X8_isDepth okM c1) dX8_letters_44 ?_
      refine ww_imul (pc := 45) X dX8_letters_45 ?_
      refine ww_aload_n (pc := 46) X dX8_letters_46 0 rfl rfl ?_
      refine ww_get (pc := 47) (ci := 8) (v := .ref (rM 10)) (C := RX8) (T := TX8) (N := 27) X inX8_letters_8 0 rfl rfl 11 (by decide) (by decide +kernel) rfl dX8_letters_47 ?_
      refine ww_iconst (pc := 50) (v := 0) X dX8_letters_50 (by decide) ?_
      refine ww_iald (pc := 51) (f := SM.2 9) X 10 0 rfl rfl (vl_in (by decide)) dX8_letters_51 ?_
      refine ww_isub (pc := 52) X dX8_letters_52 ?_
      exact ww_iret X hr rfl (Eq.symm (by unfold f_X8_letters; try rw [if_neg c1, if_neg c2]; first | done | rfl)) rfl dX8_letters_53
    · refine ww_ldc (pc := 21) (v := (-1000000002)) X (by decide +kernel) dX8_letters_21 ?_
      exact ww_iret X hr rfl (Eq.symm (by unfold f_X8_letters; try rw [if_neg c1, if_pos c2]; first | done | rfl)) rfl dX8_letters_23
  · refine ww_ldc (pc := 8) (v := (-1000000001)) X (by decide +kernel) dX8_letters_8 ?_
    exact ww_iret X hr rfl (Eq.symm (by unfold f_X8_letters; try rw [if_pos c1]; first | done | rfl)) rfl dX8_letters_10
def f_X8_wouldOpen_k1 (SM : St) (x1 : Int32) (z4 : Int32) : Int32 :=
  if (f_X8_end SM x1) ≤ z4 then
    (-1)
  else
    z4
def f_X8_wouldOpen (SM : St) (x1 : Int32) : Int32 :=
  if (f_X8_isPerson SM x1) = 0 then
    (-1000000001)
  else
    if (f_X8_isAbove SM x1) = 0 then
      (-1000000003)
    else
      f_X8_wouldOpen_k1 SM x1 (((SM.2 9) ((1 + x1 : Int32)).toNatClampNeg) + ((SM.2 9) ((15 + x1 : Int32)).toNatClampNeg))
theorem inX8_wouldOpen_8 : ∀ w ∈ wsX80, w ∈ wsX8_wouldOpen := by decide +kernel
theorem hd_X8_wouldOpen : yX8_wouldOpen.cls = RX8 ∧ yX8_wouldOpen.cls ≠ "java/lang/invoke/MethodHandle" ∧ yX8_wouldOpen.cls ≠ "java/lang/invoke/VarHandle" ∧ (parseMethodDescriptor yX8_wouldOpen.desc).map (fun d => d.parameters.length) = some 1 := by decide +kernel
set_option maxHeartbeats 4000000 in
set_option maxRecDepth 100000 in
theorem c_X8_wouldOpen (l : Launch) (D : va_G) (cI cZ cQ : ClassId) (rM : Nat → Nat) (SM : St) (x1 : Int32) (okM : okM SM) : Ci l yX8_wouldOpen wsX8_wouldOpen { frames := 2, cells := 0, slots := 0, locals := 43 } D (tyL cI cZ cQ) [.ref (rM 0), .int x1] (fl [wX8 cI cZ cQ rM SM]) (f_X8_wouldOpen SM x1) (fl [wX8 cI cZ cQ rM SM]) := by
  refine ci_of (cc := cX8_wouldOpen) (nL := 3) (ty := .int) (lv0 := [(0, .ref (rM 0)), (1, .int x1)]) (by decide) rfl (Nat.le_of_ble_eq_true rfl) rfl ?_
  intro p e s m args below meth c A X hr
  refine ww_aload_n (pc := 0) X dX8_wouldOpen_0 0 rfl rfl ?_
  refine ww_iload_n (pc := 1) X dX8_wouldOpen_1 1 rfl rfl ?_
  refine ww_gVi (pc := 2) (rest := []) (gsN := [wX8 cI cZ cQ rM SM]) (ci := 8) (gi := 0) (qi := 0) X (c_X8_isPerson l D cI cZ cQ rM SM x1) gX8_wouldOpen_X8_isPerson rfl hd_X8_isPerson [true] rfl rfl rfl rfl rfl rfl rfl rfl ⟨rfl, rfl⟩ ⟨Nat.le_of_ble_eq_true rfl, Nat.le_of_ble_eq_true rfl⟩ (Nat.le_of_ble_eq_true rfl) ⟨Nat.zero_le _, Nat.zero_le _⟩ dX8_wouldOpen_2 ?_
  refine ww_if_ne (pc := 5) (tgt := 11) X dX8_wouldOpen_5 (by decide) (fun c1 => ?_) (fun c1 => ?_)
  · refine ww_aload_n (pc := 11) X dX8_wouldOpen_11 0 rfl rfl ?_
    refine ww_iload_n (pc := 12) X dX8_wouldOpen_12 1 rfl rfl ?_
    refine ww_gVi (pc := 13) (rest := []) (gsN := [wX8 cI cZ cQ rM SM]) (ci := 8) (gi := 0) (qi := 0) X (c_X8_isAbove l D cI cZ cQ rM SM x1 (in_X8_isPerson okM c1)) gX8_wouldOpen_X8_isAbove rfl hd_X8_isAbove [true] rfl rfl rfl rfl rfl rfl rfl rfl ⟨rfl, rfl⟩ ⟨Nat.le_of_ble_eq_true rfl, Nat.le_of_ble_eq_true rfl⟩ (Nat.le_of_ble_eq_true rfl) ⟨Nat.zero_le _, Nat.zero_le _⟩ dX8_wouldOpen_13 ?_
    refine ww_if_ne (pc := 16) (tgt := 22) X dX8_wouldOpen_16 (by decide) (fun c2 => ?_) (fun c2 => ?_)
    · refine ww_aload_n (pc := 22) X dX8_wouldOpen_22 0 rfl rfl ?_
      refine ww_get (pc := 23) (ci := 8) (v := .ref (rM 10)) (C := RX8) (T := TX8) (N := 27) X inX8_wouldOpen_8 0 rfl rfl 11 (by decide) (by decide +kernel) rfl dX8_wouldOpen_23 ?_
      refine ww_iconst (pc := 26) (v := 1) X dX8_wouldOpen_26 (by decide) ?_
      refine ww_iload_n (pc := 27) X dX8_wouldOpen_27 1 rfl rfl ?_
      have hb3 := clb (in_X8_isPerson okM c1)
      refine ww_iadd (pc := 28) X dX8_wouldOpen_28 ?_
      refine ww_iald (pc := 29) (f := SM.2 9) X 10 0 rfl rfl (vn (m := 1 + ((x1 : Int32).toNatClampNeg)) (nat_iadd (a := 1) (b := (x1 : Int32).toNatClampNeg) rfl (cl_of (in_X8_isPerson okM c1))) (by omega) (by decide)) dX8_wouldOpen_29 ?_
      refine ww_aload_n (pc := 30) X dX8_wouldOpen_30 0 rfl rfl ?_
      refine ww_get (pc := 31) (ci := 8) (v := .ref (rM 10)) (C := RX8) (T := TX8) (N := 27) X inX8_wouldOpen_8 0 rfl rfl 11 (by decide) (by decide +kernel) rfl dX8_wouldOpen_31 ?_
      refine ww_bipush (pc := 34) (v := 15) X dX8_wouldOpen_34 (by decide) ?_
      refine ww_iload_n (pc := 36) X dX8_wouldOpen_36 1 rfl rfl ?_
      refine ww_iadd (pc := 37) X dX8_wouldOpen_37 ?_
      refine ww_iald (pc := 38) (f := SM.2 9) X 10 0 rfl rfl (vn (m := 15 + ((x1 : Int32).toNatClampNeg)) (nat_iadd (a := 15) (b := (x1 : Int32).toNatClampNeg) rfl (cl_of (in_X8_isPerson okM c1))) (by omega) (by decide)) dX8_wouldOpen_38 ?_
      refine ww_iadd (pc := 39) X dX8_wouldOpen_39 ?_
      generalize hz4 : (((SM.2 9) ((1 + x1 : Int32)).toNatClampNeg) + ((SM.2 9) ((15 + x1 : Int32)).toNatClampNeg)) = z4
      refine ww_istore_n (pc := 40) (lv' := [(2, .int z4), (0, .ref (rM 0)), (1, .int x1)]) X dX8_wouldOpen_40 rfl (by decide) rfl ?_
      refine ww_iload_n (pc := 41) X dX8_wouldOpen_41 0 rfl rfl ?_
      refine ww_aload_n (pc := 42) X dX8_wouldOpen_42 1 rfl rfl ?_
      refine ww_iload_n (pc := 43) X dX8_wouldOpen_43 2 rfl rfl ?_
      refine ww_gVi (pc := 44) (rest := [.int z4]) (gsN := [wX8 cI cZ cQ rM SM]) (ci := 8) (gi := 0) (qi := 0) X (c_X8_end l D cI cZ cQ rM SM x1 (in_X8_isPerson okM c1)) gX8_wouldOpen_X8_end rfl hd_X8_end [true] rfl rfl rfl rfl rfl rfl rfl rfl ⟨rfl, rfl⟩ ⟨Nat.le_of_ble_eq_true rfl, Nat.le_of_ble_eq_true rfl⟩ (Nat.le_of_ble_eq_true rfl) ⟨Nat.zero_le _, Nat.zero_le _⟩ dX8_wouldOpen_44 ?_
      refine ww_icmp_ge (pc := 47) (tgt := 54) X dX8_wouldOpen_47 (by decide) (fun c5 => ?_) (fun c5 => ?_)
      · refine ww_iconst (pc := 54) (v := (-1)) X dX8_wouldOpen_54 (by decide) ?_
        exact ww_iret X hr rfl (Eq.symm (by unfold f_X8_wouldOpen; try rw [if_neg c1, if_neg c2, hz4]; try unfold f_X8_wouldOpen_k1; try rw [if_pos c5]; first | done | rfl)) rfl dX8_wouldOpen_55
      · refine ww_iload_n (pc := 50) X dX8_wouldOpen_50 0 rfl rfl ?_
        refine ww_goto (pc := 51) (tgt := 55) X dX8_wouldOpen_51 (by decide) ?_
        exact ww_iret X hr rfl (Eq.symm (by unfold f_X8_wouldOpen; try rw [if_neg c1, if_neg c2, hz4]; try unfold f_X8_wouldOpen_k1; try rw [if_neg c5]; first | done | rfl)) rfl dX8_wouldOpen_55
    · refine ww_ldc (pc := 19) (v := (-1000000003)) X (by decide +kernel) dX8_wouldOpen_19 ?_
      exact ww_iret X hr rfl (Eq.symm (by unfold f_X8_wouldOpen; try rw [if_neg c1, if_pos c2]; first | done | rfl)) rfl dX8_wouldOpen_21
  · refine ww_ldc (pc := 8) (v := (-1000000001)) X (by decide +kernel) dX8_wouldOpen_8 ?_
    exact ww_iret X hr rfl (Eq.symm (by unfold f_X8_wouldOpen; try rw [if_pos c1]; first | done | rfl)) rfl dX8_wouldOpen_10
def f_X8_yearsLeft (SM : St) (x1 : Int32) : Int32 :=
  if (f_X8_isPerson SM x1) = 0 then
    (-1000000001)
  else
    if (f_X8_isAbove SM x1) = 0 then
      (-1000000003)
    else
      (f_X8_end SM x1) - ((SM.2 9) ((1 + x1 : Int32)).toNatClampNeg)
theorem inX8_yearsLeft_8 : ∀ w ∈ wsX80, w ∈ wsX8_yearsLeft := by decide +kernel
theorem hd_X8_yearsLeft : yX8_yearsLeft.cls = RX8 ∧ yX8_yearsLeft.cls ≠ "java/lang/invoke/MethodHandle" ∧ yX8_yearsLeft.cls ≠ "java/lang/invoke/VarHandle" ∧ (parseMethodDescriptor yX8_yearsLeft.desc).map (fun d => d.parameters.length) = some 1 := by decide +kernel
set_option maxHeartbeats 4000000 in
set_option maxRecDepth 100000 in
theorem c_X8_yearsLeft (l : Launch) (D : va_G) (cI cZ cQ : ClassId) (rM : Nat → Nat) (SM : St) (x1 : Int32) (okM : okM SM) : Ci l yX8_yearsLeft wsX8_yearsLeft { frames := 2, cells := 0, slots := 0, locals := 43 } D (tyL cI cZ cQ) [.ref (rM 0), .int x1] (fl [wX8 cI cZ cQ rM SM]) (f_X8_yearsLeft SM x1) (fl [wX8 cI cZ cQ rM SM]) := by
  refine ci_of (cc := cX8_yearsLeft) (nL := 2) (ty := .int) (lv0 := [(0, .ref (rM 0)), (1, .int x1)]) (by decide) rfl (Nat.le_of_ble_eq_true rfl) rfl ?_
  intro p e s m args below meth c A X hr
  refine ww_aload_n (pc := 0) X dX8_yearsLeft_0 0 rfl rfl ?_
  refine ww_iload_n (pc := 1) X dX8_yearsLeft_1 1 rfl rfl ?_
  refine ww_gVi (pc := 2) (rest := []) (gsN := [wX8 cI cZ cQ rM SM]) (ci := 8) (gi := 0) (qi := 0) X (c_X8_isPerson l D cI cZ cQ rM SM x1) gX8_yearsLeft_X8_isPerson rfl hd_X8_isPerson [true] rfl rfl rfl rfl rfl rfl rfl rfl ⟨rfl, rfl⟩ ⟨Nat.le_of_ble_eq_true rfl, Nat.le_of_ble_eq_true rfl⟩ (Nat.le_of_ble_eq_true rfl) ⟨Nat.zero_le _, Nat.zero_le _⟩ dX8_yearsLeft_2 ?_
  refine ww_if_ne (pc := 5) (tgt := 13) X dX8_yearsLeft_5 (by decide) (fun c1 => ?_) (fun c1 => ?_)
  · refine ww_aload_n (pc := 13) X dX8_yearsLeft_13 0 rfl rfl ?_
    refine ww_iload_n (pc := 14) X dX8_yearsLeft_14 1 rfl rfl ?_
    refine ww_gVi (pc := 15) (rest := []) (gsN := [wX8 cI cZ cQ rM SM]) (ci := 8) (gi := 0) (qi := 0) X (c_X8_isAbove l D cI cZ cQ rM SM x1 (in_X8_isPerson okM c1)) gX8_yearsLeft_X8_isAbove rfl hd_X8_isAbove [true] rfl rfl rfl rfl rfl rfl rfl rfl ⟨rfl, rfl⟩ ⟨Nat.le_of_ble_eq_true rfl, Nat.le_of_ble_eq_true rfl⟩ (Nat.le_of_ble_eq_true rfl) ⟨Nat.zero_le _, Nat.zero_le _⟩ dX8_yearsLeft_15 ?_
    refine ww_if_ne (pc := 18) (tgt := 26) X dX8_yearsLeft_18 (by decide) (fun c2 => ?_) (fun c2 => ?_)
    · refine ww_aload_n (pc := 26) X dX8_yearsLeft_26 0 rfl rfl ?_
      refine ww_iload_n (pc := 27) X dX8_yearsLeft_27 1 rfl rfl ?_
      refine ww_gVi (pc := 28) (rest := []) (gsN := [wX8 cI cZ cQ rM SM]) (ci := 8) (gi := 0) (qi := 0) X (c_X8_end l D cI cZ cQ rM SM x1 (in_X8_isPerson okM c1)) gX8_yearsLeft_X8_end rfl hd_X8_end [true] rfl rfl rfl rfl rfl rfl rfl rfl ⟨rfl, rfl⟩ ⟨Nat.le_of_ble_eq_true rfl, Nat.le_of_ble_eq_true rfl⟩ (Nat.le_of_ble_eq_true rfl) ⟨Nat.zero_le _, Nat.zero_le _⟩ dX8_yearsLeft_28 ?_
      refine ww_aload_n (pc := 31) X dX8_yearsLeft_31 0 rfl rfl ?_
      refine ww_get (pc := 32) (ci := 8) (v := .ref (rM 10)) (C := RX8) (T := TX8) (N := 27) X inX8_yearsLeft_8 0 rfl rfl 11 (by decide) (by decide +kernel) rfl dX8_yearsLeft_32 ?_
      refine ww_iconst (pc := 35) (v := 1) X dX8_yearsLeft_35 (by decide) ?_
      refine ww_iload_n (pc := 36) X dX8_yearsLeft_36 1 rfl rfl ?_
      have hb3 := clb (in_X8_isPerson okM c1)
      refine ww_iadd (pc := 37) X dX8_yearsLeft_37 ?_
      refine ww_iald (pc := 38) (f := SM.2 9) X 10 0 rfl rfl (vn (m := 1 + ((x1 : Int32).toNatClampNeg)) (nat_iadd (a := 1) (b := (x1 : Int32).toNatClampNeg) rfl (cl_of (in_X8_isPerson okM c1))) (by omega) (by decide)) dX8_yearsLeft_38 ?_
      refine ww_isub (pc := 39) X dX8_yearsLeft_39 ?_
      exact ww_iret X hr rfl (Eq.symm (by unfold f_X8_yearsLeft; try rw [if_neg c1, if_neg c2]; first | done | rfl)) rfl dX8_yearsLeft_40
    · refine ww_ldc (pc := 21) (v := (-1000000003)) X (by decide +kernel) dX8_yearsLeft_21 ?_
      refine ww_goto (pc := 23) (tgt := 40) X dX8_yearsLeft_23 (by decide) ?_
      exact ww_iret X hr rfl (Eq.symm (by unfold f_X8_yearsLeft; try rw [if_neg c1, if_pos c2]; first | done | rfl)) rfl dX8_yearsLeft_40
  · refine ww_ldc (pc := 8) (v := (-1000000001)) X (by decide +kernel) dX8_yearsLeft_8 ?_
    refine ww_goto (pc := 10) (tgt := 40) X dX8_yearsLeft_10 (by decide) ?_
    exact ww_iret X hr rfl (Eq.symm (by unfold f_X8_yearsLeft; try rw [if_pos c1]; first | done | rfl)) rfl dX8_yearsLeft_40
def bd_X8_latest_6_k1 (SM : St) (j : Nat) (u : Int32 × Int32) (z5 : Int32) : Int32 × Int32 :=
  if z5 ≤ u.2 then
    (u.1, u.2)
  else
    ((nI j), z5)
def bd_X8_latest_6 (SM : St) (j : Nat) (u : Int32 × Int32) : Int32 × Int32 :=
  if (f_X8_isAbove SM (nI j)) = 0 then
    if 0 ≤ u.2 then
      (u.1, u.2)
    else
      ((nI j), 0)
  else
    bd_X8_latest_6_k1 SM j u ((f_X8_end SM (nI j)) - ((SM.2 9) ((1 + (nI j) : Int32)).toNatClampNeg))
def it_X8_latest_6 (SM : St) (u : Int32 × Int32) : Nat → Int32 × Int32
  | 0 => u
  | j + 1 => bd_X8_latest_6 SM j (it_X8_latest_6 SM u j)
def f_X8_latest_k1 (SM : St) (z21 : Int32 × Int32) : Int32 :=
  z21.1
def f_X8_latest (SM : St) : Int32 :=
  f_X8_latest_k1 SM (it_X8_latest_6 SM ((-1), 0) (((SM.2 1) ((3 : Int32)).toNatClampNeg).toNatClampNeg))
theorem inX8_latest_8 : ∀ w ∈ wsX80, w ∈ wsX8_latest := by decide +kernel
theorem hd_X8_latest : yX8_latest.cls = RX8 ∧ yX8_latest.cls ≠ "java/lang/invoke/MethodHandle" ∧ yX8_latest.cls ≠ "java/lang/invoke/VarHandle" ∧ (parseMethodDescriptor yX8_latest.desc).map (fun d => d.parameters.length) = some 0 := by decide +kernel
set_option maxHeartbeats 4000000 in
set_option maxRecDepth 100000 in
theorem c_X8_latest (l : Launch) (D : va_G) (cI cZ cQ : ClassId) (rM : Nat → Nat) (SM : St) (okM : okM SM) : Ci l yX8_latest wsX8_latest { frames := 1, cells := 0, slots := 0, locals := 21 } D (tyL cI cZ cQ) [.ref (rM 0)] (fl [wX8 cI cZ cQ rM SM]) (f_X8_latest SM) (fl [wX8 cI cZ cQ rM SM]) := by
  refine ci_of (cc := cX8_latest) (nL := 5) (ty := .int) (lv0 := [(0, .ref (rM 0))]) (by decide) rfl (Nat.le_of_ble_eq_true rfl) rfl ?_
  intro p e s m args below meth c A X hr
  refine ww_iconst (pc := 0) (v := (-1)) X dX8_latest_0 (by decide) ?_
  refine ww_istore_n (pc := 1) (lv' := [(1, .int (-1)), (0, .ref (rM 0))]) X dX8_latest_1 rfl (by decide) rfl ?_
  refine ww_iconst (pc := 2) (v := 0) X dX8_latest_2 (by decide) ?_
  refine ww_istore_n (pc := 3) (lv' := [(2, .int 0), (1, .int (-1)), (0, .ref (rM 0))]) X dX8_latest_3 rfl (by decide) rfl ?_
  refine ww_iconst (pc := 4) (v := 0) X dX8_latest_4 (by decide) ?_
  refine ww_istore_n (pc := 5) (lv' := [(3, .int 0), (2, .int 0), (1, .int (-1)), (0, .ref (rM 0))]) X dX8_latest_5 rfl (by decide) rfl ?_
  have L6 : ∀ (k_6 j_6 : Nat), j_6 + k_6 = ((SM.2 1) ((3 : Int32)).toNatClampNeg).toNatClampNeg → WW p l e (headSpec wsX8_latest { frames := 1, cells := 0, slots := 0, locals := 21 }).room s m args below meth c 5 D A 0 0 (RQi below args s D A (f_X8_latest SM) (fl [wX8 cI cZ cQ rM SM])) (fl [wX8 cI cZ cQ rM SM]) [(0, .ref (rM 0)), (1, .int ((it_X8_latest_6 SM ((-1), 0) (((SM.2 1) ((3 : Int32)).toNatClampNeg).toNatClampNeg)).1)), (2, .int ((it_X8_latest_6 SM ((-1), 0) (((SM.2 1) ((3 : Int32)).toNatClampNeg).toNatClampNeg)).2)), (3, .int (nI (((SM.2 1) ((3 : Int32)).toNatClampNeg).toNatClampNeg)))] 75 [] → WW p l e (headSpec wsX8_latest { frames := 1, cells := 0, slots := 0, locals := 21 }).room s m args below meth c 5 D A 0 0 (RQi below args s D A (f_X8_latest SM) (fl [wX8 cI cZ cQ rM SM])) (fl [wX8 cI cZ cQ rM SM]) [(0, .ref (rM 0)), (1, .int ((it_X8_latest_6 SM ((-1), 0) j_6).1)), (2, .int ((it_X8_latest_6 SM ((-1), 0) j_6).2)), (3, .int (nI j_6))] 6 [] := by
    intro k_6
    induction k_6 with
    | zero =>
      intro j_6 hj K
      have hjB : j_6 = ((SM.2 1) ((3 : Int32)).toNatClampNeg).toNatClampNeg := by omega
      subst hjB
      refine ww_iload_n (pc := 6) X dX8_latest_6 3 rfl rfl ?_
      refine ww_aload_n (pc := 7) X dX8_latest_7 0 rfl rfl ?_
      refine ww_get (pc := 8) (ci := 8) (v := .ref (rM 2)) (C := RX8) (T := TX8) (N := 27) X inX8_latest_8 0 rfl rfl 3 (by decide) (by decide +kernel) rfl dX8_latest_8 ?_
      refine ww_iconst (pc := 11) (v := 3) X dX8_latest_11 (by decide) ?_
      refine ww_iald (pc := 12) (f := SM.2 1) X 2 0 rfl rfl (vl_in (by decide)) dX8_latest_12 ?_
      exact ww_icmp_ge (pc := 13) (tgt := 75) X dX8_latest_13 (by decide) (fun _ => K) (fun c9 => absurd (lp_ge0c (Nat.le_refl _) (cl_lt _)) c9)
    | succ k_6 ih =>
      intro j_6 hj K
      have hjB : j_6 < ((SM.2 1) ((3 : Int32)).toNatClampNeg).toNatClampNeg := by omega
      have h7_6 := okM_p okM
      refine ww_iload_n (pc := 6) X dX8_latest_6 3 rfl rfl ?_
      refine ww_aload_n (pc := 7) X dX8_latest_7 0 rfl rfl ?_
      refine ww_get (pc := 8) (ci := 8) (v := .ref (rM 2)) (C := RX8) (T := TX8) (N := 27) X inX8_latest_8 0 rfl rfl 3 (by decide) (by decide +kernel) rfl dX8_latest_8 ?_
      refine ww_iconst (pc := 11) (v := 3) X dX8_latest_11 (by decide) ?_
      refine ww_iald (pc := 12) (f := SM.2 1) X 2 0 rfl rfl (vl_in (by decide)) dX8_latest_12 ?_
      refine ww_icmp_ge (pc := 13) (tgt := 75) X dX8_latest_13 (by decide) (fun c9 => absurd c9 (lp_ge1c hjB)) (fun _ => ?_)
      refine ww_aload_n (pc := 16) X dX8_latest_16 0 rfl rfl ?_
      refine ww_iload_n (pc := 17) X dX8_latest_17 3 rfl rfl ?_
      refine ww_gVi (pc := 18) (rest := []) (gsN := [wX8 cI cZ cQ rM SM]) (ci := 8) (gi := 0) (qi := 0) X (c_X8_isAbove l D cI cZ cQ rM SM (nI j_6) (vn (m := j_6) rfl (by omega) (by decide))) gX8_latest_X8_isAbove rfl hd_X8_isAbove [true] rfl rfl rfl rfl rfl rfl rfl rfl ⟨rfl, rfl⟩ ⟨Nat.le_of_ble_eq_true rfl, Nat.le_of_ble_eq_true rfl⟩ (Nat.le_of_ble_eq_true rfl) ⟨Nat.zero_le _, Nat.zero_le _⟩ dX8_latest_18 ?_
      refine ww_if_eq (pc := 21) (tgt := 41) X dX8_latest_21 (by decide) (fun c9 => ?_) (fun c9 => ?_)
      · refine ww_iconst (pc := 41) (v := 0) X dX8_latest_41 (by decide) ?_
        refine ww_istore (pc := 42) (lv' := [(4, .int 0), (0, .ref (rM 0)), (1, .int ((it_X8_latest_6 SM ((-1), 0) j_6).1)), (2, .int ((it_X8_latest_6 SM ((-1), 0) j_6).2)), (3, .int (nI j_6))]) X dX8_latest_42 (by decide) rfl ?_
        refine ww_iload (pc := 44) X dX8_latest_44 0 rfl ?_
        refine ww_iload_n (pc := 46) X dX8_latest_46 3 rfl rfl ?_
        refine ww_icmp_le (pc := 47) (tgt := 54) X dX8_latest_47 (by decide) (fun c10 => ?_) (fun c10 => ?_)
        · refine ww_iload_n (pc := 54) X dX8_latest_54 2 rfl rfl ?_
          refine ww_istore_n (pc := 55) (lv' := [(1, .int ((it_X8_latest_6 SM ((-1), 0) j_6).1)), (4, .int 0), (0, .ref (rM 0)), (2, .int ((it_X8_latest_6 SM ((-1), 0) j_6).2)), (3, .int (nI j_6))]) X dX8_latest_55 rfl (by decide) rfl ?_
          refine ww_iload (pc := 56) X dX8_latest_56 1 rfl ?_
          refine ww_iload_n (pc := 58) X dX8_latest_58 3 rfl rfl ?_
          refine ww_icmp_le (pc := 59) (tgt := 67) X dX8_latest_59 (by decide) (fun _ => ?_) (fun c11 => absurd c10 c11)
          refine ww_iload_n (pc := 67) X dX8_latest_67 3 rfl rfl ?_
          refine ww_istore_n (pc := 68) (lv' := [(2, .int ((it_X8_latest_6 SM ((-1), 0) j_6).2)), (1, .int ((it_X8_latest_6 SM ((-1), 0) j_6).1)), (4, .int 0), (0, .ref (rM 0)), (3, .int (nI j_6))]) X dX8_latest_68 rfl (by decide) rfl ?_
          refine ww_iinc (pc := 69) (v := (nI j_6) + 1) (lv' := [(3, .int ((nI j_6) + 1)), (2, .int ((it_X8_latest_6 SM ((-1), 0) j_6).2)), (1, .int ((it_X8_latest_6 SM ((-1), 0) j_6).1)), (4, .int 0), (0, .ref (rM 0))]) X dX8_latest_69 4 rfl rfl (by decide) rfl ?_
          refine ww_goto (pc := 72) (tgt := 6) X dX8_latest_72 (by decide) ?_
          have h12 : (it_X8_latest_6 SM ((-1), 0) (j_6 + 1)) = ((it_X8_latest_6 SM ((-1), 0) j_6).1, (it_X8_latest_6 SM ((-1), 0) j_6).2) := by
            show bd_X8_latest_6 SM j_6 (it_X8_latest_6 SM ((-1), 0) j_6) = _; unfold bd_X8_latest_6; try rw [if_pos c9, if_pos c10]; first | done | rfl
          refine ww_lsub [4, 2, 1, 0] rfl ?_
          exact ww_castI (fun u9 : Int32 × Int32 => fl [wX8 cI cZ cQ rM SM]) (fun (u9 : Int32 × Int32) (i9 : Int32) => ([(0, .ref (rM 0)), (1, .int u9.1), (2, .int u9.2), (3, .int i9)] : List (Nat × Value))) h12 (ih (j_6 + 1) (by omega) K)
        · refine ww_iload_n (pc := 50) X dX8_latest_50 4 rfl rfl ?_
          refine ww_goto (pc := 51) (tgt := 55) X dX8_latest_51 (by decide) ?_
          refine ww_istore_n (pc := 55) (lv' := [(1, .int (nI j_6)), (4, .int 0), (0, .ref (rM 0)), (2, .int ((it_X8_latest_6 SM ((-1), 0) j_6).2)), (3, .int (nI j_6))]) X dX8_latest_55 rfl (by decide) rfl ?_
          refine ww_iload (pc := 56) X dX8_latest_56 1 rfl ?_
          refine ww_iload_n (pc := 58) X dX8_latest_58 3 rfl rfl ?_
          refine ww_icmp_le (pc := 59) (tgt := 67) X dX8_latest_59 (by decide) (fun c13 => absurd c13 c10) (fun _ => ?_)
          refine ww_iload (pc := 62) X dX8_latest_62 1 rfl ?_
          refine ww_goto (pc := 64) (tgt := 68) X dX8_latest_64 (by decide) ?_
          refine ww_istore_n (pc := 68) (lv' := [(2, .int 0), (1, .int (nI j_6)), (4, .int 0), (0, .ref (rM 0)), (3, .int (nI j_6))]) X dX8_latest_68 rfl (by decide) rfl ?_
          refine ww_iinc (pc := 69) (v := (nI j_6) + 1) (lv' := [(3, .int ((nI j_6) + 1)), (2, .int 0), (1, .int (nI j_6)), (4, .int 0), (0, .ref (rM 0))]) X dX8_latest_69 4 rfl rfl (by decide) rfl ?_
          refine ww_goto (pc := 72) (tgt := 6) X dX8_latest_72 (by decide) ?_
          have h14 : (it_X8_latest_6 SM ((-1), 0) (j_6 + 1)) = ((nI j_6), 0) := by
            show bd_X8_latest_6 SM j_6 (it_X8_latest_6 SM ((-1), 0) j_6) = _; unfold bd_X8_latest_6; try rw [if_pos c9, if_neg c10]; first | done | rfl
          refine ww_lsub [4, 2, 1, 0] rfl ?_
          exact ww_castI (fun u9 : Int32 × Int32 => fl [wX8 cI cZ cQ rM SM]) (fun (u9 : Int32 × Int32) (i9 : Int32) => ([(0, .ref (rM 0)), (1, .int u9.1), (2, .int u9.2), (3, .int i9)] : List (Nat × Value))) h14 (ih (j_6 + 1) (by omega) K)
      · refine ww_aload_n (pc := 24) X dX8_latest_24 0 rfl rfl ?_
        refine ww_iload_n (pc := 25) X dX8_latest_25 3 rfl rfl ?_
        refine ww_gVi (pc := 26) (rest := []) (gsN := [wX8 cI cZ cQ rM SM]) (ci := 8) (gi := 0) (qi := 0) X (c_X8_end l D cI cZ cQ rM SM (nI j_6) (vn (m := j_6) rfl (by omega) (by decide))) gX8_latest_X8_end rfl hd_X8_end [true] rfl rfl rfl rfl rfl rfl rfl rfl ⟨rfl, rfl⟩ ⟨Nat.le_of_ble_eq_true rfl, Nat.le_of_ble_eq_true rfl⟩ (Nat.le_of_ble_eq_true rfl) ⟨Nat.zero_le _, Nat.zero_le _⟩ dX8_latest_26 ?_
        refine ww_aload_n (pc := 29) X dX8_latest_29 0 rfl rfl ?_
        refine ww_get (pc := 30) (ci := 8) (v := .ref (rM 10)) (C := RX8) (T := TX8) (N := 27) X inX8_latest_8 0 rfl rfl 11 (by decide) (by decide +kernel) rfl dX8_latest_30 ?_
        refine ww_iconst (pc := 33) (v := 1) X dX8_latest_33 (by decide) ?_
        refine ww_iload_n (pc := 34) X dX8_latest_34 3 rfl rfl ?_
        refine ww_iadd (pc := 35) X dX8_latest_35 ?_
        refine ww_iald (pc := 36) (f := SM.2 9) X 10 0 rfl rfl (vn (m := 1 + j_6) (nat_iadd (a := 1) (b := j_6) rfl rfl) (by omega) (by decide)) dX8_latest_36 ?_
        refine ww_isub (pc := 37) X dX8_latest_37 ?_
        refine ww_goto (pc := 38) (tgt := 42) X dX8_latest_38 (by decide) ?_
        generalize hz15 : ((f_X8_end SM (nI j_6)) - ((SM.2 9) ((1 + (nI j_6) : Int32)).toNatClampNeg)) = z15
        refine ww_istore (pc := 42) (lv' := [(4, .int z15), (0, .ref (rM 0)), (1, .int ((it_X8_latest_6 SM ((-1), 0) j_6).1)), (2, .int ((it_X8_latest_6 SM ((-1), 0) j_6).2)), (3, .int (nI j_6))]) X dX8_latest_42 (by decide) rfl ?_
        refine ww_iload (pc := 44) X dX8_latest_44 0 rfl ?_
        refine ww_iload_n (pc := 46) X dX8_latest_46 3 rfl rfl ?_
        refine ww_icmp_le (pc := 47) (tgt := 54) X dX8_latest_47 (by decide) (fun c16 => ?_) (fun c16 => ?_)
        · refine ww_iload_n (pc := 54) X dX8_latest_54 2 rfl rfl ?_
          refine ww_istore_n (pc := 55) (lv' := [(1, .int ((it_X8_latest_6 SM ((-1), 0) j_6).1)), (4, .int z15), (0, .ref (rM 0)), (2, .int ((it_X8_latest_6 SM ((-1), 0) j_6).2)), (3, .int (nI j_6))]) X dX8_latest_55 rfl (by decide) rfl ?_
          refine ww_iload (pc := 56) X dX8_latest_56 1 rfl ?_
          refine ww_iload_n (pc := 58) X dX8_latest_58 3 rfl rfl ?_
          refine ww_icmp_le (pc := 59) (tgt := 67) X dX8_latest_59 (by decide) (fun _ => ?_) (fun c17 => absurd c16 c17)
          refine ww_iload_n (pc := 67) X dX8_latest_67 3 rfl rfl ?_
          refine ww_istore_n (pc := 68) (lv' := [(2, .int ((it_X8_latest_6 SM ((-1), 0) j_6).2)), (1, .int ((it_X8_latest_6 SM ((-1), 0) j_6).1)), (4, .int z15), (0, .ref (rM 0)), (3, .int (nI j_6))]) X dX8_latest_68 rfl (by decide) rfl ?_
          refine ww_iinc (pc := 69) (v := (nI j_6) + 1) (lv' := [(3, .int ((nI j_6) + 1)), (2, .int ((it_X8_latest_6 SM ((-1), 0) j_6).2)), (1, .int ((it_X8_latest_6 SM ((-1), 0) j_6).1)), (4, .int z15), (0, .ref (rM 0))]) X dX8_latest_69 4 rfl rfl (by decide) rfl ?_
          refine ww_goto (pc := 72) (tgt := 6) X dX8_latest_72 (by decide) ?_
          have h18 : (it_X8_latest_6 SM ((-1), 0) (j_6 + 1)) = ((it_X8_latest_6 SM ((-1), 0) j_6).1, (it_X8_latest_6 SM ((-1), 0) j_6).2) := by
            show bd_X8_latest_6 SM j_6 (it_X8_latest_6 SM ((-1), 0) j_6) = _; unfold bd_X8_latest_6; try rw [if_neg c9, hz15]; try unfold bd_X8_latest_6_k1; try rw [if_pos c16]; first | done | rfl
          refine ww_lsub [4, 2, 1, 0] rfl ?_
          exact ww_castI (fun u9 : Int32 × Int32 => fl [wX8 cI cZ cQ rM SM]) (fun (u9 : Int32 × Int32) (i9 : Int32) => ([(0, .ref (rM 0)), (1, .int u9.1), (2, .int u9.2), (3, .int i9)] : List (Nat × Value))) h18 (ih (j_6 + 1) (by omega) K)
        · refine ww_iload_n (pc := 50) X dX8_latest_50 4 rfl rfl ?_
          refine ww_goto (pc := 51) (tgt := 55) X dX8_latest_51 (by decide) ?_
          refine ww_istore_n (pc := 55) (lv' := [(1, .int (nI j_6)), (4, .int z15), (0, .ref (rM 0)), (2, .int ((it_X8_latest_6 SM ((-1), 0) j_6).2)), (3, .int (nI j_6))]) X dX8_latest_55 rfl (by decide) rfl ?_
          refine ww_iload (pc := 56) X dX8_latest_56 1 rfl ?_
          refine ww_iload_n (pc := 58) X dX8_latest_58 3 rfl rfl ?_
          refine ww_icmp_le (pc := 59) (tgt := 67) X dX8_latest_59 (by decide) (fun c19 => absurd c19 c16) (fun _ => ?_)
          refine ww_iload (pc := 62) X dX8_latest_62 1 rfl ?_
          refine ww_goto (pc := 64) (tgt := 68) X dX8_latest_64 (by decide) ?_
          refine ww_istore_n (pc := 68) (lv' := [(2, .int z15), (1, .int (nI j_6)), (4, .int z15), (0, .ref (rM 0)), (3, .int (nI j_6))]) X dX8_latest_68 rfl (by decide) rfl ?_
          refine ww_iinc (pc := 69) (v := (nI j_6) + 1) (lv' := [(3, .int ((nI j_6) + 1)), (2, .int z15), (1, .int (nI j_6)), (4, .int z15), (0, .ref (rM 0))]) X dX8_latest_69 4 rfl rfl (by decide) rfl ?_
          refine ww_goto (pc := 72) (tgt := 6) X dX8_latest_72 (by decide) ?_
          have h20 : (it_X8_latest_6 SM ((-1), 0) (j_6 + 1)) = ((nI j_6), z15) := by
            show bd_X8_latest_6 SM j_6 (it_X8_latest_6 SM ((-1), 0) j_6) = _; unfold bd_X8_latest_6; try rw [if_neg c9, hz15]; try unfold bd_X8_latest_6_k1; try rw [if_neg c16]; first | done | rfl
          refine ww_lsub [4, 2, 1, 0] rfl ?_
          exact ww_castI (fun u9 : Int32 × Int32 => fl [wX8 cI cZ cQ rM SM]) (fun (u9 : Int32 × Int32) (i9 : Int32) => ([(0, .ref (rM 0)), (1, .int u9.1), (2, .int u9.2), (3, .int i9)] : List (Nat × Value))) h20 (ih (j_6 + 1) (by omega) K)
  refine ww_lsub [3, 2, 1, 0] rfl ?_
  refine L6 (((SM.2 1) ((3 : Int32)).toNatClampNeg).toNatClampNeg) 0 (by omega) ?_
  generalize hz21 : ((it_X8_latest_6 SM ((-1), 0) (((SM.2 1) ((3 : Int32)).toNatClampNeg).toNatClampNeg))) = z21
  refine ww_iload_n (pc := 75) X dX8_latest_75 1 rfl rfl ?_
  exact ww_iret X hr rfl (Eq.symm (by unfold f_X8_latest; try rw [hz21]; try unfold f_X8_latest_k1; first | done | rfl)) rfl dX8_latest_76
def bd_X8_storm_30 (SM : St) (x1 : Int32) (x2 : Int32) (j : Nat) (u : Int64) : Int64 :=
  (u * (((100 - x2 : Int32)).toInt64)) / 100
def it_X8_storm_30 (SM : St) (x1 : Int32) (x2 : Int32) (u : Int64) : Nat → Int64
  | 0 => u
  | j + 1 => bd_X8_storm_30 SM x1 x2 j (it_X8_storm_30 SM x1 x2 u j)
def f_X8_storm_k1 (SM : St) (x1 : Int32) (x2 : Int32) (z4 : Int64) : Int32 :=
  ((z4 : Int64)).toInt32
def f_X8_storm (SM : St) (x1 : Int32) (x2 : Int32) : Int32 :=
  if (f_X8_in x1 0 60) = 0 then
    (-1000000002)
  else
    if (f_X8_in x2 0 100) = 0 then
      (-1000000002)
    else
      f_X8_storm_k1 SM x1 x2 (it_X8_storm_30 SM x1 x2 (1000000000 : Int64) x1.toNatClampNeg)
theorem hd_X8_storm : yX8_storm.cls = RX8 ∧ yX8_storm.cls ≠ "java/lang/invoke/MethodHandle" ∧ yX8_storm.cls ≠ "java/lang/invoke/VarHandle" ∧ (parseMethodDescriptor yX8_storm.desc).map (fun d => d.parameters.length) = some 2 := by decide +kernel
set_option maxHeartbeats 4000000 in
set_option maxRecDepth 100000 in
theorem c_X8_storm (l : Launch) (D : va_G) (cI cZ cQ : ClassId) (rM : Nat → Nat) (SM : St) (x1 : Int32) (x2 : Int32) : Ci l yX8_storm wsX8_storm { frames := 1, cells := 0, slots := 0, locals := 22 } D (tyL cI cZ cQ) [.ref (rM 0), .int x1, .int x2] (fl [wX8 cI cZ cQ rM SM]) (f_X8_storm SM x1 x2) (fl [wX8 cI cZ cQ rM SM]) := by
  refine ci_of (cc := cX8_storm) (nL := 6) (ty := .int) (lv0 := [(0, .ref (rM 0)), (1, .int x1), (2, .int x2)]) (by decide) rfl (Nat.le_of_ble_eq_true rfl) rfl ?_
  intro p e s m args below meth c A X hr
  refine ww_iload_n (pc := 0) X dX8_storm_0 1 rfl rfl ?_
  refine ww_iconst (pc := 1) (v := 0) X dX8_storm_1 (by decide) ?_
  refine ww_bipush (pc := 2) (v := 60) X dX8_storm_2 (by decide) ?_
  refine ww_gSi (pc := 4) (rest := []) (gsN := [wX8 cI cZ cQ rM SM]) X (c_X8_in l D cI cZ cQ x1 0 60) gX8_storm_X8_in rfl hd_X8_in [false] rfl rfl rfl rfl ⟨rfl, rfl⟩ ⟨Nat.le_of_ble_eq_true rfl, Nat.le_of_ble_eq_true rfl⟩ (Nat.le_of_ble_eq_true rfl) ⟨Nat.zero_le _, Nat.zero_le _⟩ dX8_storm_4 ?_
  refine ww_if_eq (pc := 7) (tgt := 20) X dX8_storm_7 (by decide) (fun c1 => ?_) (fun c1 => ?_)
  · refine ww_ldc (pc := 20) (v := (-1000000002)) X (by decide +kernel) dX8_storm_20 ?_
    exact ww_iret X hr rfl (Eq.symm (by unfold f_X8_storm; try rw [if_pos c1]; first | done | rfl)) rfl dX8_storm_22
  · refine ww_iload_n (pc := 10) X dX8_storm_10 2 rfl rfl ?_
    refine ww_iconst (pc := 11) (v := 0) X dX8_storm_11 (by decide) ?_
    refine ww_bipush (pc := 12) (v := 100) X dX8_storm_12 (by decide) ?_
    refine ww_gSi (pc := 14) (rest := []) (gsN := [wX8 cI cZ cQ rM SM]) X (c_X8_in l D cI cZ cQ x2 0 100) gX8_storm_X8_in rfl hd_X8_in [false] rfl rfl rfl rfl ⟨rfl, rfl⟩ ⟨Nat.le_of_ble_eq_true rfl, Nat.le_of_ble_eq_true rfl⟩ (Nat.le_of_ble_eq_true rfl) ⟨Nat.zero_le _, Nat.zero_le _⟩ dX8_storm_14 ?_
    refine ww_if_ne (pc := 17) (tgt := 23) X dX8_storm_17 (by decide) (fun c2 => ?_) (fun c2 => ?_)
    · refine ww_ldc2 (pc := 23) (v := 1000000000) X (by decide +kernel) dX8_storm_23 ?_
      refine ww_lstore_n (pc := 26) (lv' := [(3, .long 1000000000), (0, .ref (rM 0)), (1, .int x1), (2, .int x2)]) X dX8_storm_26 rfl (by decide) rfl ?_
      refine ww_iconst (pc := 27) (v := 0) X dX8_storm_27 (by decide) ?_
      refine ww_istore (pc := 28) (lv' := [(5, .int 0), (3, .long 1000000000), (0, .ref (rM 0)), (1, .int x1), (2, .int x2)]) X dX8_storm_28 (by decide) rfl ?_
      have L30 : ∀ (k_30 j_30 : Nat), j_30 + k_30 = x1.toNatClampNeg → WW p l e (headSpec wsX8_storm { frames := 1, cells := 0, slots := 0, locals := 22 }).room s m args below meth c 6 D A 0 0 (RQi below args s D A (f_X8_storm SM x1 x2) (fl [wX8 cI cZ cQ rM SM])) (fl [wX8 cI cZ cQ rM SM]) [(0, .ref (rM 0)), (1, .int x1), (2, .int x2), (3, .long (it_X8_storm_30 SM x1 x2 (1000000000 : Int64) x1.toNatClampNeg)), (5, .int (nI x1.toNatClampNeg))] 54 [] → WW p l e (headSpec wsX8_storm { frames := 1, cells := 0, slots := 0, locals := 22 }).room s m args below meth c 6 D A 0 0 (RQi below args s D A (f_X8_storm SM x1 x2) (fl [wX8 cI cZ cQ rM SM])) (fl [wX8 cI cZ cQ rM SM]) [(0, .ref (rM 0)), (1, .int x1), (2, .int x2), (3, .long (it_X8_storm_30 SM x1 x2 (1000000000 : Int64) j_30)), (5, .int (nI j_30))] 30 [] := by
        intro k_30
        induction k_30 with
        | zero =>
          intro j_30 hj K
          have hjB : j_30 = x1.toNatClampNeg := by omega
          subst hjB
          refine ww_iload (pc := 30) X dX8_storm_30 4 rfl ?_
          refine ww_iload_n (pc := 32) X dX8_storm_32 1 rfl rfl ?_
          exact ww_icmp_ge (pc := 33) (tgt := 54) X dX8_storm_33 (by decide) (fun _ => K) (fun c9 => absurd (lp_ge0c (Nat.le_refl _) (cl_lt _)) c9)
        | succ k_30 ih =>
          intro j_30 hj K
          have hjB : j_30 < x1.toNatClampNeg := by omega
          refine ww_iload (pc := 30) X dX8_storm_30 4 rfl ?_
          refine ww_iload_n (pc := 32) X dX8_storm_32 1 rfl rfl ?_
          refine ww_icmp_ge (pc := 33) (tgt := 54) X dX8_storm_33 (by decide) (fun c9 => absurd c9 (lp_ge1c hjB)) (fun _ => ?_)
          refine ww_lload_n (pc := 36) X dX8_storm_36 3 rfl rfl ?_
          refine ww_bipush (pc := 37) (v := 100) X dX8_storm_37 (by decide) ?_
          refine ww_iload_n (pc := 39) X dX8_storm_39 2 rfl rfl ?_
          refine ww_isub (pc := 40) X dX8_storm_40 ?_
          refine ww_i2l (pc := 41) X dX8_storm_41 rfl ?_
          refine ww_lmul (pc := 42) X dX8_storm_42 ?_
          refine ww_ldc2 (pc := 43) (v := 100) X (by decide +kernel) dX8_storm_43 ?_
          refine ww_ldiv (pc := 46) X dX8_storm_46 (by decide) ?_
          refine ww_lstore_n (pc := 47) (lv' := [(3, .long (((it_X8_storm_30 SM x1 x2 (1000000000 : Int64) j_30) * (((100 - x2 : Int32)).toInt64)) / 100)), (0, .ref (rM 0)), (1, .int x1), (2, .int x2), (5, .int (nI j_30))]) X dX8_storm_47 rfl (by decide) rfl ?_
          refine ww_iinc (pc := 48) (v := (nI j_30) + 1) (lv' := [(5, .int ((nI j_30) + 1)), (3, .long (((it_X8_storm_30 SM x1 x2 (1000000000 : Int64) j_30) * (((100 - x2 : Int32)).toInt64)) / 100)), (0, .ref (rM 0)), (1, .int x1), (2, .int x2)]) X dX8_storm_48 4 rfl rfl (by decide) rfl ?_
          refine ww_goto (pc := 51) (tgt := 30) X dX8_storm_51 (by decide) ?_
          have h3 : (it_X8_storm_30 SM x1 x2 (1000000000 : Int64) (j_30 + 1)) = ((it_X8_storm_30 SM x1 x2 (1000000000 : Int64) j_30) * (((100 - x2 : Int32)).toInt64)) / 100 := by
            show bd_X8_storm_30 SM x1 x2 j_30 (it_X8_storm_30 SM x1 x2 (1000000000 : Int64) j_30) = _; unfold bd_X8_storm_30; first | done | rfl
          refine ww_lsub [2, 3, 4, 1, 0] rfl ?_
          exact ww_castI (fun u9 : Int64 => fl [wX8 cI cZ cQ rM SM]) (fun (u9 : Int64) (i9 : Int32) => ([(0, .ref (rM 0)), (1, .int x1), (2, .int x2), (3, .long u9), (5, .int i9)] : List (Nat × Value))) h3 (ih (j_30 + 1) (by omega) K)
      refine ww_lsub [2, 3, 4, 1, 0] rfl ?_
      refine L30 x1.toNatClampNeg 0 (by omega) ?_
      generalize hz4 : ((it_X8_storm_30 SM x1 x2 (1000000000 : Int64) x1.toNatClampNeg)) = z4
      refine ww_lload_n (pc := 54) X dX8_storm_54 3 rfl rfl ?_
      refine ww_l2i (pc := 55) X dX8_storm_55 rfl ?_
      exact ww_iret X hr rfl (Eq.symm (by unfold f_X8_storm; try rw [if_neg c1, if_neg c2, hz4]; try unfold f_X8_storm_k1; first | done | rfl)) rfl dX8_storm_56
    · refine ww_ldc (pc := 20) (v := (-1000000002)) X (by decide +kernel) dX8_storm_20 ?_
      exact ww_iret X hr rfl (Eq.symm (by unfold f_X8_storm; try rw [if_neg c1, if_pos c2]; first | done | rfl)) rfl dX8_storm_22
def f_X8_find (SM : St) (x1 : Int32) (x2 : Int32) (x3 : Int32) : Int32 × St :=
  if x1 = 0 then
    if (f_X8_isGood SM x2) = 0 then
      ((-1000000001), SM)
    else
      if (f_X8_in x1 0 1) = 0 then
        ((-1000000002), SM)
      else
        if x1 = 1 then
          if x2 = 0 then
            if (f_X8_in x3 0 9999) = 0 then
              ((-1000000002), SM)
            else
              if (SM.1 4) = 6 then
                ((-1000000004), SM)
              else
                ((SM.1 4) + 1, (sA (sI SM 4 ((SM.1 4) + 1)) 14 (upd (upd (upd (SM.2 14) ((3 * (SM.1 4) : Int32)).toNatClampNeg x1) (((3 * (SM.1 4)) + 1 : Int32)).toNatClampNeg x2) (((3 * (SM.1 4)) + 2 : Int32)).toNatClampNeg x3)))
          else
            ((-1000000002), SM)
        else
          if (f_X8_in x3 0 9999) = 0 then
            ((-1000000002), SM)
          else
            if (SM.1 4) = 6 then
              ((-1000000004), SM)
            else
              ((SM.1 4) + 1, (sA (sI SM 4 ((SM.1 4) + 1)) 14 (upd (upd (upd (SM.2 14) ((3 * (SM.1 4) : Int32)).toNatClampNeg x1) (((3 * (SM.1 4)) + 1 : Int32)).toNatClampNeg x2) (((3 * (SM.1 4)) + 2 : Int32)).toNatClampNeg x3)))
  else
    if (f_X8_in x1 0 1) = 0 then
      ((-1000000002), SM)
    else
      if x1 = 1 then
        if x2 = 0 then
          if (f_X8_in x3 0 9999) = 0 then
            ((-1000000002), SM)
          else
            if (SM.1 4) = 6 then
              ((-1000000004), SM)
            else
              ((SM.1 4) + 1, (sA (sI SM 4 ((SM.1 4) + 1)) 14 (upd (upd (upd (SM.2 14) ((3 * (SM.1 4) : Int32)).toNatClampNeg x1) (((3 * (SM.1 4)) + 1 : Int32)).toNatClampNeg x2) (((3 * (SM.1 4)) + 2 : Int32)).toNatClampNeg x3)))
        else
          ((-1000000002), SM)
      else
        if (f_X8_in x3 0 9999) = 0 then
          ((-1000000002), SM)
        else
          if (SM.1 4) = 6 then
            ((-1000000004), SM)
          else
            ((SM.1 4) + 1, (sA (sI SM 4 ((SM.1 4) + 1)) 14 (upd (upd (upd (SM.2 14) ((3 * (SM.1 4) : Int32)).toNatClampNeg x1) (((3 * (SM.1 4)) + 1 : Int32)).toNatClampNeg x2) (((3 * (SM.1 4)) + 2 : Int32)).toNatClampNeg x3)))
theorem inX8_find_8 : ∀ w ∈ wsX80, w ∈ wsX8_find := by decide +kernel
theorem hd_X8_find : yX8_find.cls = RX8 ∧ yX8_find.cls ≠ "java/lang/invoke/MethodHandle" ∧ yX8_find.cls ≠ "java/lang/invoke/VarHandle" ∧ (parseMethodDescriptor yX8_find.desc).map (fun d => d.parameters.length) = some 3 := by decide +kernel
set_option maxHeartbeats 4000000 in
set_option maxRecDepth 100000 in
theorem c_X8_find (l : Launch) (D : va_G) (cI cZ cQ : ClassId) (rM : Nat → Nat) (SM : St) (x1 : Int32) (x2 : Int32) (x3 : Int32) (okM : okM SM) (e0 : ¬ (SM.1 4) < 0) (e1 : SM.1 4 ≤ 6) : Ci l yX8_find wsX8_find { frames := 2, cells := 0, slots := 0, locals := 43 } D (tyL cI cZ cQ) [.ref (rM 0), .int x1, .int x2, .int x3] (fl [wX8 cI cZ cQ rM SM]) ((f_X8_find SM x1 x2 x3).1) (fl [wX8 cI cZ cQ rM ((f_X8_find SM x1 x2 x3).2)]) := by
  refine ci_of (cc := cX8_find) (nL := 4) (ty := .int) (lv0 := [(0, .ref (rM 0)), (1, .int x1), (2, .int x2), (3, .int x3)]) (by decide) rfl (Nat.le_of_ble_eq_true rfl) rfl ?_
  intro p e s m args below meth c A X hr
  refine ww_iload_n (pc := 0) X dX8_find_0 1 rfl rfl ?_
  refine ww_if_ne (pc := 1) (tgt := 15) X dX8_find_1 (by decide) (fun c1 => ?_) (fun c1 => ?_)
  · refine ww_iload_n (pc := 15) X dX8_find_15 1 rfl rfl ?_
    refine ww_iconst (pc := 16) (v := 0) X dX8_find_16 (by decide) ?_
    refine ww_iconst (pc := 17) (v := 1) X dX8_find_17 (by decide) ?_
    refine ww_gSi (pc := 18) (rest := []) (gsN := [wX8 cI cZ cQ rM SM]) X (c_X8_in l D cI cZ cQ x1 0 1) gX8_find_X8_in rfl hd_X8_in [false] rfl rfl rfl rfl ⟨rfl, rfl⟩ ⟨Nat.le_of_ble_eq_true rfl, Nat.le_of_ble_eq_true rfl⟩ (Nat.le_of_ble_eq_true rfl) ⟨Nat.zero_le _, Nat.zero_le _⟩ dX8_find_18 ?_
    refine ww_if_eq (pc := 21) (tgt := 44) X dX8_find_21 (by decide) (fun c2 => ?_) (fun c2 => ?_)
    · refine ww_ldc (pc := 44) (v := (-1000000002)) X (by decide +kernel) dX8_find_44 ?_
      have h3 : f_X8_find SM x1 x2 x3 = ((-1000000002), SM) := by unfold f_X8_find; try rw [if_neg c1, if_pos c2]; first | done | rfl
      exact ww_iret X hr rfl (congrArg (fun u9 : Int32 × St => u9.1) h3).symm (congrArg (fun u9 : Int32 × St => fl [wX8 cI cZ cQ rM u9.2]) h3.symm) dX8_find_46
    · refine ww_iload_n (pc := 24) X dX8_find_24 1 rfl rfl ?_
      refine ww_iconst (pc := 25) (v := 1) X dX8_find_25 (by decide) ?_
      refine ww_icmp_ne (pc := 26) (tgt := 33) X dX8_find_26 (by decide) (fun c4 => ?_) (fun c4 => ?_)
      · refine ww_iload_n (pc := 33) X dX8_find_33 3 rfl rfl ?_
        refine ww_iconst (pc := 34) (v := 0) X dX8_find_34 (by decide) ?_
        refine ww_sipush (pc := 35) (v := 9999) X dX8_find_35 (by decide) ?_
        refine ww_gSi (pc := 38) (rest := []) (gsN := [wX8 cI cZ cQ rM SM]) X (c_X8_in l D cI cZ cQ x3 0 9999) gX8_find_X8_in rfl hd_X8_in [false] rfl rfl rfl rfl ⟨rfl, rfl⟩ ⟨Nat.le_of_ble_eq_true rfl, Nat.le_of_ble_eq_true rfl⟩ (Nat.le_of_ble_eq_true rfl) ⟨Nat.zero_le _, Nat.zero_le _⟩ dX8_find_38 ?_
        refine ww_if_ne (pc := 41) (tgt := 47) X dX8_find_41 (by decide) (fun c5 => ?_) (fun c5 => ?_)
        · refine ww_aload_n (pc := 47) X dX8_find_47 0 rfl rfl ?_
          refine ww_get (pc := 48) (ci := 8) (v := .int (SM.1 4)) (C := RX8) (T := TX8) (N := 27) X inX8_find_8 0 rfl rfl 19 (by decide) (by decide +kernel) rfl dX8_find_48 ?_
          refine ww_bipush (pc := 51) (v := 6) X dX8_find_51 (by decide) ?_
          refine ww_icmp_ne (pc := 53) (tgt := 59) X dX8_find_53 (by decide) (fun c6 => ?_) (fun c6 => ?_)
          · refine ww_aload_n (pc := 59) X dX8_find_59 0 rfl rfl ?_
            refine ww_get (pc := 60) (ci := 8) (v := .ref (rM 15)) (C := RX8) (T := TX8) (N := 27) X inX8_find_8 0 rfl rfl 18 (by decide) (by decide +kernel) rfl dX8_find_60 ?_
            refine ww_iconst (pc := 63) (v := 3) X dX8_find_63 (by decide) ?_
            refine ww_aload_n (pc := 64) X dX8_find_64 0 rfl rfl ?_
            refine ww_get (pc := 65) (ci := 8) (v := .int (SM.1 4)) (C := RX8) (T := TX8) (N := 27) X inX8_find_8 0 rfl rfl 19 (by decide) (by decide +kernel) rfl dX8_find_65 ?_
            have hb7 := clb (vin_ne e0 e1 c6 rfl)
            refine ww_imul (pc := 68) X dX8_find_68 ?_
            refine ww_iload_n (pc := 69) X dX8_find_69 1 rfl rfl ?_
            refine ww_iast (pc := 70) (f := SM.2 14) (ws' := fl [wX8 cI cZ cQ rM (sA SM 14 (upd (SM.2 14) ((3 * (SM.1 4) : Int32)).toNatClampNeg x1))]) X 15 0 rfl rfl (vn (m := 3 * ((SM.1 4 : Int32).toNatClampNeg)) (nat_imul (a := 3) (b := (SM.1 4 : Int32).toNatClampNeg) rfl (cl_of (vin_ne e0 e1 c6 rfl))) (by omega) (by decide)) rfl dX8_find_70 ?_
            refine ww_aload_n (pc := 71) X dX8_find_71 0 rfl rfl ?_
            refine ww_get (pc := 72) (ci := 8) (v := .ref (rM 15)) (C := RX8) (T := TX8) (N := 27) X inX8_find_8 0 rfl rfl 18 (by decide) (by decide +kernel) rfl dX8_find_72 ?_
            refine ww_iconst (pc := 75) (v := 3) X dX8_find_75 (by decide) ?_
            refine ww_aload_n (pc := 76) X dX8_find_76 0 rfl rfl ?_
            refine ww_get (pc := 77) (ci := 8) (v := .int (SM.1 4)) (C := RX8) (T := TX8) (N := 27) X inX8_find_8 0 rfl rfl 19 (by decide) (by decide +kernel) rfl dX8_find_77 ?_
            refine ww_imul (pc := 80) X dX8_find_80 ?_
            refine ww_iconst (pc := 81) (v := 1) X dX8_find_81 (by decide) ?_
            refine ww_iadd (pc := 82) X dX8_find_82 ?_
            refine ww_iload_n (pc := 83) X dX8_find_83 2 rfl rfl ?_
            refine ww_iast (pc := 84) (f := upd (SM.2 14) ((3 * (SM.1 4) : Int32)).toNatClampNeg x1) (ws' := fl [wX8 cI cZ cQ rM (sA SM 14 (upd (upd (SM.2 14) ((3 * (SM.1 4) : Int32)).toNatClampNeg x1) (((3 * (SM.1 4)) + 1 : Int32)).toNatClampNeg x2))]) X 15 0 rfl rfl (vn (m := (3 * ((SM.1 4 : Int32).toNatClampNeg)) + 1) (nat_iadd (a := 3 * ((SM.1 4 : Int32).toNatClampNeg)) (b := 1) (nat_imul (a := 3) (b := (SM.1 4 : Int32).toNatClampNeg) rfl (cl_of (vin_ne e0 e1 c6 rfl))) rfl) (by omega) (by decide)) rfl dX8_find_84 ?_
            refine ww_aload_n (pc := 85) X dX8_find_85 0 rfl rfl ?_
            refine ww_get (pc := 86) (ci := 8) (v := .ref (rM 15)) (C := RX8) (T := TX8) (N := 27) X inX8_find_8 0 rfl rfl 18 (by decide) (by decide +kernel) rfl dX8_find_86 ?_
            refine ww_iconst (pc := 89) (v := 3) X dX8_find_89 (by decide) ?_
            refine ww_aload_n (pc := 90) X dX8_find_90 0 rfl rfl ?_
            refine ww_get (pc := 91) (ci := 8) (v := .int (SM.1 4)) (C := RX8) (T := TX8) (N := 27) X inX8_find_8 0 rfl rfl 19 (by decide) (by decide +kernel) rfl dX8_find_91 ?_
            refine ww_imul (pc := 94) X dX8_find_94 ?_
            refine ww_iconst (pc := 95) (v := 2) X dX8_find_95 (by decide) ?_
            refine ww_iadd (pc := 96) X dX8_find_96 ?_
            refine ww_iload_n (pc := 97) X dX8_find_97 3 rfl rfl ?_
            refine ww_iast (pc := 98) (f := upd (upd (SM.2 14) ((3 * (SM.1 4) : Int32)).toNatClampNeg x1) (((3 * (SM.1 4)) + 1 : Int32)).toNatClampNeg x2) (ws' := fl [wX8 cI cZ cQ rM (sA SM 14 (upd (upd (upd (SM.2 14) ((3 * (SM.1 4) : Int32)).toNatClampNeg x1) (((3 * (SM.1 4)) + 1 : Int32)).toNatClampNeg x2) (((3 * (SM.1 4)) + 2 : Int32)).toNatClampNeg x3))]) X 15 0 rfl rfl (vn (m := (3 * ((SM.1 4 : Int32).toNatClampNeg)) + 2) (nat_iadd (a := 3 * ((SM.1 4 : Int32).toNatClampNeg)) (b := 2) (nat_imul (a := 3) (b := (SM.1 4 : Int32).toNatClampNeg) rfl (cl_of (vin_ne e0 e1 c6 rfl))) rfl) (by omega) (by decide)) rfl dX8_find_98 ?_
            refine ww_aload_n (pc := 99) X dX8_find_99 0 rfl rfl ?_
            refine ww_dup (pc := 100) X dX8_find_100 rfl ?_
            refine ww_get (pc := 101) (ci := 8) (v := .int (SM.1 4)) (C := RX8) (T := TX8) (N := 27) X inX8_find_8 0 rfl rfl 19 (by decide) (by decide +kernel) rfl dX8_find_101 ?_
            refine ww_iconst (pc := 104) (v := 1) X dX8_find_104 (by decide) ?_
            refine ww_iadd (pc := 105) X dX8_find_105 ?_
            refine ww_put (pc := 106) (ci := 8) (v := .int ((SM.1 4) + 1)) (C := RX8) (T := TX8) (N := 27) (ws' := fl [wX8 cI cZ cQ rM (sA (sI SM 4 ((SM.1 4) + 1)) 14 (upd (upd (upd (SM.2 14) ((3 * (SM.1 4) : Int32)).toNatClampNeg x1) (((3 * (SM.1 4)) + 1 : Int32)).toNatClampNeg x2) (((3 * (SM.1 4)) + 2 : Int32)).toNatClampNeg x3))]) X inX8_find_8 tyX8 tyX8_ok nmX8 0 rfl rfl 19 (by decide) (by decide +kernel) rfl rfl rfl (Nat.le_of_ble_eq_true rfl) rfl dX8_find_106 ?_
            refine ww_aload_n (pc := 109) X dX8_find_109 0 rfl rfl ?_
            refine ww_get (pc := 110) (ci := 8) (v := .int ((SM.1 4) + 1)) (C := RX8) (T := TX8) (N := 27) X inX8_find_8 0 rfl rfl 19 (by decide) (by decide +kernel) rfl dX8_find_110 ?_
            have h8 : f_X8_find SM x1 x2 x3 = ((SM.1 4) + 1, (sA (sI SM 4 ((SM.1 4) + 1)) 14 (upd (upd (upd (SM.2 14) ((3 * (SM.1 4) : Int32)).toNatClampNeg x1) (((3 * (SM.1 4)) + 1 : Int32)).toNatClampNeg x2) (((3 * (SM.1 4)) + 2 : Int32)).toNatClampNeg x3))) := by unfold f_X8_find; try rw [if_neg c1, if_neg c2, if_neg c4, if_neg c5, if_neg c6]; first | done | rfl
            exact ww_iret X hr rfl (congrArg (fun u9 : Int32 × St => u9.1) h8).symm (congrArg (fun u9 : Int32 × St => fl [wX8 cI cZ cQ rM u9.2]) h8.symm) dX8_find_113
          · refine ww_ldc (pc := 56) (v := (-1000000004)) X (by decide +kernel) dX8_find_56 ?_
            have h9 : f_X8_find SM x1 x2 x3 = ((-1000000004), SM) := by unfold f_X8_find; try rw [if_neg c1, if_neg c2, if_neg c4, if_neg c5, if_pos c6]; first | done | rfl
            exact ww_iret X hr rfl (congrArg (fun u9 : Int32 × St => u9.1) h9).symm (congrArg (fun u9 : Int32 × St => fl [wX8 cI cZ cQ rM u9.2]) h9.symm) dX8_find_58
        · refine ww_ldc (pc := 44) (v := (-1000000002)) X (by decide +kernel) dX8_find_44 ?_
          have h10 : f_X8_find SM x1 x2 x3 = ((-1000000002), SM) := by unfold f_X8_find; try rw [if_neg c1, if_neg c2, if_neg c4, if_pos c5]; first | done | rfl
          exact ww_iret X hr rfl (congrArg (fun u9 : Int32 × St => u9.1) h10).symm (congrArg (fun u9 : Int32 × St => fl [wX8 cI cZ cQ rM u9.2]) h10.symm) dX8_find_46
      · refine ww_iload_n (pc := 29) X dX8_find_29 2 rfl rfl ?_
        refine ww_if_ne (pc := 30) (tgt := 44) X dX8_find_30 (by decide) (fun c11 => ?_) (fun c11 => ?_)
        · refine ww_ldc (pc := 44) (v := (-1000000002)) X (by decide +kernel) dX8_find_44 ?_
          have h12 : f_X8_find SM x1 x2 x3 = ((-1000000002), SM) := by unfold f_X8_find; try rw [if_neg c1, if_neg c2, if_pos c4, if_neg c11]; first | done | rfl
          exact ww_iret X hr rfl (congrArg (fun u9 : Int32 × St => u9.1) h12).symm (congrArg (fun u9 : Int32 × St => fl [wX8 cI cZ cQ rM u9.2]) h12.symm) dX8_find_46
        · refine ww_iload_n (pc := 33) X dX8_find_33 3 rfl rfl ?_
          refine ww_iconst (pc := 34) (v := 0) X dX8_find_34 (by decide) ?_
          refine ww_sipush (pc := 35) (v := 9999) X dX8_find_35 (by decide) ?_
          refine ww_gSi (pc := 38) (rest := []) (gsN := [wX8 cI cZ cQ rM SM]) X (c_X8_in l D cI cZ cQ x3 0 9999) gX8_find_X8_in rfl hd_X8_in [false] rfl rfl rfl rfl ⟨rfl, rfl⟩ ⟨Nat.le_of_ble_eq_true rfl, Nat.le_of_ble_eq_true rfl⟩ (Nat.le_of_ble_eq_true rfl) ⟨Nat.zero_le _, Nat.zero_le _⟩ dX8_find_38 ?_
          refine ww_if_ne (pc := 41) (tgt := 47) X dX8_find_41 (by decide) (fun c13 => ?_) (fun c13 => ?_)
          · refine ww_aload_n (pc := 47) X dX8_find_47 0 rfl rfl ?_
            refine ww_get (pc := 48) (ci := 8) (v := .int (SM.1 4)) (C := RX8) (T := TX8) (N := 27) X inX8_find_8 0 rfl rfl 19 (by decide) (by decide +kernel) rfl dX8_find_48 ?_
            refine ww_bipush (pc := 51) (v := 6) X dX8_find_51 (by decide) ?_
            refine ww_icmp_ne (pc := 53) (tgt := 59) X dX8_find_53 (by decide) (fun c14 => ?_) (fun c14 => ?_)
            · refine ww_aload_n (pc := 59) X dX8_find_59 0 rfl rfl ?_
              refine ww_get (pc := 60) (ci := 8) (v := .ref (rM 15)) (C := RX8) (T := TX8) (N := 27) X inX8_find_8 0 rfl rfl 18 (by decide) (by decide +kernel) rfl dX8_find_60 ?_
              refine ww_iconst (pc := 63) (v := 3) X dX8_find_63 (by decide) ?_
              refine ww_aload_n (pc := 64) X dX8_find_64 0 rfl rfl ?_
              refine ww_get (pc := 65) (ci := 8) (v := .int (SM.1 4)) (C := RX8) (T := TX8) (N := 27) X inX8_find_8 0 rfl rfl 19 (by decide) (by decide +kernel) rfl dX8_find_65 ?_
              have hb15 := clb (vin_ne e0 e1 c14 rfl)
              refine ww_imul (pc := 68) X dX8_find_68 ?_
              refine ww_iload_n (pc := 69) X dX8_find_69 1 rfl rfl ?_
              refine ww_iast (pc := 70) (f := SM.2 14) (ws' := fl [wX8 cI cZ cQ rM (sA SM 14 (upd (SM.2 14) ((3 * (SM.1 4) : Int32)).toNatClampNeg x1))]) X 15 0 rfl rfl (vn (m := 3 * ((SM.1 4 : Int32).toNatClampNeg)) (nat_imul (a := 3) (b := (SM.1 4 : Int32).toNatClampNeg) rfl (cl_of (vin_ne e0 e1 c14 rfl))) (by omega) (by decide)) rfl dX8_find_70 ?_
              refine ww_aload_n (pc := 71) X dX8_find_71 0 rfl rfl ?_
              refine ww_get (pc := 72) (ci := 8) (v := .ref (rM 15)) (C := RX8) (T := TX8) (N := 27) X inX8_find_8 0 rfl rfl 18 (by decide) (by decide +kernel) rfl dX8_find_72 ?_
              refine ww_iconst (pc := 75) (v := 3) X dX8_find_75 (by decide) ?_
              refine ww_aload_n (pc := 76) X dX8_find_76 0 rfl rfl ?_
              refine ww_get (pc := 77) (ci := 8) (v := .int (SM.1 4)) (C := RX8) (T := TX8) (N := 27) X inX8_find_8 0 rfl rfl 19 (by decide) (by decide +kernel) rfl dX8_find_77 ?_
              refine ww_imul (pc := 80) X dX8_find_80 ?_
              refine ww_iconst (pc := 81) (v := 1) X dX8_find_81 (by decide) ?_
              refine ww_iadd (pc := 82) X dX8_find_82 ?_
              refine ww_iload_n (pc := 83) X dX8_find_83 2 rfl rfl ?_
              refine ww_iast (pc := 84) (f := upd (SM.2 14) ((3 * (SM.1 4) : Int32)).toNatClampNeg x1) (ws' := fl [wX8 cI cZ cQ rM (sA SM 14 (upd (upd (SM.2 14) ((3 * (SM.1 4) : Int32)).toNatClampNeg x1) (((3 * (SM.1 4)) + 1 : Int32)).toNatClampNeg x2))]) X 15 0 rfl rfl (vn (m := (3 * ((SM.1 4 : Int32).toNatClampNeg)) + 1) (nat_iadd (a := 3 * ((SM.1 4 : Int32).toNatClampNeg)) (b := 1) (nat_imul (a := 3) (b := (SM.1 4 : Int32).toNatClampNeg) rfl (cl_of (vin_ne e0 e1 c14 rfl))) rfl) (by omega) (by decide)) rfl dX8_find_84 ?_
              refine ww_aload_n (pc := 85) X dX8_find_85 0 rfl rfl ?_
              refine ww_get (pc := 86) (ci := 8) (v := .ref (rM 15)) (C := RX8) (T := TX8) (N := 27) X inX8_find_8 0 rfl rfl 18 (by decide) (by decide +kernel) rfl dX8_find_86 ?_
              refine ww_iconst (pc := 89) (v := 3) X dX8_find_89 (by decide) ?_
              refine ww_aload_n (pc := 90) X dX8_find_90 0 rfl rfl ?_
              refine ww_get (pc := 91) (ci := 8) (v := .int (SM.1 4)) (C := RX8) (T := TX8) (N := 27) X inX8_find_8 0 rfl rfl 19 (by decide) (by decide +kernel) rfl dX8_find_91 ?_
              refine ww_imul (pc := 94) X dX8_find_94 ?_
              refine ww_iconst (pc := 95) (v := 2) X dX8_find_95 (by decide) ?_
              refine ww_iadd (pc := 96) X dX8_find_96 ?_
              refine ww_iload_n (pc := 97) X dX8_find_97 3 rfl rfl ?_
              refine ww_iast (pc := 98) (f := upd (upd (SM.2 14) ((3 * (SM.1 4) : Int32)).toNatClampNeg x1) (((3 * (SM.1 4)) + 1 : Int32)).toNatClampNeg x2) (ws' := fl [wX8 cI cZ cQ rM (sA SM 14 (upd (upd (upd (SM.2 14) ((3 * (SM.1 4) : Int32)).toNatClampNeg x1) (((3 * (SM.1 4)) + 1 : Int32)).toNatClampNeg x2) (((3 * (SM.1 4)) + 2 : Int32)).toNatClampNeg x3))]) X 15 0 rfl rfl (vn (m := (3 * ((SM.1 4 : Int32).toNatClampNeg)) + 2) (nat_iadd (a := 3 * ((SM.1 4 : Int32).toNatClampNeg)) (b := 2) (nat_imul (a := 3) (b := (SM.1 4 : Int32).toNatClampNeg) rfl (cl_of (vin_ne e0 e1 c14 rfl))) rfl) (by omega) (by decide)) rfl dX8_find_98 ?_
              refine ww_aload_n (pc := 99) X dX8_find_99 0 rfl rfl ?_
              refine ww_dup (pc := 100) X dX8_find_100 rfl ?_
              refine ww_get (pc := 101) (ci := 8) (v := .int (SM.1 4)) (C := RX8) (T := TX8) (N := 27) X inX8_find_8 0 rfl rfl 19 (by decide) (by decide +kernel) rfl dX8_find_101 ?_
              refine ww_iconst (pc := 104) (v := 1) X dX8_find_104 (by decide) ?_
              refine ww_iadd (pc := 105) X dX8_find_105 ?_
              refine ww_put (pc := 106) (ci := 8) (v := .int ((SM.1 4) + 1)) (C := RX8) (T := TX8) (N := 27) (ws' := fl [wX8 cI cZ cQ rM (sA (sI SM 4 ((SM.1 4) + 1)) 14 (upd (upd (upd (SM.2 14) ((3 * (SM.1 4) : Int32)).toNatClampNeg x1) (((3 * (SM.1 4)) + 1 : Int32)).toNatClampNeg x2) (((3 * (SM.1 4)) + 2 : Int32)).toNatClampNeg x3))]) X inX8_find_8 tyX8 tyX8_ok nmX8 0 rfl rfl 19 (by decide) (by decide +kernel) rfl rfl rfl (Nat.le_of_ble_eq_true rfl) rfl dX8_find_106 ?_
              refine ww_aload_n (pc := 109) X dX8_find_109 0 rfl rfl ?_
              refine ww_get (pc := 110) (ci := 8) (v := .int ((SM.1 4) + 1)) (C := RX8) (T := TX8) (N := 27) X inX8_find_8 0 rfl rfl 19 (by decide) (by decide +kernel) rfl dX8_find_110 ?_
              have h16 : f_X8_find SM x1 x2 x3 = ((SM.1 4) + 1, (sA (sI SM 4 ((SM.1 4) + 1)) 14 (upd (upd (upd (SM.2 14) ((3 * (SM.1 4) : Int32)).toNatClampNeg x1) (((3 * (SM.1 4)) + 1 : Int32)).toNatClampNeg x2) (((3 * (SM.1 4)) + 2 : Int32)).toNatClampNeg x3))) := by unfold f_X8_find; try rw [if_neg c1, if_neg c2, if_pos c4, if_pos c11, if_neg c13, if_neg c14]; first | done | rfl
              exact ww_iret X hr rfl (congrArg (fun u9 : Int32 × St => u9.1) h16).symm (congrArg (fun u9 : Int32 × St => fl [wX8 cI cZ cQ rM u9.2]) h16.symm) dX8_find_113
            · refine ww_ldc (pc := 56) (v := (-1000000004)) X (by decide +kernel) dX8_find_56 ?_
              have h17 : f_X8_find SM x1 x2 x3 = ((-1000000004), SM) := by unfold f_X8_find; try rw [if_neg c1, if_neg c2, if_pos c4, if_pos c11, if_neg c13, if_pos c14]; first | done | rfl
              exact ww_iret X hr rfl (congrArg (fun u9 : Int32 × St => u9.1) h17).symm (congrArg (fun u9 : Int32 × St => fl [wX8 cI cZ cQ rM u9.2]) h17.symm) dX8_find_58
          · refine ww_ldc (pc := 44) (v := (-1000000002)) X (by decide +kernel) dX8_find_44 ?_
            have h18 : f_X8_find SM x1 x2 x3 = ((-1000000002), SM) := by unfold f_X8_find; try rw [if_neg c1, if_neg c2, if_pos c4, if_pos c11, if_pos c13]; first | done | rfl
            exact ww_iret X hr rfl (congrArg (fun u9 : Int32 × St => u9.1) h18).symm (congrArg (fun u9 : Int32 × St => fl [wX8 cI cZ cQ rM u9.2]) h18.symm) dX8_find_46
  · refine ww_aload_n (pc := 4) X dX8_find_4 0 rfl rfl ?_
    refine ww_iload_n (pc := 5) X dX8_find_5 2 rfl rfl ?_
    refine ww_gVi (pc := 6) (rest := []) (gsN := [wX8 cI cZ cQ rM SM]) (ci := 8) (gi := 0) (qi := 0) X (c_X8_isGood l D cI cZ cQ rM SM x2) gX8_find_X8_isGood rfl hd_X8_isGood [true] rfl rfl rfl rfl rfl rfl rfl rfl ⟨rfl, rfl⟩ ⟨Nat.le_of_ble_eq_true rfl, Nat.le_of_ble_eq_true rfl⟩ (Nat.le_of_ble_eq_true rfl) ⟨Nat.zero_le _, Nat.zero_le _⟩ dX8_find_6 ?_
    refine ww_if_ne (pc := 9) (tgt := 15) X dX8_find_9 (by decide) (fun c19 => ?_) (fun c19 => ?_)
    · refine ww_iload_n (pc := 15) X dX8_find_15 1 rfl rfl ?_
      refine ww_iconst (pc := 16) (v := 0) X dX8_find_16 (by decide) ?_
      refine ww_iconst (pc := 17) (v := 1) X dX8_find_17 (by decide) ?_
      refine ww_gSi (pc := 18) (rest := []) (gsN := [wX8 cI cZ cQ rM SM]) X (c_X8_in l D cI cZ cQ x1 0 1) gX8_find_X8_in rfl hd_X8_in [false] rfl rfl rfl rfl ⟨rfl, rfl⟩ ⟨Nat.le_of_ble_eq_true rfl, Nat.le_of_ble_eq_true rfl⟩ (Nat.le_of_ble_eq_true rfl) ⟨Nat.zero_le _, Nat.zero_le _⟩ dX8_find_18 ?_
      refine ww_if_eq (pc := 21) (tgt := 44) X dX8_find_21 (by decide) (fun c20 => ?_) (fun c20 => ?_)
      · refine ww_ldc (pc := 44) (v := (-1000000002)) X (by decide +kernel) dX8_find_44 ?_
        have h21 : f_X8_find SM x1 x2 x3 = ((-1000000002), SM) := by unfold f_X8_find; try rw [if_pos c1, if_neg c19, if_pos c20]; first | done | rfl
        exact ww_iret X hr rfl (congrArg (fun u9 : Int32 × St => u9.1) h21).symm (congrArg (fun u9 : Int32 × St => fl [wX8 cI cZ cQ rM u9.2]) h21.symm) dX8_find_46
      · refine ww_iload_n (pc := 24) X dX8_find_24 1 rfl rfl ?_
        refine ww_iconst (pc := 25) (v := 1) X dX8_find_25 (by decide) ?_
        refine ww_icmp_ne (pc := 26) (tgt := 33) X dX8_find_26 (by decide) (fun c22 => ?_) (fun c22 => ?_)
        · refine ww_iload_n (pc := 33) X dX8_find_33 3 rfl rfl ?_
          refine ww_iconst (pc := 34) (v := 0) X dX8_find_34 (by decide) ?_
          refine ww_sipush (pc := 35) (v := 9999) X dX8_find_35 (by decide) ?_
          refine ww_gSi (pc := 38) (rest := []) (gsN := [wX8 cI cZ cQ rM SM]) X (c_X8_in l D cI cZ cQ x3 0 9999) gX8_find_X8_in rfl hd_X8_in [false] rfl rfl rfl rfl ⟨rfl, rfl⟩ ⟨Nat.le_of_ble_eq_true rfl, Nat.le_of_ble_eq_true rfl⟩ (Nat.le_of_ble_eq_true rfl) ⟨Nat.zero_le _, Nat.zero_le _⟩ dX8_find_38 ?_
          refine ww_if_ne (pc := 41) (tgt := 47) X dX8_find_41 (by decide) (fun c23 => ?_) (fun c23 => ?_)
          · refine ww_aload_n (pc := 47) X dX8_find_47 0 rfl rfl ?_
            refine ww_get (pc := 48) (ci := 8) (v := .int (SM.1 4)) (C := RX8) (T := TX8) (N := 27) X inX8_find_8 0 rfl rfl 19 (by decide) (by decide +kernel) rfl dX8_find_48 ?_
            refine ww_bipush (pc := 51) (v := 6) X dX8_find_51 (by decide) ?_
            refine ww_icmp_ne (pc := 53) (tgt := 59) X dX8_find_53 (by decide) (fun c24 => ?_) (fun c24 => ?_)
            · refine ww_aload_n (pc := 59) X dX8_find_59 0 rfl rfl ?_
              refine ww_get (pc := 60) (ci := 8) (v := .ref (rM 15)) (C := RX8) (T := TX8) (N := 27) X inX8_find_8 0 rfl rfl 18 (by decide) (by decide +kernel) rfl dX8_find_60 ?_
              refine ww_iconst (pc := 63) (v := 3) X dX8_find_63 (by decide) ?_
              refine ww_aload_n (pc := 64) X dX8_find_64 0 rfl rfl ?_
              refine ww_get (pc := 65) (ci := 8) (v := .int (SM.1 4)) (C := RX8) (T := TX8) (N := 27) X inX8_find_8 0 rfl rfl 19 (by decide) (by decide +kernel) rfl dX8_find_65 ?_
              have hb25 := clb (vin_ne e0 e1 c24 rfl)
              refine ww_imul (pc := 68) X dX8_find_68 ?_
              refine ww_iload_n (pc := 69) X dX8_find_69 1 rfl rfl ?_
              refine ww_iast (pc := 70) (f := SM.2 14) (ws' := fl [wX8 cI cZ cQ rM (sA SM 14 (upd (SM.2 14) ((3 * (SM.1 4) : Int32)).toNatClampNeg x1))]) X 15 0 rfl rfl (vn (m := 3 * ((SM.1 4 : Int32).toNatClampNeg)) (nat_imul (a := 3) (b := (SM.1 4 : Int32).toNatClampNeg) rfl (cl_of (vin_ne e0 e1 c24 rfl))) (by omega) (by decide)) rfl dX8_find_70 ?_
              refine ww_aload_n (pc := 71) X dX8_find_71 0 rfl rfl ?_
              refine ww_get (pc := 72) (ci := 8) (v := .ref (rM 15)) (C := RX8) (T := TX8) (N := 27) X inX8_find_8 0 rfl rfl 18 (by decide) (by decide +kernel) rfl dX8_find_72 ?_
              refine ww_iconst (pc := 75) (v := 3) X dX8_find_75 (by decide) ?_
              refine ww_aload_n (pc := 76) X dX8_find_76 0 rfl rfl ?_
              refine ww_get (pc := 77) (ci := 8) (v := .int (SM.1 4)) (C := RX8) (T := TX8) (N := 27) X inX8_find_8 0 rfl rfl 19 (by decide) (by decide +kernel) rfl dX8_find_77 ?_
              refine ww_imul (pc := 80) X dX8_find_80 ?_
              refine ww_iconst (pc := 81) (v := 1) X dX8_find_81 (by decide) ?_
              refine ww_iadd (pc := 82) X dX8_find_82 ?_
              refine ww_iload_n (pc := 83) X dX8_find_83 2 rfl rfl ?_
              refine ww_iast (pc := 84) (f := upd (SM.2 14) ((3 * (SM.1 4) : Int32)).toNatClampNeg x1) (ws' := fl [wX8 cI cZ cQ rM (sA SM 14 (upd (upd (SM.2 14) ((3 * (SM.1 4) : Int32)).toNatClampNeg x1) (((3 * (SM.1 4)) + 1 : Int32)).toNatClampNeg x2))]) X 15 0 rfl rfl (vn (m := (3 * ((SM.1 4 : Int32).toNatClampNeg)) + 1) (nat_iadd (a := 3 * ((SM.1 4 : Int32).toNatClampNeg)) (b := 1) (nat_imul (a := 3) (b := (SM.1 4 : Int32).toNatClampNeg) rfl (cl_of (vin_ne e0 e1 c24 rfl))) rfl) (by omega) (by decide)) rfl dX8_find_84 ?_
              refine ww_aload_n (pc := 85) X dX8_find_85 0 rfl rfl ?_
              refine ww_get (pc := 86) (ci := 8) (v := .ref (rM 15)) (C := RX8) (T := TX8) (N := 27) X inX8_find_8 0 rfl rfl 18 (by decide) (by decide +kernel) rfl dX8_find_86 ?_
              refine ww_iconst (pc := 89) (v := 3) X dX8_find_89 (by decide) ?_
              refine ww_aload_n (pc := 90) X dX8_find_90 0 rfl rfl ?_
              refine ww_get (pc := 91) (ci := 8) (v := .int (SM.1 4)) (C := RX8) (T := TX8) (N := 27) X inX8_find_8 0 rfl rfl 19 (by decide) (by decide +kernel) rfl dX8_find_91 ?_
              refine ww_imul (pc := 94) X dX8_find_94 ?_
              refine ww_iconst (pc := 95) (v := 2) X dX8_find_95 (by decide) ?_
              refine ww_iadd (pc := 96) X dX8_find_96 ?_
              refine ww_iload_n (pc := 97) X dX8_find_97 3 rfl rfl ?_
              refine ww_iast (pc := 98) (f := upd (upd (SM.2 14) ((3 * (SM.1 4) : Int32)).toNatClampNeg x1) (((3 * (SM.1 4)) + 1 : Int32)).toNatClampNeg x2) (ws' := fl [wX8 cI cZ cQ rM (sA SM 14 (upd (upd (upd (SM.2 14) ((3 * (SM.1 4) : Int32)).toNatClampNeg x1) (((3 * (SM.1 4)) + 1 : Int32)).toNatClampNeg x2) (((3 * (SM.1 4)) + 2 : Int32)).toNatClampNeg x3))]) X 15 0 rfl rfl (vn (m := (3 * ((SM.1 4 : Int32).toNatClampNeg)) + 2) (nat_iadd (a := 3 * ((SM.1 4 : Int32).toNatClampNeg)) (b := 2) (nat_imul (a := 3) (b := (SM.1 4 : Int32).toNatClampNeg) rfl (cl_of (vin_ne e0 e1 c24 rfl))) rfl) (by omega) (by decide)) rfl dX8_find_98 ?_
              refine ww_aload_n (pc := 99) X dX8_find_99 0 rfl rfl ?_
              refine ww_dup (pc := 100) X dX8_find_100 rfl ?_
              refine ww_get (pc := 101) (ci := 8) (v := .int (SM.1 4)) (C := RX8) (T := TX8) (N := 27) X inX8_find_8 0 rfl rfl 19 (by decide) (by decide +kernel) rfl dX8_find_101 ?_
              refine ww_iconst (pc := 104) (v := 1) X dX8_find_104 (by decide) ?_
              refine ww_iadd (pc := 105) X dX8_find_105 ?_
              refine ww_put (pc := 106) (ci := 8) (v := .int ((SM.1 4) + 1)) (C := RX8) (T := TX8) (N := 27) (ws' := fl [wX8 cI cZ cQ rM (sA (sI SM 4 ((SM.1 4) + 1)) 14 (upd (upd (upd (SM.2 14) ((3 * (SM.1 4) : Int32)).toNatClampNeg x1) (((3 * (SM.1 4)) + 1 : Int32)).toNatClampNeg x2) (((3 * (SM.1 4)) + 2 : Int32)).toNatClampNeg x3))]) X inX8_find_8 tyX8 tyX8_ok nmX8 0 rfl rfl 19 (by decide) (by decide +kernel) rfl rfl rfl (Nat.le_of_ble_eq_true rfl) rfl dX8_find_106 ?_
              refine ww_aload_n (pc := 109) X dX8_find_109 0 rfl rfl ?_
              refine ww_get (pc := 110) (ci := 8) (v := .int ((SM.1 4) + 1)) (C := RX8) (T := TX8) (N := 27) X inX8_find_8 0 rfl rfl 19 (by decide) (by decide +kernel) rfl dX8_find_110 ?_
              have h26 : f_X8_find SM x1 x2 x3 = ((SM.1 4) + 1, (sA (sI SM 4 ((SM.1 4) + 1)) 14 (upd (upd (upd (SM.2 14) ((3 * (SM.1 4) : Int32)).toNatClampNeg x1) (((3 * (SM.1 4)) + 1 : Int32)).toNatClampNeg x2) (((3 * (SM.1 4)) + 2 : Int32)).toNatClampNeg x3))) := by unfold f_X8_find; try rw [if_pos c1, if_neg c19, if_neg c20, if_neg c22, if_neg c23, if_neg c24]; first | done | rfl
              exact ww_iret X hr rfl (congrArg (fun u9 : Int32 × St => u9.1) h26).symm (congrArg (fun u9 : Int32 × St => fl [wX8 cI cZ cQ rM u9.2]) h26.symm) dX8_find_113
            · refine ww_ldc (pc := 56) (v := (-1000000004)) X (by decide +kernel) dX8_find_56 ?_
              have h27 : f_X8_find SM x1 x2 x3 = ((-1000000004), SM) := by unfold f_X8_find; try rw [if_pos c1, if_neg c19, if_neg c20, if_neg c22, if_neg c23, if_pos c24]; first | done | rfl
              exact ww_iret X hr rfl (congrArg (fun u9 : Int32 × St => u9.1) h27).symm (congrArg (fun u9 : Int32 × St => fl [wX8 cI cZ cQ rM u9.2]) h27.symm) dX8_find_58
          · refine ww_ldc (pc := 44) (v := (-1000000002)) X (by decide +kernel) dX8_find_44 ?_
            have h28 : f_X8_find SM x1 x2 x3 = ((-1000000002), SM) := by unfold f_X8_find; try rw [if_pos c1, if_neg c19, if_neg c20, if_neg c22, if_pos c23]; first | done | rfl
            exact ww_iret X hr rfl (congrArg (fun u9 : Int32 × St => u9.1) h28).symm (congrArg (fun u9 : Int32 × St => fl [wX8 cI cZ cQ rM u9.2]) h28.symm) dX8_find_46
        · refine ww_iload_n (pc := 29) X dX8_find_29 2 rfl rfl ?_
          refine ww_if_ne (pc := 30) (tgt := 44) X dX8_find_30 (by decide) (fun c29 => ?_) (fun c29 => ?_)
          · refine ww_ldc (pc := 44) (v := (-1000000002)) X (by decide +kernel) dX8_find_44 ?_
            have h30 : f_X8_find SM x1 x2 x3 = ((-1000000002), SM) := by unfold f_X8_find; try rw [if_pos c1, if_neg c19, if_neg c20, if_pos c22, if_neg c29]; first | done | rfl
            exact ww_iret X hr rfl (congrArg (fun u9 : Int32 × St => u9.1) h30).symm (congrArg (fun u9 : Int32 × St => fl [wX8 cI cZ cQ rM u9.2]) h30.symm) dX8_find_46
          · refine ww_iload_n (pc := 33) X dX8_find_33 3 rfl rfl ?_
            refine ww_iconst (pc := 34) (v := 0) X dX8_find_34 (by decide) ?_
            refine ww_sipush (pc := 35) (v := 9999) X dX8_find_35 (by decide) ?_
            refine ww_gSi (pc := 38) (rest := []) (gsN := [wX8 cI cZ cQ rM SM]) X (c_X8_in l D cI cZ cQ x3 0 9999) gX8_find_X8_in rfl hd_X8_in [false] rfl rfl rfl rfl ⟨rfl, rfl⟩ ⟨Nat.le_of_ble_eq_true rfl, Nat.le_of_ble_eq_true rfl⟩ (Nat.le_of_ble_eq_true rfl) ⟨Nat.zero_le _, Nat.zero_le _⟩ dX8_find_38 ?_
            refine ww_if_ne (pc := 41) (tgt := 47) X dX8_find_41 (by decide) (fun c31 => ?_) (fun c31 => ?_)
            · refine ww_aload_n (pc := 47) X dX8_find_47 0 rfl rfl ?_
              refine ww_get (pc := 48) (ci := 8) (v := .int (SM.1 4)) (C := RX8) (T := TX8) (N := 27) X inX8_find_8 0 rfl rfl 19 (by decide) (by decide +kernel) rfl dX8_find_48 ?_
              refine ww_bipush (pc := 51) (v := 6) X dX8_find_51 (by decide) ?_
              refine ww_icmp_ne (pc := 53) (tgt := 59) X dX8_find_53 (by decide) (fun c32 => ?_) (fun c32 => ?_)
              · refine ww_aload_n (pc := 59) X dX8_find_59 0 rfl rfl ?_
                refine ww_get (pc := 60) (ci := 8) (v := .ref (rM 15)) (C := RX8) (T := TX8) (N := 27) X inX8_find_8 0 rfl rfl 18 (by decide) (by decide +kernel) rfl dX8_find_60 ?_
                refine ww_iconst (pc := 63) (v := 3) X dX8_find_63 (by decide) ?_
                refine ww_aload_n (pc := 64) X dX8_find_64 0 rfl rfl ?_
                refine ww_get (pc := 65) (ci := 8) (v := .int (SM.1 4)) (C := RX8) (T := TX8) (N := 27) X inX8_find_8 0 rfl rfl 19 (by decide) (by decide +kernel) rfl dX8_find_65 ?_
                have hb33 := clb (vin_ne e0 e1 c32 rfl)
                refine ww_imul (pc := 68) X dX8_find_68 ?_
                refine ww_iload_n (pc := 69) X dX8_find_69 1 rfl rfl ?_
                refine ww_iast (pc := 70) (f := SM.2 14) (ws' := fl [wX8 cI cZ cQ rM (sA SM 14 (upd (SM.2 14) ((3 * (SM.1 4) : Int32)).toNatClampNeg x1))]) X 15 0 rfl rfl (vn (m := 3 * ((SM.1 4 : Int32).toNatClampNeg)) (nat_imul (a := 3) (b := (SM.1 4 : Int32).toNatClampNeg) rfl (cl_of (vin_ne e0 e1 c32 rfl))) (by omega) (by decide)) rfl dX8_find_70 ?_
                refine ww_aload_n (pc := 71) X dX8_find_71 0 rfl rfl ?_
                refine ww_get (pc := 72) (ci := 8) (v := .ref (rM 15)) (C := RX8) (T := TX8) (N := 27) X inX8_find_8 0 rfl rfl 18 (by decide) (by decide +kernel) rfl dX8_find_72 ?_
                refine ww_iconst (pc := 75) (v := 3) X dX8_find_75 (by decide) ?_
                refine ww_aload_n (pc := 76) X dX8_find_76 0 rfl rfl ?_
                refine ww_get (pc := 77) (ci := 8) (v := .int (SM.1 4)) (C := RX8) (T := TX8) (N := 27) X inX8_find_8 0 rfl rfl 19 (by decide) (by decide +kernel) rfl dX8_find_77 ?_
                refine ww_imul (pc := 80) X dX8_find_80 ?_
                refine ww_iconst (pc := 81) (v := 1) X dX8_find_81 (by decide) ?_
                refine ww_iadd (pc := 82) X dX8_find_82 ?_
                refine ww_iload_n (pc := 83) X dX8_find_83 2 rfl rfl ?_
                refine ww_iast (pc := 84) (f := upd (SM.2 14) ((3 * (SM.1 4) : Int32)).toNatClampNeg x1) (ws' := fl [wX8 cI cZ cQ rM (sA SM 14 (upd (upd (SM.2 14) ((3 * (SM.1 4) : Int32)).toNatClampNeg x1) (((3 * (SM.1 4)) + 1 : Int32)).toNatClampNeg x2))]) X 15 0 rfl rfl (vn (m := (3 * ((SM.1 4 : Int32).toNatClampNeg)) + 1) (nat_iadd (a := 3 * ((SM.1 4 : Int32).toNatClampNeg)) (b := 1) (nat_imul (a := 3) (b := (SM.1 4 : Int32).toNatClampNeg) rfl (cl_of (vin_ne e0 e1 c32 rfl))) rfl) (by omega) (by decide)) rfl dX8_find_84 ?_
                refine ww_aload_n (pc := 85) X dX8_find_85 0 rfl rfl ?_
                refine ww_get (pc := 86) (ci := 8) (v := .ref (rM 15)) (C := RX8) (T := TX8) (N := 27) X inX8_find_8 0 rfl rfl 18 (by decide) (by decide +kernel) rfl dX8_find_86 ?_
                refine ww_iconst (pc := 89) (v := 3) X dX8_find_89 (by decide) ?_
                refine ww_aload_n (pc := 90) X dX8_find_90 0 rfl rfl ?_
                refine ww_get (pc := 91) (ci := 8) (v := .int (SM.1 4)) (C := RX8) (T := TX8) (N := 27) X inX8_find_8 0 rfl rfl 19 (by decide) (by decide +kernel) rfl dX8_find_91 ?_
                refine ww_imul (pc := 94) X dX8_find_94 ?_
                refine ww_iconst (pc := 95) (v := 2) X dX8_find_95 (by decide) ?_
                refine ww_iadd (pc := 96) X dX8_find_96 ?_
                refine ww_iload_n (pc := 97) X dX8_find_97 3 rfl rfl ?_
                refine ww_iast (pc := 98) (f := upd (upd (SM.2 14) ((3 * (SM.1 4) : Int32)).toNatClampNeg x1) (((3 * (SM.1 4)) + 1 : Int32)).toNatClampNeg x2) (ws' := fl [wX8 cI cZ cQ rM (sA SM 14 (upd (upd (upd (SM.2 14) ((3 * (SM.1 4) : Int32)).toNatClampNeg x1) (((3 * (SM.1 4)) + 1 : Int32)).toNatClampNeg x2) (((3 * (SM.1 4)) + 2 : Int32)).toNatClampNeg x3))]) X 15 0 rfl rfl (vn (m := (3 * ((SM.1 4 : Int32).toNatClampNeg)) + 2) (nat_iadd (a := 3 * ((SM.1 4 : Int32).toNatClampNeg)) (b := 2) (nat_imul (a := 3) (b := (SM.1 4 : Int32).toNatClampNeg) rfl (cl_of (vin_ne e0 e1 c32 rfl))) rfl) (by omega) (by decide)) rfl dX8_find_98 ?_
                refine ww_aload_n (pc := 99) X dX8_find_99 0 rfl rfl ?_
                refine ww_dup (pc := 100) X dX8_find_100 rfl ?_
                refine ww_get (pc := 101) (ci := 8) (v := .int (SM.1 4)) (C := RX8) (T := TX8) (N := 27) X inX8_find_8 0 rfl rfl 19 (by decide) (by decide +kernel) rfl dX8_find_101 ?_
                refine ww_iconst (pc := 104) (v := 1) X dX8_find_104 (by decide) ?_
                refine ww_iadd (pc := 105) X dX8_find_105 ?_
                refine ww_put (pc := 106) (ci := 8) (v := .int ((SM.1 4) + 1)) (C := RX8) (T := TX8) (N := 27) (ws' := fl [wX8 cI cZ cQ rM (sA (sI SM 4 ((SM.1 4) + 1)) 14 (upd (upd (upd (SM.2 14) ((3 * (SM.1 4) : Int32)).toNatClampNeg x1) (((3 * (SM.1 4)) + 1 : Int32)).toNatClampNeg x2) (((3 * (SM.1 4)) + 2 : Int32)).toNatClampNeg x3))]) X inX8_find_8 tyX8 tyX8_ok nmX8 0 rfl rfl 19 (by decide) (by decide +kernel) rfl rfl rfl (Nat.le_of_ble_eq_true rfl) rfl dX8_find_106 ?_
                refine ww_aload_n (pc := 109) X dX8_find_109 0 rfl rfl ?_
                refine ww_get (pc := 110) (ci := 8) (v := .int ((SM.1 4) + 1)) (C := RX8) (T := TX8) (N := 27) X inX8_find_8 0 rfl rfl 19 (by decide) (by decide +kernel) rfl dX8_find_110 ?_
                have h34 : f_X8_find SM x1 x2 x3 = ((SM.1 4) + 1, (sA (sI SM 4 ((SM.1 4) + 1)) 14 (upd (upd (upd (SM.2 14) ((3 * (SM.1 4) : Int32)).toNatClampNeg x1) (((3 * (SM.1 4)) + 1 : Int32)).toNatClampNeg x2) (((3 * (SM.1 4)) + 2 : Int32)).toNatClampNeg x3))) := by unfold f_X8_find; try rw [if_pos c1, if_neg c19, if_neg c20, if_pos c22, if_pos c29, if_neg c31, if_neg c32]; first | done | rfl
                exact ww_iret X hr rfl (congrArg (fun u9 : Int32 × St => u9.1) h34).symm (congrArg (fun u9 : Int32 × St => fl [wX8 cI cZ cQ rM u9.2]) h34.symm) dX8_find_113
              · refine ww_ldc (pc := 56) (v := (-1000000004)) X (by decide +kernel) dX8_find_56 ?_
                have h35 : f_X8_find SM x1 x2 x3 = ((-1000000004), SM) := by unfold f_X8_find; try rw [if_pos c1, if_neg c19, if_neg c20, if_pos c22, if_pos c29, if_neg c31, if_pos c32]; first | done | rfl
                exact ww_iret X hr rfl (congrArg (fun u9 : Int32 × St => u9.1) h35).symm (congrArg (fun u9 : Int32 × St => fl [wX8 cI cZ cQ rM u9.2]) h35.symm) dX8_find_58
            · refine ww_ldc (pc := 44) (v := (-1000000002)) X (by decide +kernel) dX8_find_44 ?_
              have h36 : f_X8_find SM x1 x2 x3 = ((-1000000002), SM) := by unfold f_X8_find; try rw [if_pos c1, if_neg c19, if_neg c20, if_pos c22, if_pos c29, if_pos c31]; first | done | rfl
              exact ww_iret X hr rfl (congrArg (fun u9 : Int32 × St => u9.1) h36).symm (congrArg (fun u9 : Int32 × St => fl [wX8 cI cZ cQ rM u9.2]) h36.symm) dX8_find_46
    · refine ww_ldc (pc := 12) (v := (-1000000001)) X (by decide +kernel) dX8_find_12 ?_
      have h37 : f_X8_find SM x1 x2 x3 = ((-1000000001), SM) := by unfold f_X8_find; try rw [if_pos c1, if_pos c19]; first | done | rfl
      exact ww_iret X hr rfl (congrArg (fun u9 : Int32 × St => u9.1) h37).symm (congrArg (fun u9 : Int32 × St => fl [wX8 cI cZ cQ rM u9.2]) h37.symm) dX8_find_14
def f_X8_write (SM : St) (x1 : Int32) (x2 : Int32) : Int32 × St :=
  if (f_X8_isPerson SM x1) = 0 then
    ((-1000000001), SM)
  else
    if (f_X8_in x2 0 9999) = 0 then
      ((-1000000002), SM)
    else
      if (SM.1 5) = 15 then
        ((-1000000004), SM)
      else
        ((SM.1 5) + 1, (sA (sI SM 5 ((SM.1 5) + 1)) 15 (upd (upd (SM.2 15) ((2 * (SM.1 5) : Int32)).toNatClampNeg x1) (((2 * (SM.1 5)) + 1 : Int32)).toNatClampNeg x2)))
theorem inX8_write_8 : ∀ w ∈ wsX80, w ∈ wsX8_write := by decide +kernel
theorem hd_X8_write : yX8_write.cls = RX8 ∧ yX8_write.cls ≠ "java/lang/invoke/MethodHandle" ∧ yX8_write.cls ≠ "java/lang/invoke/VarHandle" ∧ (parseMethodDescriptor yX8_write.desc).map (fun d => d.parameters.length) = some 2 := by decide +kernel
set_option maxHeartbeats 4000000 in
set_option maxRecDepth 100000 in
theorem c_X8_write (l : Launch) (D : va_G) (cI cZ cQ : ClassId) (rM : Nat → Nat) (SM : St) (x1 : Int32) (x2 : Int32) (okM : okM SM) (e0 : ¬ (SM.1 5) < 0) (e1 : SM.1 5 ≤ 15) : Ci l yX8_write wsX8_write { frames := 2, cells := 0, slots := 0, locals := 43 } D (tyL cI cZ cQ) [.ref (rM 0), .int x1, .int x2] (fl [wX8 cI cZ cQ rM SM]) ((f_X8_write SM x1 x2).1) (fl [wX8 cI cZ cQ rM ((f_X8_write SM x1 x2).2)]) := by
  refine ci_of (cc := cX8_write) (nL := 3) (ty := .int) (lv0 := [(0, .ref (rM 0)), (1, .int x1), (2, .int x2)]) (by decide) rfl (Nat.le_of_ble_eq_true rfl) rfl ?_
  intro p e s m args below meth c A X hr
  refine ww_aload_n (pc := 0) X dX8_write_0 0 rfl rfl ?_
  refine ww_iload_n (pc := 1) X dX8_write_1 1 rfl rfl ?_
  refine ww_gVi (pc := 2) (rest := []) (gsN := [wX8 cI cZ cQ rM SM]) (ci := 8) (gi := 0) (qi := 0) X (c_X8_isPerson l D cI cZ cQ rM SM x1) gX8_write_X8_isPerson rfl hd_X8_isPerson [true] rfl rfl rfl rfl rfl rfl rfl rfl ⟨rfl, rfl⟩ ⟨Nat.le_of_ble_eq_true rfl, Nat.le_of_ble_eq_true rfl⟩ (Nat.le_of_ble_eq_true rfl) ⟨Nat.zero_le _, Nat.zero_le _⟩ dX8_write_2 ?_
  refine ww_if_ne (pc := 5) (tgt := 11) X dX8_write_5 (by decide) (fun c1 => ?_) (fun c1 => ?_)
  · refine ww_iload_n (pc := 11) X dX8_write_11 2 rfl rfl ?_
    refine ww_iconst (pc := 12) (v := 0) X dX8_write_12 (by decide) ?_
    refine ww_sipush (pc := 13) (v := 9999) X dX8_write_13 (by decide) ?_
    refine ww_gSi (pc := 16) (rest := []) (gsN := [wX8 cI cZ cQ rM SM]) X (c_X8_in l D cI cZ cQ x2 0 9999) gX8_write_X8_in rfl hd_X8_in [false] rfl rfl rfl rfl ⟨rfl, rfl⟩ ⟨Nat.le_of_ble_eq_true rfl, Nat.le_of_ble_eq_true rfl⟩ (Nat.le_of_ble_eq_true rfl) ⟨Nat.zero_le _, Nat.zero_le _⟩ dX8_write_16 ?_
    refine ww_if_ne (pc := 19) (tgt := 25) X dX8_write_19 (by decide) (fun c2 => ?_) (fun c2 => ?_)
    · refine ww_aload_n (pc := 25) X dX8_write_25 0 rfl rfl ?_
      refine ww_get (pc := 26) (ci := 8) (v := .int (SM.1 5)) (C := RX8) (T := TX8) (N := 27) X inX8_write_8 0 rfl rfl 21 (by decide) (by decide +kernel) rfl dX8_write_26 ?_
      refine ww_bipush (pc := 29) (v := 15) X dX8_write_29 (by decide) ?_
      refine ww_icmp_ne (pc := 31) (tgt := 37) X dX8_write_31 (by decide) (fun c3 => ?_) (fun c3 => ?_)
      · refine ww_aload_n (pc := 37) X dX8_write_37 0 rfl rfl ?_
        refine ww_get (pc := 38) (ci := 8) (v := .ref (rM 16)) (C := RX8) (T := TX8) (N := 27) X inX8_write_8 0 rfl rfl 20 (by decide) (by decide +kernel) rfl dX8_write_38 ?_
        refine ww_iconst (pc := 41) (v := 2) X dX8_write_41 (by decide) ?_
        refine ww_aload_n (pc := 42) X dX8_write_42 0 rfl rfl ?_
        refine ww_get (pc := 43) (ci := 8) (v := .int (SM.1 5)) (C := RX8) (T := TX8) (N := 27) X inX8_write_8 0 rfl rfl 21 (by decide) (by decide +kernel) rfl dX8_write_43 ?_
        have hb4 := clb (vin_ne e0 e1 c3 rfl)
        refine ww_imul (pc := 46) X dX8_write_46 ?_
        refine ww_iload_n (pc := 47) X dX8_write_47 1 rfl rfl ?_
        refine ww_iast (pc := 48) (f := SM.2 15) (ws' := fl [wX8 cI cZ cQ rM (sA SM 15 (upd (SM.2 15) ((2 * (SM.1 5) : Int32)).toNatClampNeg x1))]) X 16 0 rfl rfl (vn (m := 2 * ((SM.1 5 : Int32).toNatClampNeg)) (nat_imul (a := 2) (b := (SM.1 5 : Int32).toNatClampNeg) rfl (cl_of (vin_ne e0 e1 c3 rfl))) (by omega) (by decide)) rfl dX8_write_48 ?_
        refine ww_aload_n (pc := 49) X dX8_write_49 0 rfl rfl ?_
        refine ww_get (pc := 50) (ci := 8) (v := .ref (rM 16)) (C := RX8) (T := TX8) (N := 27) X inX8_write_8 0 rfl rfl 20 (by decide) (by decide +kernel) rfl dX8_write_50 ?_
        refine ww_iconst (pc := 53) (v := 2) X dX8_write_53 (by decide) ?_
        refine ww_aload_n (pc := 54) X dX8_write_54 0 rfl rfl ?_
        refine ww_get (pc := 55) (ci := 8) (v := .int (SM.1 5)) (C := RX8) (T := TX8) (N := 27) X inX8_write_8 0 rfl rfl 21 (by decide) (by decide +kernel) rfl dX8_write_55 ?_
        refine ww_imul (pc := 58) X dX8_write_58 ?_
        refine ww_iconst (pc := 59) (v := 1) X dX8_write_59 (by decide) ?_
        refine ww_iadd (pc := 60) X dX8_write_60 ?_
        refine ww_iload_n (pc := 61) X dX8_write_61 2 rfl rfl ?_
        refine ww_iast (pc := 62) (f := upd (SM.2 15) ((2 * (SM.1 5) : Int32)).toNatClampNeg x1) (ws' := fl [wX8 cI cZ cQ rM (sA SM 15 (upd (upd (SM.2 15) ((2 * (SM.1 5) : Int32)).toNatClampNeg x1) (((2 * (SM.1 5)) + 1 : Int32)).toNatClampNeg x2))]) X 16 0 rfl rfl (vn (m := (2 * ((SM.1 5 : Int32).toNatClampNeg)) + 1) (nat_iadd (a := 2 * ((SM.1 5 : Int32).toNatClampNeg)) (b := 1) (nat_imul (a := 2) (b := (SM.1 5 : Int32).toNatClampNeg) rfl (cl_of (vin_ne e0 e1 c3 rfl))) rfl) (by omega) (by decide)) rfl dX8_write_62 ?_
        refine ww_aload_n (pc := 63) X dX8_write_63 0 rfl rfl ?_
        refine ww_dup (pc := 64) X dX8_write_64 rfl ?_
        refine ww_get (pc := 65) (ci := 8) (v := .int (SM.1 5)) (C := RX8) (T := TX8) (N := 27) X inX8_write_8 0 rfl rfl 21 (by decide) (by decide +kernel) rfl dX8_write_65 ?_
        refine ww_iconst (pc := 68) (v := 1) X dX8_write_68 (by decide) ?_
        refine ww_iadd (pc := 69) X dX8_write_69 ?_
        refine ww_put (pc := 70) (ci := 8) (v := .int ((SM.1 5) + 1)) (C := RX8) (T := TX8) (N := 27) (ws' := fl [wX8 cI cZ cQ rM (sA (sI SM 5 ((SM.1 5) + 1)) 15 (upd (upd (SM.2 15) ((2 * (SM.1 5) : Int32)).toNatClampNeg x1) (((2 * (SM.1 5)) + 1 : Int32)).toNatClampNeg x2))]) X inX8_write_8 tyX8 tyX8_ok nmX8 0 rfl rfl 21 (by decide) (by decide +kernel) rfl rfl rfl (Nat.le_of_ble_eq_true rfl) rfl dX8_write_70 ?_
        refine ww_aload_n (pc := 73) X dX8_write_73 0 rfl rfl ?_
        refine ww_get (pc := 74) (ci := 8) (v := .int ((SM.1 5) + 1)) (C := RX8) (T := TX8) (N := 27) X inX8_write_8 0 rfl rfl 21 (by decide) (by decide +kernel) rfl dX8_write_74 ?_
        have h5 : f_X8_write SM x1 x2 = ((SM.1 5) + 1, (sA (sI SM 5 ((SM.1 5) + 1)) 15 (upd (upd (SM.2 15) ((2 * (SM.1 5) : Int32)).toNatClampNeg x1) (((2 * (SM.1 5)) + 1 : Int32)).toNatClampNeg x2))) := by unfold f_X8_write; try rw [if_neg c1, if_neg c2, if_neg c3]; first | done | rfl
        exact ww_iret X hr rfl (congrArg (fun u9 : Int32 × St => u9.1) h5).symm (congrArg (fun u9 : Int32 × St => fl [wX8 cI cZ cQ rM u9.2]) h5.symm) dX8_write_77
      · refine ww_ldc (pc := 34) (v := (-1000000004)) X (by decide +kernel) dX8_write_34 ?_
        have h6 : f_X8_write SM x1 x2 = ((-1000000004), SM) := by unfold f_X8_write; try rw [if_neg c1, if_neg c2, if_pos c3]; first | done | rfl
        exact ww_iret X hr rfl (congrArg (fun u9 : Int32 × St => u9.1) h6).symm (congrArg (fun u9 : Int32 × St => fl [wX8 cI cZ cQ rM u9.2]) h6.symm) dX8_write_36
    · refine ww_ldc (pc := 22) (v := (-1000000002)) X (by decide +kernel) dX8_write_22 ?_
      have h7 : f_X8_write SM x1 x2 = ((-1000000002), SM) := by unfold f_X8_write; try rw [if_neg c1, if_pos c2]; first | done | rfl
      exact ww_iret X hr rfl (congrArg (fun u9 : Int32 × St => u9.1) h7).symm (congrArg (fun u9 : Int32 × St => fl [wX8 cI cZ cQ rM u9.2]) h7.symm) dX8_write_24
  · refine ww_ldc (pc := 8) (v := (-1000000001)) X (by decide +kernel) dX8_write_8 ?_
    have h8 : f_X8_write SM x1 x2 = ((-1000000001), SM) := by unfold f_X8_write; try rw [if_pos c1]; first | done | rfl
    exact ww_iret X hr rfl (congrArg (fun u9 : Int32 × St => u9.1) h8).symm (congrArg (fun u9 : Int32 × St => fl [wX8 cI cZ cQ rM u9.2]) h8.symm) dX8_write_10
def f_X8_tear (SM : St) : Int32 × St :=
  ((SM.1 4) + (SM.1 5), (sI (sI SM 4 0) 5 0))
theorem inX8_tear_8 : ∀ w ∈ wsX80, w ∈ wsX8_tear := by decide +kernel
theorem hd_X8_tear : yX8_tear.cls = RX8 ∧ yX8_tear.cls ≠ "java/lang/invoke/MethodHandle" ∧ yX8_tear.cls ≠ "java/lang/invoke/VarHandle" ∧ (parseMethodDescriptor yX8_tear.desc).map (fun d => d.parameters.length) = some 0 := by decide +kernel
set_option maxHeartbeats 4000000 in
set_option maxRecDepth 100000 in
theorem c_X8_tear (l : Launch) (D : va_G) (cI cZ cQ : ClassId) (rM : Nat → Nat) (SM : St) : Ci l yX8_tear wsX8_tear { frames := 0, cells := 0, slots := 0, locals := 0 } D (tyL cI cZ cQ) [.ref (rM 0)] (fl [wX8 cI cZ cQ rM SM]) ((f_X8_tear SM).1) (fl [wX8 cI cZ cQ rM ((f_X8_tear SM).2)]) := by
  refine ci_of (cc := cX8_tear) (nL := 2) (ty := .int) (lv0 := [(0, .ref (rM 0))]) (by decide) rfl (Nat.le_of_ble_eq_true rfl) rfl ?_
  intro p e s m args below meth c A X hr
  refine ww_aload_n (pc := 0) X dX8_tear_0 0 rfl rfl ?_
  refine ww_get (pc := 1) (ci := 8) (v := .int (SM.1 4)) (C := RX8) (T := TX8) (N := 27) X inX8_tear_8 0 rfl rfl 19 (by decide) (by decide +kernel) rfl dX8_tear_1 ?_
  refine ww_aload_n (pc := 4) X dX8_tear_4 0 rfl rfl ?_
  refine ww_get (pc := 5) (ci := 8) (v := .int (SM.1 5)) (C := RX8) (T := TX8) (N := 27) X inX8_tear_8 0 rfl rfl 21 (by decide) (by decide +kernel) rfl dX8_tear_5 ?_
  refine ww_iadd (pc := 8) X dX8_tear_8 ?_
  refine ww_istore_n (pc := 9) (lv' := [(1, .int ((SM.1 4) + (SM.1 5))), (0, .ref (rM 0))]) X dX8_tear_9 rfl (by decide) rfl ?_
  refine ww_aload_n (pc := 10) X dX8_tear_10 1 rfl rfl ?_
  refine ww_iconst (pc := 11) (v := 0) X dX8_tear_11 (by decide) ?_
  refine ww_put (pc := 12) (ci := 8) (v := .int 0) (C := RX8) (T := TX8) (N := 27) (ws' := fl [wX8 cI cZ cQ rM (sI SM 4 0)]) X inX8_tear_8 tyX8 tyX8_ok nmX8 0 rfl rfl 19 (by decide) (by decide +kernel) rfl rfl rfl (Nat.le_of_ble_eq_true rfl) rfl dX8_tear_12 ?_
  refine ww_aload_n (pc := 15) X dX8_tear_15 1 rfl rfl ?_
  refine ww_iconst (pc := 16) (v := 0) X dX8_tear_16 (by decide) ?_
  refine ww_put (pc := 17) (ci := 8) (v := .int 0) (C := RX8) (T := TX8) (N := 27) (ws' := fl [wX8 cI cZ cQ rM (sI (sI SM 4 0) 5 0)]) X inX8_tear_8 tyX8 tyX8_ok nmX8 0 rfl rfl 21 (by decide) (by decide +kernel) rfl rfl rfl (Nat.le_of_ble_eq_true rfl) rfl dX8_tear_17 ?_
  refine ww_iload_n (pc := 20) X dX8_tear_20 0 rfl rfl ?_
  have h1 : f_X8_tear SM = ((SM.1 4) + (SM.1 5), (sI (sI SM 4 0) 5 0)) := by unfold f_X8_tear; first | done | rfl
  exact ww_iret X hr rfl (congrArg (fun u9 : Int32 × St => u9.1) h1).symm (congrArg (fun u9 : Int32 × St => fl [wX8 cI cZ cQ rM u9.2]) h1.symm) dX8_tear_21
def f_X8_seed (SM : St) (x1 : Int32) : Int32 × St :=
  if 0 ≤ x1 then
    (SM.1 3, (sI SM 3 x1))
  else
    ((-1000000002), SM)
theorem inX8_seed_8 : ∀ w ∈ wsX80, w ∈ wsX8_seed := by decide +kernel
theorem hd_X8_seed : yX8_seed.cls = RX8 ∧ yX8_seed.cls ≠ "java/lang/invoke/MethodHandle" ∧ yX8_seed.cls ≠ "java/lang/invoke/VarHandle" ∧ (parseMethodDescriptor yX8_seed.desc).map (fun d => d.parameters.length) = some 1 := by decide +kernel
set_option maxHeartbeats 4000000 in
set_option maxRecDepth 100000 in
theorem c_X8_seed (l : Launch) (D : va_G) (cI cZ cQ : ClassId) (rM : Nat → Nat) (SM : St) (x1 : Int32) : Ci l yX8_seed wsX8_seed { frames := 0, cells := 0, slots := 0, locals := 0 } D (tyL cI cZ cQ) [.ref (rM 0), .int x1] (fl [wX8 cI cZ cQ rM SM]) ((f_X8_seed SM x1).1) (fl [wX8 cI cZ cQ rM ((f_X8_seed SM x1).2)]) := by
  refine ci_of (cc := cX8_seed) (nL := 3) (ty := .int) (lv0 := [(0, .ref (rM 0)), (1, .int x1)]) (by decide) rfl (Nat.le_of_ble_eq_true rfl) rfl ?_
  intro p e s m args below meth c A X hr
  refine ww_iload_n (pc := 0) X dX8_seed_0 1 rfl rfl ?_
  refine ww_if_ge (pc := 1) (tgt := 7) X dX8_seed_1 (by decide) (fun c1 => ?_) (fun c1 => ?_)
  · refine ww_aload_n (pc := 7) X dX8_seed_7 0 rfl rfl ?_
    refine ww_get (pc := 8) (ci := 8) (v := .int (SM.1 3)) (C := RX8) (T := TX8) (N := 27) X inX8_seed_8 0 rfl rfl 17 (by decide) (by decide +kernel) rfl dX8_seed_8 ?_
    refine ww_istore_n (pc := 11) (lv' := [(2, .int (SM.1 3)), (0, .ref (rM 0)), (1, .int x1)]) X dX8_seed_11 rfl (by decide) rfl ?_
    refine ww_aload_n (pc := 12) X dX8_seed_12 1 rfl rfl ?_
    refine ww_iload_n (pc := 13) X dX8_seed_13 2 rfl rfl ?_
    refine ww_put (pc := 14) (ci := 8) (v := .int x1) (C := RX8) (T := TX8) (N := 27) (ws' := fl [wX8 cI cZ cQ rM (sI SM 3 x1)]) X inX8_seed_8 tyX8 tyX8_ok nmX8 0 rfl rfl 17 (by decide) (by decide +kernel) rfl rfl rfl (Nat.le_of_ble_eq_true rfl) rfl dX8_seed_14 ?_
    refine ww_iload_n (pc := 17) X dX8_seed_17 0 rfl rfl ?_
    have h2 : f_X8_seed SM x1 = (SM.1 3, (sI SM 3 x1)) := by unfold f_X8_seed; try rw [if_pos c1]; first | done | rfl
    exact ww_iret X hr rfl (congrArg (fun u9 : Int32 × St => u9.1) h2).symm (congrArg (fun u9 : Int32 × St => fl [wX8 cI cZ cQ rM u9.2]) h2.symm) dX8_seed_18
  · refine ww_ldc (pc := 4) (v := (-1000000002)) X (by decide +kernel) dX8_seed_4 ?_
    have h3 : f_X8_seed SM x1 = ((-1000000002), SM) := by unfold f_X8_seed; try rw [if_neg c1]; first | done | rfl
    exact ww_iret X hr rfl (congrArg (fun u9 : Int32 × St => u9.1) h3).symm (congrArg (fun u9 : Int32 × St => fl [wX8 cI cZ cQ rM u9.2]) h3.symm) dX8_seed_6
def bd_X8_keep_14 (x1 : Int32) (j : Nat) (u : St) : St :=
  (sA u 11 (upd (u.2 11) (((35 * x1) + (nI j) : Int32)).toNatClampNeg ((u.2 9) (((nI j) : Int32)).toNatClampNeg)))
def it_X8_keep_14 (x1 : Int32) (u : St) : Nat → St
  | 0 => u
  | j + 1 => bd_X8_keep_14 x1 j (it_X8_keep_14 x1 u j)
def f_X8_keep_k1 (SM : St) (x1 : Int32) (z5 : St) : Int32 × St :=
  (1, (sA (sA (sI z5 2 0) 12 (upd (z5.2 12) ((x1 : Int32)).toNatClampNeg (z5.1 3))) 13 (upd (z5.2 13) ((x1 : Int32)).toNatClampNeg 1)))
def f_X8_keep (SM : St) (x1 : Int32) : Int32 × St :=
  if (f_X8_in x1 0 1) = 0 then
    ((-1000000001), SM)
  else
    f_X8_keep_k1 SM x1 (it_X8_keep_14 x1 SM 35)
theorem inX8_keep_8 : ∀ w ∈ wsX80, w ∈ wsX8_keep := by decide +kernel
theorem hd_X8_keep : yX8_keep.cls = RX8 ∧ yX8_keep.cls ≠ "java/lang/invoke/MethodHandle" ∧ yX8_keep.cls ≠ "java/lang/invoke/VarHandle" ∧ (parseMethodDescriptor yX8_keep.desc).map (fun d => d.parameters.length) = some 1 := by decide +kernel
set_option maxHeartbeats 4000000 in
set_option maxRecDepth 100000 in
theorem c_X8_keep (l : Launch) (D : va_G) (cI cZ cQ : ClassId) (rM : Nat → Nat) (SM : St) (x1 : Int32) : Ci l yX8_keep wsX8_keep { frames := 1, cells := 0, slots := 0, locals := 22 } D (tyL cI cZ cQ) [.ref (rM 0), .int x1] (fl [wX8 cI cZ cQ rM SM]) ((f_X8_keep SM x1).1) (fl [wX8 cI cZ cQ rM ((f_X8_keep SM x1).2)]) := by
  refine ci_of (cc := cX8_keep) (nL := 3) (ty := .int) (lv0 := [(0, .ref (rM 0)), (1, .int x1)]) (by decide) rfl (Nat.le_of_ble_eq_true rfl) rfl ?_
  intro p e s m args below meth c A X hr
  refine ww_iload_n (pc := 0) X dX8_keep_0 1 rfl rfl ?_
  refine ww_iconst (pc := 1) (v := 0) X dX8_keep_1 (by decide) ?_
  refine ww_iconst (pc := 2) (v := 1) X dX8_keep_2 (by decide) ?_
  refine ww_gSi (pc := 3) (rest := []) (gsN := [wX8 cI cZ cQ rM SM]) X (c_X8_in l D cI cZ cQ x1 0 1) gX8_keep_X8_in rfl hd_X8_in [false] rfl rfl rfl rfl ⟨rfl, rfl⟩ ⟨Nat.le_of_ble_eq_true rfl, Nat.le_of_ble_eq_true rfl⟩ (Nat.le_of_ble_eq_true rfl) ⟨Nat.zero_le _, Nat.zero_le _⟩ dX8_keep_3 ?_
  refine ww_if_ne (pc := 6) (tgt := 12) X dX8_keep_6 (by decide) (fun c1 => ?_) (fun c1 => ?_)
  · refine ww_iconst (pc := 12) (v := 0) X dX8_keep_12 (by decide) ?_
    refine ww_istore_n (pc := 13) (lv' := [(2, .int 0), (0, .ref (rM 0)), (1, .int x1)]) X dX8_keep_13 rfl (by decide) rfl ?_
    have L14 : ∀ (k_14 j_14 : Nat), j_14 + k_14 = 35 → WW p l e (headSpec wsX8_keep { frames := 1, cells := 0, slots := 0, locals := 22 }).room s m args below meth c 3 D A 0 0 (RQi below args s D A ((f_X8_keep SM x1).1) (fl [wX8 cI cZ cQ rM ((f_X8_keep SM x1).2)])) (fl [wX8 cI cZ cQ rM (it_X8_keep_14 x1 SM 35)]) [(0, .ref (rM 0)), (1, .int x1), (2, .int (nI 35))] 43 [] → WW p l e (headSpec wsX8_keep { frames := 1, cells := 0, slots := 0, locals := 22 }).room s m args below meth c 3 D A 0 0 (RQi below args s D A ((f_X8_keep SM x1).1) (fl [wX8 cI cZ cQ rM ((f_X8_keep SM x1).2)])) (fl [wX8 cI cZ cQ rM (it_X8_keep_14 x1 SM j_14)]) [(0, .ref (rM 0)), (1, .int x1), (2, .int (nI j_14))] 14 [] := by
      intro k_14
      induction k_14 with
      | zero =>
        intro j_14 hj K
        have hjB : j_14 = 35 := by omega
        subst hjB
        refine ww_iload_n (pc := 14) X dX8_keep_14 2 rfl rfl ?_
        refine ww_bipush (pc := 15) (v := 35) X dX8_keep_15 (by decide) ?_
        exact ww_icmp_ge (pc := 17) (tgt := 43) X dX8_keep_17 (by decide) (fun _ => K) (fun c9 => absurd (lp_ge0 rfl (Nat.le_refl _) (by decide)) c9)
      | succ k_14 ih =>
        intro j_14 hj K
        have hjB : j_14 < 35 := by omega
        refine ww_iload_n (pc := 14) X dX8_keep_14 2 rfl rfl ?_
        refine ww_bipush (pc := 15) (v := 35) X dX8_keep_15 (by decide) ?_
        refine ww_icmp_ge (pc := 17) (tgt := 43) X dX8_keep_17 (by decide) (fun c9 => absurd c9 (lp_ge1 rfl hjB (by decide))) (fun _ => ?_)
        refine ww_aload_n (pc := 20) X dX8_keep_20 0 rfl rfl ?_
        refine ww_get (pc := 21) (ci := 8) (v := .ref (rM 12)) (C := RX8) (T := TX8) (N := 27) X inX8_keep_8 0 rfl rfl 14 (by decide) (by decide +kernel) rfl dX8_keep_21 ?_
        refine ww_bipush (pc := 24) (v := 35) X dX8_keep_24 (by decide) ?_
        refine ww_iload_n (pc := 26) X dX8_keep_26 1 rfl rfl ?_
        have hb3 := clb (in_X8_in c1 rfl)
        refine ww_imul (pc := 27) X dX8_keep_27 ?_
        refine ww_iload_n (pc := 28) X dX8_keep_28 2 rfl rfl ?_
        refine ww_iadd (pc := 29) X dX8_keep_29 ?_
        refine ww_aload_n (pc := 30) X dX8_keep_30 0 rfl rfl ?_
        refine ww_get (pc := 31) (ci := 8) (v := .ref (rM 10)) (C := RX8) (T := TX8) (N := 27) X inX8_keep_8 0 rfl rfl 11 (by decide) (by decide +kernel) rfl dX8_keep_31 ?_
        refine ww_iload_n (pc := 34) X dX8_keep_34 2 rfl rfl ?_
        refine ww_iald (pc := 35) (f := (it_X8_keep_14 x1 SM j_14).2 9) X 10 0 rfl rfl (vn (m := j_14) rfl (by omega) (by decide)) dX8_keep_35 ?_
        refine ww_iast (pc := 36) (f := (it_X8_keep_14 x1 SM j_14).2 11) (ws' := fl [wX8 cI cZ cQ rM (sA (it_X8_keep_14 x1 SM j_14) 11 (upd ((it_X8_keep_14 x1 SM j_14).2 11) (((35 * x1) + (nI j_14) : Int32)).toNatClampNeg (((it_X8_keep_14 x1 SM j_14).2 9) (((nI j_14) : Int32)).toNatClampNeg)))]) X 12 0 rfl rfl (vn (m := (35 * ((x1 : Int32).toNatClampNeg)) + j_14) (nat_iadd (a := 35 * ((x1 : Int32).toNatClampNeg)) (b := j_14) (nat_imul (a := 35) (b := (x1 : Int32).toNatClampNeg) rfl (cl_of (in_X8_in c1 rfl))) rfl) (by omega) (by decide)) rfl dX8_keep_36 ?_
        refine ww_iinc (pc := 37) (v := (nI j_14) + 1) (lv' := [(2, .int ((nI j_14) + 1)), (0, .ref (rM 0)), (1, .int x1)]) X dX8_keep_37 2 rfl rfl (by decide) rfl ?_
        refine ww_goto (pc := 40) (tgt := 14) X dX8_keep_40 (by decide) ?_
        have h4 : (it_X8_keep_14 x1 SM (j_14 + 1)) = (sA (it_X8_keep_14 x1 SM j_14) 11 (upd ((it_X8_keep_14 x1 SM j_14).2 11) (((35 * x1) + (nI j_14) : Int32)).toNatClampNeg (((it_X8_keep_14 x1 SM j_14).2 9) (((nI j_14) : Int32)).toNatClampNeg))) := by
          show bd_X8_keep_14 x1 j_14 (it_X8_keep_14 x1 SM j_14) = _; unfold bd_X8_keep_14; first | done | rfl
        refine ww_lsub [1, 2, 0] rfl ?_
        exact ww_castI (fun u9 : St => fl [wX8 cI cZ cQ rM u9]) (fun (u9 : St) (i9 : Int32) => ([(0, .ref (rM 0)), (1, .int x1), (2, .int i9)] : List (Nat × Value))) h4 (ih (j_14 + 1) (by omega) K)
    refine ww_lsub [1, 2, 0] rfl ?_
    refine L14 35 0 (by omega) ?_
    generalize hz5 : ((it_X8_keep_14 x1 SM 35)) = z5
    refine ww_aload_n (pc := 43) X dX8_keep_43 0 rfl rfl ?_
    refine ww_get (pc := 44) (ci := 8) (v := .ref (rM 13)) (C := RX8) (T := TX8) (N := 27) X inX8_keep_8 0 rfl rfl 15 (by decide) (by decide +kernel) rfl dX8_keep_44 ?_
    refine ww_iload_n (pc := 47) X dX8_keep_47 1 rfl rfl ?_
    refine ww_aload_n (pc := 48) X dX8_keep_48 0 rfl rfl ?_
    refine ww_get (pc := 49) (ci := 8) (v := .int (z5.1 3)) (C := RX8) (T := TX8) (N := 27) X inX8_keep_8 0 rfl rfl 17 (by decide) (by decide +kernel) rfl dX8_keep_49 ?_
    refine ww_iast (pc := 52) (f := z5.2 12) (ws' := fl [wX8 cI cZ cQ rM (sA z5 12 (upd (z5.2 12) ((x1 : Int32)).toNatClampNeg (z5.1 3)))]) X 13 0 rfl rfl (in_X8_in c1 rfl) rfl dX8_keep_52 ?_
    refine ww_aload_n (pc := 53) X dX8_keep_53 0 rfl rfl ?_
    refine ww_get (pc := 54) (ci := 8) (v := .ref (rM 14)) (C := RX8) (T := TX8) (N := 27) X inX8_keep_8 0 rfl rfl 16 (by decide) (by decide +kernel) rfl dX8_keep_54 ?_
    refine ww_iload_n (pc := 57) X dX8_keep_57 1 rfl rfl ?_
    refine ww_iconst (pc := 58) (v := 1) X dX8_keep_58 (by decide) ?_
    refine ww_zast (pc := 59) (f := z5.2 13) (ws' := fl [wX8 cI cZ cQ rM (sA (sA z5 12 (upd (z5.2 12) ((x1 : Int32)).toNatClampNeg (z5.1 3))) 13 (upd (z5.2 13) ((x1 : Int32)).toNatClampNeg 1))]) X 14 1 rfl rfl (in_X8_in c1 rfl) rfl rfl dX8_keep_59 ?_
    refine ww_aload_n (pc := 60) X dX8_keep_60 0 rfl rfl ?_
    refine ww_iconst (pc := 61) (v := 0) X dX8_keep_61 (by decide) ?_
    refine ww_put (pc := 62) (ci := 8) (v := .int 0) (C := RX8) (T := TX8) (N := 27) (ws' := fl [wX8 cI cZ cQ rM (sA (sA (sI z5 2 0) 12 (upd (z5.2 12) ((x1 : Int32)).toNatClampNeg (z5.1 3))) 13 (upd (z5.2 13) ((x1 : Int32)).toNatClampNeg 1))]) X inX8_keep_8 tyX8 tyX8_ok nmX8 0 rfl rfl 13 (by decide) (by decide +kernel) rfl rfl rfl (Nat.le_of_ble_eq_true rfl) rfl dX8_keep_62 ?_
    refine ww_iconst (pc := 65) (v := 1) X dX8_keep_65 (by decide) ?_
    have h6 : f_X8_keep SM x1 = (1, (sA (sA (sI z5 2 0) 12 (upd (z5.2 12) ((x1 : Int32)).toNatClampNeg (z5.1 3))) 13 (upd (z5.2 13) ((x1 : Int32)).toNatClampNeg 1))) := by unfold f_X8_keep; try rw [if_neg c1, hz5]; try unfold f_X8_keep_k1; first | done | rfl
    exact ww_iret X hr rfl (congrArg (fun u9 : Int32 × St => u9.1) h6).symm (congrArg (fun u9 : Int32 × St => fl [wX8 cI cZ cQ rM u9.2]) h6.symm) dX8_keep_66
  · refine ww_ldc (pc := 9) (v := (-1000000001)) X (by decide +kernel) dX8_keep_9 ?_
    have h7 : f_X8_keep SM x1 = ((-1000000001), SM) := by unfold f_X8_keep; try rw [if_pos c1]; first | done | rfl
    exact ww_iret X hr rfl (congrArg (fun u9 : Int32 × St => u9.1) h7).symm (congrArg (fun u9 : Int32 × St => fl [wX8 cI cZ cQ rM u9.2]) h7.symm) dX8_keep_11
def bd_X8_goBack_26 (x1 : Int32) (j : Nat) (u : St) : St :=
  (sA u 9 (upd (u.2 9) (((nI j) : Int32)).toNatClampNeg ((u.2 11) (((35 * x1) + (nI j) : Int32)).toNatClampNeg)))
def it_X8_goBack_26 (x1 : Int32) (u : St) : Nat → St
  | 0 => u
  | j + 1 => bd_X8_goBack_26 x1 j (it_X8_goBack_26 x1 u j)
def f_X8_goBack_k1 (SM : St) (x1 : Int32) (z6 : St) : Int32 × St :=
  (1, (sI (sI z6 2 0) 3 ((z6.2 12) ((x1 : Int32)).toNatClampNeg)))
def f_X8_goBack (SM : St) (x1 : Int32) : Int32 × St :=
  if (f_X8_in x1 0 1) = 0 then
    ((-1000000001), SM)
  else
    if ((SM.2 13) ((x1 : Int32)).toNatClampNeg) = 0 then
      ((-1000000003), SM)
    else
      f_X8_goBack_k1 SM x1 (it_X8_goBack_26 x1 SM 35)
theorem inX8_goBack_8 : ∀ w ∈ wsX80, w ∈ wsX8_goBack := by decide +kernel
theorem hd_X8_goBack : yX8_goBack.cls = RX8 ∧ yX8_goBack.cls ≠ "java/lang/invoke/MethodHandle" ∧ yX8_goBack.cls ≠ "java/lang/invoke/VarHandle" ∧ (parseMethodDescriptor yX8_goBack.desc).map (fun d => d.parameters.length) = some 1 := by decide +kernel
set_option maxHeartbeats 4000000 in
set_option maxRecDepth 100000 in
theorem c_X8_goBack (l : Launch) (D : va_G) (cI cZ cQ : ClassId) (rM : Nat → Nat) (SM : St) (x1 : Int32) : Ci l yX8_goBack wsX8_goBack { frames := 1, cells := 0, slots := 0, locals := 22 } D (tyL cI cZ cQ) [.ref (rM 0), .int x1] (fl [wX8 cI cZ cQ rM SM]) ((f_X8_goBack SM x1).1) (fl [wX8 cI cZ cQ rM ((f_X8_goBack SM x1).2)]) := by
  refine ci_of (cc := cX8_goBack) (nL := 3) (ty := .int) (lv0 := [(0, .ref (rM 0)), (1, .int x1)]) (by decide) rfl (Nat.le_of_ble_eq_true rfl) rfl ?_
  intro p e s m args below meth c A X hr
  refine ww_iload_n (pc := 0) X dX8_goBack_0 1 rfl rfl ?_
  refine ww_iconst (pc := 1) (v := 0) X dX8_goBack_1 (by decide) ?_
  refine ww_iconst (pc := 2) (v := 1) X dX8_goBack_2 (by decide) ?_
  refine ww_gSi (pc := 3) (rest := []) (gsN := [wX8 cI cZ cQ rM SM]) X (c_X8_in l D cI cZ cQ x1 0 1) gX8_goBack_X8_in rfl hd_X8_in [false] rfl rfl rfl rfl ⟨rfl, rfl⟩ ⟨Nat.le_of_ble_eq_true rfl, Nat.le_of_ble_eq_true rfl⟩ (Nat.le_of_ble_eq_true rfl) ⟨Nat.zero_le _, Nat.zero_le _⟩ dX8_goBack_3 ?_
  refine ww_if_ne (pc := 6) (tgt := 12) X dX8_goBack_6 (by decide) (fun c1 => ?_) (fun c1 => ?_)
  · refine ww_aload_n (pc := 12) X dX8_goBack_12 0 rfl rfl ?_
    refine ww_get (pc := 13) (ci := 8) (v := .ref (rM 14)) (C := RX8) (T := TX8) (N := 27) X inX8_goBack_8 0 rfl rfl 16 (by decide) (by decide +kernel) rfl dX8_goBack_13 ?_
    refine ww_iload_n (pc := 16) X dX8_goBack_16 1 rfl rfl ?_
    refine ww_zald (pc := 17) (f := SM.2 13) X 14 1 rfl rfl (in_X8_in c1 rfl) dX8_goBack_17 ?_
    refine ww_if_ne (pc := 18) (tgt := 24) X dX8_goBack_18 (by decide) (fun c2 => ?_) (fun c2 => ?_)
    · refine ww_iconst (pc := 24) (v := 0) X dX8_goBack_24 (by decide) ?_
      refine ww_istore_n (pc := 25) (lv' := [(2, .int 0), (0, .ref (rM 0)), (1, .int x1)]) X dX8_goBack_25 rfl (by decide) rfl ?_
      have L26 : ∀ (k_26 j_26 : Nat), j_26 + k_26 = 35 → WW p l e (headSpec wsX8_goBack { frames := 1, cells := 0, slots := 0, locals := 22 }).room s m args below meth c 3 D A 0 0 (RQi below args s D A ((f_X8_goBack SM x1).1) (fl [wX8 cI cZ cQ rM ((f_X8_goBack SM x1).2)])) (fl [wX8 cI cZ cQ rM (it_X8_goBack_26 x1 SM 35)]) [(0, .ref (rM 0)), (1, .int x1), (2, .int (nI 35))] 55 [] → WW p l e (headSpec wsX8_goBack { frames := 1, cells := 0, slots := 0, locals := 22 }).room s m args below meth c 3 D A 0 0 (RQi below args s D A ((f_X8_goBack SM x1).1) (fl [wX8 cI cZ cQ rM ((f_X8_goBack SM x1).2)])) (fl [wX8 cI cZ cQ rM (it_X8_goBack_26 x1 SM j_26)]) [(0, .ref (rM 0)), (1, .int x1), (2, .int (nI j_26))] 26 [] := by
        intro k_26
        induction k_26 with
        | zero =>
          intro j_26 hj K
          have hjB : j_26 = 35 := by omega
          subst hjB
          refine ww_iload_n (pc := 26) X dX8_goBack_26 2 rfl rfl ?_
          refine ww_bipush (pc := 27) (v := 35) X dX8_goBack_27 (by decide) ?_
          exact ww_icmp_ge (pc := 29) (tgt := 55) X dX8_goBack_29 (by decide) (fun _ => K) (fun c9 => absurd (lp_ge0 rfl (Nat.le_refl _) (by decide)) c9)
        | succ k_26 ih =>
          intro j_26 hj K
          have hjB : j_26 < 35 := by omega
          refine ww_iload_n (pc := 26) X dX8_goBack_26 2 rfl rfl ?_
          refine ww_bipush (pc := 27) (v := 35) X dX8_goBack_27 (by decide) ?_
          refine ww_icmp_ge (pc := 29) (tgt := 55) X dX8_goBack_29 (by decide) (fun c9 => absurd c9 (lp_ge1 rfl hjB (by decide))) (fun _ => ?_)
          refine ww_aload_n (pc := 32) X dX8_goBack_32 0 rfl rfl ?_
          refine ww_get (pc := 33) (ci := 8) (v := .ref (rM 10)) (C := RX8) (T := TX8) (N := 27) X inX8_goBack_8 0 rfl rfl 11 (by decide) (by decide +kernel) rfl dX8_goBack_33 ?_
          refine ww_iload_n (pc := 36) X dX8_goBack_36 2 rfl rfl ?_
          refine ww_aload_n (pc := 37) X dX8_goBack_37 0 rfl rfl ?_
          refine ww_get (pc := 38) (ci := 8) (v := .ref (rM 12)) (C := RX8) (T := TX8) (N := 27) X inX8_goBack_8 0 rfl rfl 14 (by decide) (by decide +kernel) rfl dX8_goBack_38 ?_
          refine ww_bipush (pc := 41) (v := 35) X dX8_goBack_41 (by decide) ?_
          refine ww_iload_n (pc := 43) X dX8_goBack_43 1 rfl rfl ?_
          have hb4 := clb (in_X8_in c1 rfl)
          refine ww_imul (pc := 44) X dX8_goBack_44 ?_
          refine ww_iload_n (pc := 45) X dX8_goBack_45 2 rfl rfl ?_
          refine ww_iadd (pc := 46) X dX8_goBack_46 ?_
          refine ww_iald (pc := 47) (f := (it_X8_goBack_26 x1 SM j_26).2 11) X 12 0 rfl rfl (vn (m := (35 * ((x1 : Int32).toNatClampNeg)) + j_26) (nat_iadd (a := 35 * ((x1 : Int32).toNatClampNeg)) (b := j_26) (nat_imul (a := 35) (b := (x1 : Int32).toNatClampNeg) rfl (cl_of (in_X8_in c1 rfl))) rfl) (by omega) (by decide)) dX8_goBack_47 ?_
          refine ww_iast (pc := 48) (f := (it_X8_goBack_26 x1 SM j_26).2 9) (ws' := fl [wX8 cI cZ cQ rM (sA (it_X8_goBack_26 x1 SM j_26) 9 (upd ((it_X8_goBack_26 x1 SM j_26).2 9) (((nI j_26) : Int32)).toNatClampNeg (((it_X8_goBack_26 x1 SM j_26).2 11) (((35 * x1) + (nI j_26) : Int32)).toNatClampNeg)))]) X 10 0 rfl rfl (vn (m := j_26) rfl (by omega) (by decide)) rfl dX8_goBack_48 ?_
          refine ww_iinc (pc := 49) (v := (nI j_26) + 1) (lv' := [(2, .int ((nI j_26) + 1)), (0, .ref (rM 0)), (1, .int x1)]) X dX8_goBack_49 2 rfl rfl (by decide) rfl ?_
          refine ww_goto (pc := 52) (tgt := 26) X dX8_goBack_52 (by decide) ?_
          have h5 : (it_X8_goBack_26 x1 SM (j_26 + 1)) = (sA (it_X8_goBack_26 x1 SM j_26) 9 (upd ((it_X8_goBack_26 x1 SM j_26).2 9) (((nI j_26) : Int32)).toNatClampNeg (((it_X8_goBack_26 x1 SM j_26).2 11) (((35 * x1) + (nI j_26) : Int32)).toNatClampNeg))) := by
            show bd_X8_goBack_26 x1 j_26 (it_X8_goBack_26 x1 SM j_26) = _; unfold bd_X8_goBack_26; first | done | rfl
          refine ww_lsub [1, 2, 0] rfl ?_
          exact ww_castI (fun u9 : St => fl [wX8 cI cZ cQ rM u9]) (fun (u9 : St) (i9 : Int32) => ([(0, .ref (rM 0)), (1, .int x1), (2, .int i9)] : List (Nat × Value))) h5 (ih (j_26 + 1) (by omega) K)
      refine ww_lsub [1, 2, 0] rfl ?_
      refine L26 35 0 (by omega) ?_
      generalize hz6 : ((it_X8_goBack_26 x1 SM 35)) = z6
      refine ww_aload_n (pc := 55) X dX8_goBack_55 0 rfl rfl ?_
      refine ww_aload_n (pc := 56) X dX8_goBack_56 0 rfl rfl ?_
      refine ww_get (pc := 57) (ci := 8) (v := .ref (rM 13)) (C := RX8) (T := TX8) (N := 27) X inX8_goBack_8 0 rfl rfl 15 (by decide) (by decide +kernel) rfl dX8_goBack_57 ?_
      refine ww_iload_n (pc := 60) X dX8_goBack_60 1 rfl rfl ?_
      refine ww_iald (pc := 61) (f := z6.2 12) X 13 0 rfl rfl (in_X8_in c1 rfl) dX8_goBack_61 ?_
      refine ww_put (pc := 62) (ci := 8) (v := .int ((z6.2 12) ((x1 : Int32)).toNatClampNeg)) (C := RX8) (T := TX8) (N := 27) (ws' := fl [wX8 cI cZ cQ rM (sI z6 3 ((z6.2 12) ((x1 : Int32)).toNatClampNeg))]) X inX8_goBack_8 tyX8 tyX8_ok nmX8 0 rfl rfl 17 (by decide) (by decide +kernel) rfl rfl rfl (Nat.le_of_ble_eq_true rfl) rfl dX8_goBack_62 ?_
      refine ww_aload_n (pc := 65) X dX8_goBack_65 0 rfl rfl ?_
      refine ww_iconst (pc := 66) (v := 0) X dX8_goBack_66 (by decide) ?_
      refine ww_put (pc := 67) (ci := 8) (v := .int 0) (C := RX8) (T := TX8) (N := 27) (ws' := fl [wX8 cI cZ cQ rM (sI (sI z6 2 0) 3 ((z6.2 12) ((x1 : Int32)).toNatClampNeg))]) X inX8_goBack_8 tyX8 tyX8_ok nmX8 0 rfl rfl 13 (by decide) (by decide +kernel) rfl rfl rfl (Nat.le_of_ble_eq_true rfl) rfl dX8_goBack_67 ?_
      refine ww_iconst (pc := 70) (v := 1) X dX8_goBack_70 (by decide) ?_
      have h7 : f_X8_goBack SM x1 = (1, (sI (sI z6 2 0) 3 ((z6.2 12) ((x1 : Int32)).toNatClampNeg))) := by unfold f_X8_goBack; try rw [if_neg c1, if_neg c2, hz6]; try unfold f_X8_goBack_k1; first | done | rfl
      exact ww_iret X hr rfl (congrArg (fun u9 : Int32 × St => u9.1) h7).symm (congrArg (fun u9 : Int32 × St => fl [wX8 cI cZ cQ rM u9.2]) h7.symm) dX8_goBack_71
    · refine ww_ldc (pc := 21) (v := (-1000000003)) X (by decide +kernel) dX8_goBack_21 ?_
      have h8 : f_X8_goBack SM x1 = ((-1000000003), SM) := by unfold f_X8_goBack; try rw [if_neg c1, if_pos c2]; first | done | rfl
      exact ww_iret X hr rfl (congrArg (fun u9 : Int32 × St => u9.1) h8).symm (congrArg (fun u9 : Int32 × St => fl [wX8 cI cZ cQ rM u9.2]) h8.symm) dX8_goBack_23
  · refine ww_ldc (pc := 9) (v := (-1000000001)) X (by decide +kernel) dX8_goBack_9 ?_
    have h9 : f_X8_goBack SM x1 = ((-1000000001), SM) := by unfold f_X8_goBack; try rw [if_pos c1]; first | done | rfl
    exact ww_iret X hr rfl (congrArg (fun u9 : Int32 × St => u9.1) h9).symm (congrArg (fun u9 : Int32 × St => fl [wX8 cI cZ cQ rM u9.2]) h9.symm) dX8_goBack_11
