def bd_X8_isSo_4_k1 (SM : St) (x1 : Int32) (j : Nat) (u : Int32) (z4 : Int32) : Int32 :=
  if u = 0 then
    0
  else
    if z4 = ((SM.2 14) (((3 * (nI j)) + 2 : Int32)).toNatClampNeg) then
      1
    else
      0
def bd_X8_isSo_4 (SM : St) (x1 : Int32) (j : Nat) (u : Int32) : Int32 :=
  if ((SM.2 14) ((3 * (nI j) : Int32)).toNatClampNeg) = 0 then
    bd_X8_isSo_4_k1 SM x1 j u ((SM.2 16) (((SM.2 14) (((3 * (nI j)) + 1 : Int32)).toNatClampNeg : Int32)).toNatClampNeg)
  else
    if u = 0 then
      0
    else
      if (x1 / ((SM.2 1) ((1 : Int32)).toNatClampNeg)) = ((SM.2 14) (((3 * (nI j)) + 2 : Int32)).toNatClampNeg) then
        1
      else
        0
def it_X8_isSo_4 (SM : St) (x1 : Int32) (u : Int32) : Nat → Int32
  | 0 => u
  | j + 1 => bd_X8_isSo_4 SM x1 j (it_X8_isSo_4 SM x1 u j)
def f_X8_isSo_k1 (SM : St) (x1 : Int32) (z19 : Int32) : Int32 :=
  z19
def f_X8_isSo (SM : St) (x1 : Int32) : Int32 :=
  f_X8_isSo_k1 SM x1 (it_X8_isSo_4 SM x1 (1 : Int32) ((SM.1 4).toNatClampNeg))
theorem bo_isSo (S : St) (x : Int32) (u : Int32) : ∀ j : Nat, u = 0 ∨ u = 1 → it_X8_isSo_4 S x u j = 0 ∨ it_X8_isSo_4 S x u j = 1
  | 0, h => h
  | j + 1, h => by
    show bd_X8_isSo_4 S x j (it_X8_isSo_4 S x u j) = 0 ∨ bd_X8_isSo_4 S x j (it_X8_isSo_4 S x u j) = 1
    unfold bd_X8_isSo_4 bd_X8_isSo_4_k1
    repeat' split
    all_goals first | exact Or.inl rfl | exact Or.inr rfl
theorem inX8_isSo_8 : ∀ w ∈ wsX80, w ∈ wsX8_isSo := by decide +kernel
theorem hd_X8_isSo : yX8_isSo.cls = RX8 ∧ yX8_isSo.cls ≠ "java/lang/invoke/MethodHandle" ∧ yX8_isSo.cls ≠ "java/lang/invoke/VarHandle" ∧ (parseMethodDescriptor yX8_isSo.desc).map (fun d => d.parameters.length) = some 1 := by decide +kernel
set_option maxHeartbeats 4000000 in
set_option maxRecDepth 100000 in
theorem c_X8_isSo (l : Launch) (D : va_G) (cI cZ cQ : ClassId) (rM : Nat → Nat) (SM : St) (x1 : Int32) (okf : okF SM) (hr1 : ¬ (SM.2 1) ((1 : Int32)).toNatClampNeg = 0) : Ci l yX8_isSo wsX8_isSo { frames := 0, cells := 0, slots := 0, locals := 0 } D (tyL cI cZ cQ) [.ref (rM 0), .int x1] (fl [wX8 cI cZ cQ rM SM]) (f_X8_isSo SM x1) (fl [wX8 cI cZ cQ rM SM]) := by
  refine ci_of (cc := cX8_isSo) (nL := 5) (ty := .boolean) (lv0 := [(0, .ref (rM 0)), (1, .int x1)]) (by decide) rfl (Nat.le_of_ble_eq_true rfl) rfl ?_
  intro p e s m args below meth c A X hr
  refine ww_iconst (pc := 0) (v := 1) X dX8_isSo_0 (by decide) ?_
  refine ww_istore_n (pc := 1) (lv' := [(2, .int 1), (0, .ref (rM 0)), (1, .int x1)]) X dX8_isSo_1 rfl (by decide) rfl ?_
  refine ww_iconst (pc := 2) (v := 0) X dX8_isSo_2 (by decide) ?_
  refine ww_istore_n (pc := 3) (lv' := [(3, .int 0), (2, .int 1), (0, .ref (rM 0)), (1, .int x1)]) X dX8_isSo_3 rfl (by decide) rfl ?_
  have L4 : ∀ (k_4 j_4 : Nat), j_4 + k_4 = (SM.1 4).toNatClampNeg → WW p l e (headSpec wsX8_isSo { frames := 0, cells := 0, slots := 0, locals := 0 }).room s m args below meth c 5 D A 0 0 (RQi below args s D A (f_X8_isSo SM x1) (fl [wX8 cI cZ cQ rM SM])) (fl [wX8 cI cZ cQ rM SM]) [(0, .ref (rM 0)), (1, .int x1), (2, .int (it_X8_isSo_4 SM x1 (1 : Int32) ((SM.1 4).toNatClampNeg))), (3, .int (nI ((SM.1 4).toNatClampNeg)))] 82 [] → WW p l e (headSpec wsX8_isSo { frames := 0, cells := 0, slots := 0, locals := 0 }).room s m args below meth c 5 D A 0 0 (RQi below args s D A (f_X8_isSo SM x1) (fl [wX8 cI cZ cQ rM SM])) (fl [wX8 cI cZ cQ rM SM]) [(0, .ref (rM 0)), (1, .int x1), (2, .int (it_X8_isSo_4 SM x1 (1 : Int32) j_4)), (3, .int (nI j_4))] 4 [] := by
    intro k_4
    induction k_4 with
    | zero =>
      intro j_4 hj K
      have hjB : j_4 = (SM.1 4).toNatClampNeg := by omega
      subst hjB
      refine ww_iload_n (pc := 4) X dX8_isSo_4 3 rfl rfl ?_
      refine ww_aload_n (pc := 5) X dX8_isSo_5 0 rfl rfl ?_
      refine ww_get (pc := 6) (ci := 8) (v := .int (SM.1 4)) (C := RX8) (T := TX8) (N := 27) X inX8_isSo_8 0 rfl rfl 19 (by decide) (by decide +kernel) rfl dX8_isSo_6 ?_
      exact ww_icmp_ge (pc := 9) (tgt := 82) X dX8_isSo_9 (by decide) (fun _ => K) (fun c9 => absurd (lp_ge0c (Nat.le_refl _) (cl_lt _)) c9)
    | succ k_4 ih =>
      intro j_4 hj K
      have hjB : j_4 < (SM.1 4).toNatClampNeg := by omega
      have h6 := okf.1
      refine ww_iload_n (pc := 4) X dX8_isSo_4 3 rfl rfl ?_
      refine ww_aload_n (pc := 5) X dX8_isSo_5 0 rfl rfl ?_
      refine ww_get (pc := 6) (ci := 8) (v := .int (SM.1 4)) (C := RX8) (T := TX8) (N := 27) X inX8_isSo_8 0 rfl rfl 19 (by decide) (by decide +kernel) rfl dX8_isSo_6 ?_
      refine ww_icmp_ge (pc := 9) (tgt := 82) X dX8_isSo_9 (by decide) (fun c9 => absurd c9 (lp_ge1c hjB)) (fun _ => ?_)
      refine ww_aload_n (pc := 12) X dX8_isSo_12 0 rfl rfl ?_
      refine ww_get (pc := 13) (ci := 8) (v := .ref (rM 15)) (C := RX8) (T := TX8) (N := 27) X inX8_isSo_8 0 rfl rfl 18 (by decide) (by decide +kernel) rfl dX8_isSo_13 ?_
      refine ww_iconst (pc := 16) (v := 3) X dX8_isSo_16 (by decide) ?_
      refine ww_iload_n (pc := 17) X dX8_isSo_17 3 rfl rfl ?_
      refine ww_imul (pc := 18) X dX8_isSo_18 ?_
      refine ww_iald (pc := 19) (f := SM.2 14) X 15 0 rfl rfl (vn (m := 3 * j_4) (nat_imul (a := 3) (b := j_4) rfl rfl) (by omega) (by decide)) dX8_isSo_19 ?_
      refine ww_if_ne (pc := 20) (tgt := 41) X dX8_isSo_20 (by decide) (fun c7 => ?_) (fun c7 => ?_)
      · refine ww_iload_n (pc := 41) X dX8_isSo_41 1 rfl rfl ?_
        refine ww_aload_n (pc := 42) X dX8_isSo_42 0 rfl rfl ?_
        refine ww_get (pc := 43) (ci := 8) (v := .ref (rM 2)) (C := RX8) (T := TX8) (N := 27) X inX8_isSo_8 0 rfl rfl 3 (by decide) (by decide +kernel) rfl dX8_isSo_43 ?_
        refine ww_iconst (pc := 46) (v := 1) X dX8_isSo_46 (by decide) ?_
        refine ww_iald (pc := 47) (f := SM.2 1) X 2 0 rfl rfl (vl_in (by decide)) dX8_isSo_47 ?_
        refine ww_idiv (pc := 48) X dX8_isSo_48 hr1 ?_
        refine ww_istore (pc := 49) (lv' := [(4, .int (x1 / ((SM.2 1) ((1 : Int32)).toNatClampNeg))), (0, .ref (rM 0)), (1, .int x1), (2, .int (it_X8_isSo_4 SM x1 (1 : Int32) j_4)), (3, .int (nI j_4))]) X dX8_isSo_49 (by decide) rfl ?_
        refine ww_iload_n (pc := 51) X dX8_isSo_51 3 rfl rfl ?_
        refine ww_if_eq (pc := 52) (tgt := 74) X dX8_isSo_52 (by decide) (fun c8 => ?_) (fun c8 => ?_)
        · refine ww_iconst (pc := 74) (v := 0) X dX8_isSo_74 (by decide) ?_
          refine ww_istore_n (pc := 75) (lv' := [(2, .int 0), (4, .int (x1 / ((SM.2 1) ((1 : Int32)).toNatClampNeg))), (0, .ref (rM 0)), (1, .int x1), (3, .int (nI j_4))]) X dX8_isSo_75 rfl (by decide) rfl ?_
          refine ww_iinc (pc := 76) (v := (nI j_4) + 1) (lv' := [(3, .int ((nI j_4) + 1)), (2, .int 0), (4, .int (x1 / ((SM.2 1) ((1 : Int32)).toNatClampNeg))), (0, .ref (rM 0)), (1, .int x1)]) X dX8_isSo_76 4 rfl rfl (by decide) rfl ?_
          refine ww_goto (pc := 79) (tgt := 4) X dX8_isSo_79 (by decide) ?_
          have h9 : (it_X8_isSo_4 SM x1 (1 : Int32) (j_4 + 1)) = 0 := by
            show bd_X8_isSo_4 SM x1 j_4 (it_X8_isSo_4 SM x1 (1 : Int32) j_4) = _; unfold bd_X8_isSo_4; try rw [if_neg c7, if_pos c8]; first | done | rfl
          refine ww_lsub [3, 4, 1, 0] rfl ?_
          exact ww_castI (fun u9 : Int32 => fl [wX8 cI cZ cQ rM SM]) (fun (u9 : Int32) (i9 : Int32) => ([(0, .ref (rM 0)), (1, .int x1), (2, .int u9), (3, .int i9)] : List (Nat × Value))) h9 (ih (j_4 + 1) (by omega) K)
        · refine ww_iload (pc := 55) X dX8_isSo_55 0 rfl ?_
          refine ww_aload_n (pc := 57) X dX8_isSo_57 1 rfl rfl ?_
          refine ww_get (pc := 58) (ci := 8) (v := .ref (rM 15)) (C := RX8) (T := TX8) (N := 27) X inX8_isSo_8 0 rfl rfl 18 (by decide) (by decide +kernel) rfl dX8_isSo_58 ?_
          refine ww_iconst (pc := 61) (v := 3) X dX8_isSo_61 (by decide) ?_
          refine ww_iload_n (pc := 62) X dX8_isSo_62 4 rfl rfl ?_
          refine ww_imul (pc := 63) X dX8_isSo_63 ?_
          refine ww_iconst (pc := 64) (v := 2) X dX8_isSo_64 (by decide) ?_
          refine ww_iadd (pc := 65) X dX8_isSo_65 ?_
          refine ww_iald (pc := 66) (f := SM.2 14) X 15 0 rfl rfl (vn (m := (3 * j_4) + 2) (nat_iadd (a := 3 * j_4) (b := 2) (nat_imul (a := 3) (b := j_4) rfl rfl) rfl) (by omega) (by decide)) dX8_isSo_66 ?_
          refine ww_icmp_ne (pc := 67) (tgt := 74) X dX8_isSo_67 (by decide) (fun c10 => ?_) (fun c10 => ?_)
          · refine ww_iconst (pc := 74) (v := 0) X dX8_isSo_74 (by decide) ?_
            refine ww_istore_n (pc := 75) (lv' := [(2, .int 0), (4, .int (x1 / ((SM.2 1) ((1 : Int32)).toNatClampNeg))), (0, .ref (rM 0)), (1, .int x1), (3, .int (nI j_4))]) X dX8_isSo_75 rfl (by decide) rfl ?_
            refine ww_iinc (pc := 76) (v := (nI j_4) + 1) (lv' := [(3, .int ((nI j_4) + 1)), (2, .int 0), (4, .int (x1 / ((SM.2 1) ((1 : Int32)).toNatClampNeg))), (0, .ref (rM 0)), (1, .int x1)]) X dX8_isSo_76 4 rfl rfl (by decide) rfl ?_
            refine ww_goto (pc := 79) (tgt := 4) X dX8_isSo_79 (by decide) ?_
            have h11 : (it_X8_isSo_4 SM x1 (1 : Int32) (j_4 + 1)) = 0 := by
              show bd_X8_isSo_4 SM x1 j_4 (it_X8_isSo_4 SM x1 (1 : Int32) j_4) = _; unfold bd_X8_isSo_4; try rw [if_neg c7, if_neg c8, if_neg c10]; first | done | rfl
            refine ww_lsub [3, 4, 1, 0] rfl ?_
            exact ww_castI (fun u9 : Int32 => fl [wX8 cI cZ cQ rM SM]) (fun (u9 : Int32) (i9 : Int32) => ([(0, .ref (rM 0)), (1, .int x1), (2, .int u9), (3, .int i9)] : List (Nat × Value))) h11 (ih (j_4 + 1) (by omega) K)
          · refine ww_iconst (pc := 70) (v := 1) X dX8_isSo_70 (by decide) ?_
            refine ww_goto (pc := 71) (tgt := 75) X dX8_isSo_71 (by decide) ?_
            refine ww_istore_n (pc := 75) (lv' := [(2, .int 1), (4, .int (x1 / ((SM.2 1) ((1 : Int32)).toNatClampNeg))), (0, .ref (rM 0)), (1, .int x1), (3, .int (nI j_4))]) X dX8_isSo_75 rfl (by decide) rfl ?_
            refine ww_iinc (pc := 76) (v := (nI j_4) + 1) (lv' := [(3, .int ((nI j_4) + 1)), (2, .int 1), (4, .int (x1 / ((SM.2 1) ((1 : Int32)).toNatClampNeg))), (0, .ref (rM 0)), (1, .int x1)]) X dX8_isSo_76 4 rfl rfl (by decide) rfl ?_
            refine ww_goto (pc := 79) (tgt := 4) X dX8_isSo_79 (by decide) ?_
            have h12 : (it_X8_isSo_4 SM x1 (1 : Int32) (j_4 + 1)) = 1 := by
              show bd_X8_isSo_4 SM x1 j_4 (it_X8_isSo_4 SM x1 (1 : Int32) j_4) = _; unfold bd_X8_isSo_4; try rw [if_neg c7, if_neg c8, if_pos c10]; first | done | rfl
            refine ww_lsub [3, 4, 1, 0] rfl ?_
            exact ww_castI (fun u9 : Int32 => fl [wX8 cI cZ cQ rM SM]) (fun (u9 : Int32) (i9 : Int32) => ([(0, .ref (rM 0)), (1, .int x1), (2, .int u9), (3, .int i9)] : List (Nat × Value))) h12 (ih (j_4 + 1) (by omega) K)
      · refine ww_aload_n (pc := 23) X dX8_isSo_23 0 rfl rfl ?_
        refine ww_get (pc := 24) (ci := 8) (v := .ref (rM 17)) (C := RX8) (T := TX8) (N := 27) X inX8_isSo_8 0 rfl rfl 24 (by decide) (by decide +kernel) rfl dX8_isSo_24 ?_
        refine ww_aload_n (pc := 27) X dX8_isSo_27 0 rfl rfl ?_
        refine ww_get (pc := 28) (ci := 8) (v := .ref (rM 15)) (C := RX8) (T := TX8) (N := 27) X inX8_isSo_8 0 rfl rfl 18 (by decide) (by decide +kernel) rfl dX8_isSo_28 ?_
        refine ww_iconst (pc := 31) (v := 3) X dX8_isSo_31 (by decide) ?_
        refine ww_iload_n (pc := 32) X dX8_isSo_32 3 rfl rfl ?_
        refine ww_imul (pc := 33) X dX8_isSo_33 ?_
        refine ww_iconst (pc := 34) (v := 1) X dX8_isSo_34 (by decide) ?_
        refine ww_iadd (pc := 35) X dX8_isSo_35 ?_
        refine ww_iald (pc := 36) (f := SM.2 14) X 15 0 rfl rfl (vn (m := (3 * j_4) + 1) (nat_iadd (a := 3 * j_4) (b := 1) (nat_imul (a := 3) (b := j_4) rfl rfl) rfl) (by omega) (by decide)) dX8_isSo_36 ?_
        refine ww_iald (pc := 37) (f := SM.2 16) X 17 0 rfl rfl (okf.2 _ (by omega) c7) dX8_isSo_37 ?_
        refine ww_goto (pc := 38) (tgt := 49) X dX8_isSo_38 (by decide) ?_
        generalize hz13 : ((SM.2 16) (((SM.2 14) (((3 * (nI j_4)) + 1 : Int32)).toNatClampNeg : Int32)).toNatClampNeg) = z13
        refine ww_istore (pc := 49) (lv' := [(4, .int z13), (0, .ref (rM 0)), (1, .int x1), (2, .int (it_X8_isSo_4 SM x1 (1 : Int32) j_4)), (3, .int (nI j_4))]) X dX8_isSo_49 (by decide) rfl ?_
        refine ww_iload_n (pc := 51) X dX8_isSo_51 3 rfl rfl ?_
        refine ww_if_eq (pc := 52) (tgt := 74) X dX8_isSo_52 (by decide) (fun c14 => ?_) (fun c14 => ?_)
        · refine ww_iconst (pc := 74) (v := 0) X dX8_isSo_74 (by decide) ?_
          refine ww_istore_n (pc := 75) (lv' := [(2, .int 0), (4, .int z13), (0, .ref (rM 0)), (1, .int x1), (3, .int (nI j_4))]) X dX8_isSo_75 rfl (by decide) rfl ?_
          refine ww_iinc (pc := 76) (v := (nI j_4) + 1) (lv' := [(3, .int ((nI j_4) + 1)), (2, .int 0), (4, .int z13), (0, .ref (rM 0)), (1, .int x1)]) X dX8_isSo_76 4 rfl rfl (by decide) rfl ?_
          refine ww_goto (pc := 79) (tgt := 4) X dX8_isSo_79 (by decide) ?_
          have h15 : (it_X8_isSo_4 SM x1 (1 : Int32) (j_4 + 1)) = 0 := by
            show bd_X8_isSo_4 SM x1 j_4 (it_X8_isSo_4 SM x1 (1 : Int32) j_4) = _; unfold bd_X8_isSo_4; try rw [if_pos c7, hz13]; try unfold bd_X8_isSo_4_k1; try rw [if_pos c14]; first | done | rfl
          refine ww_lsub [3, 4, 1, 0] rfl ?_
          exact ww_castI (fun u9 : Int32 => fl [wX8 cI cZ cQ rM SM]) (fun (u9 : Int32) (i9 : Int32) => ([(0, .ref (rM 0)), (1, .int x1), (2, .int u9), (3, .int i9)] : List (Nat × Value))) h15 (ih (j_4 + 1) (by omega) K)
        · refine ww_iload (pc := 55) X dX8_isSo_55 0 rfl ?_
          refine ww_aload_n (pc := 57) X dX8_isSo_57 1 rfl rfl ?_
          refine ww_get (pc := 58) (ci := 8) (v := .ref (rM 15)) (C := RX8) (T := TX8) (N := 27) X inX8_isSo_8 0 rfl rfl 18 (by decide) (by decide +kernel) rfl dX8_isSo_58 ?_
          refine ww_iconst (pc := 61) (v := 3) X dX8_isSo_61 (by decide) ?_
          refine ww_iload_n (pc := 62) X dX8_isSo_62 4 rfl rfl ?_
          refine ww_imul (pc := 63) X dX8_isSo_63 ?_
          refine ww_iconst (pc := 64) (v := 2) X dX8_isSo_64 (by decide) ?_
          refine ww_iadd (pc := 65) X dX8_isSo_65 ?_
          refine ww_iald (pc := 66) (f := SM.2 14) X 15 0 rfl rfl (vn (m := (3 * j_4) + 2) (nat_iadd (a := 3 * j_4) (b := 2) (nat_imul (a := 3) (b := j_4) rfl rfl) rfl) (by omega) (by decide)) dX8_isSo_66 ?_
          refine ww_icmp_ne (pc := 67) (tgt := 74) X dX8_isSo_67 (by decide) (fun c16 => ?_) (fun c16 => ?_)
          · refine ww_iconst (pc := 74) (v := 0) X dX8_isSo_74 (by decide) ?_
            refine ww_istore_n (pc := 75) (lv' := [(2, .int 0), (4, .int z13), (0, .ref (rM 0)), (1, .int x1), (3, .int (nI j_4))]) X dX8_isSo_75 rfl (by decide) rfl ?_
            refine ww_iinc (pc := 76) (v := (nI j_4) + 1) (lv' := [(3, .int ((nI j_4) + 1)), (2, .int 0), (4, .int z13), (0, .ref (rM 0)), (1, .int x1)]) X dX8_isSo_76 4 rfl rfl (by decide) rfl ?_
            refine ww_goto (pc := 79) (tgt := 4) X dX8_isSo_79 (by decide) ?_
            have h17 : (it_X8_isSo_4 SM x1 (1 : Int32) (j_4 + 1)) = 0 := by
              show bd_X8_isSo_4 SM x1 j_4 (it_X8_isSo_4 SM x1 (1 : Int32) j_4) = _; unfold bd_X8_isSo_4; try rw [if_pos c7, hz13]; try unfold bd_X8_isSo_4_k1; try rw [if_neg c14, if_neg c16]; first | done | rfl
            refine ww_lsub [3, 4, 1, 0] rfl ?_
            exact ww_castI (fun u9 : Int32 => fl [wX8 cI cZ cQ rM SM]) (fun (u9 : Int32) (i9 : Int32) => ([(0, .ref (rM 0)), (1, .int x1), (2, .int u9), (3, .int i9)] : List (Nat × Value))) h17 (ih (j_4 + 1) (by omega) K)
          · refine ww_iconst (pc := 70) (v := 1) X dX8_isSo_70 (by decide) ?_
            refine ww_goto (pc := 71) (tgt := 75) X dX8_isSo_71 (by decide) ?_
            refine ww_istore_n (pc := 75) (lv' := [(2, .int 1), (4, .int z13), (0, .ref (rM 0)), (1, .int x1), (3, .int (nI j_4))]) X dX8_isSo_75 rfl (by decide) rfl ?_
            refine ww_iinc (pc := 76) (v := (nI j_4) + 1) (lv' := [(3, .int ((nI j_4) + 1)), (2, .int 1), (4, .int z13), (0, .ref (rM 0)), (1, .int x1)]) X dX8_isSo_76 4 rfl rfl (by decide) rfl ?_
            refine ww_goto (pc := 79) (tgt := 4) X dX8_isSo_79 (by decide) ?_
            have h18 : (it_X8_isSo_4 SM x1 (1 : Int32) (j_4 + 1)) = 1 := by
              show bd_X8_isSo_4 SM x1 j_4 (it_X8_isSo_4 SM x1 (1 : Int32) j_4) = _; unfold bd_X8_isSo_4; try rw [if_pos c7, hz13]; try unfold bd_X8_isSo_4_k1; try rw [if_neg c14, if_pos c16]; first | done | rfl
            refine ww_lsub [3, 4, 1, 0] rfl ?_
            exact ww_castI (fun u9 : Int32 => fl [wX8 cI cZ cQ rM SM]) (fun (u9 : Int32) (i9 : Int32) => ([(0, .ref (rM 0)), (1, .int x1), (2, .int u9), (3, .int i9)] : List (Nat × Value))) h18 (ih (j_4 + 1) (by omega) K)
  refine ww_lsub [2, 3, 1, 0] rfl ?_
  refine L4 ((SM.1 4).toNatClampNeg) 0 (by omega) ?_
  generalize hz19 : ((it_X8_isSo_4 SM x1 (1 : Int32) ((SM.1 4).toNatClampNeg))) = z19
  refine ww_iload_n (pc := 82) X dX8_isSo_82 2 rfl rfl ?_
  exact ww_iret X hr (nb (by subst_vars; exact bo_isSo _ _ _ _ (Or.inr rfl))) (Eq.symm (by unfold f_X8_isSo; try rw [hz19]; try unfold f_X8_isSo_k1; first | done | rfl)) rfl dX8_isSo_83
def l0_X8_judge_2 (SM : St) (j : Nat) (u : Unit) : Int32 :=
  (-1)
def lb_X8_judge_2 (SM : St) (rec : Nat → (Unit) → Int32) (j : Nat) (u : Unit) : Int32 :=
  if ((SM.2 9) ((1 + ((SM.2 15) ((2 * (nI j) : Int32)).toNatClampNeg) : Int32)).toNatClampNeg) = ((SM.2 15) (((2 * (nI j)) + 1 : Int32)).toNatClampNeg) then
    rec (j + 1) ()
  else
    (nI j)
def lp_X8_judge_2 (SM : St) : Nat → Nat → (Unit) → Int32
  | 0, j, u => l0_X8_judge_2 SM j u
  | k + 1, j, u => lb_X8_judge_2 SM (lp_X8_judge_2 SM k) j u
def f_X8_judge (SM : St) : Int32 :=
  lp_X8_judge_2 SM ((SM.1 5).toNatClampNeg) 0 ()
theorem inX8_judge_8 : ∀ w ∈ wsX80, w ∈ wsX8_judge := by decide +kernel
theorem hd_X8_judge : yX8_judge.cls = RX8 ∧ yX8_judge.cls ≠ "java/lang/invoke/MethodHandle" ∧ yX8_judge.cls ≠ "java/lang/invoke/VarHandle" ∧ (parseMethodDescriptor yX8_judge.desc).map (fun d => d.parameters.length) = some 0 := by decide +kernel
set_option maxHeartbeats 4000000 in
set_option maxRecDepth 100000 in
theorem c_X8_judge (l : Launch) (D : va_G) (cI cZ cQ : ClassId) (rM : Nat → Nat) (SM : St) (okb : okB SM) : Ci l yX8_judge wsX8_judge { frames := 0, cells := 0, slots := 0, locals := 0 } D (tyL cI cZ cQ) [.ref (rM 0)] (fl [wX8 cI cZ cQ rM SM]) (f_X8_judge SM) (fl [wX8 cI cZ cQ rM SM]) := by
  refine ci_of (cc := cX8_judge) (nL := 2) (ty := .int) (lv0 := [(0, .ref (rM 0))]) (by decide) rfl (Nat.le_of_ble_eq_true rfl) rfl ?_
  intro p e s m args below meth c A X hr
  refine ww_iconst (pc := 0) (v := 0) X dX8_judge_0 (by decide) ?_
  refine ww_istore_n (pc := 1) (lv' := [(1, .int 0), (0, .ref (rM 0))]) X dX8_judge_1 rfl (by decide) rfl ?_
  have L2 : ∀ (k_2 j_2 : Nat) (u_2 : Unit), j_2 + k_2 = (SM.1 5).toNatClampNeg → True → f_X8_judge SM = lp_X8_judge_2 SM k_2 j_2 u_2 → WW p l e (headSpec wsX8_judge { frames := 0, cells := 0, slots := 0, locals := 0 }).room s m args below meth c 2 D A 0 0 (RQi below args s D A (f_X8_judge SM) (fl [wX8 cI cZ cQ rM SM])) (fl [wX8 cI cZ cQ rM SM]) [(0, .ref (rM 0)), (1, .int (nI j_2))] 2 [] := by
    intro k_2
    induction k_2 with
    | zero =>
      intro j_2 u_2 hj hi hf
      have hjB : j_2 = (SM.1 5).toNatClampNeg := by omega
      subst hjB
      refine ww_iload_n (pc := 2) X dX8_judge_2 1 rfl rfl ?_
      refine ww_aload_n (pc := 3) X dX8_judge_3 0 rfl rfl ?_
      refine ww_get (pc := 4) (ci := 8) (v := .int (SM.1 5)) (C := RX8) (T := TX8) (N := 27) X inX8_judge_8 0 rfl rfl 21 (by decide) (by decide +kernel) rfl dX8_judge_4 ?_
      refine ww_icmp_ge (pc := 7) (tgt := 46) X dX8_judge_7 (by decide) (fun _ => ?_) (fun c9 => absurd (lp_ge0c (Nat.le_refl _) (cl_lt _)) c9)
      refine ww_iconst (pc := 46) (v := (-1)) X dX8_judge_46 (by decide) ?_
      exact ww_iret X hr rfl (Eq.symm (by rw [hf]; show l0_X8_judge_2 SM ((SM.1 5).toNatClampNeg) u_2 = _; unfold l0_X8_judge_2; first | done | rfl)) rfl dX8_judge_47
    | succ k_2 ih =>
      intro j_2 u_2 hj hi hf
      have hjB : j_2 < (SM.1 5).toNatClampNeg := by omega
      have h15 := okb.1
      refine ww_iload_n (pc := 2) X dX8_judge_2 1 rfl rfl ?_
      refine ww_aload_n (pc := 3) X dX8_judge_3 0 rfl rfl ?_
      refine ww_get (pc := 4) (ci := 8) (v := .int (SM.1 5)) (C := RX8) (T := TX8) (N := 27) X inX8_judge_8 0 rfl rfl 21 (by decide) (by decide +kernel) rfl dX8_judge_4 ?_
      refine ww_icmp_ge (pc := 7) (tgt := 46) X dX8_judge_7 (by decide) (fun c9 => absurd c9 (lp_ge1c hjB)) (fun _ => ?_)
      refine ww_aload_n (pc := 10) X dX8_judge_10 0 rfl rfl ?_
      refine ww_get (pc := 11) (ci := 8) (v := .ref (rM 10)) (C := RX8) (T := TX8) (N := 27) X inX8_judge_8 0 rfl rfl 11 (by decide) (by decide +kernel) rfl dX8_judge_11 ?_
      refine ww_iconst (pc := 14) (v := 1) X dX8_judge_14 (by decide) ?_
      refine ww_aload_n (pc := 15) X dX8_judge_15 0 rfl rfl ?_
      refine ww_get (pc := 16) (ci := 8) (v := .ref (rM 16)) (C := RX8) (T := TX8) (N := 27) X inX8_judge_8 0 rfl rfl 20 (by decide) (by decide +kernel) rfl dX8_judge_16 ?_
      refine ww_iconst (pc := 19) (v := 2) X dX8_judge_19 (by decide) ?_
      refine ww_iload_n (pc := 20) X dX8_judge_20 1 rfl rfl ?_
      refine ww_imul (pc := 21) X dX8_judge_21 ?_
      refine ww_iald (pc := 22) (f := SM.2 15) X 16 0 rfl rfl (vn (m := 2 * j_2) (nat_imul (a := 2) (b := j_2) rfl rfl) (by omega) (by decide)) dX8_judge_22 ?_
      refine ww_iadd (pc := 23) X dX8_judge_23 ?_
      refine ww_iald (pc := 24) (f := SM.2 9) X 10 0 rfl rfl (vp_off (n := 7) (okb.2 _ (by omega)) rfl (by decide) (by decide)) dX8_judge_24 ?_
      refine ww_aload_n (pc := 25) X dX8_judge_25 0 rfl rfl ?_
      refine ww_get (pc := 26) (ci := 8) (v := .ref (rM 16)) (C := RX8) (T := TX8) (N := 27) X inX8_judge_8 0 rfl rfl 20 (by decide) (by decide +kernel) rfl dX8_judge_26 ?_
      refine ww_iconst (pc := 29) (v := 2) X dX8_judge_29 (by decide) ?_
      refine ww_iload_n (pc := 30) X dX8_judge_30 1 rfl rfl ?_
      refine ww_imul (pc := 31) X dX8_judge_31 ?_
      refine ww_iconst (pc := 32) (v := 1) X dX8_judge_32 (by decide) ?_
      refine ww_iadd (pc := 33) X dX8_judge_33 ?_
      refine ww_iald (pc := 34) (f := SM.2 15) X 16 0 rfl rfl (vn (m := (2 * j_2) + 1) (nat_iadd (a := 2 * j_2) (b := 1) (nat_imul (a := 2) (b := j_2) rfl rfl) rfl) (by omega) (by decide)) dX8_judge_34 ?_
      refine ww_icmp_eq (pc := 35) (tgt := 40) X dX8_judge_35 (by decide) (fun c2 => ?_) (fun c2 => ?_)
      · refine ww_iinc (pc := 40) (v := (nI j_2) + 1) (lv' := [(1, .int ((nI j_2) + 1)), (0, .ref (rM 0))]) X dX8_judge_40 1 rfl rfl (by decide) rfl ?_
        refine ww_goto (pc := 43) (tgt := 2) X dX8_judge_43 (by decide) ?_
        refine ww_lsub [1, 0] rfl ?_
        have h3 : f_X8_judge SM = lp_X8_judge_2 SM k_2 (j_2 + 1) () := by rw [hf]; show lb_X8_judge_2 SM (lp_X8_judge_2 SM k_2) j_2 u_2 = _; unfold lb_X8_judge_2; try rw [if_pos c2]; first | done | rfl
        exact ww_cast rfl (congrArg (fun (i9 : Int32) => ([(0, .ref (rM 0)), (1, .int i9)] : List (Nat × Value))) (nI_1 j_2).symm) (ih (j_2 + 1) () (by omega) trivial h3)
      · refine ww_iload_n (pc := 38) X dX8_judge_38 1 rfl rfl ?_
        exact ww_iret X hr rfl (Eq.symm (by rw [hf]; show lb_X8_judge_2 SM (lp_X8_judge_2 SM k_2) j_2 u_2 = _; unfold lb_X8_judge_2; try rw [if_neg c2]; first | done | rfl)) rfl dX8_judge_39
  refine ww_lsub [1, 0] rfl ?_
  exact L2 ((SM.1 5).toNatClampNeg) 0 () (by omega) trivial (by unfold f_X8_judge; first | done | rfl)
def f_X8_isStay (SM : St) (x1 : Int32) : Int32 :=
  if x1 = 0 then
    1
  else
    if (x1 - x1 / 10 * 10) ≤ 0 then
      0
    else
      if (f_X8_in (x1 / 10) 1 ((SM.2 1) ((2 : Int32)).toNatClampNeg)) = 0 then
        0
      else
        1
theorem st_sp {S : St} {x : Int32} (ok : okM S) (h : ¬ f_X8_isStay S x = 0) : x = 0 ∨ vp_in ((x / 10) - 1) 4 := by
  unfold f_X8_isStay at h
  by_cases h0 : x = 0
  · exact Or.inl h0
  · right
    rw [if_neg h0] at h
    split at h
    · exact absurd rfl h
    · split at h
      · exact absurd rfl h
      · rename_i h1 h2
        unfold f_X8_in at h2
        split at h2
        · exact absurd rfl h2
        · split at h2
          · exact absurd rfl h2
          · rename_i h3 h4
            have h5 : ¬ x / 10 < 0 := fun q => h3 (Int32.lt_trans q (by decide))
            obtain ⟨j, hj, e⟩ := nI_of h5
            obtain ⟨k, hk, e2⟩ := nI_of ok.1.1
            have h6 : k ≤ 4 := (nI_leI hk (by decide)).mp (by rw [← e2]; exact ok.1.2)
            rw [e] at h3 h4 ⊢
            rw [e2] at h4
            have h7 : j ≤ k := by
              rcases Nat.lt_or_ge k j with q | q
              · exact absurd (nI_lt q hj) h4
              · exact q
            have h8 : j ≠ 0 := fun q => h3 (by rw [q]; decide)
            obtain ⟨i, rfl⟩ : ∃ i, j = i + 1 := ⟨j - 1, by omega⟩
            rw [nI_pred]
            exact vp_in_nI (by omega) (by decide)
theorem inX8_isStay_8 : ∀ w ∈ wsX80, w ∈ wsX8_isStay := by decide +kernel
theorem hd_X8_isStay : yX8_isStay.cls = RX8 ∧ yX8_isStay.cls ≠ "java/lang/invoke/MethodHandle" ∧ yX8_isStay.cls ≠ "java/lang/invoke/VarHandle" ∧ (parseMethodDescriptor yX8_isStay.desc).map (fun d => d.parameters.length) = some 1 := by decide +kernel
set_option maxHeartbeats 4000000 in
set_option maxRecDepth 100000 in
theorem c_X8_isStay (l : Launch) (D : va_G) (cI cZ cQ : ClassId) (rM : Nat → Nat) (SM : St) (x1 : Int32) : Ci l yX8_isStay wsX8_isStay { frames := 1, cells := 0, slots := 0, locals := 22 } D (tyL cI cZ cQ) [.ref (rM 0), .int x1] (fl [wX8 cI cZ cQ rM SM]) (f_X8_isStay SM x1) (fl [wX8 cI cZ cQ rM SM]) := by
  refine ci_of (cc := cX8_isStay) (nL := 2) (ty := .boolean) (lv0 := [(0, .ref (rM 0)), (1, .int x1)]) (by decide) rfl (Nat.le_of_ble_eq_true rfl) rfl ?_
  intro p e s m args below meth c A X hr
  refine ww_iload_n (pc := 0) X dX8_isStay_0 1 rfl rfl ?_
  refine ww_if_eq (pc := 1) (tgt := 28) X dX8_isStay_1 (by decide) (fun c1 => ?_) (fun c1 => ?_)
  · refine ww_iconst (pc := 28) (v := 1) X dX8_isStay_28 (by decide) ?_
    refine ww_goto (pc := 29) (tgt := 33) X dX8_isStay_29 (by decide) ?_
    exact ww_iret X hr rfl (Eq.symm (by unfold f_X8_isStay; try rw [if_pos c1]; first | done | rfl)) rfl dX8_isStay_33
  · refine ww_iload_n (pc := 4) X dX8_isStay_4 1 rfl rfl ?_
    refine ww_bipush (pc := 5) (v := 10) X dX8_isStay_5 (by decide) ?_
    refine ww_irem (pc := 7) X dX8_isStay_7 (by decide) ?_
    refine ww_if_le (pc := 8) (tgt := 32) X dX8_isStay_8 (by decide) (fun c2 => ?_) (fun c2 => ?_)
    · refine ww_iconst (pc := 32) (v := 0) X dX8_isStay_32 (by decide) ?_
      exact ww_iret X hr rfl (Eq.symm (by unfold f_X8_isStay; try rw [if_neg c1, if_pos c2]; first | done | rfl)) rfl dX8_isStay_33
    · refine ww_iload_n (pc := 11) X dX8_isStay_11 1 rfl rfl ?_
      refine ww_bipush (pc := 12) (v := 10) X dX8_isStay_12 (by decide) ?_
      refine ww_idiv (pc := 14) X dX8_isStay_14 (by decide) ?_
      refine ww_iconst (pc := 15) (v := 1) X dX8_isStay_15 (by decide) ?_
      refine ww_aload_n (pc := 16) X dX8_isStay_16 0 rfl rfl ?_
      refine ww_get (pc := 17) (ci := 8) (v := .ref (rM 2)) (C := RX8) (T := TX8) (N := 27) X inX8_isStay_8 0 rfl rfl 3 (by decide) (by decide +kernel) rfl dX8_isStay_17 ?_
      refine ww_iconst (pc := 20) (v := 2) X dX8_isStay_20 (by decide) ?_
      refine ww_iald (pc := 21) (f := SM.2 1) X 2 0 rfl rfl (vl_in (by decide)) dX8_isStay_21 ?_
      refine ww_gSi (pc := 22) (rest := []) (gsN := [wX8 cI cZ cQ rM SM]) X (c_X8_in l D cI cZ cQ (x1 / 10) 1 ((SM.2 1) ((2 : Int32)).toNatClampNeg)) gX8_isStay_X8_in rfl hd_X8_in [false] rfl rfl rfl rfl ⟨rfl, rfl⟩ ⟨Nat.le_of_ble_eq_true rfl, Nat.le_of_ble_eq_true rfl⟩ (Nat.le_of_ble_eq_true rfl) ⟨Nat.zero_le _, Nat.zero_le _⟩ dX8_isStay_22 ?_
      refine ww_if_eq (pc := 25) (tgt := 32) X dX8_isStay_25 (by decide) (fun c3 => ?_) (fun c3 => ?_)
      · refine ww_iconst (pc := 32) (v := 0) X dX8_isStay_32 (by decide) ?_
        exact ww_iret X hr rfl (Eq.symm (by unfold f_X8_isStay; try rw [if_neg c1, if_neg c2, if_pos c3]; first | done | rfl)) rfl dX8_isStay_33
      · refine ww_iconst (pc := 28) (v := 1) X dX8_isStay_28 (by decide) ?_
        refine ww_goto (pc := 29) (tgt := 33) X dX8_isStay_29 (by decide) ?_
        exact ww_iret X hr rfl (Eq.symm (by unfold f_X8_isStay; try rw [if_neg c1, if_neg c2, if_neg c3]; first | done | rfl)) rfl dX8_isStay_33
def f_X8_spanOf (SM : St) (x1 : Int32) : Int32 :=
  if x1 = 0 then
    0
  else
    ((SM.2 2) (((x1 / 10) - 1 : Int32)).toNatClampNeg) * (x1 - x1 / 10 * 10)
theorem inX8_spanOf_8 : ∀ w ∈ wsX80, w ∈ wsX8_spanOf := by decide +kernel
theorem hd_X8_spanOf : yX8_spanOf.cls = RX8 ∧ yX8_spanOf.cls ≠ "java/lang/invoke/MethodHandle" ∧ yX8_spanOf.cls ≠ "java/lang/invoke/VarHandle" ∧ (parseMethodDescriptor yX8_spanOf.desc).map (fun d => d.parameters.length) = some 1 := by decide +kernel
set_option maxHeartbeats 4000000 in
set_option maxRecDepth 100000 in
theorem c_X8_spanOf (l : Launch) (D : va_G) (cI cZ cQ : ClassId) (rM : Nat → Nat) (SM : St) (x1 : Int32) (hst : x1 = 0 ∨ vp_in ((x1 / 10) - 1) 4) : Ci l yX8_spanOf wsX8_spanOf { frames := 0, cells := 0, slots := 0, locals := 0 } D (tyL cI cZ cQ) [.ref (rM 0), .int x1] (fl [wX8 cI cZ cQ rM SM]) (f_X8_spanOf SM x1) (fl [wX8 cI cZ cQ rM SM]) := by
  refine ci_of (cc := cX8_spanOf) (nL := 2) (ty := .int) (lv0 := [(0, .ref (rM 0)), (1, .int x1)]) (by decide) rfl (Nat.le_of_ble_eq_true rfl) rfl ?_
  intro p e s m args below meth c A X hr
  refine ww_iload_n (pc := 0) X dX8_spanOf_0 1 rfl rfl ?_
  refine ww_if_ne (pc := 1) (tgt := 8) X dX8_spanOf_1 (by decide) (fun c1 => ?_) (fun c1 => ?_)
  · refine ww_aload_n (pc := 8) X dX8_spanOf_8 0 rfl rfl ?_
    refine ww_get (pc := 9) (ci := 8) (v := .ref (rM 3)) (C := RX8) (T := TX8) (N := 27) X inX8_spanOf_8 0 rfl rfl 4 (by decide) (by decide +kernel) rfl dX8_spanOf_9 ?_
    refine ww_iload_n (pc := 12) X dX8_spanOf_12 1 rfl rfl ?_
    refine ww_bipush (pc := 13) (v := 10) X dX8_spanOf_13 (by decide) ?_
    refine ww_idiv (pc := 15) X dX8_spanOf_15 (by decide) ?_
    refine ww_iconst (pc := 16) (v := 1) X dX8_spanOf_16 (by decide) ?_
    refine ww_isub (pc := 17) X dX8_spanOf_17 ?_
    refine ww_iald (pc := 18) (f := SM.2 2) X 3 0 rfl rfl (hst.resolve_left c1) dX8_spanOf_18 ?_
    refine ww_iload_n (pc := 19) X dX8_spanOf_19 1 rfl rfl ?_
    refine ww_bipush (pc := 20) (v := 10) X dX8_spanOf_20 (by decide) ?_
    refine ww_irem (pc := 22) X dX8_spanOf_22 (by decide) ?_
    refine ww_imul (pc := 23) X dX8_spanOf_23 ?_
    exact ww_iret X hr rfl (Eq.symm (by unfold f_X8_spanOf; try rw [if_neg c1]; first | done | rfl)) rfl dX8_spanOf_24
  · refine ww_iconst (pc := 4) (v := 0) X dX8_spanOf_4 (by decide) ?_
    refine ww_goto (pc := 5) (tgt := 24) X dX8_spanOf_5 (by decide) ?_
    exact ww_iret X hr rfl (Eq.symm (by unfold f_X8_spanOf; try rw [if_pos c1]; first | done | rfl)) rfl dX8_spanOf_24
def f_X8_off (x0 : Int32) (x1 : Int32) : Int32 :=
  if x0 ≤ x1 then
    x1 - x0
  else
    x0 - x1
theorem hd_X8_off : yX8_off.cls = RX8 ∧ yX8_off.cls ≠ "java/lang/invoke/MethodHandle" ∧ yX8_off.cls ≠ "java/lang/invoke/VarHandle" ∧ (parseMethodDescriptor yX8_off.desc).map (fun d => d.parameters.length) = some 2 := by decide +kernel
set_option maxHeartbeats 4000000 in
set_option maxRecDepth 100000 in
theorem c_X8_off (l : Launch) (D : va_G) (cI cZ cQ : ClassId) (x0 : Int32) (x1 : Int32) : Ci l yX8_off wsX8_off { frames := 0, cells := 0, slots := 0, locals := 0 } D (tyL cI cZ cQ) [.int x0, .int x1] (fl []) (f_X8_off x0 x1) (fl []) := by
  refine ci_of (cc := cX8_off) (nL := 2) (ty := .int) (lv0 := [(0, .int x0), (1, .int x1)]) (by decide) rfl (Nat.le_of_ble_eq_true rfl) rfl ?_
  intro p e s m args below meth c A X hr
  refine ww_iload_n (pc := 0) X dX8_off_0 0 rfl rfl ?_
  refine ww_iload_n (pc := 1) X dX8_off_1 1 rfl rfl ?_
  refine ww_icmp_le (pc := 2) (tgt := 11) X dX8_off_2 (by decide) (fun c1 => ?_) (fun c1 => ?_)
  · refine ww_iload_n (pc := 11) X dX8_off_11 1 rfl rfl ?_
    refine ww_iload_n (pc := 12) X dX8_off_12 0 rfl rfl ?_
    refine ww_isub (pc := 13) X dX8_off_13 ?_
    exact ww_iret X hr rfl (Eq.symm (by unfold f_X8_off; try rw [if_pos c1]; first | done | rfl)) rfl dX8_off_14
  · refine ww_iload_n (pc := 5) X dX8_off_5 0 rfl rfl ?_
    refine ww_iload_n (pc := 6) X dX8_off_6 1 rfl rfl ?_
    refine ww_isub (pc := 7) X dX8_off_7 ?_
    refine ww_goto (pc := 8) (tgt := 14) X dX8_off_8 (by decide) ?_
    exact ww_iret X hr rfl (Eq.symm (by unfold f_X8_off; try rw [if_neg c1]; first | done | rfl)) rfl dX8_off_14
def bd_X8_worthIn_6 (SM : St) (x1 : Int32) (x2 : Int32) (x3 : Int32) (j : Nat) (u : Int32) : Int32 :=
  f_X8_later SM x1 u
def it_X8_worthIn_6 (SM : St) (x1 : Int32) (x2 : Int32) (x3 : Int32) (u : Int32) : Nat → Int32
  | 0 => u
  | j + 1 => bd_X8_worthIn_6 SM x1 x2 x3 j (it_X8_worthIn_6 SM x1 x2 x3 u j)
def f_X8_worthIn_k1 (SM : St) (x1 : Int32) (x2 : Int32) (x3 : Int32) (z3 : Int32) : Int32 :=
  z3
def f_X8_worthIn (SM : St) (x1 : Int32) (x2 : Int32) (x3 : Int32) : Int32 :=
  f_X8_worthIn_k1 SM x1 x2 x3 (it_X8_worthIn_6 SM x1 x2 x3 (x2 : Int32) x3.toNatClampNeg)
theorem hd_X8_worthIn : yX8_worthIn.cls = RX8 ∧ yX8_worthIn.cls ≠ "java/lang/invoke/MethodHandle" ∧ yX8_worthIn.cls ≠ "java/lang/invoke/VarHandle" ∧ (parseMethodDescriptor yX8_worthIn.desc).map (fun d => d.parameters.length) = some 3 := by decide +kernel
set_option maxHeartbeats 4000000 in
set_option maxRecDepth 100000 in
theorem c_X8_worthIn (l : Launch) (D : va_G) (cI cZ cQ : ClassId) (rM : Nat → Nat) (SM : St) (x1 : Int32) (x2 : Int32) (x3 : Int32) (hg : vp_in x1 6) : Ci l yX8_worthIn wsX8_worthIn { frames := 1, cells := 0, slots := 0, locals := 24 } D (tyL cI cZ cQ) [.ref (rM 0), .int x1, .int x2, .int x3] (fl [wX8 cI cZ cQ rM SM]) (f_X8_worthIn SM x1 x2 x3) (fl [wX8 cI cZ cQ rM SM]) := by
  refine ci_of (cc := cX8_worthIn) (nL := 6) (ty := .int) (lv0 := [(0, .ref (rM 0)), (1, .int x1), (2, .int x2), (3, .int x3)]) (by decide) rfl (Nat.le_of_ble_eq_true rfl) rfl ?_
  intro p e s m args below meth c A X hr
  refine ww_iload_n (pc := 0) X dX8_worthIn_0 2 rfl rfl ?_
  refine ww_istore (pc := 1) (lv' := [(4, .int x2), (0, .ref (rM 0)), (1, .int x1), (2, .int x2), (3, .int x3)]) X dX8_worthIn_1 (by decide) rfl ?_
  refine ww_iconst (pc := 3) (v := 0) X dX8_worthIn_3 (by decide) ?_
  refine ww_istore (pc := 4) (lv' := [(5, .int 0), (4, .int x2), (0, .ref (rM 0)), (1, .int x1), (2, .int x2), (3, .int x3)]) X dX8_worthIn_4 (by decide) rfl ?_
  have L6 : ∀ (k_6 j_6 : Nat), j_6 + k_6 = x3.toNatClampNeg → WW p l e (headSpec wsX8_worthIn { frames := 1, cells := 0, slots := 0, locals := 24 }).room s m args below meth c 6 D A 0 0 (RQi below args s D A (f_X8_worthIn SM x1 x2 x3) (fl [wX8 cI cZ cQ rM SM])) (fl [wX8 cI cZ cQ rM SM]) [(0, .ref (rM 0)), (1, .int x1), (2, .int x2), (3, .int x3), (4, .int (it_X8_worthIn_6 SM x1 x2 x3 (x2 : Int32) x3.toNatClampNeg)), (5, .int (nI x3.toNatClampNeg))] 27 [] → WW p l e (headSpec wsX8_worthIn { frames := 1, cells := 0, slots := 0, locals := 24 }).room s m args below meth c 6 D A 0 0 (RQi below args s D A (f_X8_worthIn SM x1 x2 x3) (fl [wX8 cI cZ cQ rM SM])) (fl [wX8 cI cZ cQ rM SM]) [(0, .ref (rM 0)), (1, .int x1), (2, .int x2), (3, .int x3), (4, .int (it_X8_worthIn_6 SM x1 x2 x3 (x2 : Int32) j_6)), (5, .int (nI j_6))] 6 [] := by
    intro k_6
    induction k_6 with
    | zero =>
      intro j_6 hj K
      have hjB : j_6 = x3.toNatClampNeg := by omega
      subst hjB
      refine ww_iload (pc := 6) X dX8_worthIn_6 5 rfl ?_
      refine ww_iload_n (pc := 8) X dX8_worthIn_8 3 rfl rfl ?_
      exact ww_icmp_ge (pc := 9) (tgt := 27) X dX8_worthIn_9 (by decide) (fun _ => K) (fun c9 => absurd (lp_ge0c (Nat.le_refl _) (cl_lt _)) c9)
    | succ k_6 ih =>
      intro j_6 hj K
      have hjB : j_6 < x3.toNatClampNeg := by omega
      refine ww_iload (pc := 6) X dX8_worthIn_6 5 rfl ?_
      refine ww_iload_n (pc := 8) X dX8_worthIn_8 3 rfl rfl ?_
      refine ww_icmp_ge (pc := 9) (tgt := 27) X dX8_worthIn_9 (by decide) (fun c9 => absurd c9 (lp_ge1c hjB)) (fun _ => ?_)
      refine ww_aload_n (pc := 12) X dX8_worthIn_12 0 rfl rfl ?_
      refine ww_iload_n (pc := 13) X dX8_worthIn_13 1 rfl rfl ?_
      refine ww_iload (pc := 14) X dX8_worthIn_14 4 rfl ?_
      refine ww_gVi (pc := 16) (rest := []) (gsN := [wX8 cI cZ cQ rM SM]) (ci := 8) (gi := 0) (qi := 0) X (c_X8_later l D cI cZ cQ rM SM x1 (it_X8_worthIn_6 SM x1 x2 x3 (x2 : Int32) j_6) hg) gX8_worthIn_X8_later rfl hd_X8_later [true] rfl rfl rfl rfl rfl rfl rfl rfl ⟨rfl, rfl⟩ ⟨Nat.le_of_ble_eq_true rfl, Nat.le_of_ble_eq_true rfl⟩ (Nat.le_of_ble_eq_true rfl) ⟨Nat.zero_le _, Nat.zero_le _⟩ dX8_worthIn_16 ?_
      generalize hz1 : (f_X8_later SM x1 (it_X8_worthIn_6 SM x1 x2 x3 (x2 : Int32) j_6)) = z1
      refine ww_istore (pc := 19) (lv' := [(4, .int z1), (0, .ref (rM 0)), (1, .int x1), (2, .int x2), (3, .int x3), (5, .int (nI j_6))]) X dX8_worthIn_19 (by decide) rfl ?_
      refine ww_iinc (pc := 21) (v := (nI j_6) + 1) (lv' := [(5, .int ((nI j_6) + 1)), (4, .int z1), (0, .ref (rM 0)), (1, .int x1), (2, .int x2), (3, .int x3)]) X dX8_worthIn_21 5 rfl rfl (by decide) rfl ?_
      refine ww_goto (pc := 24) (tgt := 6) X dX8_worthIn_24 (by decide) ?_
      have h2 : (it_X8_worthIn_6 SM x1 x2 x3 (x2 : Int32) (j_6 + 1)) = z1 := by
        show bd_X8_worthIn_6 SM x1 x2 x3 j_6 (it_X8_worthIn_6 SM x1 x2 x3 (x2 : Int32) j_6) = _; unfold bd_X8_worthIn_6; try rw [hz1]; try unfold bd_X8_worthIn_6_k1; first | done | rfl
      refine ww_lsub [2, 3, 4, 5, 1, 0] rfl ?_
      exact ww_castI (fun u9 : Int32 => fl [wX8 cI cZ cQ rM SM]) (fun (u9 : Int32) (i9 : Int32) => ([(0, .ref (rM 0)), (1, .int x1), (2, .int x2), (3, .int x3), (4, .int u9), (5, .int i9)] : List (Nat × Value))) h2 (ih (j_6 + 1) (by omega) K)
  refine ww_lsub [2, 3, 4, 5, 1, 0] rfl ?_
  refine L6 x3.toNatClampNeg 0 (by omega) ?_
  generalize hz3 : ((it_X8_worthIn_6 SM x1 x2 x3 (x2 : Int32) x3.toNatClampNeg)) = z3
  refine ww_iload (pc := 27) X dX8_worthIn_27 4 rfl ?_
  exact ww_iret X hr rfl (Eq.symm (by unfold f_X8_worthIn; try rw [hz3]; try unfold f_X8_worthIn_k1; first | done | rfl)) rfl dX8_worthIn_29
