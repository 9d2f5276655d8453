def bd_X8_passes_2  (j : Nat) (u : St) : St :=
  if (f_X8_isAbove u (nI j)) = 0 then
    if (f_X8_isBelow u (nI j)) = 0 then
      u
    else
      (sA u 9 (upd (upd (u.2 9) ((15 + (nI j) : Int32)).toNatClampNeg (((u.2 9) ((15 + (nI j) : Int32)).toNatClampNeg) + 1)) ((22 + (nI j) : Int32)).toNatClampNeg (((upd (u.2 9) ((15 + (nI j) : Int32)).toNatClampNeg (((u.2 9) ((15 + (nI j) : Int32)).toNatClampNeg) + 1)) ((22 + (nI j) : Int32)).toNatClampNeg) + 1)))
  else
    if ((upd (u.2 9) ((1 + (nI j) : Int32)).toNatClampNeg (((u.2 9) ((1 + (nI j) : Int32)).toNatClampNeg) + 1)) ((1 + (nI j) : Int32)).toNatClampNeg) < (f_X8_end (sA u 9 (upd (u.2 9) ((1 + (nI j) : Int32)).toNatClampNeg (((u.2 9) ((1 + (nI j) : Int32)).toNatClampNeg) + 1))) (nI j)) then
      (sA u 9 (upd (upd (u.2 9) ((1 + (nI j) : Int32)).toNatClampNeg (((u.2 9) ((1 + (nI j) : Int32)).toNatClampNeg) + 1)) ((8 + (nI j) : Int32)).toNatClampNeg 0))
    else
      (sA u 9 (upd (upd (u.2 9) ((1 + (nI j) : Int32)).toNatClampNeg (((u.2 9) ((1 + (nI j) : Int32)).toNatClampNeg) + 1)) ((8 + (nI j) : Int32)).toNatClampNeg 1))
def it_X8_passes_2  (u : St) : Nat → St
  | 0 => u
  | j + 1 => bd_X8_passes_2  j (it_X8_passes_2  u j)
theorem pr_X8_passes_2  (u : St) : ∀ j : Nat, (it_X8_passes_2  u j).2 1 = u.2 1
  | 0 => rfl
  | j + 1 => by
    have ih := pr_X8_passes_2  u j
    show (bd_X8_passes_2  j (it_X8_passes_2  u j)).2 1 = _
    generalize it_X8_passes_2  u j = v at ih ⊢
    unfold bd_X8_passes_2
    first | exact ih | (repeat' split) <;> exact ih
def bd_X8_passes_107  (j : Nat) (u : St) : St :=
  (sA u 9 (upd (u.2 9) ((29 + (nI j) : Int32)).toNatClampNeg (f_X8_later u (nI j) ((u.2 9) ((29 + (nI j) : Int32)).toNatClampNeg))))
def it_X8_passes_107  (u : St) : Nat → St
  | 0 => u
  | j + 1 => bd_X8_passes_107  j (it_X8_passes_107  u j)
theorem pr_X8_passes_107  (u : St) : ∀ j : Nat, (it_X8_passes_107  u j).2 1 = u.2 1
  | 0 => rfl
  | j + 1 => by
    have ih := pr_X8_passes_107  u j
    show (bd_X8_passes_107  j (it_X8_passes_107  u j)).2 1 = _
    generalize it_X8_passes_107  u j = v at ih ⊢
    unfold bd_X8_passes_107
    first | exact ih | (repeat' split) <;> exact ih
def f_X8_passes_k2 (SM : St) (z11 : St) (z13 : St) : St :=
  (sA z13 9 (upd (z13.2 9) ((0 : Int32)).toNatClampNeg (((z13.2 9) ((0 : Int32)).toNatClampNeg) + 1)))
def f_X8_passes_k1 (SM : St) (z11 : St) : St :=
  f_X8_passes_k2 SM z11 (it_X8_passes_107 z11 (((z11.2 1) ((4 : Int32)).toNatClampNeg).toNatClampNeg))
def f_X8_passes (SM : St) : St :=
  f_X8_passes_k1 SM (it_X8_passes_2 SM (((SM.2 1) ((3 : Int32)).toNatClampNeg).toNatClampNeg))
theorem pa_2 (S : St) (k : Nat) (hk : k ≠ 9) : (f_X8_passes S).2 k = S.2 k := by
  have h2 : ∀ (v : St) (j : Nat), (it_X8_passes_2 v j).2 k = v.2 k := fun v j => by
    induction j with
    | zero => rfl
    | succ j ih =>
      show (bd_X8_passes_2 j (it_X8_passes_2 v j)).2 k = _
      rw [← ih]
      generalize it_X8_passes_2 v j = w
      unfold bd_X8_passes_2
      repeat' split
      all_goals first | rfl | exact if_neg hk
  have h1 : ∀ (v : St) (j : Nat), (it_X8_passes_107 v j).2 k = v.2 k := fun v j => by
    induction j with
    | zero => rfl
    | succ j ih =>
      show (bd_X8_passes_107 j (it_X8_passes_107 v j)).2 k = _
      rw [← ih]
      exact if_neg hk
  unfold f_X8_passes f_X8_passes_k1 f_X8_passes_k2
  refine (if_neg hk).trans ?_
  rw [h1, h2]
theorem yr_1x (S : St) : (f_X8_passes S).2 1 = S.2 1 := pa_2 S 1 (by decide)
theorem inX8_passes_8 : ∀ w ∈ wsX80, w ∈ wsX8_passes := by decide +kernel
theorem hd_X8_passes : yX8_passes.cls = RX8 ∧ yX8_passes.cls ≠ "java/lang/invoke/MethodHandle" ∧ yX8_passes.cls ≠ "java/lang/invoke/VarHandle" ∧ (parseMethodDescriptor yX8_passes.desc).map (fun d => d.parameters.length) = some 0 := by decide +kernel
set_option maxHeartbeats 4000000 in
set_option maxRecDepth 100000 in
theorem c_X8_passes (l : Launch) (D : va_G) (cI cZ cQ : ClassId) (rM : Nat → Nat) (SM : St) (okm : okM SM) : Cv l yX8_passes wsX8_passes { frames := 1, cells := 0, slots := 0, locals := 24 } D (tyL cI cZ cQ) [.ref (rM 0)] (fl [wX8 cI cZ cQ rM SM]) (fl [wX8 cI cZ cQ rM (f_X8_passes SM)]) := by
  refine cv_of (cc := cX8_passes) (nL := 2) (lv0 := [(0, .ref (rM 0))]) (by decide) rfl (Nat.le_of_ble_eq_true rfl) rfl ?_
  intro p e s m args below meth c A X hr
  refine ww_iconst (pc := 0) (v := 0) X dX8_passes_0 (by decide) ?_
  refine ww_istore_n (pc := 1) (lv' := [(1, .int 0), (0, .ref (rM 0))]) X dX8_passes_1 rfl (by decide) rfl ?_
  have L2 : ∀ (k_2 j_2 : Nat), j_2 + k_2 = ((SM.2 1) ((3 : Int32)).toNatClampNeg).toNatClampNeg → WW p l e (headSpec wsX8_passes { frames := 1, cells := 0, slots := 0, locals := 24 }).room s m args below meth c 2 D A 0 0 (RQv below args s D A (fl [wX8 cI cZ cQ rM (f_X8_passes SM)])) (fl [wX8 cI cZ cQ rM (it_X8_passes_2 SM (((SM.2 1) ((3 : Int32)).toNatClampNeg).toNatClampNeg))]) [(0, .ref (rM 0)), (1, .int (nI (((SM.2 1) ((3 : Int32)).toNatClampNeg).toNatClampNeg)))] 105 [] → WW p l e (headSpec wsX8_passes { frames := 1, cells := 0, slots := 0, locals := 24 }).room s m args below meth c 2 D A 0 0 (RQv below args s D A (fl [wX8 cI cZ cQ rM (f_X8_passes SM)])) (fl [wX8 cI cZ cQ rM (it_X8_passes_2 SM j_2)]) [(0, .ref (rM 0)), (1, .int (nI j_2))] 2 [] := by
    intro k_2
    induction k_2 with
    | zero =>
      intro j_2 hj K
      have hjB : j_2 = ((SM.2 1) ((3 : Int32)).toNatClampNeg).toNatClampNeg := by omega
      subst hjB
      refine ww_iload_n (pc := 2) X dX8_passes_2 1 rfl rfl ?_
      refine ww_aload_n (pc := 3) X dX8_passes_3 0 rfl rfl ?_
      refine ww_get (pc := 4) (ci := 8) (v := .ref (rM 2)) (C := RX8) (T := TX8) (N := 27) X inX8_passes_8 0 rfl rfl 3 (by decide) (by decide +kernel) rfl dX8_passes_4 ?_
      refine ww_iconst (pc := 7) (v := 3) X dX8_passes_7 (by decide) ?_
      refine ww_iald (pc := 8) (f := (it_X8_passes_2 SM (((SM.2 1) ((3 : Int32)).toNatClampNeg).toNatClampNeg)).2 1) X 2 0 rfl rfl (vl_in (by decide)) dX8_passes_8 ?_
      exact ww_icmp_ge (pc := 9) (tgt := 105) X dX8_passes_9 (by decide) (fun _ => K) (fun c9 => absurd (lp_ge0e (congrFun (pr_X8_passes_2 SM (((SM.2 1) ((3 : Int32)).toNatClampNeg).toNatClampNeg)) _) (Nat.le_refl _) (cl_lt _)) c9)
    | succ k_2 ih =>
      intro j_2 hj K
      have hjB : j_2 < ((SM.2 1) ((3 : Int32)).toNatClampNeg).toNatClampNeg := by omega
      have h7_2 := okM_p okm
      refine ww_iload_n (pc := 2) X dX8_passes_2 1 rfl rfl ?_
      refine ww_aload_n (pc := 3) X dX8_passes_3 0 rfl rfl ?_
      refine ww_get (pc := 4) (ci := 8) (v := .ref (rM 2)) (C := RX8) (T := TX8) (N := 27) X inX8_passes_8 0 rfl rfl 3 (by decide) (by decide +kernel) rfl dX8_passes_4 ?_
      refine ww_iconst (pc := 7) (v := 3) X dX8_passes_7 (by decide) ?_
      refine ww_iald (pc := 8) (f := (it_X8_passes_2 SM j_2).2 1) X 2 0 rfl rfl (vl_in (by decide)) dX8_passes_8 ?_
      refine ww_icmp_ge (pc := 9) (tgt := 105) X dX8_passes_9 (by decide) (fun c9 => absurd c9 (lp_ge1e (congrFun (pr_X8_passes_2 SM j_2) _) hjB)) (fun _ => ?_)
      refine ww_aload_n (pc := 12) X dX8_passes_12 0 rfl rfl ?_
      refine ww_iload_n (pc := 13) X dX8_passes_13 1 rfl rfl ?_
      refine ww_gVi (pc := 14) (rest := []) (gsN := [wX8 cI cZ cQ rM (it_X8_passes_2 SM j_2)]) (ci := 8) (gi := 0) (qi := 0) X (c_X8_isAbove l D cI cZ cQ rM (it_X8_passes_2 SM j_2) (nI j_2) (vn (m := j_2) rfl (by omega) (by decide))) gX8_passes_X8_isAbove rfl hd_X8_isAbove [true] rfl rfl rfl rfl rfl rfl rfl rfl ⟨rfl, rfl⟩ ⟨Nat.le_of_ble_eq_true rfl, Nat.le_of_ble_eq_true rfl⟩ (Nat.le_of_ble_eq_true rfl) ⟨Nat.zero_le _, Nat.zero_le _⟩ dX8_passes_14 ?_
      refine ww_if_eq (pc := 17) (tgt := 65) X dX8_passes_17 (by decide) (fun c4 => ?_) (fun c4 => ?_)
      · refine ww_aload_n (pc := 65) X dX8_passes_65 0 rfl rfl ?_
        refine ww_iload_n (pc := 66) X dX8_passes_66 1 rfl rfl ?_
        refine ww_gVi (pc := 67) (rest := []) (gsN := [wX8 cI cZ cQ rM (it_X8_passes_2 SM j_2)]) (ci := 8) (gi := 0) (qi := 0) X (c_X8_isBelow l D cI cZ cQ rM (it_X8_passes_2 SM j_2) (nI j_2) (vn (m := j_2) rfl (by omega) (by decide))) gX8_passes_X8_isBelow rfl hd_X8_isBelow [true] rfl rfl rfl rfl rfl rfl rfl rfl ⟨rfl, rfl⟩ ⟨Nat.le_of_ble_eq_true rfl, Nat.le_of_ble_eq_true rfl⟩ (Nat.le_of_ble_eq_true rfl) ⟨Nat.zero_le _, Nat.zero_le _⟩ dX8_passes_67 ?_
        refine ww_if_eq (pc := 70) (tgt := 99) X dX8_passes_70 (by decide) (fun c5 => ?_) (fun c5 => ?_)
        · refine ww_iinc (pc := 99) (v := (nI j_2) + 1) (lv' := [(1, .int ((nI j_2) + 1)), (0, .ref (rM 0))]) X dX8_passes_99 1 rfl rfl (by decide) rfl ?_
          refine ww_goto (pc := 102) (tgt := 2) X dX8_passes_102 (by decide) ?_
          have h6 : (it_X8_passes_2 SM (j_2 + 1)) = (it_X8_passes_2 SM j_2) := by
            show bd_X8_passes_2  j_2 (it_X8_passes_2 SM j_2) = _; unfold bd_X8_passes_2; try rw [if_pos c4, if_pos c5]; first | done | rfl
          refine ww_lsub [1, 0] rfl ?_
          exact ww_castI (fun u9 : St => fl [wX8 cI cZ cQ rM u9]) (fun (u9 : St) (i9 : Int32) => ([(0, .ref (rM 0)), (1, .int i9)] : List (Nat × Value))) h6 (ih (j_2 + 1) (by omega) K)
        · refine ww_aload_n (pc := 73) X dX8_passes_73 0 rfl rfl ?_
          refine ww_get (pc := 74) (ci := 8) (v := .ref (rM 10)) (C := RX8) (T := TX8) (N := 27) X inX8_passes_8 0 rfl rfl 11 (by decide) (by decide +kernel) rfl dX8_passes_74 ?_
          refine ww_bipush (pc := 77) (v := 15) X dX8_passes_77 (by decide) ?_
          refine ww_iload_n (pc := 79) X dX8_passes_79 1 rfl rfl ?_
          refine ww_iadd (pc := 80) X dX8_passes_80 ?_
          refine ww_dup2_11 (pc := 81) X dX8_passes_81 rfl rfl ?_
          refine ww_iald (pc := 82) (f := (it_X8_passes_2 SM j_2).2 9) X 10 0 rfl rfl (vn (m := 15 + j_2) (nat_iadd (a := 15) (b := j_2) rfl rfl) (by omega) (by decide)) dX8_passes_82 ?_
          refine ww_iconst (pc := 83) (v := 1) X dX8_passes_83 (by decide) ?_
          refine ww_iadd (pc := 84) X dX8_passes_84 ?_
          refine ww_iast (pc := 85) (f := (it_X8_passes_2 SM j_2).2 9) (ws' := fl [wX8 cI cZ cQ rM (sA (it_X8_passes_2 SM j_2) 9 (upd ((it_X8_passes_2 SM j_2).2 9) ((15 + (nI j_2) : Int32)).toNatClampNeg ((((it_X8_passes_2 SM j_2).2 9) ((15 + (nI j_2) : Int32)).toNatClampNeg) + 1)))]) X 10 0 rfl rfl (vn (m := 15 + j_2) (nat_iadd (a := 15) (b := j_2) rfl rfl) (by omega) (by decide)) (st8a_9 _ _ _ _ _ _) dX8_passes_85 ?_
          refine ww_aload_n (pc := 86) X dX8_passes_86 0 rfl rfl ?_
          refine ww_get (pc := 87) (ci := 8) (v := .ref (rM 10)) (C := RX8) (T := TX8) (N := 27) X inX8_passes_8 0 rfl rfl 11 (by decide) (by decide +kernel) rfl dX8_passes_87 ?_
          refine ww_bipush (pc := 90) (v := 22) X dX8_passes_90 (by decide) ?_
          refine ww_iload_n (pc := 92) X dX8_passes_92 1 rfl rfl ?_
          refine ww_iadd (pc := 93) X dX8_passes_93 ?_
          refine ww_dup2_11 (pc := 94) X dX8_passes_94 rfl rfl ?_
          refine ww_iald (pc := 95) (f := upd ((it_X8_passes_2 SM j_2).2 9) ((15 + (nI j_2) : Int32)).toNatClampNeg ((((it_X8_passes_2 SM j_2).2 9) ((15 + (nI j_2) : Int32)).toNatClampNeg) + 1)) X 10 0 (ga8_9 _ _ _ _ _ sA_eq) rfl (vn (m := 22 + j_2) (nat_iadd (a := 22) (b := j_2) rfl rfl) (by omega) (by decide)) dX8_passes_95 ?_
          refine ww_iconst (pc := 96) (v := 1) X dX8_passes_96 (by decide) ?_
          refine ww_iadd (pc := 97) X dX8_passes_97 ?_
          refine ww_iast (pc := 98) (f := upd ((it_X8_passes_2 SM j_2).2 9) ((15 + (nI j_2) : Int32)).toNatClampNeg ((((it_X8_passes_2 SM j_2).2 9) ((15 + (nI j_2) : Int32)).toNatClampNeg) + 1)) (ws' := fl [wX8 cI cZ cQ rM (sA (it_X8_passes_2 SM j_2) 9 (upd (upd ((it_X8_passes_2 SM j_2).2 9) ((15 + (nI j_2) : Int32)).toNatClampNeg ((((it_X8_passes_2 SM j_2).2 9) ((15 + (nI j_2) : Int32)).toNatClampNeg) + 1)) ((22 + (nI j_2) : Int32)).toNatClampNeg (((upd ((it_X8_passes_2 SM j_2).2 9) ((15 + (nI j_2) : Int32)).toNatClampNeg ((((it_X8_passes_2 SM j_2).2 9) ((15 + (nI j_2) : Int32)).toNatClampNeg) + 1)) ((22 + (nI j_2) : Int32)).toNatClampNeg) + 1)))]) X 10 0 (ga8_9 _ _ _ _ _ sA_eq) rfl (vn (m := 22 + j_2) (nat_iadd (a := 22) (b := j_2) rfl rfl) (by omega) (by decide)) (st8b_9 _ _ _ _ _ _ _) dX8_passes_98 ?_
          refine ww_iinc (pc := 99) (v := (nI j_2) + 1) (lv' := [(1, .int ((nI j_2) + 1)), (0, .ref (rM 0))]) X dX8_passes_99 1 rfl rfl (by decide) rfl ?_
          refine ww_goto (pc := 102) (tgt := 2) X dX8_passes_102 (by decide) ?_
          have h7 : (it_X8_passes_2 SM (j_2 + 1)) = (sA (it_X8_passes_2 SM j_2) 9 (upd (upd ((it_X8_passes_2 SM j_2).2 9) ((15 + (nI j_2) : Int32)).toNatClampNeg ((((it_X8_passes_2 SM j_2).2 9) ((15 + (nI j_2) : Int32)).toNatClampNeg) + 1)) ((22 + (nI j_2) : Int32)).toNatClampNeg (((upd ((it_X8_passes_2 SM j_2).2 9) ((15 + (nI j_2) : Int32)).toNatClampNeg ((((it_X8_passes_2 SM j_2).2 9) ((15 + (nI j_2) : Int32)).toNatClampNeg) + 1)) ((22 + (nI j_2) : Int32)).toNatClampNeg) + 1))) := by
            show bd_X8_passes_2  j_2 (it_X8_passes_2 SM j_2) = _; unfold bd_X8_passes_2; try rw [if_pos c4, if_neg c5]; first | done | rfl
          refine ww_lsub [1, 0] rfl ?_
          exact ww_castI (fun u9 : St => fl [wX8 cI cZ cQ rM u9]) (fun (u9 : St) (i9 : Int32) => ([(0, .ref (rM 0)), (1, .int i9)] : List (Nat × Value))) h7 (ih (j_2 + 1) (by omega) K)
      · refine ww_aload_n (pc := 20) X dX8_passes_20 0 rfl rfl ?_
        refine ww_get (pc := 21) (ci := 8) (v := .ref (rM 10)) (C := RX8) (T := TX8) (N := 27) X inX8_passes_8 0 rfl rfl 11 (by decide) (by decide +kernel) rfl dX8_passes_21 ?_
        refine ww_iconst (pc := 24) (v := 1) X dX8_passes_24 (by decide) ?_
        refine ww_iload_n (pc := 25) X dX8_passes_25 1 rfl rfl ?_
        refine ww_iadd (pc := 26) X dX8_passes_26 ?_
        refine ww_dup2_11 (pc := 27) X dX8_passes_27 rfl rfl ?_
        refine ww_iald (pc := 28) (f := (it_X8_passes_2 SM j_2).2 9) X 10 0 rfl rfl (vn (m := 1 + j_2) (nat_iadd (a := 1) (b := j_2) rfl rfl) (by omega) (by decide)) dX8_passes_28 ?_
        refine ww_iconst (pc := 29) (v := 1) X dX8_passes_29 (by decide) ?_
        refine ww_iadd (pc := 30) X dX8_passes_30 ?_
        refine ww_iast (pc := 31) (f := (it_X8_passes_2 SM j_2).2 9) (ws' := fl [wX8 cI cZ cQ rM (sA (it_X8_passes_2 SM j_2) 9 (upd ((it_X8_passes_2 SM j_2).2 9) ((1 + (nI j_2) : Int32)).toNatClampNeg ((((it_X8_passes_2 SM j_2).2 9) ((1 + (nI j_2) : Int32)).toNatClampNeg) + 1)))]) X 10 0 rfl rfl (vn (m := 1 + j_2) (nat_iadd (a := 1) (b := j_2) rfl rfl) (by omega) (by decide)) (st8a_9 _ _ _ _ _ _) dX8_passes_31 ?_
        refine ww_aload_n (pc := 32) X dX8_passes_32 0 rfl rfl ?_
        refine ww_get (pc := 33) (ci := 8) (v := .ref (rM 10)) (C := RX8) (T := TX8) (N := 27) X inX8_passes_8 0 rfl rfl 11 (by decide) (by decide +kernel) rfl dX8_passes_33 ?_
        refine ww_bipush (pc := 36) (v := 8) X dX8_passes_36 (by decide) ?_
        refine ww_iload_n (pc := 38) X dX8_passes_38 1 rfl rfl ?_
        refine ww_iadd (pc := 39) X dX8_passes_39 ?_
        refine ww_aload_n (pc := 40) X dX8_passes_40 0 rfl rfl ?_
        refine ww_get (pc := 41) (ci := 8) (v := .ref (rM 10)) (C := RX8) (T := TX8) (N := 27) X inX8_passes_8 0 rfl rfl 11 (by decide) (by decide +kernel) rfl dX8_passes_41 ?_
        refine ww_iconst (pc := 44) (v := 1) X dX8_passes_44 (by decide) ?_
        refine ww_iload_n (pc := 45) X dX8_passes_45 1 rfl rfl ?_
        refine ww_iadd (pc := 46) X dX8_passes_46 ?_
        refine ww_iald (pc := 47) (f := upd ((it_X8_passes_2 SM j_2).2 9) ((1 + (nI j_2) : Int32)).toNatClampNeg ((((it_X8_passes_2 SM j_2).2 9) ((1 + (nI j_2) : Int32)).toNatClampNeg) + 1)) X 10 0 (ga8_9 _ _ _ _ _ sA_eq) rfl (vn (m := 1 + j_2) (nat_iadd (a := 1) (b := j_2) rfl rfl) (by omega) (by decide)) dX8_passes_47 ?_
        refine ww_aload_n (pc := 48) X dX8_passes_48 0 rfl rfl ?_
        refine ww_iload_n (pc := 49) X dX8_passes_49 1 rfl rfl ?_
        refine ww_gVi (pc := 50) (rest := [.int ((upd ((it_X8_passes_2 SM j_2).2 9) ((1 + (nI j_2) : Int32)).toNatClampNeg ((((it_X8_passes_2 SM j_2).2 9) ((1 + (nI j_2) : Int32)).toNatClampNeg) + 1)) ((1 + (nI j_2) : Int32)).toNatClampNeg), .int (8 + (nI j_2)), .ref (rM 10)]) (gsN := [wX8 cI cZ cQ rM (sA (it_X8_passes_2 SM j_2) 9 (upd ((it_X8_passes_2 SM j_2).2 9) ((1 + (nI j_2) : Int32)).toNatClampNeg ((((it_X8_passes_2 SM j_2).2 9) ((1 + (nI j_2) : Int32)).toNatClampNeg) + 1)))]) (ci := 8) (gi := 0) (qi := 0) X (c_X8_end l D cI cZ cQ rM (sA (it_X8_passes_2 SM j_2) 9 (upd ((it_X8_passes_2 SM j_2).2 9) ((1 + (nI j_2) : Int32)).toNatClampNeg ((((it_X8_passes_2 SM j_2).2 9) ((1 + (nI j_2) : Int32)).toNatClampNeg) + 1))) (nI j_2) (vn (m := j_2) rfl (by omega) (by decide))) gX8_passes_X8_end rfl hd_X8_end [true] rfl rfl rfl rfl rfl rfl rfl rfl ⟨rfl, rfl⟩ ⟨Nat.le_of_ble_eq_true rfl, Nat.le_of_ble_eq_true rfl⟩ (Nat.le_of_ble_eq_true rfl) ⟨Nat.zero_le _, Nat.zero_le _⟩ dX8_passes_50 ?_
        refine ww_icmp_lt (pc := 53) (tgt := 60) X dX8_passes_53 (by decide) (fun c8 => ?_) (fun c8 => ?_)
        · refine ww_iconst (pc := 60) (v := 0) X dX8_passes_60 (by decide) ?_
          refine ww_iast (pc := 61) (f := upd ((it_X8_passes_2 SM j_2).2 9) ((1 + (nI j_2) : Int32)).toNatClampNeg ((((it_X8_passes_2 SM j_2).2 9) ((1 + (nI j_2) : Int32)).toNatClampNeg) + 1)) (ws' := fl [wX8 cI cZ cQ rM (sA (it_X8_passes_2 SM j_2) 9 (upd (upd ((it_X8_passes_2 SM j_2).2 9) ((1 + (nI j_2) : Int32)).toNatClampNeg ((((it_X8_passes_2 SM j_2).2 9) ((1 + (nI j_2) : Int32)).toNatClampNeg) + 1)) ((8 + (nI j_2) : Int32)).toNatClampNeg 0))]) X 10 0 (ga8_9 _ _ _ _ _ sA_eq) rfl (vn (m := 8 + j_2) (nat_iadd (a := 8) (b := j_2) rfl rfl) (by omega) (by decide)) (st8b_9 _ _ _ _ _ _ _) dX8_passes_61 ?_
          refine ww_goto (pc := 62) (tgt := 99) X dX8_passes_62 (by decide) ?_
          refine ww_iinc (pc := 99) (v := (nI j_2) + 1) (lv' := [(1, .int ((nI j_2) + 1)), (0, .ref (rM 0))]) X dX8_passes_99 1 rfl rfl (by decide) rfl ?_
          refine ww_goto (pc := 102) (tgt := 2) X dX8_passes_102 (by decide) ?_
          have h9 : (it_X8_passes_2 SM (j_2 + 1)) = (sA (it_X8_passes_2 SM j_2) 9 (upd (upd ((it_X8_passes_2 SM j_2).2 9) ((1 + (nI j_2) : Int32)).toNatClampNeg ((((it_X8_passes_2 SM j_2).2 9) ((1 + (nI j_2) : Int32)).toNatClampNeg) + 1)) ((8 + (nI j_2) : Int32)).toNatClampNeg 0)) := by
            show bd_X8_passes_2  j_2 (it_X8_passes_2 SM j_2) = _; unfold bd_X8_passes_2; try rw [if_neg c4, if_pos c8]; first | done | rfl
          refine ww_lsub [1, 0] rfl ?_
          exact ww_castI (fun u9 : St => fl [wX8 cI cZ cQ rM u9]) (fun (u9 : St) (i9 : Int32) => ([(0, .ref (rM 0)), (1, .int i9)] : List (Nat × Value))) h9 (ih (j_2 + 1) (by omega) K)
        · refine ww_iconst (pc := 56) (v := 1) X dX8_passes_56 (by decide) ?_
          refine ww_goto (pc := 57) (tgt := 61) X dX8_passes_57 (by decide) ?_
          refine ww_iast (pc := 61) (f := upd ((it_X8_passes_2 SM j_2).2 9) ((1 + (nI j_2) : Int32)).toNatClampNeg ((((it_X8_passes_2 SM j_2).2 9) ((1 + (nI j_2) : Int32)).toNatClampNeg) + 1)) (ws' := fl [wX8 cI cZ cQ rM (sA (it_X8_passes_2 SM j_2) 9 (upd (upd ((it_X8_passes_2 SM j_2).2 9) ((1 + (nI j_2) : Int32)).toNatClampNeg ((((it_X8_passes_2 SM j_2).2 9) ((1 + (nI j_2) : Int32)).toNatClampNeg) + 1)) ((8 + (nI j_2) : Int32)).toNatClampNeg 1))]) X 10 0 (ga8_9 _ _ _ _ _ sA_eq) rfl (vn (m := 8 + j_2) (nat_iadd (a := 8) (b := j_2) rfl rfl) (by omega) (by decide)) (st8b_9 _ _ _ _ _ _ _) dX8_passes_61 ?_
          refine ww_goto (pc := 62) (tgt := 99) X dX8_passes_62 (by decide) ?_
          refine ww_iinc (pc := 99) (v := (nI j_2) + 1) (lv' := [(1, .int ((nI j_2) + 1)), (0, .ref (rM 0))]) X dX8_passes_99 1 rfl rfl (by decide) rfl ?_
          refine ww_goto (pc := 102) (tgt := 2) X dX8_passes_102 (by decide) ?_
          have h10 : (it_X8_passes_2 SM (j_2 + 1)) = (sA (it_X8_passes_2 SM j_2) 9 (upd (upd ((it_X8_passes_2 SM j_2).2 9) ((1 + (nI j_2) : Int32)).toNatClampNeg ((((it_X8_passes_2 SM j_2).2 9) ((1 + (nI j_2) : Int32)).toNatClampNeg) + 1)) ((8 + (nI j_2) : Int32)).toNatClampNeg 1)) := by
            show bd_X8_passes_2  j_2 (it_X8_passes_2 SM j_2) = _; unfold bd_X8_passes_2; try rw [if_neg c4, if_neg c8]; first | done | rfl
          refine ww_lsub [1, 0] rfl ?_
          exact ww_castI (fun u9 : St => fl [wX8 cI cZ cQ rM u9]) (fun (u9 : St) (i9 : Int32) => ([(0, .ref (rM 0)), (1, .int i9)] : List (Nat × Value))) h10 (ih (j_2 + 1) (by omega) K)
  refine ww_lsub [1, 0] rfl ?_
  refine L2 (((SM.2 1) ((3 : Int32)).toNatClampNeg).toNatClampNeg) 0 (by omega) ?_
  generalize hz11 : ((it_X8_passes_2 SM (((SM.2 1) ((3 : Int32)).toNatClampNeg).toNatClampNeg))) = z11
  have okz : okM z11 := okM_of (by rw [← hz11]; exact pr_X8_passes_2 _ _) okm
  refine ww_iconst (pc := 105) (v := 0) X dX8_passes_105 (by decide) ?_
  refine ww_istore_n (pc := 106) (lv' := [(1, .int 0), (0, .ref (rM 0))]) X dX8_passes_106 rfl (by decide) rfl ?_
  have L107 : ∀ (k_107 j_107 : Nat), j_107 + k_107 = ((z11.2 1) ((4 : Int32)).toNatClampNeg).toNatClampNeg → WW p l e (headSpec wsX8_passes { frames := 1, cells := 0, slots := 0, locals := 24 }).room s m args below meth c 2 D A 0 0 (RQv below args s D A (fl [wX8 cI cZ cQ rM (f_X8_passes SM)])) (fl [wX8 cI cZ cQ rM (it_X8_passes_107 z11 (((z11.2 1) ((4 : Int32)).toNatClampNeg).toNatClampNeg))]) [(0, .ref (rM 0)), (1, .int (nI (((z11.2 1) ((4 : Int32)).toNatClampNeg).toNatClampNeg)))] 146 [] → WW p l e (headSpec wsX8_passes { frames := 1, cells := 0, slots := 0, locals := 24 }).room s m args below meth c 2 D A 0 0 (RQv below args s D A (fl [wX8 cI cZ cQ rM (f_X8_passes SM)])) (fl [wX8 cI cZ cQ rM (it_X8_passes_107 z11 j_107)]) [(0, .ref (rM 0)), (1, .int (nI j_107))] 107 [] := by
    intro k_107
    induction k_107 with
    | zero =>
      intro j_107 hj K
      have hjB : j_107 = ((z11.2 1) ((4 : Int32)).toNatClampNeg).toNatClampNeg := by omega
      subst hjB
      refine ww_iload_n (pc := 107) X dX8_passes_107 1 rfl rfl ?_
      refine ww_aload_n (pc := 108) X dX8_passes_108 0 rfl rfl ?_
      refine ww_get (pc := 109) (ci := 8) (v := .ref (rM 2)) (C := RX8) (T := TX8) (N := 27) X inX8_passes_8 0 rfl rfl 3 (by decide) (by decide +kernel) rfl dX8_passes_109 ?_
      refine ww_iconst (pc := 112) (v := 4) X dX8_passes_112 (by decide) ?_
      refine ww_iald (pc := 113) (f := (it_X8_passes_107 z11 (((z11.2 1) ((4 : Int32)).toNatClampNeg).toNatClampNeg)).2 1) X 2 0 rfl rfl (vl_in (by decide)) dX8_passes_113 ?_
      exact ww_icmp_ge (pc := 114) (tgt := 146) X dX8_passes_114 (by decide) (fun _ => K) (fun c9 => absurd (lp_ge0e (congrFun (pr_X8_passes_107 z11 (((z11.2 1) ((4 : Int32)).toNatClampNeg).toNatClampNeg)) _) (Nat.le_refl _) (cl_lt _)) c9)
    | succ k_107 ih =>
      intro j_107 hj K
      have hjB : j_107 < ((z11.2 1) ((4 : Int32)).toNatClampNeg).toNatClampNeg := by omega
      have h6z := okM_g okz
      refine ww_iload_n (pc := 107) X dX8_passes_107 1 rfl rfl ?_
      refine ww_aload_n (pc := 108) X dX8_passes_108 0 rfl rfl ?_
      refine ww_get (pc := 109) (ci := 8) (v := .ref (rM 2)) (C := RX8) (T := TX8) (N := 27) X inX8_passes_8 0 rfl rfl 3 (by decide) (by decide +kernel) rfl dX8_passes_109 ?_
      refine ww_iconst (pc := 112) (v := 4) X dX8_passes_112 (by decide) ?_
      refine ww_iald (pc := 113) (f := (it_X8_passes_107 z11 j_107).2 1) X 2 0 rfl rfl (vl_in (by decide)) dX8_passes_113 ?_
      refine ww_icmp_ge (pc := 114) (tgt := 146) X dX8_passes_114 (by decide) (fun c9 => absurd c9 (lp_ge1e (congrFun (pr_X8_passes_107 z11 j_107) _) hjB)) (fun _ => ?_)
      refine ww_aload_n (pc := 117) X dX8_passes_117 0 rfl rfl ?_
      refine ww_get (pc := 118) (ci := 8) (v := .ref (rM 10)) (C := RX8) (T := TX8) (N := 27) X inX8_passes_8 0 rfl rfl 11 (by decide) (by decide +kernel) rfl dX8_passes_118 ?_
      refine ww_bipush (pc := 121) (v := 29) X dX8_passes_121 (by decide) ?_
      refine ww_iload_n (pc := 123) X dX8_passes_123 1 rfl rfl ?_
      refine ww_iadd (pc := 124) X dX8_passes_124 ?_
      refine ww_aload_n (pc := 125) X dX8_passes_125 0 rfl rfl ?_
      refine ww_iload_n (pc := 126) X dX8_passes_126 1 rfl rfl ?_
      refine ww_aload_n (pc := 127) X dX8_passes_127 0 rfl rfl ?_
      refine ww_get (pc := 128) (ci := 8) (v := .ref (rM 10)) (C := RX8) (T := TX8) (N := 27) X inX8_passes_8 0 rfl rfl 11 (by decide) (by decide +kernel) rfl dX8_passes_128 ?_
      refine ww_bipush (pc := 131) (v := 29) X dX8_passes_131 (by decide) ?_
      refine ww_iload_n (pc := 133) X dX8_passes_133 1 rfl rfl ?_
      refine ww_iadd (pc := 134) X dX8_passes_134 ?_
      refine ww_iald (pc := 135) (f := (it_X8_passes_107 z11 j_107).2 9) X 10 0 rfl rfl (vn (m := 29 + j_107) (nat_iadd (a := 29) (b := j_107) rfl rfl) (by omega) (by decide)) dX8_passes_135 ?_
      refine ww_gVi (pc := 136) (rest := [.int (29 + (nI j_107)), .ref (rM 10)]) (gsN := [wX8 cI cZ cQ rM (it_X8_passes_107 z11 j_107)]) (ci := 8) (gi := 0) (qi := 0) X (c_X8_later l D cI cZ cQ rM (it_X8_passes_107 z11 j_107) (nI j_107) (((it_X8_passes_107 z11 j_107).2 9) ((29 + (nI j_107) : Int32)).toNatClampNeg) (vn (m := j_107) rfl (by omega) (by decide))) gX8_passes_X8_later rfl hd_X8_later [true] rfl rfl rfl rfl rfl rfl rfl rfl ⟨rfl, rfl⟩ ⟨Nat.le_of_ble_eq_true rfl, Nat.le_of_ble_eq_true rfl⟩ (Nat.le_of_ble_eq_true rfl) ⟨Nat.zero_le _, Nat.zero_le _⟩ dX8_passes_136 ?_
      refine ww_iast (pc := 139) (f := (it_X8_passes_107 z11 j_107).2 9) (ws' := fl [wX8 cI cZ cQ rM (sA (it_X8_passes_107 z11 j_107) 9 (upd ((it_X8_passes_107 z11 j_107).2 9) ((29 + (nI j_107) : Int32)).toNatClampNeg (f_X8_later (it_X8_passes_107 z11 j_107) (nI j_107) (((it_X8_passes_107 z11 j_107).2 9) ((29 + (nI j_107) : Int32)).toNatClampNeg))))]) X 10 0 rfl rfl (vn (m := 29 + j_107) (nat_iadd (a := 29) (b := j_107) rfl rfl) (by omega) (by decide)) (st8a_9 _ _ _ _ _ _) dX8_passes_139 ?_
      refine ww_iinc (pc := 140) (v := (nI j_107) + 1) (lv' := [(1, .int ((nI j_107) + 1)), (0, .ref (rM 0))]) X dX8_passes_140 1 rfl rfl (by decide) rfl ?_
      refine ww_goto (pc := 143) (tgt := 107) X dX8_passes_143 (by decide) ?_
      have h12 : (it_X8_passes_107 z11 (j_107 + 1)) = (sA (it_X8_passes_107 z11 j_107) 9 (upd ((it_X8_passes_107 z11 j_107).2 9) ((29 + (nI j_107) : Int32)).toNatClampNeg (f_X8_later (it_X8_passes_107 z11 j_107) (nI j_107) (((it_X8_passes_107 z11 j_107).2 9) ((29 + (nI j_107) : Int32)).toNatClampNeg)))) := by
        show bd_X8_passes_107  j_107 (it_X8_passes_107 z11 j_107) = _; unfold bd_X8_passes_107; first | done | rfl
      refine ww_lsub [1, 0] rfl ?_
      exact ww_castI (fun u9 : St => fl [wX8 cI cZ cQ rM u9]) (fun (u9 : St) (i9 : Int32) => ([(0, .ref (rM 0)), (1, .int i9)] : List (Nat × Value))) h12 (ih (j_107 + 1) (by omega) K)
  refine ww_lsub [1, 0] rfl ?_
  refine L107 (((z11.2 1) ((4 : Int32)).toNatClampNeg).toNatClampNeg) 0 (by omega) ?_
  generalize hz13 : ((it_X8_passes_107 z11 (((z11.2 1) ((4 : Int32)).toNatClampNeg).toNatClampNeg))) = z13
  refine ww_aload_n (pc := 146) X dX8_passes_146 0 rfl rfl ?_
  refine ww_get (pc := 147) (ci := 8) (v := .ref (rM 10)) (C := RX8) (T := TX8) (N := 27) X inX8_passes_8 0 rfl rfl 11 (by decide) (by decide +kernel) rfl dX8_passes_147 ?_
  refine ww_iconst (pc := 150) (v := 0) X dX8_passes_150 (by decide) ?_
  refine ww_dup2_11 (pc := 151) X dX8_passes_151 rfl rfl ?_
  refine ww_iald (pc := 152) (f := z13.2 9) X 10 0 rfl rfl (vl_in (by decide)) dX8_passes_152 ?_
  refine ww_iconst (pc := 153) (v := 1) X dX8_passes_153 (by decide) ?_
  refine ww_iadd (pc := 154) X dX8_passes_154 ?_
  refine ww_iast (pc := 155) (f := z13.2 9) (ws' := fl [wX8 cI cZ cQ rM (sA z13 9 (upd (z13.2 9) ((0 : Int32)).toNatClampNeg (((z13.2 9) ((0 : Int32)).toNatClampNeg) + 1)))]) X 10 0 rfl rfl (vl_in (by decide)) (st8a_9 _ _ _ _ _ _) dX8_passes_155 ?_
  have h14 : f_X8_passes SM = (sA z13 9 (upd (z13.2 9) ((0 : Int32)).toNatClampNeg (((z13.2 9) ((0 : Int32)).toNatClampNeg) + 1))) := by unfold f_X8_passes; try rw [hz11]; try unfold f_X8_passes_k1; try rw [hz13]; try unfold f_X8_passes_k2; first | done | rfl
  exact ww_vret X hr (congrArg (fun u9 : St => fl [wX8 cI cZ cQ rM u9]) h14.symm) dX8_passes_156
