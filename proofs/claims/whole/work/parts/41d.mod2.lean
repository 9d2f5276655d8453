def bd_X8_year_21_k1 (x1 : Int32) (x2 : Int32) (j : Nat) (u : St) (z3 : St) : St :=
  z3
def bd_X8_year_21 (x1 : Int32) (x2 : Int32) (j : Nat) (u : St) : St :=
  bd_X8_year_21_k1 x1 x2 j u (f_X8_passes u)
def it_X8_year_21 (x1 : Int32) (x2 : Int32) (u : St) : Nat → St
  | 0 => u
  | j + 1 => bd_X8_year_21 x1 x2 j (it_X8_year_21 x1 x2 u j)
def f_X8_year_k2 (SM : St) (x1 : Int32) (z2 : St) (z6 : St) : Int32 × St :=
  ((z6.2 9) ((0 : Int32)).toNatClampNeg, z6)
def f_X8_year_k1 (SM : St) (x1 : Int32) (z2 : St) : Int32 × St :=
  f_X8_year_k2 SM x1 z2 (it_X8_year_21 x1 (f_X8_barred SM x1 300) z2 x1.toNatClampNeg)
def f_X8_year (SM : St) (x1 : Int32) : Int32 × St :=
  if (f_X8_barred SM x1 300) = 0 then
    f_X8_year_k1 SM x1 (f_X8_notes SM)
  else
    (f_X8_barred SM x1 300, SM)
theorem yr_1 (a b : Int32) (u : St) : ∀ j : Nat, (it_X8_year_21 a b u j).2 1 = u.2 1
  | 0 => rfl
  | j + 1 => (yr_1x _).trans (yr_1 a b u j)
theorem inX8_year_8 : ∀ w ∈ wsX80, w ∈ wsX8_year := by decide +kernel
theorem hd_X8_year : yX8_year.cls = RX8 ∧ yX8_year.cls ≠ "java/lang/invoke/MethodHandle" ∧ yX8_year.cls ≠ "java/lang/invoke/VarHandle" ∧ (parseMethodDescriptor yX8_year.desc).map (fun d => d.parameters.length) = some 1 := by decide +kernel
set_option maxHeartbeats 4000000 in
set_option maxRecDepth 100000 in
theorem c_X8_year (l : Launch) (D : va_G) (cI cZ cQ : ClassId) (rM : Nat → Nat) (SM : St) (x1 : Int32) (okm : okM SM) (n0 : ¬ (SM.1 2) < 0) (n1 : SM.1 2 ≤ 20) : Ci l yX8_year wsX8_year { frames := 2, cells := 0, slots := 0, locals := 45 } D (tyL cI cZ cQ) [.ref (rM 0), .int x1] (fl [wX8 cI cZ cQ rM SM]) ((f_X8_year SM x1).1) (fl [wX8 cI cZ cQ rM ((f_X8_year SM x1).2)]) := by
  refine ci_of (cc := cX8_year) (nL := 4) (ty := .int) (lv0 := [(0, .ref (rM 0)), (1, .int x1)]) (by decide) rfl (Nat.le_of_ble_eq_true rfl) rfl ?_
  intro p e s m args below meth c A X hr
  refine ww_aload_n (pc := 0) X dX8_year_0 0 rfl rfl ?_
  refine ww_iload_n (pc := 1) X dX8_year_1 1 rfl rfl ?_
  refine ww_sipush (pc := 2) (v := 300) X dX8_year_2 (by decide) ?_
  refine ww_gVi (pc := 5) (rest := []) (gsN := [wX8 cI cZ cQ rM SM]) (ci := 8) (gi := 0) (qi := 0) X (c_X8_barred l D cI cZ cQ rM SM x1 300) gX8_year_X8_barred rfl hd_X8_barred [true] rfl rfl rfl rfl rfl rfl rfl rfl ⟨rfl, rfl⟩ ⟨Nat.le_of_ble_eq_true rfl, Nat.le_of_ble_eq_true rfl⟩ (Nat.le_of_ble_eq_true rfl) ⟨Nat.zero_le _, Nat.zero_le _⟩ dX8_year_5 ?_
  refine ww_istore_n (pc := 8) (lv' := [(2, .int (f_X8_barred SM x1 300)), (0, .ref (rM 0)), (1, .int x1)]) X dX8_year_8 rfl (by decide) rfl ?_
  refine ww_iload_n (pc := 9) X dX8_year_9 0 rfl rfl ?_
  refine ww_if_eq (pc := 10) (tgt := 15) X dX8_year_10 (by decide) (fun c1 => ?_) (fun c1 => ?_)
  · refine ww_aload_n (pc := 15) X dX8_year_15 1 rfl rfl ?_
    refine ww_gVv (pc := 16) (rest := []) (gsN := [wX8 cI cZ cQ rM (f_X8_notes SM)]) (ci := 8) (gi := 0) (qi := 0) X (c_X8_notes l D cI cZ cQ rM SM (by assumption) (by assumption)) gX8_year_X8_notes rfl hd_X8_notes [true] rfl (acons (ad8 _ _ _ _ _ _) rfl) rfl rfl rfl rfl rfl rfl ⟨rfl, rfl⟩ ⟨Nat.le_of_ble_eq_true rfl, Nat.le_of_ble_eq_true rfl⟩ (Nat.le_of_ble_eq_true rfl) ⟨Nat.zero_le _, Nat.zero_le _⟩ dX8_year_16 ?_
    generalize hz2 : (f_X8_notes SM) = z2
    have okz : okM z2 := okM_of (by rw [← hz2]; exact no_2 _ 1 (by decide)) okm
    refine ww_iconst (pc := 19) (v := 0) X dX8_year_19 (by decide) ?_
    refine ww_istore_n (pc := 20) (lv' := [(3, .int 0), (2, .int (f_X8_barred SM x1 300)), (0, .ref (rM 0)), (1, .int x1)]) X dX8_year_20 rfl (by decide) rfl ?_
    have L21 : ∀ (k_21 j_21 : Nat), j_21 + k_21 = x1.toNatClampNeg → WW p l e (headSpec wsX8_year { frames := 2, cells := 0, slots := 0, locals := 45 }).room s m args below meth c 4 D A 0 0 (RQi below args s D A ((f_X8_year SM x1).1) (fl [wX8 cI cZ cQ rM ((f_X8_year SM x1).2)])) (fl [wX8 cI cZ cQ rM (it_X8_year_21 x1 (f_X8_barred SM x1 300) z2 x1.toNatClampNeg)]) [(0, .ref (rM 0)), (1, .int x1), (2, .int (f_X8_barred SM x1 300)), (3, .int (nI x1.toNatClampNeg))] 36 [] → WW p l e (headSpec wsX8_year { frames := 2, cells := 0, slots := 0, locals := 45 }).room s m args below meth c 4 D A 0 0 (RQi below args s D A ((f_X8_year SM x1).1) (fl [wX8 cI cZ cQ rM ((f_X8_year SM x1).2)])) (fl [wX8 cI cZ cQ rM (it_X8_year_21 x1 (f_X8_barred SM x1 300) z2 j_21)]) [(0, .ref (rM 0)), (1, .int x1), (2, .int (f_X8_barred SM x1 300)), (3, .int (nI j_21))] 21 [] := by
      intro k_21
      induction k_21 with
      | zero =>
        intro j_21 hj K
        have hjB : j_21 = x1.toNatClampNeg := by omega
        subst hjB
        refine ww_iload_n (pc := 21) X dX8_year_21 3 rfl rfl ?_
        refine ww_iload_n (pc := 22) X dX8_year_22 1 rfl rfl ?_
        exact ww_icmp_ge (pc := 23) (tgt := 36) X dX8_year_23 (by decide) (fun _ => K) (fun c9 => absurd (lp_ge0c (Nat.le_refl _) (cl_lt _)) c9)
      | succ k_21 ih =>
        intro j_21 hj K
        have hjB : j_21 < x1.toNatClampNeg := by omega
        refine ww_iload_n (pc := 21) X dX8_year_21 3 rfl rfl ?_
        refine ww_iload_n (pc := 22) X dX8_year_22 1 rfl rfl ?_
        refine ww_icmp_ge (pc := 23) (tgt := 36) X dX8_year_23 (by decide) (fun c9 => absurd c9 (lp_ge1c hjB)) (fun _ => ?_)
        refine ww_aload_n (pc := 26) X dX8_year_26 0 rfl rfl ?_
        refine ww_gVv (pc := 27) (rest := []) (gsN := [wX8 cI cZ cQ rM (f_X8_passes (it_X8_year_21 x1 (f_X8_barred SM x1 300) z2 j_21))]) (ci := 8) (gi := 0) (qi := 0) X (c_X8_passes l D cI cZ cQ rM (it_X8_year_21 x1 (f_X8_barred SM x1 300) z2 j_21) (okM_of (yr_1 _ _ _ _) okz)) gX8_year_X8_passes rfl hd_X8_passes [true] rfl (acons (ad8 _ _ _ _ _ _) rfl) rfl rfl rfl rfl rfl rfl ⟨rfl, rfl⟩ ⟨Nat.le_of_ble_eq_true rfl, Nat.le_of_ble_eq_true rfl⟩ (Nat.le_of_ble_eq_true rfl) ⟨Nat.zero_le _, Nat.zero_le _⟩ dX8_year_27 ?_
        generalize hz4 : (f_X8_passes (it_X8_year_21 x1 (f_X8_barred SM x1 300) z2 j_21)) = z4
        refine ww_iinc (pc := 30) (v := (nI j_21) + 1) (lv' := [(3, .int ((nI j_21) + 1)), (0, .ref (rM 0)), (1, .int x1), (2, .int (f_X8_barred SM x1 300))]) X dX8_year_30 3 rfl rfl (by decide) rfl ?_
        refine ww_goto (pc := 33) (tgt := 21) X dX8_year_33 (by decide) ?_
        have h5 : (it_X8_year_21 x1 (f_X8_barred SM x1 300) z2 (j_21 + 1)) = z4 := by
          show bd_X8_year_21 x1 (f_X8_barred SM x1 300) j_21 (it_X8_year_21 x1 (f_X8_barred SM x1 300) z2 j_21) = _; unfold bd_X8_year_21; try rw [hz4]; try unfold bd_X8_year_21_k1; first | done | rfl
        refine ww_lsub [1, 2, 3, 0] rfl ?_
        exact ww_castI (fun u9 : St => fl [wX8 cI cZ cQ rM u9]) (fun (u9 : St) (i9 : Int32) => ([(0, .ref (rM 0)), (1, .int x1), (2, .int (f_X8_barred SM x1 300)), (3, .int i9)] : List (Nat × Value))) h5 (ih (j_21 + 1) (by omega) K)
    refine ww_lsub [2, 3, 1, 0] rfl ?_
    refine L21 x1.toNatClampNeg 0 (by omega) ?_
    generalize hz6 : ((it_X8_year_21 x1 (f_X8_barred SM x1 300) z2 x1.toNatClampNeg)) = z6
    refine ww_aload_n (pc := 36) X dX8_year_36 0 rfl rfl ?_
    refine ww_get (pc := 37) (ci := 8) (v := .ref (rM 10)) (C := RX8) (T := TX8) (N := 27) X inX8_year_8 0 rfl rfl 11 (by decide) (by decide +kernel) rfl dX8_year_37 ?_
    refine ww_iconst (pc := 40) (v := 0) X dX8_year_40 (by decide) ?_
    refine ww_iald (pc := 41) (f := z6.2 9) X 10 0 rfl rfl (vl_in (by decide)) dX8_year_41 ?_
    have h7 : f_X8_year SM x1 = ((z6.2 9) ((0 : Int32)).toNatClampNeg, z6) := by unfold f_X8_year; try rw [if_pos c1, hz2]; try unfold f_X8_year_k1; try rw [hz6]; try unfold f_X8_year_k2; first | done | rfl
    exact ww_iret X hr rfl (congrArg (fun u9 : Int32 × St => u9.1) h7).symm (congrArg (fun u9 : Int32 × St => fl [wX8 cI cZ cQ rM u9.2]) h7.symm) dX8_year_42
  · refine ww_iload_n (pc := 13) X dX8_year_13 0 rfl rfl ?_
    have h8 : f_X8_year SM x1 = (f_X8_barred SM x1 300, SM) := by unfold f_X8_year; try rw [if_neg c1]; first | done | rfl
    exact ww_iret X hr rfl (congrArg (fun u9 : Int32 × St => u9.1) h8).symm (congrArg (fun u9 : Int32 × St => fl [wX8 cI cZ cQ rM u9.2]) h8.symm) dX8_year_14
