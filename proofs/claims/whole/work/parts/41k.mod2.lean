def bd_X8_drift_20_k1 (x1 : Int32) (x2 : Int32) (j : Nat) (u : St) (z4 : St) : St :=
  z4
def bd_X8_drift_20_k2 (x1 : Int32) (x2 : Int32) (j : Nat) (u : St) (z6 : St) : St :=
  z6
def bd_X8_drift_20_k5 (x1 : Int32) (x2 : Int32) (j : Nat) (u : St) (z7 : Int32 × St) (z8 : Int32 × St) (z11 : St) : St :=
  z11
def bd_X8_drift_20_k6 (x1 : Int32) (x2 : Int32) (j : Nat) (u : St) (z7 : Int32 × St) (z8 : Int32 × St) (z13 : St) : St :=
  z13
def bd_X8_drift_20_k8 (x1 : Int32) (x2 : Int32) (j : Nat) (u : St) (z7 : Int32 × St) (z8 : Int32 × St) (z14 : St) (z15 : St) : St :=
  z15
def bd_X8_drift_20_k7 (x1 : Int32) (x2 : Int32) (j : Nat) (u : St) (z7 : Int32 × St) (z8 : Int32 × St) (z14 : St) : St :=
  bd_X8_drift_20_k8 x1 x2 j u z7 z8 z14 (f_X8_passes z14)
def bd_X8_drift_20_k9 (x1 : Int32) (x2 : Int32) (j : Nat) (u : St) (z7 : Int32 × St) (z8 : Int32 × St) (z18 : St) : St :=
  z18
def bd_X8_drift_20_k10 (x1 : Int32) (x2 : Int32) (j : Nat) (u : St) (z7 : Int32 × St) (z8 : Int32 × St) (z20 : St) : St :=
  z20
def bd_X8_drift_20_k12 (x1 : Int32) (x2 : Int32) (j : Nat) (u : St) (z7 : Int32 × St) (z8 : Int32 × St) (z21 : St) (z22 : St) : St :=
  z22
def bd_X8_drift_20_k11 (x1 : Int32) (x2 : Int32) (j : Nat) (u : St) (z7 : Int32 × St) (z8 : Int32 × St) (z21 : St) : St :=
  bd_X8_drift_20_k12 x1 x2 j u z7 z8 z21 (f_X8_passes z21)
def bd_X8_drift_20_k14 (x1 : Int32) (x2 : Int32) (j : Nat) (u : St) (z7 : Int32 × St) (z8 : Int32 × St) (z23 : St) (z24 : St) : St :=
  z24
def bd_X8_drift_20_k13 (x1 : Int32) (x2 : Int32) (j : Nat) (u : St) (z7 : Int32 × St) (z8 : Int32 × St) (z23 : St) : St :=
  bd_X8_drift_20_k14 x1 x2 j u z7 z8 z23 (f_X8_passes z23)
def bd_X8_drift_20_k4 (x1 : Int32) (x2 : Int32) (j : Nat) (u : St) (z7 : Int32 × St) (z8 : Int32 × St) : St :=
  if ((z8.2.2 1) ((2 : Int32)).toNatClampNeg) ≤ z8.1 then
    if z8.1 < ((z8.2.2 1) ((2 : Int32)).toNatClampNeg) then
      bd_X8_drift_20_k5 x1 x2 j u z7 z8 (f_X8_passes z8.2)
    else
      if (f_X8_isBelow z8.2 z7.1) = 0 then
        bd_X8_drift_20_k6 x1 x2 j u z7 z8 (f_X8_passes z8.2)
      else
        bd_X8_drift_20_k7 x1 x2 j u z7 z8 (f_X8_ascends z8.2 z7.1)
  else
    if (f_X8_isAbove z8.2 z7.1) = 0 then
      if z8.1 < ((z8.2.2 1) ((2 : Int32)).toNatClampNeg) then
        bd_X8_drift_20_k9 x1 x2 j u z7 z8 (f_X8_passes z8.2)
      else
        if (f_X8_isBelow z8.2 z7.1) = 0 then
          bd_X8_drift_20_k10 x1 x2 j u z7 z8 (f_X8_passes z8.2)
        else
          bd_X8_drift_20_k11 x1 x2 j u z7 z8 (f_X8_ascends z8.2 z7.1)
    else
      bd_X8_drift_20_k13 x1 x2 j u z7 z8 (f_X8_descends z8.2 z7.1 z8.1)
def bd_X8_drift_20_k3 (x1 : Int32) (x2 : Int32) (j : Nat) (u : St) (z7 : Int32 × St) : St :=
  bd_X8_drift_20_k4 x1 x2 j u z7 (f_X8_draw z7.2 (((z7.2.2 1) ((2 : Int32)).toNatClampNeg) + 2))
def bd_X8_drift_20 (x1 : Int32) (x2 : Int32) (j : Nat) (u : St) : St :=
  if ((u.2 1) ((2 : Int32)).toNatClampNeg) ≤ 0 then
    bd_X8_drift_20_k1 x1 x2 j u (f_X8_passes u)
  else
    if ((u.2 1) ((3 : Int32)).toNatClampNeg) ≤ 0 then
      bd_X8_drift_20_k2 x1 x2 j u (f_X8_passes u)
    else
      bd_X8_drift_20_k3 x1 x2 j u (f_X8_draw u ((u.2 1) ((3 : Int32)).toNatClampNeg))
def it_X8_drift_20 (x1 : Int32) (x2 : Int32) (u : St) : Nat → St
  | 0 => u
  | j + 1 => bd_X8_drift_20 x1 x2 j (it_X8_drift_20 x1 x2 u j)
def f_X8_drift_k2 (SM : St) (x1 : Int32) (z2 : St) (z56 : St) : Int32 × St :=
  ((z56.2 9) ((0 : Int32)).toNatClampNeg, z56)
def f_X8_drift_k1 (SM : St) (x1 : Int32) (z2 : St) : Int32 × St :=
  f_X8_drift_k2 SM x1 z2 (it_X8_drift_20 x1 (f_X8_barred SM x1 60) z2 x1.toNatClampNeg)
def f_X8_drift (SM : St) (x1 : Int32) : Int32 × St :=
  if (f_X8_barred SM x1 60) = 0 then
    f_X8_drift_k1 SM x1 (f_X8_notes SM)
  else
    (f_X8_barred SM x1 60, SM)
theorem df_1 (a b : Int32) (u : St) : ∀ j : Nat, (it_X8_drift_20 a b u j).2 1 = u.2 1
  | 0 => rfl
  | j + 1 => by
    have ih := df_1 a b u j
    show (bd_X8_drift_20 a b j (it_X8_drift_20 a b u j)).2 1 = _
    rw [← ih]
    generalize it_X8_drift_20 a b u j = v
    unfold bd_X8_drift_20 bd_X8_drift_20_k3 bd_X8_drift_20_k4
    repeat' split
    all_goals exact (yr_1x _).trans rfl
theorem inX8_drift_8 : ∀ w ∈ wsX80, w ∈ wsX8_drift := by decide +kernel
theorem hd_X8_drift : yX8_drift.cls = RX8 ∧ yX8_drift.cls ≠ "java/lang/invoke/MethodHandle" ∧ yX8_drift.cls ≠ "java/lang/invoke/VarHandle" ∧ (parseMethodDescriptor yX8_drift.desc).map (fun d => d.parameters.length) = some 1 := by decide +kernel
set_option maxHeartbeats 4000000 in
set_option maxRecDepth 100000 in
theorem c_X8_drift (l : Launch) (D : va_G) (cI cZ cQ : ClassId) (rM : Nat → Nat) (SM : St) (x1 : Int32) (okm : okM SM) (n0 : ¬ (SM.1 2) < 0) (n1 : SM.1 2 ≤ 20) : Ci l yX8_drift wsX8_drift { frames := 2, cells := 0, slots := 0, locals := 45 } D (tyL cI cZ cQ) [.ref (rM 0), .int x1] (fl [wX8 cI cZ cQ rM SM]) ((f_X8_drift SM x1).1) (fl [wX8 cI cZ cQ rM ((f_X8_drift SM x1).2)]) := by
  refine ci_of (cc := cX8_drift) (nL := 6) (ty := .int) (lv0 := [(0, .ref (rM 0)), (1, .int x1)]) (by decide) rfl (Nat.le_of_ble_eq_true rfl) rfl ?_
  intro p e s m args below meth c A X hr
  refine ww_aload_n (pc := 0) X dX8_drift_0 0 rfl rfl ?_
  refine ww_iload_n (pc := 1) X dX8_drift_1 1 rfl rfl ?_
  refine ww_bipush (pc := 2) (v := 60) X dX8_drift_2 (by decide) ?_
  refine ww_gVi (pc := 4) (rest := []) (gsN := [wX8 cI cZ cQ rM SM]) (ci := 8) (gi := 0) (qi := 0) X (c_X8_barred l D cI cZ cQ rM SM x1 60) gX8_drift_X8_barred rfl hd_X8_barred [true] rfl rfl rfl rfl rfl rfl rfl rfl ⟨rfl, rfl⟩ ⟨Nat.le_of_ble_eq_true rfl, Nat.le_of_ble_eq_true rfl⟩ (Nat.le_of_ble_eq_true rfl) ⟨Nat.zero_le _, Nat.zero_le _⟩ dX8_drift_4 ?_
  refine ww_istore_n (pc := 7) (lv' := [(2, .int (f_X8_barred SM x1 60)), (0, .ref (rM 0)), (1, .int x1)]) X dX8_drift_7 rfl (by decide) rfl ?_
  refine ww_iload_n (pc := 8) X dX8_drift_8 0 rfl rfl ?_
  refine ww_if_eq (pc := 9) (tgt := 14) X dX8_drift_9 (by decide) (fun c1 => ?_) (fun c1 => ?_)
  · refine ww_aload_n (pc := 14) X dX8_drift_14 1 rfl rfl ?_
    refine ww_gVv (pc := 15) (rest := []) (gsN := [wX8 cI cZ cQ rM (f_X8_notes SM)]) (ci := 8) (gi := 0) (qi := 0) X (c_X8_notes l D cI cZ cQ rM SM (by assumption) (by assumption)) gX8_drift_X8_notes rfl hd_X8_notes [true] rfl (acons (ad8 _ _ _ _ _ _) rfl) rfl rfl rfl rfl rfl rfl ⟨rfl, rfl⟩ ⟨Nat.le_of_ble_eq_true rfl, Nat.le_of_ble_eq_true rfl⟩ (Nat.le_of_ble_eq_true rfl) ⟨Nat.zero_le _, Nat.zero_le _⟩ dX8_drift_15 ?_
    generalize hz2 : (f_X8_notes SM) = z2
    have okz : okM z2 := okM_of (by rw [← hz2]; exact no_2 _ 1 (by decide)) okm
    refine ww_iconst (pc := 18) (v := 0) X dX8_drift_18 (by decide) ?_
    refine ww_istore_n (pc := 19) (lv' := [(3, .int 0), (2, .int (f_X8_barred SM x1 60)), (0, .ref (rM 0)), (1, .int x1)]) X dX8_drift_19 rfl (by decide) rfl ?_
    have L20 : ∀ (k_20 j_20 : Nat), j_20 + k_20 = x1.toNatClampNeg → WW p l e (headSpec wsX8_drift { frames := 2, cells := 0, slots := 0, locals := 45 }).room s m args below meth c 6 D A 0 0 (RQi below args s D A ((f_X8_drift SM x1).1) (fl [wX8 cI cZ cQ rM ((f_X8_drift SM x1).2)])) (fl [wX8 cI cZ cQ rM (it_X8_drift_20 x1 (f_X8_barred SM x1 60) z2 x1.toNatClampNeg)]) [(0, .ref (rM 0)), (1, .int x1), (2, .int (f_X8_barred SM x1 60)), (3, .int (nI x1.toNatClampNeg))] 136 [] → WW p l e (headSpec wsX8_drift { frames := 2, cells := 0, slots := 0, locals := 45 }).room s m args below meth c 6 D A 0 0 (RQi below args s D A ((f_X8_drift SM x1).1) (fl [wX8 cI cZ cQ rM ((f_X8_drift SM x1).2)])) (fl [wX8 cI cZ cQ rM (it_X8_drift_20 x1 (f_X8_barred SM x1 60) z2 j_20)]) [(0, .ref (rM 0)), (1, .int x1), (2, .int (f_X8_barred SM x1 60)), (3, .int (nI j_20))] 20 [] := by
      intro k_20
      induction k_20 with
      | zero =>
        intro j_20 hj K
        have hjB : j_20 = x1.toNatClampNeg := by omega
        subst hjB
        refine ww_iload_n (pc := 20) X dX8_drift_20 3 rfl rfl ?_
        refine ww_iload_n (pc := 21) X dX8_drift_21 1 rfl rfl ?_
        exact ww_icmp_ge (pc := 22) (tgt := 136) X dX8_drift_22 (by decide) (fun _ => K) (fun c9 => absurd (lp_ge0c (Nat.le_refl _) (cl_lt _)) c9)
      | succ k_20 ih =>
        intro j_20 hj K
        have hjB : j_20 < x1.toNatClampNeg := by omega
        have okJ : okM (it_X8_drift_20 x1 (f_X8_barred SM x1 60) z2 j_20) := okM_of (df_1 _ _ _ _) okz
        refine ww_iload_n (pc := 20) X dX8_drift_20 3 rfl rfl ?_
        refine ww_iload_n (pc := 21) X dX8_drift_21 1 rfl rfl ?_
        refine ww_icmp_ge (pc := 22) (tgt := 136) X dX8_drift_22 (by decide) (fun c9 => absurd c9 (lp_ge1c hjB)) (fun _ => ?_)
        refine ww_aload_n (pc := 25) X dX8_drift_25 0 rfl rfl ?_
        refine ww_get (pc := 26) (ci := 8) (v := .ref (rM 2)) (C := RX8) (T := TX8) (N := 27) X inX8_drift_8 0 rfl rfl 3 (by decide) (by decide +kernel) rfl dX8_drift_26 ?_
        refine ww_iconst (pc := 29) (v := 2) X dX8_drift_29 (by decide) ?_
        refine ww_iald (pc := 30) (f := (it_X8_drift_20 x1 (f_X8_barred SM x1 60) z2 j_20).2 1) X 2 0 rfl rfl (vl_in (by decide)) dX8_drift_30 ?_
        refine ww_if_le (pc := 31) (tgt := 126) X dX8_drift_31 (by decide) (fun c25 => ?_) (fun c25 => ?_)
        · refine ww_aload_n (pc := 126) X dX8_drift_126 0 rfl rfl ?_
          refine ww_gVv (pc := 127) (rest := []) (gsN := [wX8 cI cZ cQ rM (f_X8_passes (it_X8_drift_20 x1 (f_X8_barred SM x1 60) z2 j_20))]) (ci := 8) (gi := 0) (qi := 0) X (c_X8_passes l D cI cZ cQ rM (it_X8_drift_20 x1 (f_X8_barred SM x1 60) z2 j_20) (by subst_vars; exact okM_of rfl okJ)) gX8_drift_X8_passes rfl hd_X8_passes [true] rfl (acons (ad8 _ _ _ _ _ _) rfl) rfl rfl rfl rfl rfl rfl ⟨rfl, rfl⟩ ⟨Nat.le_of_ble_eq_true rfl, Nat.le_of_ble_eq_true rfl⟩ (Nat.le_of_ble_eq_true rfl) ⟨Nat.zero_le _, Nat.zero_le _⟩ dX8_drift_127 ?_
          generalize hz26 : (f_X8_passes (it_X8_drift_20 x1 (f_X8_barred SM x1 60) z2 j_20)) = z26
          refine ww_iinc (pc := 130) (v := (nI j_20) + 1) (lv' := [(3, .int ((nI j_20) + 1)), (0, .ref (rM 0)), (1, .int x1), (2, .int (f_X8_barred SM x1 60))]) X dX8_drift_130 3 rfl rfl (by decide) rfl ?_
          refine ww_goto (pc := 133) (tgt := 20) X dX8_drift_133 (by decide) ?_
          have h27 : (it_X8_drift_20 x1 (f_X8_barred SM x1 60) z2 (j_20 + 1)) = z26 := by
            show bd_X8_drift_20 x1 (f_X8_barred SM x1 60) j_20 (it_X8_drift_20 x1 (f_X8_barred SM x1 60) z2 j_20) = _; unfold bd_X8_drift_20; try rw [if_pos c25, hz26]; try unfold bd_X8_drift_20_k1; first | done | rfl
          refine ww_lsub [1, 2, 3, 0] rfl ?_
          exact ww_castI (fun u9 : St => fl [wX8 cI cZ cQ rM u9]) (fun (u9 : St) (i9 : Int32) => ([(0, .ref (rM 0)), (1, .int x1), (2, .int (f_X8_barred SM x1 60)), (3, .int i9)] : List (Nat × Value))) h27 (ih (j_20 + 1) (by omega) K)
        · refine ww_aload_n (pc := 34) X dX8_drift_34 0 rfl rfl ?_
          refine ww_get (pc := 35) (ci := 8) (v := .ref (rM 2)) (C := RX8) (T := TX8) (N := 27) X inX8_drift_8 0 rfl rfl 3 (by decide) (by decide +kernel) rfl dX8_drift_35 ?_
          refine ww_iconst (pc := 38) (v := 3) X dX8_drift_38 (by decide) ?_
          refine ww_iald (pc := 39) (f := (it_X8_drift_20 x1 (f_X8_barred SM x1 60) z2 j_20).2 1) X 2 0 rfl rfl (vl_in (by decide)) dX8_drift_39 ?_
          refine ww_if_le (pc := 40) (tgt := 126) X dX8_drift_40 (by decide) (fun c28 => ?_) (fun c28 => ?_)
          · refine ww_aload_n (pc := 126) X dX8_drift_126 0 rfl rfl ?_
            refine ww_gVv (pc := 127) (rest := []) (gsN := [wX8 cI cZ cQ rM (f_X8_passes (it_X8_drift_20 x1 (f_X8_barred SM x1 60) z2 j_20))]) (ci := 8) (gi := 0) (qi := 0) X (c_X8_passes l D cI cZ cQ rM (it_X8_drift_20 x1 (f_X8_barred SM x1 60) z2 j_20) (by subst_vars; exact okM_of rfl okJ)) gX8_drift_X8_passes rfl hd_X8_passes [true] rfl (acons (ad8 _ _ _ _ _ _) rfl) rfl rfl rfl rfl rfl rfl ⟨rfl, rfl⟩ ⟨Nat.le_of_ble_eq_true rfl, Nat.le_of_ble_eq_true rfl⟩ (Nat.le_of_ble_eq_true rfl) ⟨Nat.zero_le _, Nat.zero_le _⟩ dX8_drift_127 ?_
            generalize hz29 : (f_X8_passes (it_X8_drift_20 x1 (f_X8_barred SM x1 60) z2 j_20)) = z29
            refine ww_iinc (pc := 130) (v := (nI j_20) + 1) (lv' := [(3, .int ((nI j_20) + 1)), (0, .ref (rM 0)), (1, .int x1), (2, .int (f_X8_barred SM x1 60))]) X dX8_drift_130 3 rfl rfl (by decide) rfl ?_
            refine ww_goto (pc := 133) (tgt := 20) X dX8_drift_133 (by decide) ?_
            have h30 : (it_X8_drift_20 x1 (f_X8_barred SM x1 60) z2 (j_20 + 1)) = z29 := by
              show bd_X8_drift_20 x1 (f_X8_barred SM x1 60) j_20 (it_X8_drift_20 x1 (f_X8_barred SM x1 60) z2 j_20) = _; unfold bd_X8_drift_20; try rw [if_neg c25, if_pos c28, hz29]; try unfold bd_X8_drift_20_k2; first | done | rfl
            refine ww_lsub [1, 2, 3, 0] rfl ?_
            exact ww_castI (fun u9 : St => fl [wX8 cI cZ cQ rM u9]) (fun (u9 : St) (i9 : Int32) => ([(0, .ref (rM 0)), (1, .int x1), (2, .int (f_X8_barred SM x1 60)), (3, .int i9)] : List (Nat × Value))) h30 (ih (j_20 + 1) (by omega) K)
          · refine ww_aload_n (pc := 43) X dX8_drift_43 0 rfl rfl ?_
            refine ww_aload_n (pc := 44) X dX8_drift_44 0 rfl rfl ?_
            refine ww_get (pc := 45) (ci := 8) (v := .ref (rM 2)) (C := RX8) (T := TX8) (N := 27) X inX8_drift_8 0 rfl rfl 3 (by decide) (by decide +kernel) rfl dX8_drift_45 ?_
            refine ww_iconst (pc := 48) (v := 3) X dX8_drift_48 (by decide) ?_
            refine ww_iald (pc := 49) (f := (it_X8_drift_20 x1 (f_X8_barred SM x1 60) z2 j_20).2 1) X 2 0 rfl rfl (vl_in (by decide)) dX8_drift_49 ?_
            refine ww_gVi (pc := 50) (rest := []) (gsN := [wX8 cI cZ cQ rM ((f_X8_draw (it_X8_drift_20 x1 (f_X8_barred SM x1 60) z2 j_20) (((it_X8_drift_20 x1 (f_X8_barred SM x1 60) z2 j_20).2 1) ((3 : Int32)).toNatClampNeg)).2)]) (ci := 8) (gi := 0) (qi := 0) X (c_X8_draw l D cI cZ cQ rM (it_X8_drift_20 x1 (f_X8_barred SM x1 60) z2 j_20) (((it_X8_drift_20 x1 (f_X8_barred SM x1 60) z2 j_20).2 1) ((3 : Int32)).toNatClampNeg) (ne_nle c28)) gX8_drift_X8_draw rfl hd_X8_draw [true] rfl (acons (ad8 _ _ _ _ _ _) rfl) rfl rfl rfl rfl rfl rfl ⟨rfl, rfl⟩ ⟨Nat.le_of_ble_eq_true rfl, Nat.le_of_ble_eq_true rfl⟩ (Nat.le_of_ble_eq_true rfl) ⟨Nat.zero_le _, Nat.zero_le _⟩ dX8_drift_50 ?_
            generalize hz31 : (f_X8_draw (it_X8_drift_20 x1 (f_X8_barred SM x1 60) z2 j_20) (((it_X8_drift_20 x1 (f_X8_barred SM x1 60) z2 j_20).2 1) ((3 : Int32)).toNatClampNeg)) = z31
            refine ww_istore (pc := 53) (lv' := [(4, .int z31.1), (0, .ref (rM 0)), (1, .int x1), (2, .int (f_X8_barred SM x1 60)), (3, .int (nI j_20))]) X dX8_drift_53 (by decide) rfl ?_
            have hpv := dr_in hz31 c28 okJ.2.1.2
            refine ww_aload_n (pc := 55) X dX8_drift_55 1 rfl rfl ?_
            refine ww_aload_n (pc := 56) X dX8_drift_56 1 rfl rfl ?_
            refine ww_get (pc := 57) (ci := 8) (v := .ref (rM 2)) (C := RX8) (T := TX8) (N := 27) X inX8_drift_8 0 rfl rfl 3 (by decide) (by decide +kernel) rfl dX8_drift_57 ?_
            refine ww_iconst (pc := 60) (v := 2) X dX8_drift_60 (by decide) ?_
            refine ww_iald (pc := 61) (f := z31.2.2 1) X 2 0 rfl rfl (vl_in (by decide)) dX8_drift_61 ?_
            refine ww_iconst (pc := 62) (v := 2) X dX8_drift_62 (by decide) ?_
            refine ww_iadd (pc := 63) X dX8_drift_63 ?_
            refine ww_gVi (pc := 64) (rest := []) (gsN := [wX8 cI cZ cQ rM ((f_X8_draw z31.2 (((z31.2.2 1) ((2 : Int32)).toNatClampNeg) + 2)).2)]) (ci := 8) (gi := 0) (qi := 0) X (c_X8_draw l D cI cZ cQ rM z31.2 (((z31.2.2 1) ((2 : Int32)).toNatClampNeg) + 2) (dr_n hz31 okJ)) gX8_drift_X8_draw rfl hd_X8_draw [true] rfl (acons (ad8 _ _ _ _ _ _) rfl) rfl rfl rfl rfl rfl rfl ⟨rfl, rfl⟩ ⟨Nat.le_of_ble_eq_true rfl, Nat.le_of_ble_eq_true rfl⟩ (Nat.le_of_ble_eq_true rfl) ⟨Nat.zero_le _, Nat.zero_le _⟩ dX8_drift_64 ?_
            generalize hz32 : (f_X8_draw z31.2 (((z31.2.2 1) ((2 : Int32)).toNatClampNeg) + 2)) = z32
            refine ww_istore (pc := 67) (lv' := [(5, .int z32.1), (4, .int z31.1), (0, .ref (rM 0)), (1, .int x1), (2, .int (f_X8_barred SM x1 60)), (3, .int (nI j_20))]) X dX8_drift_67 (by decide) rfl ?_
            refine ww_iload (pc := 69) X dX8_drift_69 0 rfl ?_
            refine ww_aload_n (pc := 71) X dX8_drift_71 2 rfl rfl ?_
            refine ww_get (pc := 72) (ci := 8) (v := .ref (rM 2)) (C := RX8) (T := TX8) (N := 27) X inX8_drift_8 0 rfl rfl 3 (by decide) (by decide +kernel) rfl dX8_drift_72 ?_
            refine ww_iconst (pc := 75) (v := 2) X dX8_drift_75 (by decide) ?_
            refine ww_iald (pc := 76) (f := z32.2.2 1) X 2 0 rfl rfl (vl_in (by decide)) dX8_drift_76 ?_
            refine ww_icmp_ge (pc := 77) (tgt := 100) X dX8_drift_77 (by decide) (fun c33 => ?_) (fun c33 => ?_)
            · refine ww_iload (pc := 100) X dX8_drift_100 0 rfl ?_
              refine ww_aload_n (pc := 102) X dX8_drift_102 2 rfl rfl ?_
              refine ww_get (pc := 103) (ci := 8) (v := .ref (rM 2)) (C := RX8) (T := TX8) (N := 27) X inX8_drift_8 0 rfl rfl 3 (by decide) (by decide +kernel) rfl dX8_drift_103 ?_
              refine ww_iconst (pc := 106) (v := 2) X dX8_drift_106 (by decide) ?_
              refine ww_iald (pc := 107) (f := z32.2.2 1) X 2 0 rfl rfl (vl_in (by decide)) dX8_drift_107 ?_
              refine ww_icmp_lt (pc := 108) (tgt := 126) X dX8_drift_108 (by decide) (fun c34 => ?_) (fun c34 => ?_)
              · refine ww_aload_n (pc := 126) X dX8_drift_126 2 rfl rfl ?_
                refine ww_gVv (pc := 127) (rest := []) (gsN := [wX8 cI cZ cQ rM (f_X8_passes z32.2)]) (ci := 8) (gi := 0) (qi := 0) X (c_X8_passes l D cI cZ cQ rM z32.2 (by subst_vars; exact okM_of rfl okJ)) gX8_drift_X8_passes rfl hd_X8_passes [true] rfl (acons (ad8 _ _ _ _ _ _) rfl) rfl rfl rfl rfl rfl rfl ⟨rfl, rfl⟩ ⟨Nat.le_of_ble_eq_true rfl, Nat.le_of_ble_eq_true rfl⟩ (Nat.le_of_ble_eq_true rfl) ⟨Nat.zero_le _, Nat.zero_le _⟩ dX8_drift_127 ?_
                generalize hz35 : (f_X8_passes z32.2) = z35
                refine ww_iinc (pc := 130) (v := (nI j_20) + 1) (lv' := [(3, .int ((nI j_20) + 1)), (5, .int z32.1), (4, .int z31.1), (0, .ref (rM 0)), (1, .int x1), (2, .int (f_X8_barred SM x1 60))]) X dX8_drift_130 5 rfl rfl (by decide) rfl ?_
                refine ww_goto (pc := 133) (tgt := 20) X dX8_drift_133 (by decide) ?_
                have h36 : (it_X8_drift_20 x1 (f_X8_barred SM x1 60) z2 (j_20 + 1)) = z35 := by
                  show bd_X8_drift_20 x1 (f_X8_barred SM x1 60) j_20 (it_X8_drift_20 x1 (f_X8_barred SM x1 60) z2 j_20) = _; unfold bd_X8_drift_20; try rw [if_neg c25, if_neg c28, hz31]; try unfold bd_X8_drift_20_k3; try rw [hz32]; try unfold bd_X8_drift_20_k4; try rw [if_pos c33, if_pos c34, hz35]; try unfold bd_X8_drift_20_k5; first | done | rfl
                refine ww_lsub [3, 4, 5, 0] rfl ?_
                exact ww_castI (fun u9 : St => fl [wX8 cI cZ cQ rM u9]) (fun (u9 : St) (i9 : Int32) => ([(0, .ref (rM 0)), (1, .int x1), (2, .int (f_X8_barred SM x1 60)), (3, .int i9)] : List (Nat × Value))) h36 (ih (j_20 + 1) (by omega) K)
              · refine ww_aload_n (pc := 111) X dX8_drift_111 2 rfl rfl ?_
                refine ww_iload (pc := 112) X dX8_drift_112 1 rfl ?_
                refine ww_gVi (pc := 114) (rest := []) (gsN := [wX8 cI cZ cQ rM z32.2]) (ci := 8) (gi := 0) (qi := 0) X (c_X8_isBelow l D cI cZ cQ rM z32.2 z31.1 (by assumption)) gX8_drift_X8_isBelow rfl hd_X8_isBelow [true] rfl rfl rfl rfl rfl rfl rfl rfl ⟨rfl, rfl⟩ ⟨Nat.le_of_ble_eq_true rfl, Nat.le_of_ble_eq_true rfl⟩ (Nat.le_of_ble_eq_true rfl) ⟨Nat.zero_le _, Nat.zero_le _⟩ dX8_drift_114 ?_
                refine ww_if_eq (pc := 117) (tgt := 126) X dX8_drift_117 (by decide) (fun c37 => ?_) (fun c37 => ?_)
                · refine ww_aload_n (pc := 126) X dX8_drift_126 2 rfl rfl ?_
                  refine ww_gVv (pc := 127) (rest := []) (gsN := [wX8 cI cZ cQ rM (f_X8_passes z32.2)]) (ci := 8) (gi := 0) (qi := 0) X (c_X8_passes l D cI cZ cQ rM z32.2 (by subst_vars; exact okM_of rfl okJ)) gX8_drift_X8_passes rfl hd_X8_passes [true] rfl (acons (ad8 _ _ _ _ _ _) rfl) rfl rfl rfl rfl rfl rfl ⟨rfl, rfl⟩ ⟨Nat.le_of_ble_eq_true rfl, Nat.le_of_ble_eq_true rfl⟩ (Nat.le_of_ble_eq_true rfl) ⟨Nat.zero_le _, Nat.zero_le _⟩ dX8_drift_127 ?_
                  generalize hz38 : (f_X8_passes z32.2) = z38
                  refine ww_iinc (pc := 130) (v := (nI j_20) + 1) (lv' := [(3, .int ((nI j_20) + 1)), (5, .int z32.1), (4, .int z31.1), (0, .ref (rM 0)), (1, .int x1), (2, .int (f_X8_barred SM x1 60))]) X dX8_drift_130 5 rfl rfl (by decide) rfl ?_
                  refine ww_goto (pc := 133) (tgt := 20) X dX8_drift_133 (by decide) ?_
                  have h39 : (it_X8_drift_20 x1 (f_X8_barred SM x1 60) z2 (j_20 + 1)) = z38 := by
                    show bd_X8_drift_20 x1 (f_X8_barred SM x1 60) j_20 (it_X8_drift_20 x1 (f_X8_barred SM x1 60) z2 j_20) = _; unfold bd_X8_drift_20; try rw [if_neg c25, if_neg c28, hz31]; try unfold bd_X8_drift_20_k3; try rw [hz32]; try unfold bd_X8_drift_20_k4; try rw [if_pos c33, if_neg c34, if_pos c37, hz38]; try unfold bd_X8_drift_20_k6; first | done | rfl
                  refine ww_lsub [3, 4, 5, 0] rfl ?_
                  exact ww_castI (fun u9 : St => fl [wX8 cI cZ cQ rM u9]) (fun (u9 : St) (i9 : Int32) => ([(0, .ref (rM 0)), (1, .int x1), (2, .int (f_X8_barred SM x1 60)), (3, .int i9)] : List (Nat × Value))) h39 (ih (j_20 + 1) (by omega) K)
                · refine ww_aload_n (pc := 120) X dX8_drift_120 2 rfl rfl ?_
                  refine ww_iload (pc := 121) X dX8_drift_121 1 rfl ?_
                  refine ww_gVv (pc := 123) (rest := []) (gsN := [wX8 cI cZ cQ rM (f_X8_ascends z32.2 z31.1)]) (ci := 8) (gi := 0) (qi := 0) X (c_X8_ascends l D cI cZ cQ rM z32.2 z31.1 (by assumption)) gX8_drift_X8_ascends rfl hd_X8_ascends [true] rfl (acons (ad8 _ _ _ _ _ _) rfl) rfl rfl rfl rfl rfl rfl ⟨rfl, rfl⟩ ⟨Nat.le_of_ble_eq_true rfl, Nat.le_of_ble_eq_true rfl⟩ (Nat.le_of_ble_eq_true rfl) ⟨Nat.zero_le _, Nat.zero_le _⟩ dX8_drift_123 ?_
                  generalize hz40 : (f_X8_ascends z32.2 z31.1) = z40
                  refine ww_aload_n (pc := 126) X dX8_drift_126 2 rfl rfl ?_
                  refine ww_gVv (pc := 127) (rest := []) (gsN := [wX8 cI cZ cQ rM (f_X8_passes z40)]) (ci := 8) (gi := 0) (qi := 0) X (c_X8_passes l D cI cZ cQ rM z40 (by subst_vars; exact okM_of rfl okJ)) gX8_drift_X8_passes rfl hd_X8_passes [true] rfl (acons (ad8 _ _ _ _ _ _) rfl) rfl rfl rfl rfl rfl rfl ⟨rfl, rfl⟩ ⟨Nat.le_of_ble_eq_true rfl, Nat.le_of_ble_eq_true rfl⟩ (Nat.le_of_ble_eq_true rfl) ⟨Nat.zero_le _, Nat.zero_le _⟩ dX8_drift_127 ?_
                  generalize hz41 : (f_X8_passes z40) = z41
                  refine ww_iinc (pc := 130) (v := (nI j_20) + 1) (lv' := [(3, .int ((nI j_20) + 1)), (5, .int z32.1), (4, .int z31.1), (0, .ref (rM 0)), (1, .int x1), (2, .int (f_X8_barred SM x1 60))]) X dX8_drift_130 5 rfl rfl (by decide) rfl ?_
                  refine ww_goto (pc := 133) (tgt := 20) X dX8_drift_133 (by decide) ?_
                  have h42 : (it_X8_drift_20 x1 (f_X8_barred SM x1 60) z2 (j_20 + 1)) = z41 := by
                    show bd_X8_drift_20 x1 (f_X8_barred SM x1 60) j_20 (it_X8_drift_20 x1 (f_X8_barred SM x1 60) z2 j_20) = _; unfold bd_X8_drift_20; try rw [if_neg c25, if_neg c28, hz31]; try unfold bd_X8_drift_20_k3; try rw [hz32]; try unfold bd_X8_drift_20_k4; try rw [if_pos c33, if_neg c34, if_neg c37, hz40]; try unfold bd_X8_drift_20_k7; try rw [hz41]; try unfold bd_X8_drift_20_k8; first | done | rfl
                  refine ww_lsub [3, 4, 5, 0] rfl ?_
                  exact ww_castI (fun u9 : St => fl [wX8 cI cZ cQ rM u9]) (fun (u9 : St) (i9 : Int32) => ([(0, .ref (rM 0)), (1, .int x1), (2, .int (f_X8_barred SM x1 60)), (3, .int i9)] : List (Nat × Value))) h42 (ih (j_20 + 1) (by omega) K)
            · refine ww_aload_n (pc := 80) X dX8_drift_80 2 rfl rfl ?_
              refine ww_iload (pc := 81) X dX8_drift_81 1 rfl ?_
              refine ww_gVi (pc := 83) (rest := []) (gsN := [wX8 cI cZ cQ rM z32.2]) (ci := 8) (gi := 0) (qi := 0) X (c_X8_isAbove l D cI cZ cQ rM z32.2 z31.1 (by assumption)) gX8_drift_X8_isAbove rfl hd_X8_isAbove [true] rfl rfl rfl rfl rfl rfl rfl rfl ⟨rfl, rfl⟩ ⟨Nat.le_of_ble_eq_true rfl, Nat.le_of_ble_eq_true rfl⟩ (Nat.le_of_ble_eq_true rfl) ⟨Nat.zero_le _, Nat.zero_le _⟩ dX8_drift_83 ?_
              refine ww_if_eq (pc := 86) (tgt := 100) X dX8_drift_86 (by decide) (fun c43 => ?_) (fun c43 => ?_)
              · refine ww_iload (pc := 100) X dX8_drift_100 0 rfl ?_
                refine ww_aload_n (pc := 102) X dX8_drift_102 2 rfl rfl ?_
                refine ww_get (pc := 103) (ci := 8) (v := .ref (rM 2)) (C := RX8) (T := TX8) (N := 27) X inX8_drift_8 0 rfl rfl 3 (by decide) (by decide +kernel) rfl dX8_drift_103 ?_
                refine ww_iconst (pc := 106) (v := 2) X dX8_drift_106 (by decide) ?_
                refine ww_iald (pc := 107) (f := z32.2.2 1) X 2 0 rfl rfl (vl_in (by decide)) dX8_drift_107 ?_
                refine ww_icmp_lt (pc := 108) (tgt := 126) X dX8_drift_108 (by decide) (fun c44 => ?_) (fun c44 => ?_)
                · refine ww_aload_n (pc := 126) X dX8_drift_126 2 rfl rfl ?_
                  refine ww_gVv (pc := 127) (rest := []) (gsN := [wX8 cI cZ cQ rM (f_X8_passes z32.2)]) (ci := 8) (gi := 0) (qi := 0) X (c_X8_passes l D cI cZ cQ rM z32.2 (by subst_vars; exact okM_of rfl okJ)) gX8_drift_X8_passes rfl hd_X8_passes [true] rfl (acons (ad8 _ _ _ _ _ _) rfl) rfl rfl rfl rfl rfl rfl ⟨rfl, rfl⟩ ⟨Nat.le_of_ble_eq_true rfl, Nat.le_of_ble_eq_true rfl⟩ (Nat.le_of_ble_eq_true rfl) ⟨Nat.zero_le _, Nat.zero_le _⟩ dX8_drift_127 ?_
                  generalize hz45 : (f_X8_passes z32.2) = z45
                  refine ww_iinc (pc := 130) (v := (nI j_20) + 1) (lv' := [(3, .int ((nI j_20) + 1)), (5, .int z32.1), (4, .int z31.1), (0, .ref (rM 0)), (1, .int x1), (2, .int (f_X8_barred SM x1 60))]) X dX8_drift_130 5 rfl rfl (by decide) rfl ?_
                  refine ww_goto (pc := 133) (tgt := 20) X dX8_drift_133 (by decide) ?_
                  have h46 : (it_X8_drift_20 x1 (f_X8_barred SM x1 60) z2 (j_20 + 1)) = z45 := by
                    show bd_X8_drift_20 x1 (f_X8_barred SM x1 60) j_20 (it_X8_drift_20 x1 (f_X8_barred SM x1 60) z2 j_20) = _; unfold bd_X8_drift_20; try rw [if_neg c25, if_neg c28, hz31]; try unfold bd_X8_drift_20_k3; try rw [hz32]; try unfold bd_X8_drift_20_k4; try rw [if_neg c33, if_pos c43, if_pos c44, hz45]; try unfold bd_X8_drift_20_k9; first | done | rfl
                  refine ww_lsub [3, 4, 5, 0] rfl ?_
                  exact ww_castI (fun u9 : St => fl [wX8 cI cZ cQ rM u9]) (fun (u9 : St) (i9 : Int32) => ([(0, .ref (rM 0)), (1, .int x1), (2, .int (f_X8_barred SM x1 60)), (3, .int i9)] : List (Nat × Value))) h46 (ih (j_20 + 1) (by omega) K)
                · refine ww_aload_n (pc := 111) X dX8_drift_111 2 rfl rfl ?_
                  refine ww_iload (pc := 112) X dX8_drift_112 1 rfl ?_
                  refine ww_gVi (pc := 114) (rest := []) (gsN := [wX8 cI cZ cQ rM z32.2]) (ci := 8) (gi := 0) (qi := 0) X (c_X8_isBelow l D cI cZ cQ rM z32.2 z31.1 (by assumption)) gX8_drift_X8_isBelow rfl hd_X8_isBelow [true] rfl rfl rfl rfl rfl rfl rfl rfl ⟨rfl, rfl⟩ ⟨Nat.le_of_ble_eq_true rfl, Nat.le_of_ble_eq_true rfl⟩ (Nat.le_of_ble_eq_true rfl) ⟨Nat.zero_le _, Nat.zero_le _⟩ dX8_drift_114 ?_
                  refine ww_if_eq (pc := 117) (tgt := 126) X dX8_drift_117 (by decide) (fun c47 => ?_) (fun c47 => ?_)
                  · refine ww_aload_n (pc := 126) X dX8_drift_126 2 rfl rfl ?_
                    refine ww_gVv (pc := 127) (rest := []) (gsN := [wX8 cI cZ cQ rM (f_X8_passes z32.2)]) (ci := 8) (gi := 0) (qi := 0) X (c_X8_passes l D cI cZ cQ rM z32.2 (by subst_vars; exact okM_of rfl okJ)) gX8_drift_X8_passes rfl hd_X8_passes [true] rfl (acons (ad8 _ _ _ _ _ _) rfl) rfl rfl rfl rfl rfl rfl ⟨rfl, rfl⟩ ⟨Nat.le_of_ble_eq_true rfl, Nat.le_of_ble_eq_true rfl⟩ (Nat.le_of_ble_eq_true rfl) ⟨Nat.zero_le _, Nat.zero_le _⟩ dX8_drift_127 ?_
                    generalize hz48 : (f_X8_passes z32.2) = z48
                    refine ww_iinc (pc := 130) (v := (nI j_20) + 1) (lv' := [(3, .int ((nI j_20) + 1)), (5, .int z32.1), (4, .int z31.1), (0, .ref (rM 0)), (1, .int x1), (2, .int (f_X8_barred SM x1 60))]) X dX8_drift_130 5 rfl rfl (by decide) rfl ?_
                    refine ww_goto (pc := 133) (tgt := 20) X dX8_drift_133 (by decide) ?_
                    have h49 : (it_X8_drift_20 x1 (f_X8_barred SM x1 60) z2 (j_20 + 1)) = z48 := by
                      show bd_X8_drift_20 x1 (f_X8_barred SM x1 60) j_20 (it_X8_drift_20 x1 (f_X8_barred SM x1 60) z2 j_20) = _; unfold bd_X8_drift_20; try rw [if_neg c25, if_neg c28, hz31]; try unfold bd_X8_drift_20_k3; try rw [hz32]; try unfold bd_X8_drift_20_k4; try rw [if_neg c33, if_pos c43, if_neg c44, if_pos c47, hz48]; try unfold bd_X8_drift_20_k10; first | done | rfl
                    refine ww_lsub [3, 4, 5, 0] rfl ?_
                    exact ww_castI (fun u9 : St => fl [wX8 cI cZ cQ rM u9]) (fun (u9 : St) (i9 : Int32) => ([(0, .ref (rM 0)), (1, .int x1), (2, .int (f_X8_barred SM x1 60)), (3, .int i9)] : List (Nat × Value))) h49 (ih (j_20 + 1) (by omega) K)
                  · refine ww_aload_n (pc := 120) X dX8_drift_120 2 rfl rfl ?_
                    refine ww_iload (pc := 121) X dX8_drift_121 1 rfl ?_
                    refine ww_gVv (pc := 123) (rest := []) (gsN := [wX8 cI cZ cQ rM (f_X8_ascends z32.2 z31.1)]) (ci := 8) (gi := 0) (qi := 0) X (c_X8_ascends l D cI cZ cQ rM z32.2 z31.1 (by assumption)) gX8_drift_X8_ascends rfl hd_X8_ascends [true] rfl (acons (ad8 _ _ _ _ _ _) rfl) rfl rfl rfl rfl rfl rfl ⟨rfl, rfl⟩ ⟨Nat.le_of_ble_eq_true rfl, Nat.le_of_ble_eq_true rfl⟩ (Nat.le_of_ble_eq_true rfl) ⟨Nat.zero_le _, Nat.zero_le _⟩ dX8_drift_123 ?_
                    generalize hz50 : (f_X8_ascends z32.2 z31.1) = z50
                    refine ww_aload_n (pc := 126) X dX8_drift_126 2 rfl rfl ?_
                    refine ww_gVv (pc := 127) (rest := []) (gsN := [wX8 cI cZ cQ rM (f_X8_passes z50)]) (ci := 8) (gi := 0) (qi := 0) X (c_X8_passes l D cI cZ cQ rM z50 (by subst_vars; exact okM_of rfl okJ)) gX8_drift_X8_passes rfl hd_X8_passes [true] rfl (acons (ad8 _ _ _ _ _ _) rfl) rfl rfl rfl rfl rfl rfl ⟨rfl, rfl⟩ ⟨Nat.le_of_ble_eq_true rfl, Nat.le_of_ble_eq_true rfl⟩ (Nat.le_of_ble_eq_true rfl) ⟨Nat.zero_le _, Nat.zero_le _⟩ dX8_drift_127 ?_
                    generalize hz51 : (f_X8_passes z50) = z51
                    refine ww_iinc (pc := 130) (v := (nI j_20) + 1) (lv' := [(3, .int ((nI j_20) + 1)), (5, .int z32.1), (4, .int z31.1), (0, .ref (rM 0)), (1, .int x1), (2, .int (f_X8_barred SM x1 60))]) X dX8_drift_130 5 rfl rfl (by decide) rfl ?_
                    refine ww_goto (pc := 133) (tgt := 20) X dX8_drift_133 (by decide) ?_
                    have h52 : (it_X8_drift_20 x1 (f_X8_barred SM x1 60) z2 (j_20 + 1)) = z51 := by
                      show bd_X8_drift_20 x1 (f_X8_barred SM x1 60) j_20 (it_X8_drift_20 x1 (f_X8_barred SM x1 60) z2 j_20) = _; unfold bd_X8_drift_20; try rw [if_neg c25, if_neg c28, hz31]; try unfold bd_X8_drift_20_k3; try rw [hz32]; try unfold bd_X8_drift_20_k4; try rw [if_neg c33, if_pos c43, if_neg c44, if_neg c47, hz50]; try unfold bd_X8_drift_20_k11; try rw [hz51]; try unfold bd_X8_drift_20_k12; first | done | rfl
                    refine ww_lsub [3, 4, 5, 0] rfl ?_
                    exact ww_castI (fun u9 : St => fl [wX8 cI cZ cQ rM u9]) (fun (u9 : St) (i9 : Int32) => ([(0, .ref (rM 0)), (1, .int x1), (2, .int (f_X8_barred SM x1 60)), (3, .int i9)] : List (Nat × Value))) h52 (ih (j_20 + 1) (by omega) K)
              · refine ww_aload_n (pc := 89) X dX8_drift_89 2 rfl rfl ?_
                refine ww_iload (pc := 90) X dX8_drift_90 1 rfl ?_
                refine ww_iload (pc := 92) X dX8_drift_92 0 rfl ?_
                refine ww_gVv (pc := 94) (rest := []) (gsN := [wX8 cI cZ cQ rM (f_X8_descends z32.2 z31.1 z32.1)]) (ci := 8) (gi := 0) (qi := 0) X (c_X8_descends l D cI cZ cQ rM z32.2 z31.1 z32.1 (by assumption)) gX8_drift_X8_descends rfl hd_X8_descends [true] rfl (acons (ad8 _ _ _ _ _ _) rfl) rfl rfl rfl rfl rfl rfl ⟨rfl, rfl⟩ ⟨Nat.le_of_ble_eq_true rfl, Nat.le_of_ble_eq_true rfl⟩ (Nat.le_of_ble_eq_true rfl) ⟨Nat.zero_le _, Nat.zero_le _⟩ dX8_drift_94 ?_
                generalize hz53 : (f_X8_descends z32.2 z31.1 z32.1) = z53
                refine ww_goto (pc := 97) (tgt := 126) X dX8_drift_97 (by decide) ?_
                refine ww_aload_n (pc := 126) X dX8_drift_126 2 rfl rfl ?_
                refine ww_gVv (pc := 127) (rest := []) (gsN := [wX8 cI cZ cQ rM (f_X8_passes z53)]) (ci := 8) (gi := 0) (qi := 0) X (c_X8_passes l D cI cZ cQ rM z53 (by subst_vars; exact okM_of rfl okJ)) gX8_drift_X8_passes rfl hd_X8_passes [true] rfl (acons (ad8 _ _ _ _ _ _) rfl) rfl rfl rfl rfl rfl rfl ⟨rfl, rfl⟩ ⟨Nat.le_of_ble_eq_true rfl, Nat.le_of_ble_eq_true rfl⟩ (Nat.le_of_ble_eq_true rfl) ⟨Nat.zero_le _, Nat.zero_le _⟩ dX8_drift_127 ?_
                generalize hz54 : (f_X8_passes z53) = z54
                refine ww_iinc (pc := 130) (v := (nI j_20) + 1) (lv' := [(3, .int ((nI j_20) + 1)), (5, .int z32.1), (4, .int z31.1), (0, .ref (rM 0)), (1, .int x1), (2, .int (f_X8_barred SM x1 60))]) X dX8_drift_130 5 rfl rfl (by decide) rfl ?_
                refine ww_goto (pc := 133) (tgt := 20) X dX8_drift_133 (by decide) ?_
                have h55 : (it_X8_drift_20 x1 (f_X8_barred SM x1 60) z2 (j_20 + 1)) = z54 := by
                  show bd_X8_drift_20 x1 (f_X8_barred SM x1 60) j_20 (it_X8_drift_20 x1 (f_X8_barred SM x1 60) z2 j_20) = _; unfold bd_X8_drift_20; try rw [if_neg c25, if_neg c28, hz31]; try unfold bd_X8_drift_20_k3; try rw [hz32]; try unfold bd_X8_drift_20_k4; try rw [if_neg c33, if_neg c43, hz53]; try unfold bd_X8_drift_20_k13; try rw [hz54]; try unfold bd_X8_drift_20_k14; first | done | rfl
                refine ww_lsub [3, 4, 5, 0] rfl ?_
                exact ww_castI (fun u9 : St => fl [wX8 cI cZ cQ rM u9]) (fun (u9 : St) (i9 : Int32) => ([(0, .ref (rM 0)), (1, .int x1), (2, .int (f_X8_barred SM x1 60)), (3, .int i9)] : List (Nat × Value))) h55 (ih (j_20 + 1) (by omega) K)
    refine ww_lsub [2, 3, 1, 0] rfl ?_
    refine L20 x1.toNatClampNeg 0 (by omega) ?_
    generalize hz56 : ((it_X8_drift_20 x1 (f_X8_barred SM x1 60) z2 x1.toNatClampNeg)) = z56
    refine ww_aload_n (pc := 136) X dX8_drift_136 0 rfl rfl ?_
    refine ww_get (pc := 137) (ci := 8) (v := .ref (rM 10)) (C := RX8) (T := TX8) (N := 27) X inX8_drift_8 0 rfl rfl 11 (by decide) (by decide +kernel) rfl dX8_drift_137 ?_
    refine ww_iconst (pc := 140) (v := 0) X dX8_drift_140 (by decide) ?_
    refine ww_iald (pc := 141) (f := z56.2 9) X 10 0 rfl rfl (vl_in (by decide)) dX8_drift_141 ?_
    have h57 : f_X8_drift SM x1 = ((z56.2 9) ((0 : Int32)).toNatClampNeg, z56) := by unfold f_X8_drift; try rw [if_pos c1, hz2]; try unfold f_X8_drift_k1; try rw [hz56]; try unfold f_X8_drift_k2; first | done | rfl
    exact ww_iret X hr rfl (congrArg (fun u9 : Int32 × St => u9.1) h57).symm (congrArg (fun u9 : Int32 × St => fl [wX8 cI cZ cQ rM u9.2]) h57.symm) dX8_drift_142
  · refine ww_iload_n (pc := 12) X dX8_drift_12 0 rfl rfl ?_
    have h58 : f_X8_drift SM x1 = (f_X8_barred SM x1 60, SM) := by unfold f_X8_drift; try rw [if_neg c1]; first | done | rfl
    exact ww_iret X hr rfl (congrArg (fun u9 : Int32 × St => u9.1) h58).symm (congrArg (fun u9 : Int32 × St => fl [wX8 cI cZ cQ rM u9.2]) h58.symm) dX8_drift_13
