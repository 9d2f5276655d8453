def f_X5_isTold (SL : St) : Int32 :=
  if (SL.1 0) ≤ 0 then
    0
  else
    1
theorem inX5_isTold_5 : ∀ w ∈ wsX50, w ∈ wsX5_isTold := by decide +kernel
theorem hd_X5_isTold : yX5_isTold.cls = RX5 ∧ yX5_isTold.cls ≠ "java/lang/invoke/MethodHandle" ∧ yX5_isTold.cls ≠ "java/lang/invoke/VarHandle" ∧ (parseMethodDescriptor yX5_isTold.desc).map (fun d => d.parameters.length) = some 0 := by decide +kernel
set_option maxHeartbeats 4000000 in
set_option maxRecDepth 100000 in
theorem c_X5_isTold (l : Launch) (D : va_G) (cI cZ cQ : ClassId) (rL : Nat → Nat) (SL : St) : Ci l yX5_isTold wsX5_isTold { frames := 0, cells := 0, slots := 0, locals := 0 } D (tyL cI cZ cQ) [.ref (rL 0)] (fl [wX5 cI cZ cQ rL SL]) (f_X5_isTold SL) (fl [wX5 cI cZ cQ rL SL]) := by
  refine ci_of (cc := cX5_isTold) (nL := 1) (ty := .boolean) (lv0 := [(0, .ref (rL 0))]) (by decide) rfl (Nat.le_of_ble_eq_true rfl) rfl ?_
  intro p e s m args below meth c A X hr
  refine ww_aload_n (pc := 0) X dX5_isTold_0 0 rfl rfl ?_
  refine ww_get (pc := 1) (ci := 5) (v := .int (SL.1 0)) (C := RX5) (T := TX5) (N := 11) X inX5_isTold_5 0 rfl rfl 0 (by decide) (by decide +kernel) rfl dX5_isTold_1 ?_
  refine ww_if_le (pc := 4) (tgt := 11) X dX5_isTold_4 (by decide) (fun c1 => ?_) (fun c1 => ?_)
  · refine ww_iconst (pc := 11) (v := 0) X dX5_isTold_11 (by decide) ?_
    exact ww_iret X hr rfl (Eq.symm (by unfold f_X5_isTold; try rw [if_pos c1]; first | done | rfl)) rfl dX5_isTold_12
  · refine ww_iconst (pc := 7) (v := 1) X dX5_isTold_7 (by decide) ?_
    refine ww_goto (pc := 8) (tgt := 12) X dX5_isTold_8 (by decide) ?_
    exact ww_iret X hr rfl (Eq.symm (by unfold f_X5_isTold; try rw [if_neg c1]; first | done | rfl)) rfl dX5_isTold_12
def f_X5_hasDepth (SL : St) (x1 : Int32) : Int32 :=
  if x1 < 0 then
    0
  else
    if (SL.1 2) ≤ x1 then
      0
    else
      if 4 ≤ x1 then
        0
      else
        1
theorem in_X5_hasDepth {S : St} {x : Int32} (h : ¬ f_X5_hasDepth S x = 0) : vp_in x 4 := by
  unfold f_X5_hasDepth at h
  split at h
  · exact absurd rfl h
  split at h
  · exact absurd rfl h
  split at h
  · exact absurd rfl h
  exact vin_nge (by assumption) (by assumption) rfl
theorem inX5_hasDepth_5 : ∀ w ∈ wsX50, w ∈ wsX5_hasDepth := by decide +kernel
theorem hd_X5_hasDepth : yX5_hasDepth.cls = RX5 ∧ yX5_hasDepth.cls ≠ "java/lang/invoke/MethodHandle" ∧ yX5_hasDepth.cls ≠ "java/lang/invoke/VarHandle" ∧ (parseMethodDescriptor yX5_hasDepth.desc).map (fun d => d.parameters.length) = some 1 := by decide +kernel
set_option maxHeartbeats 4000000 in
set_option maxRecDepth 100000 in
theorem c_X5_hasDepth (l : Launch) (D : va_G) (cI cZ cQ : ClassId) (rL : Nat → Nat) (SL : St) (x1 : Int32) : Ci l yX5_hasDepth wsX5_hasDepth { frames := 0, cells := 0, slots := 0, locals := 0 } D (tyL cI cZ cQ) [.ref (rL 0), .int x1] (fl [wX5 cI cZ cQ rL SL]) (f_X5_hasDepth SL x1) (fl [wX5 cI cZ cQ rL SL]) := by
  refine ci_of (cc := cX5_hasDepth) (nL := 2) (ty := .boolean) (lv0 := [(0, .ref (rL 0)), (1, .int x1)]) (by decide) rfl (Nat.le_of_ble_eq_true rfl) rfl ?_
  intro p e s m args below meth c A X hr
  refine ww_iload_n (pc := 0) X dX5_hasDepth_0 1 rfl rfl ?_
  refine ww_if_lt (pc := 1) (tgt := 21) X dX5_hasDepth_1 (by decide) (fun c1 => ?_) (fun c1 => ?_)
  · refine ww_iconst (pc := 21) (v := 0) X dX5_hasDepth_21 (by decide) ?_
    exact ww_iret X hr rfl (Eq.symm (by unfold f_X5_hasDepth; try rw [if_pos c1]; first | done | rfl)) rfl dX5_hasDepth_22
  · refine ww_iload_n (pc := 4) X dX5_hasDepth_4 1 rfl rfl ?_
    refine ww_aload_n (pc := 5) X dX5_hasDepth_5 0 rfl rfl ?_
    refine ww_get (pc := 6) (ci := 5) (v := .int (SL.1 2)) (C := RX5) (T := TX5) (N := 11) X inX5_hasDepth_5 0 rfl rfl 2 (by decide) (by decide +kernel) rfl dX5_hasDepth_6 ?_
    refine ww_icmp_ge (pc := 9) (tgt := 21) X dX5_hasDepth_9 (by decide) (fun c2 => ?_) (fun c2 => ?_)
    · refine ww_iconst (pc := 21) (v := 0) X dX5_hasDepth_21 (by decide) ?_
      exact ww_iret X hr rfl (Eq.symm (by unfold f_X5_hasDepth; try rw [if_neg c1, if_pos c2]; first | done | rfl)) rfl dX5_hasDepth_22
    · refine ww_iload_n (pc := 12) X dX5_hasDepth_12 1 rfl rfl ?_
      refine ww_iconst (pc := 13) (v := 4) X dX5_hasDepth_13 (by decide) ?_
      refine ww_icmp_ge (pc := 14) (tgt := 21) X dX5_hasDepth_14 (by decide) (fun c3 => ?_) (fun c3 => ?_)
      · refine ww_iconst (pc := 21) (v := 0) X dX5_hasDepth_21 (by decide) ?_
        exact ww_iret X hr rfl (Eq.symm (by unfold f_X5_hasDepth; try rw [if_neg c1, if_neg c2, if_pos c3]; first | done | rfl)) rfl dX5_hasDepth_22
      · refine ww_iconst (pc := 17) (v := 1) X dX5_hasDepth_17 (by decide) ?_
        refine ww_goto (pc := 18) (tgt := 22) X dX5_hasDepth_18 (by decide) ?_
        exact ww_iret X hr rfl (Eq.symm (by unfold f_X5_hasDepth; try rw [if_neg c1, if_neg c2, if_neg c3]; first | done | rfl)) rfl dX5_hasDepth_22
def f_X5_hasPerson (SL : St) (x1 : Int32) : Int32 :=
  if x1 < 0 then
    0
  else
    if (SL.1 3) ≤ x1 then
      0
    else
      if 7 ≤ x1 then
        0
      else
        1
theorem in_X5_hasPerson {S : St} {x : Int32} (h : ¬ f_X5_hasPerson S x = 0) : vp_in x 7 := by
  unfold f_X5_hasPerson at h
  split at h
  · exact absurd rfl h
  split at h
  · exact absurd rfl h
  split at h
  · exact absurd rfl h
  exact vin_nge (by assumption) (by assumption) rfl
theorem inX5_hasPerson_5 : ∀ w ∈ wsX50, w ∈ wsX5_hasPerson := by decide +kernel
theorem hd_X5_hasPerson : yX5_hasPerson.cls = RX5 ∧ yX5_hasPerson.cls ≠ "java/lang/invoke/MethodHandle" ∧ yX5_hasPerson.cls ≠ "java/lang/invoke/VarHandle" ∧ (parseMethodDescriptor yX5_hasPerson.desc).map (fun d => d.parameters.length) = some 1 := by decide +kernel
set_option maxHeartbeats 4000000 in
set_option maxRecDepth 100000 in
theorem c_X5_hasPerson (l : Launch) (D : va_G) (cI cZ cQ : ClassId) (rL : Nat → Nat) (SL : St) (x1 : Int32) : Ci l yX5_hasPerson wsX5_hasPerson { frames := 0, cells := 0, slots := 0, locals := 0 } D (tyL cI cZ cQ) [.ref (rL 0), .int x1] (fl [wX5 cI cZ cQ rL SL]) (f_X5_hasPerson SL x1) (fl [wX5 cI cZ cQ rL SL]) := by
  refine ci_of (cc := cX5_hasPerson) (nL := 2) (ty := .boolean) (lv0 := [(0, .ref (rL 0)), (1, .int x1)]) (by decide) rfl (Nat.le_of_ble_eq_true rfl) rfl ?_
  intro p e s m args below meth c A X hr
  refine ww_iload_n (pc := 0) X dX5_hasPerson_0 1 rfl rfl ?_
  refine ww_if_lt (pc := 1) (tgt := 22) X dX5_hasPerson_1 (by decide) (fun c1 => ?_) (fun c1 => ?_)
  · refine ww_iconst (pc := 22) (v := 0) X dX5_hasPerson_22 (by decide) ?_
    exact ww_iret X hr rfl (Eq.symm (by unfold f_X5_hasPerson; try rw [if_pos c1]; first | done | rfl)) rfl dX5_hasPerson_23
  · refine ww_iload_n (pc := 4) X dX5_hasPerson_4 1 rfl rfl ?_
    refine ww_aload_n (pc := 5) X dX5_hasPerson_5 0 rfl rfl ?_
    refine ww_get (pc := 6) (ci := 5) (v := .int (SL.1 3)) (C := RX5) (T := TX5) (N := 11) X inX5_hasPerson_5 0 rfl rfl 3 (by decide) (by decide +kernel) rfl dX5_hasPerson_6 ?_
    refine ww_icmp_ge (pc := 9) (tgt := 22) X dX5_hasPerson_9 (by decide) (fun c2 => ?_) (fun c2 => ?_)
    · refine ww_iconst (pc := 22) (v := 0) X dX5_hasPerson_22 (by decide) ?_
      exact ww_iret X hr rfl (Eq.symm (by unfold f_X5_hasPerson; try rw [if_neg c1, if_pos c2]; first | done | rfl)) rfl dX5_hasPerson_23
    · refine ww_iload_n (pc := 12) X dX5_hasPerson_12 1 rfl rfl ?_
      refine ww_bipush (pc := 13) (v := 7) X dX5_hasPerson_13 (by decide) ?_
      refine ww_icmp_ge (pc := 15) (tgt := 22) X dX5_hasPerson_15 (by decide) (fun c3 => ?_) (fun c3 => ?_)
      · refine ww_iconst (pc := 22) (v := 0) X dX5_hasPerson_22 (by decide) ?_
        exact ww_iret X hr rfl (Eq.symm (by unfold f_X5_hasPerson; try rw [if_neg c1, if_neg c2, if_pos c3]; first | done | rfl)) rfl dX5_hasPerson_23
      · refine ww_iconst (pc := 18) (v := 1) X dX5_hasPerson_18 (by decide) ?_
        refine ww_goto (pc := 19) (tgt := 23) X dX5_hasPerson_19 (by decide) ?_
        exact ww_iret X hr rfl (Eq.symm (by unfold f_X5_hasPerson; try rw [if_neg c1, if_neg c2, if_neg c3]; first | done | rfl)) rfl dX5_hasPerson_23
def f_X5_hasGood (SL : St) (x1 : Int32) : Int32 :=
  if x1 < 0 then
    0
  else
    if (SL.1 4) ≤ x1 then
      0
    else
      if 6 ≤ x1 then
        0
      else
        1
theorem in_X5_hasGood {S : St} {x : Int32} (h : ¬ f_X5_hasGood S x = 0) : vp_in x 6 := by
  unfold f_X5_hasGood at h
  split at h
  · exact absurd rfl h
  split at h
  · exact absurd rfl h
  split at h
  · exact absurd rfl h
  exact vin_nge (by assumption) (by assumption) rfl
theorem inX5_hasGood_5 : ∀ w ∈ wsX50, w ∈ wsX5_hasGood := by decide +kernel
theorem hd_X5_hasGood : yX5_hasGood.cls = RX5 ∧ yX5_hasGood.cls ≠ "java/lang/invoke/MethodHandle" ∧ yX5_hasGood.cls ≠ "java/lang/invoke/VarHandle" ∧ (parseMethodDescriptor yX5_hasGood.desc).map (fun d => d.parameters.length) = some 1 := by decide +kernel
set_option maxHeartbeats 4000000 in
set_option maxRecDepth 100000 in
theorem c_X5_hasGood (l : Launch) (D : va_G) (cI cZ cQ : ClassId) (rL : Nat → Nat) (SL : St) (x1 : Int32) : Ci l yX5_hasGood wsX5_hasGood { frames := 0, cells := 0, slots := 0, locals := 0 } D (tyL cI cZ cQ) [.ref (rL 0), .int x1] (fl [wX5 cI cZ cQ rL SL]) (f_X5_hasGood SL x1) (fl [wX5 cI cZ cQ rL SL]) := by
  refine ci_of (cc := cX5_hasGood) (nL := 2) (ty := .boolean) (lv0 := [(0, .ref (rL 0)), (1, .int x1)]) (by decide) rfl (Nat.le_of_ble_eq_true rfl) rfl ?_
  intro p e s m args below meth c A X hr
  refine ww_iload_n (pc := 0) X dX5_hasGood_0 1 rfl rfl ?_
  refine ww_if_lt (pc := 1) (tgt := 22) X dX5_hasGood_1 (by decide) (fun c1 => ?_) (fun c1 => ?_)
  · refine ww_iconst (pc := 22) (v := 0) X dX5_hasGood_22 (by decide) ?_
    exact ww_iret X hr rfl (Eq.symm (by unfold f_X5_hasGood; try rw [if_pos c1]; first | done | rfl)) rfl dX5_hasGood_23
  · refine ww_iload_n (pc := 4) X dX5_hasGood_4 1 rfl rfl ?_
    refine ww_aload_n (pc := 5) X dX5_hasGood_5 0 rfl rfl ?_
    refine ww_get (pc := 6) (ci := 5) (v := .int (SL.1 4)) (C := RX5) (T := TX5) (N := 11) X inX5_hasGood_5 0 rfl rfl 4 (by decide) (by decide +kernel) rfl dX5_hasGood_6 ?_
    refine ww_icmp_ge (pc := 9) (tgt := 22) X dX5_hasGood_9 (by decide) (fun c2 => ?_) (fun c2 => ?_)
    · refine ww_iconst (pc := 22) (v := 0) X dX5_hasGood_22 (by decide) ?_
      exact ww_iret X hr rfl (Eq.symm (by unfold f_X5_hasGood; try rw [if_neg c1, if_pos c2]; first | done | rfl)) rfl dX5_hasGood_23
    · refine ww_iload_n (pc := 12) X dX5_hasGood_12 1 rfl rfl ?_
      refine ww_bipush (pc := 13) (v := 6) X dX5_hasGood_13 (by decide) ?_
      refine ww_icmp_ge (pc := 15) (tgt := 22) X dX5_hasGood_15 (by decide) (fun c3 => ?_) (fun c3 => ?_)
      · refine ww_iconst (pc := 22) (v := 0) X dX5_hasGood_22 (by decide) ?_
        exact ww_iret X hr rfl (Eq.symm (by unfold f_X5_hasGood; try rw [if_neg c1, if_neg c2, if_pos c3]; first | done | rfl)) rfl dX5_hasGood_23
      · refine ww_iconst (pc := 18) (v := 1) X dX5_hasGood_18 (by decide) ?_
        refine ww_goto (pc := 19) (tgt := 23) X dX5_hasGood_19 (by decide) ?_
        exact ww_iret X hr rfl (Eq.symm (by unfold f_X5_hasGood; try rw [if_neg c1, if_neg c2, if_neg c3]; first | done | rfl)) rfl dX5_hasGood_23
def f_X5_empty (SL : St) : St :=
  (sI (sI (sI (sI (sI SL 0 0) 1 0) 2 0) 3 0) 4 0)
theorem inX5_empty_5 : ∀ w ∈ wsX50, w ∈ wsX5_empty := by decide +kernel
theorem hd_X5_empty : yX5_empty.cls = RX5 ∧ yX5_empty.cls ≠ "java/lang/invoke/MethodHandle" ∧ yX5_empty.cls ≠ "java/lang/invoke/VarHandle" ∧ (parseMethodDescriptor yX5_empty.desc).map (fun d => d.parameters.length) = some 0 := by decide +kernel
set_option maxHeartbeats 4000000 in
set_option maxRecDepth 100000 in
theorem c_X5_empty (l : Launch) (D : va_G) (cI cZ cQ : ClassId) (rL : Nat → Nat) (SL : St) : Cv l yX5_empty wsX5_empty { frames := 0, cells := 0, slots := 0, locals := 0 } D (tyL cI cZ cQ) [.ref (rL 0)] (fl [wX5 cI cZ cQ rL SL]) (fl [wX5 cI cZ cQ rL (f_X5_empty SL)]) := by
  refine cv_of (cc := cX5_empty) (nL := 1) (lv0 := [(0, .ref (rL 0))]) (by decide) rfl (Nat.le_of_ble_eq_true rfl) rfl ?_
  intro p e s m args below meth c A X hr
  refine ww_aload_n (pc := 0) X dX5_empty_0 0 rfl rfl ?_
  refine ww_iconst (pc := 1) (v := 0) X dX5_empty_1 (by decide) ?_
  refine ww_put (pc := 2) (ci := 5) (v := .int 0) (C := RX5) (T := TX5) (N := 11) (ws' := fl [wX5 cI cZ cQ rL (sI SL 0 0)]) X inX5_empty_5 tyX5 tyX5_ok nmX5 0 rfl rfl 0 (by decide) (by decide +kernel) rfl rfl rfl (Nat.le_of_ble_eq_true rfl) rfl dX5_empty_2 ?_
  refine ww_aload_n (pc := 5) X dX5_empty_5 0 rfl rfl ?_
  refine ww_iconst (pc := 6) (v := 0) X dX5_empty_6 (by decide) ?_
  refine ww_put (pc := 7) (ci := 5) (v := .int 0) (C := RX5) (T := TX5) (N := 11) (ws' := fl [wX5 cI cZ cQ rL (sI (sI SL 0 0) 1 0)]) X inX5_empty_5 tyX5 tyX5_ok nmX5 0 rfl rfl 1 (by decide) (by decide +kernel) rfl rfl rfl (Nat.le_of_ble_eq_true rfl) rfl dX5_empty_7 ?_
  refine ww_aload_n (pc := 10) X dX5_empty_10 0 rfl rfl ?_
  refine ww_iconst (pc := 11) (v := 0) X dX5_empty_11 (by decide) ?_
  refine ww_put (pc := 12) (ci := 5) (v := .int 0) (C := RX5) (T := TX5) (N := 11) (ws' := fl [wX5 cI cZ cQ rL (sI (sI (sI SL 0 0) 1 0) 2 0)]) X inX5_empty_5 tyX5 tyX5_ok nmX5 0 rfl rfl 2 (by decide) (by decide +kernel) rfl rfl rfl (Nat.le_of_ble_eq_true rfl) rfl dX5_empty_12 ?_
  refine ww_aload_n (pc := 15) X dX5_empty_15 0 rfl rfl ?_
  refine ww_iconst (pc := 16) (v := 0) X dX5_empty_16 (by decide) ?_
  refine ww_put (pc := 17) (ci := 5) (v := .int 0) (C := RX5) (T := TX5) (N := 11) (ws' := fl [wX5 cI cZ cQ rL (sI (sI (sI (sI SL 0 0) 1 0) 2 0) 3 0)]) X inX5_empty_5 tyX5 tyX5_ok nmX5 0 rfl rfl 3 (by decide) (by decide +kernel) rfl rfl rfl (Nat.le_of_ble_eq_true rfl) rfl dX5_empty_17 ?_
  refine ww_aload_n (pc := 20) X dX5_empty_20 0 rfl rfl ?_
  refine ww_iconst (pc := 21) (v := 0) X dX5_empty_21 (by decide) ?_
  refine ww_put (pc := 22) (ci := 5) (v := .int 0) (C := RX5) (T := TX5) (N := 11) (ws' := fl [wX5 cI cZ cQ rL (sI (sI (sI (sI (sI SL 0 0) 1 0) 2 0) 3 0) 4 0)]) X inX5_empty_5 tyX5 tyX5_ok nmX5 0 rfl rfl 4 (by decide) (by decide +kernel) rfl rfl rfl (Nat.le_of_ble_eq_true rfl) rfl dX5_empty_22 ?_
  have h1 : f_X5_empty SL = (sI (sI (sI (sI (sI SL 0 0) 1 0) 2 0) 3 0) 4 0) := by unfold f_X5_empty; first | done | rfl
  exact ww_vret X hr (congrArg (fun u9 : St => fl [wX5 cI cZ cQ rL u9]) h1.symm) dX5_empty_25
def f_X5_hasRoomFor (SL : St) (x1 : Int32) : Int32 :=
  if x1 = 100 then
    if 4 ≤ (SL.1 2) then
      0
    else
      1
  else
    if x1 = 103 then
      if 6 ≤ (SL.1 4) then
        0
      else
        1
    else
      if x1 = 112 then
        if 7 ≤ (SL.1 3) then
          0
        else
          1
      else
        if x1 = 115 then
          if (f_X5_isTold SL) = 0 then
            1
          else
            0
        else
          0
theorem rm_d {S : St} {x : Int32} (hn : okN S) (h : ¬ f_X5_hasRoomFor S x = 0) (h1 : x = 100) : vp_in (S.1 2) 4 := by
  unfold f_X5_hasRoomFor at h
  rw [if_pos h1] at h
  split at h
  · exact absurd rfl h
  · exact vin_nge hn.1 (by assumption) rfl
theorem rm_p {S : St} {x : Int32} (hn : okN S) (h : ¬ f_X5_hasRoomFor S x = 0) (h1 : x = 112) : vp_in (S.1 3) 7 := by
  subst h1
  unfold f_X5_hasRoomFor at h
  simp only [show ¬ ((112 : Int32) = 100) by decide, show ¬ ((112 : Int32) = 103) by decide, if_false, if_true] at h
  split at h
  · exact absurd rfl h
  · exact vin_nge hn.2.1 (by assumption) rfl
theorem rm_g {S : St} {x : Int32} (hn : okN S) (h : ¬ f_X5_hasRoomFor S x = 0) (h1 : ¬ x = 100) (h2 : ¬ x = 112) (h3 : ¬ x = 115) : vp_in (S.1 4) 6 := by
  unfold f_X5_hasRoomFor at h
  rw [if_neg h1] at h
  split at h
  · split at h
    · exact absurd rfl h
    · exact vin_nge hn.2.2 (by assumption) rfl
  · first | exact absurd rfl h | (rw [if_neg h2, if_neg h3] at h; exact absurd rfl h)
theorem inX5_hasRoomFor_5 : ∀ w ∈ wsX50, w ∈ wsX5_hasRoomFor := by decide +kernel
theorem hd_X5_hasRoomFor : yX5_hasRoomFor.cls = RX5 ∧ yX5_hasRoomFor.cls ≠ "java/lang/invoke/MethodHandle" ∧ yX5_hasRoomFor.cls ≠ "java/lang/invoke/VarHandle" ∧ (parseMethodDescriptor yX5_hasRoomFor.desc).map (fun d => d.parameters.length) = some 1 := by decide +kernel
set_option maxHeartbeats 4000000 in
set_option maxRecDepth 100000 in
theorem c_X5_hasRoomFor (l : Launch) (D : va_G) (cI cZ cQ : ClassId) (rL : Nat → Nat) (SL : St) (x1 : Int32) : Ci l yX5_hasRoomFor wsX5_hasRoomFor { frames := 1, cells := 0, slots := 0, locals := 20 } D (tyL cI cZ cQ) [.ref (rL 0), .int x1] (fl [wX5 cI cZ cQ rL SL]) (f_X5_hasRoomFor SL x1) (fl [wX5 cI cZ cQ rL SL]) := by
  refine ci_of (cc := cX5_hasRoomFor) (nL := 2) (ty := .boolean) (lv0 := [(0, .ref (rL 0)), (1, .int x1)]) (by decide) rfl (Nat.le_of_ble_eq_true rfl) rfl ?_
  intro p e s m args below meth c A X hr
  refine ww_iload_n (pc := 0) X dX5_hasRoomFor_0 1 rfl rfl ?_
  refine Decidable.byCases (fun (c1 : x1 = 100) => ?_) (fun (c1 : ¬ x1 = 100) => ?_)
  · refine ww_lookup (off := 56) (tgt := 57) X dX5_hasRoomFor_1 (by decide) (by rw [c1]; rfl) (by decide) ?_
    refine ww_aload_n (pc := 57) X dX5_hasRoomFor_57 0 rfl rfl ?_
    refine ww_get (pc := 58) (ci := 5) (v := .int (SL.1 2)) (C := RX5) (T := TX5) (N := 11) X inX5_hasRoomFor_5 0 rfl rfl 2 (by decide) (by decide +kernel) rfl dX5_hasRoomFor_58 ?_
    refine ww_iconst (pc := 61) (v := 4) X dX5_hasRoomFor_61 (by decide) ?_
    refine ww_icmp_ge (pc := 62) (tgt := 69) X dX5_hasRoomFor_62 (by decide) (fun c2 => ?_) (fun c2 => ?_)
    · refine ww_iconst (pc := 69) (v := 0) X dX5_hasRoomFor_69 (by decide) ?_
      exact ww_iret X hr rfl (Eq.symm (by unfold f_X5_hasRoomFor; try rw [if_pos c1, if_pos c2]; first | done | rfl)) rfl dX5_hasRoomFor_70
    · refine ww_iconst (pc := 65) (v := 1) X dX5_hasRoomFor_65 (by decide) ?_
      refine ww_goto (pc := 66) (tgt := 70) X dX5_hasRoomFor_66 (by decide) ?_
      exact ww_iret X hr rfl (Eq.symm (by unfold f_X5_hasRoomFor; try rw [if_pos c1, if_neg c2]; first | done | rfl)) rfl dX5_hasRoomFor_70
  · skip
    refine Decidable.byCases (fun (c3 : x1 = 103) => ?_) (fun (c3 : ¬ x1 = 103) => ?_)
    · refine ww_lookup (off := 85) (tgt := 86) X dX5_hasRoomFor_1 (by decide) (by rw [c3]; rfl) (by decide) ?_
      refine ww_aload_n (pc := 86) X dX5_hasRoomFor_86 0 rfl rfl ?_
      refine ww_get (pc := 87) (ci := 5) (v := .int (SL.1 4)) (C := RX5) (T := TX5) (N := 11) X inX5_hasRoomFor_5 0 rfl rfl 4 (by decide) (by decide +kernel) rfl dX5_hasRoomFor_87 ?_
      refine ww_bipush (pc := 90) (v := 6) X dX5_hasRoomFor_90 (by decide) ?_
      refine ww_icmp_ge (pc := 92) (tgt := 99) X dX5_hasRoomFor_92 (by decide) (fun c4 => ?_) (fun c4 => ?_)
      · refine ww_iconst (pc := 99) (v := 0) X dX5_hasRoomFor_99 (by decide) ?_
        exact ww_iret X hr rfl (Eq.symm (by unfold f_X5_hasRoomFor; try rw [if_neg c1, if_pos c3, if_pos c4]; first | done | rfl)) rfl dX5_hasRoomFor_100
      · refine ww_iconst (pc := 95) (v := 1) X dX5_hasRoomFor_95 (by decide) ?_
        refine ww_goto (pc := 96) (tgt := 100) X dX5_hasRoomFor_96 (by decide) ?_
        exact ww_iret X hr rfl (Eq.symm (by unfold f_X5_hasRoomFor; try rw [if_neg c1, if_pos c3, if_neg c4]; first | done | rfl)) rfl dX5_hasRoomFor_100
    · skip
      refine Decidable.byCases (fun (c5 : x1 = 112) => ?_) (fun (c5 : ¬ x1 = 112) => ?_)
      · refine ww_lookup (off := 70) (tgt := 71) X dX5_hasRoomFor_1 (by decide) (by rw [c5]; rfl) (by decide) ?_
        refine ww_aload_n (pc := 71) X dX5_hasRoomFor_71 0 rfl rfl ?_
        refine ww_get (pc := 72) (ci := 5) (v := .int (SL.1 3)) (C := RX5) (T := TX5) (N := 11) X inX5_hasRoomFor_5 0 rfl rfl 3 (by decide) (by decide +kernel) rfl dX5_hasRoomFor_72 ?_
        refine ww_bipush (pc := 75) (v := 7) X dX5_hasRoomFor_75 (by decide) ?_
        refine ww_icmp_ge (pc := 77) (tgt := 84) X dX5_hasRoomFor_77 (by decide) (fun c6 => ?_) (fun c6 => ?_)
        · refine ww_iconst (pc := 84) (v := 0) X dX5_hasRoomFor_84 (by decide) ?_
          exact ww_iret X hr rfl (Eq.symm (by unfold f_X5_hasRoomFor; try rw [if_neg c1, if_neg c3, if_pos c5, if_pos c6]; first | done | rfl)) rfl dX5_hasRoomFor_85
        · refine ww_iconst (pc := 80) (v := 1) X dX5_hasRoomFor_80 (by decide) ?_
          refine ww_goto (pc := 81) (tgt := 85) X dX5_hasRoomFor_81 (by decide) ?_
          exact ww_iret X hr rfl (Eq.symm (by unfold f_X5_hasRoomFor; try rw [if_neg c1, if_neg c3, if_pos c5, if_neg c6]; first | done | rfl)) rfl dX5_hasRoomFor_85
      · skip
        refine Decidable.byCases (fun (c7 : x1 = 115) => ?_) (fun (c7 : ¬ x1 = 115) => ?_)
        · refine ww_lookup (off := 43) (tgt := 44) X dX5_hasRoomFor_1 (by decide) (by rw [c7]; rfl) (by decide) ?_
          refine ww_aload_n (pc := 44) X dX5_hasRoomFor_44 0 rfl rfl ?_
          refine ww_gVi (pc := 45) (rest := []) (gsN := [wX5 cI cZ cQ rL SL]) (ci := 5) (gi := 0) (qi := 0) X (c_X5_isTold l D cI cZ cQ rL SL) gX5_hasRoomFor_X5_isTold rfl hd_X5_isTold [true] rfl rfl rfl rfl rfl rfl rfl rfl ⟨rfl, rfl⟩ ⟨Nat.le_of_ble_eq_true rfl, Nat.le_of_ble_eq_true rfl⟩ (Nat.le_of_ble_eq_true rfl) ⟨Nat.zero_le _, Nat.zero_le _⟩ dX5_hasRoomFor_45 ?_
          refine ww_if_ne (pc := 48) (tgt := 55) X dX5_hasRoomFor_48 (by decide) (fun c8 => ?_) (fun c8 => ?_)
          · refine ww_iconst (pc := 55) (v := 0) X dX5_hasRoomFor_55 (by decide) ?_
            exact ww_iret X hr rfl (Eq.symm (by unfold f_X5_hasRoomFor; try rw [if_neg c1, if_neg c3, if_neg c5, if_pos c7, if_neg c8]; first | done | rfl)) rfl dX5_hasRoomFor_56
          · refine ww_iconst (pc := 51) (v := 1) X dX5_hasRoomFor_51 (by decide) ?_
            refine ww_goto (pc := 52) (tgt := 56) X dX5_hasRoomFor_52 (by decide) ?_
            exact ww_iret X hr rfl (Eq.symm (by unfold f_X5_hasRoomFor; try rw [if_neg c1, if_neg c3, if_neg c5, if_pos c7, if_pos c8]; first | done | rfl)) rfl dX5_hasRoomFor_56
        · skip
          refine ww_lookup (off := 100) (tgt := 101) X dX5_hasRoomFor_1 (by decide) (by
            simp only [Op.lookupswitch.offset]
            have q100 : ¬ (x1).toInt = 100 := fun h => c1 (Int32.toInt_inj.mp (h.trans (by decide)))
            have q103 : ¬ (x1).toInt = 103 := fun h => c3 (Int32.toInt_inj.mp (h.trans (by decide)))
            have q112 : ¬ (x1).toInt = 112 := fun h => c5 (Int32.toInt_inj.mp (h.trans (by decide)))
            have q115 : ¬ (x1).toInt = 115 := fun h => c7 (Int32.toInt_inj.mp (h.trans (by decide)))
            first | (simp_all; done) | (split <;> simp_all; done) | (repeat' split) <;> first | rfl | omega) (by decide) ?_
          refine ww_iconst (pc := 101) (v := 0) X dX5_hasRoomFor_101 (by decide) ?_
          exact ww_iret X hr rfl (Eq.symm (by unfold f_X5_hasRoomFor; try rw [if_neg c1, if_neg c3, if_neg c5, if_neg c7]; first | done | rfl)) rfl dX5_hasRoomFor_102
def f_X5_add (SL : St) (x1 : Int32) (x2 : Int32) (x3 : Int32) (x4 : Int32) : St :=
  if (f_X5_hasRoomFor SL x1) = 0 then
    SL
  else
    if x1 = 100 then
      (sA (sI SL 2 ((SL.1 2) + 1)) 0 (upd (SL.2 0) ((SL.1 2 : Int32)).toNatClampNeg x2))
    else
      if x1 = 112 then
        (sA (sA (sI SL 3 ((SL.1 3) + 1)) 1 (upd (SL.2 1) ((SL.1 3 : Int32)).toNatClampNeg x2)) 2 (upd (SL.2 2) ((SL.1 3 : Int32)).toNatClampNeg x3))
      else
        if x1 = 115 then
          (sI (sI SL 0 x2) 1 x3)
        else
          (sA (sA (sA (sI SL 4 ((SL.1 4) + 1)) 3 (upd (SL.2 3) ((SL.1 4 : Int32)).toNatClampNeg x2)) 4 (upd (SL.2 4) ((SL.1 4 : Int32)).toNatClampNeg x3)) 5 (upd (SL.2 5) ((SL.1 4 : Int32)).toNatClampNeg x4))
theorem inX5_add_5 : ∀ w ∈ wsX50, w ∈ wsX5_add := by decide +kernel
theorem hd_X5_add : yX5_add.cls = RX5 ∧ yX5_add.cls ≠ "java/lang/invoke/MethodHandle" ∧ yX5_add.cls ≠ "java/lang/invoke/VarHandle" ∧ (parseMethodDescriptor yX5_add.desc).map (fun d => d.parameters.length) = some 4 := by decide +kernel
set_option maxHeartbeats 4000000 in
set_option maxRecDepth 100000 in
theorem c_X5_add (l : Launch) (D : va_G) (cI cZ cQ : ClassId) (rL : Nat → Nat) (SL : St) (x1 : Int32) (x2 : Int32) (x3 : Int32) (x4 : Int32) (okN : okN SL) : Cv l yX5_add wsX5_add { frames := 2, cells := 0, slots := 0, locals := 41 } D (tyL cI cZ cQ) [.ref (rL 0), .int x1, .int x2, .int x3, .int x4] (fl [wX5 cI cZ cQ rL SL]) (fl [wX5 cI cZ cQ rL (f_X5_add SL x1 x2 x3 x4)]) := by
  refine cv_of (cc := cX5_add) (nL := 5) (lv0 := [(0, .ref (rL 0)), (1, .int x1), (2, .int x2), (3, .int x3), (4, .int x4)]) (by decide) rfl (Nat.le_of_ble_eq_true rfl) rfl ?_
  intro p e s m args below meth c A X hr
  refine ww_aload_n (pc := 0) X dX5_add_0 0 rfl rfl ?_
  refine ww_iload_n (pc := 1) X dX5_add_1 1 rfl rfl ?_
  refine ww_gVi (pc := 2) (rest := []) (gsN := [wX5 cI cZ cQ rL SL]) (ci := 5) (gi := 0) (qi := 0) X (c_X5_hasRoomFor l D cI cZ cQ rL SL x1) gX5_add_X5_hasRoomFor rfl hd_X5_hasRoomFor [true] rfl rfl rfl rfl rfl rfl rfl rfl ⟨rfl, rfl⟩ ⟨Nat.le_of_ble_eq_true rfl, Nat.le_of_ble_eq_true rfl⟩ (Nat.le_of_ble_eq_true rfl) ⟨Nat.zero_le _, Nat.zero_le _⟩ dX5_add_2 ?_
  refine ww_if_ne (pc := 5) (tgt := 9) X dX5_add_5 (by decide) (fun c1 => ?_) (fun c1 => ?_)
  · refine ww_iload_n (pc := 9) X dX5_add_9 1 rfl rfl ?_
    refine Decidable.byCases (fun (c2 : x1 = 100) => ?_) (fun (c2 : ¬ x1 = 100) => ?_)
    · refine ww_lookup (off := 47) (tgt := 57) X dX5_add_10 (by decide) (by rw [c2]; rfl) (by decide) ?_
      refine ww_aload_n (pc := 57) X dX5_add_57 0 rfl rfl ?_
      refine ww_get (pc := 58) (ci := 5) (v := .ref (rL 1)) (C := RX5) (T := TX5) (N := 11) X inX5_add_5 0 rfl rfl 5 (by decide) (by decide +kernel) rfl dX5_add_58 ?_
      refine ww_aload_n (pc := 61) X dX5_add_61 0 rfl rfl ?_
      refine ww_get (pc := 62) (ci := 5) (v := .int (SL.1 2)) (C := RX5) (T := TX5) (N := 11) X inX5_add_5 0 rfl rfl 2 (by decide) (by decide +kernel) rfl dX5_add_62 ?_
      refine ww_iload_n (pc := 65) X dX5_add_65 2 rfl rfl ?_
      refine ww_iast (pc := 66) (f := SL.2 0) (ws' := fl [wX5 cI cZ cQ rL (sA SL 0 (upd (SL.2 0) ((SL.1 2 : Int32)).toNatClampNeg x2))]) X 1 0 rfl rfl (rm_d okN c1 c2) rfl dX5_add_66 ?_
      refine ww_aload_n (pc := 67) X dX5_add_67 0 rfl rfl ?_
      refine ww_dup (pc := 68) X dX5_add_68 rfl ?_
      refine ww_get (pc := 69) (ci := 5) (v := .int (SL.1 2)) (C := RX5) (T := TX5) (N := 11) X inX5_add_5 0 rfl rfl 2 (by decide) (by decide +kernel) rfl dX5_add_69 ?_
      refine ww_iconst (pc := 72) (v := 1) X dX5_add_72 (by decide) ?_
      refine ww_iadd (pc := 73) X dX5_add_73 ?_
      refine ww_put (pc := 74) (ci := 5) (v := .int ((SL.1 2) + 1)) (C := RX5) (T := TX5) (N := 11) (ws' := fl [wX5 cI cZ cQ rL (sA (sI SL 2 ((SL.1 2) + 1)) 0 (upd (SL.2 0) ((SL.1 2 : Int32)).toNatClampNeg x2))]) X inX5_add_5 tyX5 tyX5_ok nmX5 0 rfl rfl 2 (by decide) (by decide +kernel) rfl rfl rfl (Nat.le_of_ble_eq_true rfl) rfl dX5_add_74 ?_
      refine ww_goto (pc := 77) (tgt := 154) X dX5_add_77 (by decide) ?_
      have h3 : f_X5_add SL x1 x2 x3 x4 = (sA (sI SL 2 ((SL.1 2) + 1)) 0 (upd (SL.2 0) ((SL.1 2 : Int32)).toNatClampNeg x2)) := by unfold f_X5_add; try rw [if_neg c1, if_pos c2]; first | done | rfl
      exact ww_vret X hr (congrArg (fun u9 : St => fl [wX5 cI cZ cQ rL u9]) h3.symm) dX5_add_154
    · skip
      refine Decidable.byCases (fun (c4 : x1 = 112) => ?_) (fun (c4 : ¬ x1 = 112) => ?_)
      · refine ww_lookup (off := 70) (tgt := 80) X dX5_add_10 (by decide) (by rw [c4]; rfl) (by decide) ?_
        refine ww_aload_n (pc := 80) X dX5_add_80 0 rfl rfl ?_
        refine ww_get (pc := 81) (ci := 5) (v := .ref (rL 2)) (C := RX5) (T := TX5) (N := 11) X inX5_add_5 0 rfl rfl 6 (by decide) (by decide +kernel) rfl dX5_add_81 ?_
        refine ww_aload_n (pc := 84) X dX5_add_84 0 rfl rfl ?_
        refine ww_get (pc := 85) (ci := 5) (v := .int (SL.1 3)) (C := RX5) (T := TX5) (N := 11) X inX5_add_5 0 rfl rfl 3 (by decide) (by decide +kernel) rfl dX5_add_85 ?_
        refine ww_iload_n (pc := 88) X dX5_add_88 2 rfl rfl ?_
        refine ww_iast (pc := 89) (f := SL.2 1) (ws' := fl [wX5 cI cZ cQ rL (sA SL 1 (upd (SL.2 1) ((SL.1 3 : Int32)).toNatClampNeg x2))]) X 2 0 rfl rfl (rm_p okN c1 c4) rfl dX5_add_89 ?_
        refine ww_aload_n (pc := 90) X dX5_add_90 0 rfl rfl ?_
        refine ww_get (pc := 91) (ci := 5) (v := .ref (rL 3)) (C := RX5) (T := TX5) (N := 11) X inX5_add_5 0 rfl rfl 7 (by decide) (by decide +kernel) rfl dX5_add_91 ?_
        refine ww_aload_n (pc := 94) X dX5_add_94 0 rfl rfl ?_
        refine ww_get (pc := 95) (ci := 5) (v := .int (SL.1 3)) (C := RX5) (T := TX5) (N := 11) X inX5_add_5 0 rfl rfl 3 (by decide) (by decide +kernel) rfl dX5_add_95 ?_
        refine ww_iload_n (pc := 98) X dX5_add_98 3 rfl rfl ?_
        refine ww_iast (pc := 99) (f := SL.2 2) (ws' := fl [wX5 cI cZ cQ rL (sA (sA SL 1 (upd (SL.2 1) ((SL.1 3 : Int32)).toNatClampNeg x2)) 2 (upd (SL.2 2) ((SL.1 3 : Int32)).toNatClampNeg x3))]) X 3 0 rfl rfl (rm_p okN c1 c4) rfl dX5_add_99 ?_
        refine ww_aload_n (pc := 100) X dX5_add_100 0 rfl rfl ?_
        refine ww_dup (pc := 101) X dX5_add_101 rfl ?_
        refine ww_get (pc := 102) (ci := 5) (v := .int (SL.1 3)) (C := RX5) (T := TX5) (N := 11) X inX5_add_5 0 rfl rfl 3 (by decide) (by decide +kernel) rfl dX5_add_102 ?_
        refine ww_iconst (pc := 105) (v := 1) X dX5_add_105 (by decide) ?_
        refine ww_iadd (pc := 106) X dX5_add_106 ?_
        refine ww_put (pc := 107) (ci := 5) (v := .int ((SL.1 3) + 1)) (C := RX5) (T := TX5) (N := 11) (ws' := fl [wX5 cI cZ cQ rL (sA (sA (sI SL 3 ((SL.1 3) + 1)) 1 (upd (SL.2 1) ((SL.1 3 : Int32)).toNatClampNeg x2)) 2 (upd (SL.2 2) ((SL.1 3 : Int32)).toNatClampNeg x3))]) X inX5_add_5 tyX5 tyX5_ok nmX5 0 rfl rfl 3 (by decide) (by decide +kernel) rfl rfl rfl (Nat.le_of_ble_eq_true rfl) rfl dX5_add_107 ?_
        refine ww_goto (pc := 110) (tgt := 154) X dX5_add_110 (by decide) ?_
        have h5 : f_X5_add SL x1 x2 x3 x4 = (sA (sA (sI SL 3 ((SL.1 3) + 1)) 1 (upd (SL.2 1) ((SL.1 3 : Int32)).toNatClampNeg x2)) 2 (upd (SL.2 2) ((SL.1 3 : Int32)).toNatClampNeg x3)) := by unfold f_X5_add; try rw [if_neg c1, if_neg c2, if_pos c4]; first | done | rfl
        exact ww_vret X hr (congrArg (fun u9 : St => fl [wX5 cI cZ cQ rL u9]) h5.symm) dX5_add_154
      · skip
        refine Decidable.byCases (fun (c6 : x1 = 115) => ?_) (fun (c6 : ¬ x1 = 115) => ?_)
        · refine ww_lookup (off := 34) (tgt := 44) X dX5_add_10 (by decide) (by rw [c6]; rfl) (by decide) ?_
          refine ww_aload_n (pc := 44) X dX5_add_44 0 rfl rfl ?_
          refine ww_iload_n (pc := 45) X dX5_add_45 2 rfl rfl ?_
          refine ww_put (pc := 46) (ci := 5) (v := .int x2) (C := RX5) (T := TX5) (N := 11) (ws' := fl [wX5 cI cZ cQ rL (sI SL 0 x2)]) X inX5_add_5 tyX5 tyX5_ok nmX5 0 rfl rfl 0 (by decide) (by decide +kernel) rfl rfl rfl (Nat.le_of_ble_eq_true rfl) rfl dX5_add_46 ?_
          refine ww_aload_n (pc := 49) X dX5_add_49 0 rfl rfl ?_
          refine ww_iload_n (pc := 50) X dX5_add_50 3 rfl rfl ?_
          refine ww_put (pc := 51) (ci := 5) (v := .int x3) (C := RX5) (T := TX5) (N := 11) (ws' := fl [wX5 cI cZ cQ rL (sI (sI SL 0 x2) 1 x3)]) X inX5_add_5 tyX5 tyX5_ok nmX5 0 rfl rfl 1 (by decide) (by decide +kernel) rfl rfl rfl (Nat.le_of_ble_eq_true rfl) rfl dX5_add_51 ?_
          refine ww_goto (pc := 54) (tgt := 154) X dX5_add_54 (by decide) ?_
          have h7 : f_X5_add SL x1 x2 x3 x4 = (sI (sI SL 0 x2) 1 x3) := by unfold f_X5_add; try rw [if_neg c1, if_neg c2, if_neg c4, if_pos c6]; first | done | rfl
          exact ww_vret X hr (congrArg (fun u9 : St => fl [wX5 cI cZ cQ rL u9]) h7.symm) dX5_add_154
        · skip
          refine ww_lookup (off := 103) (tgt := 113) X dX5_add_10 (by decide) (by
            simp only [Op.lookupswitch.offset]
            have q100 : ¬ (x1).toInt = 100 := fun h => c2 (Int32.toInt_inj.mp (h.trans (by decide)))
            have q112 : ¬ (x1).toInt = 112 := fun h => c4 (Int32.toInt_inj.mp (h.trans (by decide)))
            have q115 : ¬ (x1).toInt = 115 := fun h => c6 (Int32.toInt_inj.mp (h.trans (by decide)))
            first | (simp_all; done) | (split <;> simp_all; done) | (repeat' split) <;> first | rfl | omega) (by decide) ?_
          refine ww_aload_n (pc := 113) X dX5_add_113 0 rfl rfl ?_
          refine ww_get (pc := 114) (ci := 5) (v := .ref (rL 4)) (C := RX5) (T := TX5) (N := 11) X inX5_add_5 0 rfl rfl 8 (by decide) (by decide +kernel) rfl dX5_add_114 ?_
          refine ww_aload_n (pc := 117) X dX5_add_117 0 rfl rfl ?_
          refine ww_get (pc := 118) (ci := 5) (v := .int (SL.1 4)) (C := RX5) (T := TX5) (N := 11) X inX5_add_5 0 rfl rfl 4 (by decide) (by decide +kernel) rfl dX5_add_118 ?_
          refine ww_iload_n (pc := 121) X dX5_add_121 2 rfl rfl ?_
          refine ww_iast (pc := 122) (f := SL.2 3) (ws' := fl [wX5 cI cZ cQ rL (sA SL 3 (upd (SL.2 3) ((SL.1 4 : Int32)).toNatClampNeg x2))]) X 4 0 rfl rfl (rm_g okN c1 c2 c4 c6) rfl dX5_add_122 ?_
          refine ww_aload_n (pc := 123) X dX5_add_123 0 rfl rfl ?_
          refine ww_get (pc := 124) (ci := 5) (v := .ref (rL 5)) (C := RX5) (T := TX5) (N := 11) X inX5_add_5 0 rfl rfl 9 (by decide) (by decide +kernel) rfl dX5_add_124 ?_
          refine ww_aload_n (pc := 127) X dX5_add_127 0 rfl rfl ?_
          refine ww_get (pc := 128) (ci := 5) (v := .int (SL.1 4)) (C := RX5) (T := TX5) (N := 11) X inX5_add_5 0 rfl rfl 4 (by decide) (by decide +kernel) rfl dX5_add_128 ?_
          refine ww_iload_n (pc := 131) X dX5_add_131 3 rfl rfl ?_
          refine ww_iast (pc := 132) (f := SL.2 4) (ws' := fl [wX5 cI cZ cQ rL (sA (sA SL 3 (upd (SL.2 3) ((SL.1 4 : Int32)).toNatClampNeg x2)) 4 (upd (SL.2 4) ((SL.1 4 : Int32)).toNatClampNeg x3))]) X 5 0 rfl rfl (rm_g okN c1 c2 c4 c6) rfl dX5_add_132 ?_
          refine ww_aload_n (pc := 133) X dX5_add_133 0 rfl rfl ?_
          refine ww_get (pc := 134) (ci := 5) (v := .ref (rL 6)) (C := RX5) (T := TX5) (N := 11) X inX5_add_5 0 rfl rfl 10 (by decide) (by decide +kernel) rfl dX5_add_134 ?_
          refine ww_aload_n (pc := 137) X dX5_add_137 0 rfl rfl ?_
          refine ww_get (pc := 138) (ci := 5) (v := .int (SL.1 4)) (C := RX5) (T := TX5) (N := 11) X inX5_add_5 0 rfl rfl 4 (by decide) (by decide +kernel) rfl dX5_add_138 ?_
          refine ww_iload (pc := 141) X dX5_add_141 4 rfl ?_
          refine ww_iast (pc := 143) (f := SL.2 5) (ws' := fl [wX5 cI cZ cQ rL (sA (sA (sA SL 3 (upd (SL.2 3) ((SL.1 4 : Int32)).toNatClampNeg x2)) 4 (upd (SL.2 4) ((SL.1 4 : Int32)).toNatClampNeg x3)) 5 (upd (SL.2 5) ((SL.1 4 : Int32)).toNatClampNeg x4))]) X 6 0 rfl rfl (rm_g okN c1 c2 c4 c6) rfl dX5_add_143 ?_
          refine ww_aload_n (pc := 144) X dX5_add_144 0 rfl rfl ?_
          refine ww_dup (pc := 145) X dX5_add_145 rfl ?_
          refine ww_get (pc := 146) (ci := 5) (v := .int (SL.1 4)) (C := RX5) (T := TX5) (N := 11) X inX5_add_5 0 rfl rfl 4 (by decide) (by decide +kernel) rfl dX5_add_146 ?_
          refine ww_iconst (pc := 149) (v := 1) X dX5_add_149 (by decide) ?_
          refine ww_iadd (pc := 150) X dX5_add_150 ?_
          refine ww_put (pc := 151) (ci := 5) (v := .int ((SL.1 4) + 1)) (C := RX5) (T := TX5) (N := 11) (ws' := fl [wX5 cI cZ cQ rL (sA (sA (sA (sI SL 4 ((SL.1 4) + 1)) 3 (upd (SL.2 3) ((SL.1 4 : Int32)).toNatClampNeg x2)) 4 (upd (SL.2 4) ((SL.1 4 : Int32)).toNatClampNeg x3)) 5 (upd (SL.2 5) ((SL.1 4 : Int32)).toNatClampNeg x4))]) X inX5_add_5 tyX5 tyX5_ok nmX5 0 rfl rfl 4 (by decide) (by decide +kernel) rfl rfl rfl (Nat.le_of_ble_eq_true rfl) rfl dX5_add_151 ?_
          have h8 : f_X5_add SL x1 x2 x3 x4 = (sA (sA (sA (sI SL 4 ((SL.1 4) + 1)) 3 (upd (SL.2 3) ((SL.1 4 : Int32)).toNatClampNeg x2)) 4 (upd (SL.2 4) ((SL.1 4 : Int32)).toNatClampNeg x3)) 5 (upd (SL.2 5) ((SL.1 4 : Int32)).toNatClampNeg x4)) := by unfold f_X5_add; try rw [if_neg c1, if_neg c2, if_neg c4, if_neg c6]; first | done | rfl
          exact ww_vret X hr (congrArg (fun u9 : St => fl [wX5 cI cZ cQ rL u9]) h8.symm) dX5_add_154
  · have h9 : f_X5_add SL x1 x2 x3 x4 = SL := by unfold f_X5_add; try rw [if_pos c1]; first | done | rfl
    exact ww_vret X hr (congrArg (fun u9 : St => fl [wX5 cI cZ cQ rL u9]) h9.symm) dX5_add_8
def f_X5_kingAt (SL : St) (x1 : Int32) : Int32 :=
  if (SL.1 1) ≤ 0 then
    0
  else
    x1 / (SL.1 1)
theorem inX5_kingAt_5 : ∀ w ∈ wsX50, w ∈ wsX5_kingAt := by decide +kernel
theorem hd_X5_kingAt : yX5_kingAt.cls = RX5 ∧ yX5_kingAt.cls ≠ "java/lang/invoke/MethodHandle" ∧ yX5_kingAt.cls ≠ "java/lang/invoke/VarHandle" ∧ (parseMethodDescriptor yX5_kingAt.desc).map (fun d => d.parameters.length) = some 1 := by decide +kernel
set_option maxHeartbeats 4000000 in
set_option maxRecDepth 100000 in
theorem c_X5_kingAt (l : Launch) (D : va_G) (cI cZ cQ : ClassId) (rL : Nat → Nat) (SL : St) (x1 : Int32) : Ci l yX5_kingAt wsX5_kingAt { frames := 0, cells := 0, slots := 0, locals := 0 } D (tyL cI cZ cQ) [.ref (rL 0), .int x1] (fl [wX5 cI cZ cQ rL SL]) (f_X5_kingAt SL x1) (fl [wX5 cI cZ cQ rL SL]) := by
  refine ci_of (cc := cX5_kingAt) (nL := 2) (ty := .int) (lv0 := [(0, .ref (rL 0)), (1, .int x1)]) (by decide) rfl (Nat.le_of_ble_eq_true rfl) rfl ?_
  intro p e s m args below meth c A X hr
  refine ww_aload_n (pc := 0) X dX5_kingAt_0 0 rfl rfl ?_
  refine ww_get (pc := 1) (ci := 5) (v := .int (SL.1 1)) (C := RX5) (T := TX5) (N := 11) X inX5_kingAt_5 0 rfl rfl 1 (by decide) (by decide +kernel) rfl dX5_kingAt_1 ?_
  refine ww_if_le (pc := 4) (tgt := 16) X dX5_kingAt_4 (by decide) (fun c1 => ?_) (fun c1 => ?_)
  · refine ww_iconst (pc := 16) (v := 0) X dX5_kingAt_16 (by decide) ?_
    exact ww_iret X hr rfl (Eq.symm (by unfold f_X5_kingAt; try rw [if_pos c1]; first | done | rfl)) rfl dX5_kingAt_17
  · refine ww_iload_n (pc := 7) X dX5_kingAt_7 1 rfl rfl ?_
    refine ww_aload_n (pc := 8) X dX5_kingAt_8 0 rfl rfl ?_
    refine ww_get (pc := 9) (ci := 5) (v := .int (SL.1 1)) (C := RX5) (T := TX5) (N := 11) X inX5_kingAt_5 0 rfl rfl 1 (by decide) (by decide +kernel) rfl dX5_kingAt_9 ?_
    refine ww_idiv (pc := 12) X dX5_kingAt_12 (ne_nle c1) ?_
    refine ww_goto (pc := 13) (tgt := 17) X dX5_kingAt_13 (by decide) ?_
    exact ww_iret X hr rfl (Eq.symm (by unfold f_X5_kingAt; try rw [if_neg c1]; first | done | rfl)) rfl dX5_kingAt_17
def f_X5_daysIn (SL : St) (x1 : Int32) (x2 : Int32) : Int32 :=
  if (f_X5_hasDepth SL x1) = 0 then
    0
  else
    if ((SL.2 0) ((x1 : Int32)).toNatClampNeg) ≤ 0 then
      0
    else
      x2 / ((SL.2 0) ((x1 : Int32)).toNatClampNeg)
theorem inX5_daysIn_5 : ∀ w ∈ wsX50, w ∈ wsX5_daysIn := by decide +kernel
theorem hd_X5_daysIn : yX5_daysIn.cls = RX5 ∧ yX5_daysIn.cls ≠ "java/lang/invoke/MethodHandle" ∧ yX5_daysIn.cls ≠ "java/lang/invoke/VarHandle" ∧ (parseMethodDescriptor yX5_daysIn.desc).map (fun d => d.parameters.length) = some 2 := by decide +kernel
set_option maxHeartbeats 4000000 in
set_option maxRecDepth 100000 in
theorem c_X5_daysIn (l : Launch) (D : va_G) (cI cZ cQ : ClassId) (rL : Nat → Nat) (SL : St) (x1 : Int32) (x2 : Int32) : Ci l yX5_daysIn wsX5_daysIn { frames := 1, cells := 0, slots := 0, locals := 21 } D (tyL cI cZ cQ) [.ref (rL 0), .int x1, .int x2] (fl [wX5 cI cZ cQ rL SL]) (f_X5_daysIn SL x1 x2) (fl [wX5 cI cZ cQ rL SL]) := by
  refine ci_of (cc := cX5_daysIn) (nL := 3) (ty := .int) (lv0 := [(0, .ref (rL 0)), (1, .int x1), (2, .int x2)]) (by decide) rfl (Nat.le_of_ble_eq_true rfl) rfl ?_
  intro p e s m args below meth c A X hr
  refine ww_aload_n (pc := 0) X dX5_daysIn_0 0 rfl rfl ?_
  refine ww_iload_n (pc := 1) X dX5_daysIn_1 1 rfl rfl ?_
  refine ww_gVi (pc := 2) (rest := []) (gsN := [wX5 cI cZ cQ rL SL]) (ci := 5) (gi := 0) (qi := 0) X (c_X5_hasDepth l D cI cZ cQ rL SL x1) gX5_daysIn_X5_hasDepth rfl hd_X5_hasDepth [true] rfl rfl rfl rfl rfl rfl rfl rfl ⟨rfl, rfl⟩ ⟨Nat.le_of_ble_eq_true rfl, Nat.le_of_ble_eq_true rfl⟩ (Nat.le_of_ble_eq_true rfl) ⟨Nat.zero_le _, Nat.zero_le _⟩ dX5_daysIn_2 ?_
  refine ww_if_eq (pc := 5) (tgt := 28) X dX5_daysIn_5 (by decide) (fun c1 => ?_) (fun c1 => ?_)
  · refine ww_iconst (pc := 28) (v := 0) X dX5_daysIn_28 (by decide) ?_
    exact ww_iret X hr rfl (Eq.symm (by unfold f_X5_daysIn; try rw [if_pos c1]; first | done | rfl)) rfl dX5_daysIn_29
  · refine ww_aload_n (pc := 8) X dX5_daysIn_8 0 rfl rfl ?_
    refine ww_get (pc := 9) (ci := 5) (v := .ref (rL 1)) (C := RX5) (T := TX5) (N := 11) X inX5_daysIn_5 0 rfl rfl 5 (by decide) (by decide +kernel) rfl dX5_daysIn_9 ?_
    refine ww_iload_n (pc := 12) X dX5_daysIn_12 1 rfl rfl ?_
    refine ww_iald (pc := 13) (f := SL.2 0) X 1 0 rfl rfl (in_X5_hasDepth c1) dX5_daysIn_13 ?_
    refine ww_if_le (pc := 14) (tgt := 28) X dX5_daysIn_14 (by decide) (fun c2 => ?_) (fun c2 => ?_)
    · refine ww_iconst (pc := 28) (v := 0) X dX5_daysIn_28 (by decide) ?_
      exact ww_iret X hr rfl (Eq.symm (by unfold f_X5_daysIn; try rw [if_neg c1, if_pos c2]; first | done | rfl)) rfl dX5_daysIn_29
    · refine ww_iload_n (pc := 17) X dX5_daysIn_17 2 rfl rfl ?_
      refine ww_aload_n (pc := 18) X dX5_daysIn_18 0 rfl rfl ?_
      refine ww_get (pc := 19) (ci := 5) (v := .ref (rL 1)) (C := RX5) (T := TX5) (N := 11) X inX5_daysIn_5 0 rfl rfl 5 (by decide) (by decide +kernel) rfl dX5_daysIn_19 ?_
      refine ww_iload_n (pc := 22) X dX5_daysIn_22 1 rfl rfl ?_
      refine ww_iald (pc := 23) (f := SL.2 0) X 1 0 rfl rfl (in_X5_hasDepth c1) dX5_daysIn_23 ?_
      refine ww_idiv (pc := 24) X dX5_daysIn_24 (ne_nle c2) ?_
      refine ww_goto (pc := 25) (tgt := 29) X dX5_daysIn_25 (by decide) ?_
      exact ww_iret X hr rfl (Eq.symm (by unfold f_X5_daysIn; try rw [if_neg c1, if_neg c2]; first | done | rfl)) rfl dX5_daysIn_29
def f_X5_worthNextYear (SL : St) (x1 : Int32) (x2 : Int32) : Int32 :=
  if (f_X5_hasGood SL x1) = 0 then
    x2
  else
    if ((SL.2 4) ((x1 : Int32)).toNatClampNeg) ≤ 50 then
      if ((SL.2 5) ((x1 : Int32)).toNatClampNeg) < (x2 + ((x2 * ((SL.2 4) ((x1 : Int32)).toNatClampNeg)) / 100)) then
        x2
      else
        x2 + ((x2 * ((SL.2 4) ((x1 : Int32)).toNatClampNeg)) / 100)
    else
      x2 - ((x2 * (((SL.2 4) ((x1 : Int32)).toNatClampNeg) - 50)) / 100)
theorem inX5_worthNextYear_5 : ∀ w ∈ wsX50, w ∈ wsX5_worthNextYear := by decide +kernel
theorem hd_X5_worthNextYear : yX5_worthNextYear.cls = RX5 ∧ yX5_worthNextYear.cls ≠ "java/lang/invoke/MethodHandle" ∧ yX5_worthNextYear.cls ≠ "java/lang/invoke/VarHandle" ∧ (parseMethodDescriptor yX5_worthNextYear.desc).map (fun d => d.parameters.length) = some 2 := by decide +kernel
set_option maxHeartbeats 4000000 in
set_option maxRecDepth 100000 in
theorem c_X5_worthNextYear (l : Launch) (D : va_G) (cI cZ cQ : ClassId) (rL : Nat → Nat) (SL : St) (x1 : Int32) (x2 : Int32) : Ci l yX5_worthNextYear wsX5_worthNextYear { frames := 1, cells := 0, slots := 0, locals := 21 } D (tyL cI cZ cQ) [.ref (rL 0), .int x1, .int x2] (fl [wX5 cI cZ cQ rL SL]) (f_X5_worthNextYear SL x1 x2) (fl [wX5 cI cZ cQ rL SL]) := by
  refine ci_of (cc := cX5_worthNextYear) (nL := 4) (ty := .int) (lv0 := [(0, .ref (rL 0)), (1, .int x1), (2, .int x2)]) (by decide) rfl (Nat.le_of_ble_eq_true rfl) rfl ?_
  intro p e s m args below meth c A X hr
  refine ww_aload_n (pc := 0) X dX5_worthNextYear_0 0 rfl rfl ?_
  refine ww_iload_n (pc := 1) X dX5_worthNextYear_1 1 rfl rfl ?_
  refine ww_gVi (pc := 2) (rest := []) (gsN := [wX5 cI cZ cQ rL SL]) (ci := 5) (gi := 0) (qi := 0) X (c_X5_hasGood l D cI cZ cQ rL SL x1) gX5_worthNextYear_X5_hasGood rfl hd_X5_hasGood [true] rfl rfl rfl rfl rfl rfl rfl rfl ⟨rfl, rfl⟩ ⟨Nat.le_of_ble_eq_true rfl, Nat.le_of_ble_eq_true rfl⟩ (Nat.le_of_ble_eq_true rfl) ⟨Nat.zero_le _, Nat.zero_le _⟩ dX5_worthNextYear_2 ?_
  refine ww_if_ne (pc := 5) (tgt := 10) X dX5_worthNextYear_5 (by decide) (fun c1 => ?_) (fun c1 => ?_)
  · refine ww_aload_n (pc := 10) X dX5_worthNextYear_10 0 rfl rfl ?_
    refine ww_get (pc := 11) (ci := 5) (v := .ref (rL 5)) (C := RX5) (T := TX5) (N := 11) X inX5_worthNextYear_5 0 rfl rfl 9 (by decide) (by decide +kernel) rfl dX5_worthNextYear_11 ?_
    refine ww_iload_n (pc := 14) X dX5_worthNextYear_14 1 rfl rfl ?_
    refine ww_iald (pc := 15) (f := SL.2 4) X 5 0 rfl rfl (in_X5_hasGood c1) dX5_worthNextYear_15 ?_
    refine ww_bipush (pc := 16) (v := 50) X dX5_worthNextYear_16 (by decide) ?_
    refine ww_icmp_le (pc := 18) (tgt := 38) X dX5_worthNextYear_18 (by decide) (fun c2 => ?_) (fun c2 => ?_)
    · refine ww_iload_n (pc := 38) X dX5_worthNextYear_38 2 rfl rfl ?_
      refine ww_iload_n (pc := 39) X dX5_worthNextYear_39 2 rfl rfl ?_
      refine ww_aload_n (pc := 40) X dX5_worthNextYear_40 0 rfl rfl ?_
      refine ww_get (pc := 41) (ci := 5) (v := .ref (rL 5)) (C := RX5) (T := TX5) (N := 11) X inX5_worthNextYear_5 0 rfl rfl 9 (by decide) (by decide +kernel) rfl dX5_worthNextYear_41 ?_
      refine ww_iload_n (pc := 44) X dX5_worthNextYear_44 1 rfl rfl ?_
      refine ww_iald (pc := 45) (f := SL.2 4) X 5 0 rfl rfl (in_X5_hasGood c1) dX5_worthNextYear_45 ?_
      refine ww_imul (pc := 46) X dX5_worthNextYear_46 ?_
      refine ww_bipush (pc := 47) (v := 100) X dX5_worthNextYear_47 (by decide) ?_
      refine ww_idiv (pc := 49) X dX5_worthNextYear_49 (by decide) ?_
      refine ww_iadd (pc := 50) X dX5_worthNextYear_50 ?_
      refine ww_istore_n (pc := 51) (lv' := [(3, .int (x2 + ((x2 * ((SL.2 4) ((x1 : Int32)).toNatClampNeg)) / 100))), (0, .ref (rL 0)), (1, .int x1), (2, .int x2)]) X dX5_worthNextYear_51 rfl (by decide) rfl ?_
      refine ww_iload_n (pc := 52) X dX5_worthNextYear_52 0 rfl rfl ?_
      refine ww_aload_n (pc := 53) X dX5_worthNextYear_53 1 rfl rfl ?_
      refine ww_get (pc := 54) (ci := 5) (v := .ref (rL 6)) (C := RX5) (T := TX5) (N := 11) X inX5_worthNextYear_5 0 rfl rfl 10 (by decide) (by decide +kernel) rfl dX5_worthNextYear_54 ?_
      refine ww_iload_n (pc := 57) X dX5_worthNextYear_57 2 rfl rfl ?_
      refine ww_iald (pc := 58) (f := SL.2 5) X 6 0 rfl rfl (in_X5_hasGood c1) dX5_worthNextYear_58 ?_
      refine ww_icmp_gt (pc := 59) (tgt := 66) X dX5_worthNextYear_59 (by decide) (fun c3 => ?_) (fun c3 => ?_)
      · refine ww_iload_n (pc := 66) X dX5_worthNextYear_66 3 rfl rfl ?_
        exact ww_iret X hr rfl (Eq.symm (by unfold f_X5_worthNextYear; try rw [if_neg c1, if_pos c2, if_pos c3]; first | done | rfl)) rfl dX5_worthNextYear_67
      · refine ww_iload_n (pc := 62) X dX5_worthNextYear_62 0 rfl rfl ?_
        refine ww_goto (pc := 63) (tgt := 67) X dX5_worthNextYear_63 (by decide) ?_
        exact ww_iret X hr rfl (Eq.symm (by unfold f_X5_worthNextYear; try rw [if_neg c1, if_pos c2, if_neg c3]; first | done | rfl)) rfl dX5_worthNextYear_67
    · refine ww_iload_n (pc := 21) X dX5_worthNextYear_21 2 rfl rfl ?_
      refine ww_iload_n (pc := 22) X dX5_worthNextYear_22 2 rfl rfl ?_
      refine ww_aload_n (pc := 23) X dX5_worthNextYear_23 0 rfl rfl ?_
      refine ww_get (pc := 24) (ci := 5) (v := .ref (rL 5)) (C := RX5) (T := TX5) (N := 11) X inX5_worthNextYear_5 0 rfl rfl 9 (by decide) (by decide +kernel) rfl dX5_worthNextYear_24 ?_
      refine ww_iload_n (pc := 27) X dX5_worthNextYear_27 1 rfl rfl ?_
      refine ww_iald (pc := 28) (f := SL.2 4) X 5 0 rfl rfl (in_X5_hasGood c1) dX5_worthNextYear_28 ?_
      refine ww_bipush (pc := 29) (v := 50) X dX5_worthNextYear_29 (by decide) ?_
      refine ww_isub (pc := 31) X dX5_worthNextYear_31 ?_
      refine ww_imul (pc := 32) X dX5_worthNextYear_32 ?_
      refine ww_bipush (pc := 33) (v := 100) X dX5_worthNextYear_33 (by decide) ?_
      refine ww_idiv (pc := 35) X dX5_worthNextYear_35 (by decide) ?_
      refine ww_isub (pc := 36) X dX5_worthNextYear_36 ?_
      exact ww_iret X hr rfl (Eq.symm (by unfold f_X5_worthNextYear; try rw [if_neg c1, if_neg c2]; first | done | rfl)) rfl dX5_worthNextYear_37
  · refine ww_iload_n (pc := 8) X dX5_worthNextYear_8 2 rfl rfl ?_
    exact ww_iret X hr rfl (Eq.symm (by unfold f_X5_worthNextYear; try rw [if_pos c1]; first | done | rfl)) rfl dX5_worthNextYear_9
def l0_X5_worthBehind_6 (SL : St) (x1 : Int32) (x2 : Int32) (x3 : Int32) (j : Nat) (u : Int32) : Int32 :=
  u
def lb_X5_worthBehind_6 (SL : St) (x1 : Int32) (x2 : Int32) (x3 : Int32) (rec : Nat → (Int32) → Int32) (j : Nat) (u : Int32) : Int32 :=
  if (f_X5_worthNextYear SL x1 u) = u then
    u
  else
    rec (j + 1) (f_X5_worthNextYear SL x1 u)
def lp_X5_worthBehind_6 (SL : St) (x1 : Int32) (x2 : Int32) (x3 : Int32) : Nat → Nat → (Int32) → Int32
  | 0, j, u => l0_X5_worthBehind_6 SL x1 x2 x3 j u
  | k + 1, j, u => lb_X5_worthBehind_6 SL x1 x2 x3 (lp_X5_worthBehind_6 SL x1 x2 x3 k) j u
def f_X5_worthBehind (SL : St) (x1 : Int32) (x2 : Int32) (x3 : Int32) : Int32 :=
  lp_X5_worthBehind_6 SL x1 x2 x3 x3.toNatClampNeg 0 x2
theorem hd_X5_worthBehind : yX5_worthBehind.cls = RX5 ∧ yX5_worthBehind.cls ≠ "java/lang/invoke/MethodHandle" ∧ yX5_worthBehind.cls ≠ "java/lang/invoke/VarHandle" ∧ (parseMethodDescriptor yX5_worthBehind.desc).map (fun d => d.parameters.length) = some 3 := by decide +kernel
set_option maxHeartbeats 4000000 in
set_option maxRecDepth 100000 in
theorem c_X5_worthBehind (l : Launch) (D : va_G) (cI cZ cQ : ClassId) (rL : Nat → Nat) (SL : St) (x1 : Int32) (x2 : Int32) (x3 : Int32) : Ci l yX5_worthBehind wsX5_worthBehind { frames := 2, cells := 0, slots := 0, locals := 44 } D (tyL cI cZ cQ) [.ref (rL 0), .int x1, .int x2, .int x3] (fl [wX5 cI cZ cQ rL SL]) (f_X5_worthBehind SL x1 x2 x3) (fl [wX5 cI cZ cQ rL SL]) := by
  refine ci_of (cc := cX5_worthBehind) (nL := 7) (ty := .int) (lv0 := [(0, .ref (rL 0)), (1, .int x1), (2, .int x2), (3, .int x3)]) (by decide) rfl (Nat.le_of_ble_eq_true rfl) rfl ?_
  intro p e s m args below meth c A X hr
  refine ww_iload_n (pc := 0) X dX5_worthBehind_0 2 rfl rfl ?_
  refine ww_istore (pc := 1) (lv' := [(4, .int x2), (0, .ref (rL 0)), (1, .int x1), (2, .int x2), (3, .int x3)]) X dX5_worthBehind_1 (by decide) rfl ?_
  refine ww_iconst (pc := 3) (v := 0) X dX5_worthBehind_3 (by decide) ?_
  refine ww_istore (pc := 4) (lv' := [(5, .int 0), (4, .int x2), (0, .ref (rL 0)), (1, .int x1), (2, .int x2), (3, .int x3)]) X dX5_worthBehind_4 (by decide) rfl ?_
  have L6 : ∀ (k_6 j_6 : Nat) (u_6 : Int32), j_6 + k_6 = x3.toNatClampNeg → True → f_X5_worthBehind SL x1 x2 x3 = lp_X5_worthBehind_6 SL x1 x2 x3 k_6 j_6 u_6 → WW p l e (headSpec wsX5_worthBehind { frames := 2, cells := 0, slots := 0, locals := 44 }).room s m args below meth c 7 D A 0 0 (RQi below args s D A (f_X5_worthBehind SL x1 x2 x3) (fl [wX5 cI cZ cQ rL SL])) (fl [wX5 cI cZ cQ rL SL]) [(0, .ref (rL 0)), (1, .int x1), (2, .int x2), (3, .int x3), (4, .int u_6), (5, .int (nI j_6))] 6 [] := by
    intro k_6
    induction k_6 with
    | zero =>
      intro j_6 u_6 hj hi hf
      have hjB : j_6 = x3.toNatClampNeg := by omega
      subst hjB
      refine ww_iload (pc := 6) X dX5_worthBehind_6 5 rfl ?_
      refine ww_iload_n (pc := 8) X dX5_worthBehind_8 3 rfl rfl ?_
      refine ww_icmp_ge (pc := 9) (tgt := 41) X dX5_worthBehind_9 (by decide) (fun _ => ?_) (fun c9 => absurd (lp_ge0c (Nat.le_refl _) (cl_lt _)) c9)
      refine ww_iload (pc := 41) X dX5_worthBehind_41 4 rfl ?_
      exact ww_iret X hr rfl (Eq.symm (by rw [hf]; show l0_X5_worthBehind_6 SL x1 x2 x3 x3.toNatClampNeg u_6 = _; unfold l0_X5_worthBehind_6; first | done | rfl)) rfl dX5_worthBehind_43
    | succ k_6 ih =>
      intro j_6 u_6 hj hi hf
      have hjB : j_6 < x3.toNatClampNeg := by omega
      refine ww_iload (pc := 6) X dX5_worthBehind_6 5 rfl ?_
      refine ww_iload_n (pc := 8) X dX5_worthBehind_8 3 rfl rfl ?_
      refine ww_icmp_ge (pc := 9) (tgt := 41) X dX5_worthBehind_9 (by decide) (fun c9 => absurd c9 (lp_ge1c hjB)) (fun _ => ?_)
      refine ww_aload_n (pc := 12) X dX5_worthBehind_12 0 rfl rfl ?_
      refine ww_iload_n (pc := 13) X dX5_worthBehind_13 1 rfl rfl ?_
      refine ww_iload (pc := 14) X dX5_worthBehind_14 4 rfl ?_
      refine ww_gVi (pc := 16) (rest := []) (gsN := [wX5 cI cZ cQ rL SL]) (ci := 5) (gi := 0) (qi := 0) X (c_X5_worthNextYear l D cI cZ cQ rL SL x1 u_6) gX5_worthBehind_X5_worthNextYear rfl hd_X5_worthNextYear [true] rfl rfl rfl rfl rfl rfl rfl rfl ⟨rfl, rfl⟩ ⟨Nat.le_of_ble_eq_true rfl, Nat.le_of_ble_eq_true rfl⟩ (Nat.le_of_ble_eq_true rfl) ⟨Nat.zero_le _, Nat.zero_le _⟩ dX5_worthBehind_16 ?_
      refine ww_istore (pc := 19) (lv' := [(6, .int (f_X5_worthNextYear SL x1 u_6)), (0, .ref (rL 0)), (1, .int x1), (2, .int x2), (3, .int x3), (4, .int u_6), (5, .int (nI j_6))]) X dX5_worthBehind_19 (by decide) rfl ?_
      refine ww_iload (pc := 21) X dX5_worthBehind_21 0 rfl ?_
      refine ww_iload (pc := 23) X dX5_worthBehind_23 5 rfl ?_
      refine ww_icmp_ne (pc := 25) (tgt := 31) X dX5_worthBehind_25 (by decide) (fun c2 => ?_) (fun c2 => ?_)
      · refine ww_iload (pc := 31) X dX5_worthBehind_31 0 rfl ?_
        refine ww_istore (pc := 33) (lv' := [(4, .int (f_X5_worthNextYear SL x1 u_6)), (6, .int (f_X5_worthNextYear SL x1 u_6)), (0, .ref (rL 0)), (1, .int x1), (2, .int x2), (3, .int x3), (5, .int (nI j_6))]) X dX5_worthBehind_33 (by decide) rfl ?_
        refine ww_iinc (pc := 35) (v := (nI j_6) + 1) (lv' := [(5, .int ((nI j_6) + 1)), (4, .int (f_X5_worthNextYear SL x1 u_6)), (6, .int (f_X5_worthNextYear SL x1 u_6)), (0, .ref (rL 0)), (1, .int x1), (2, .int x2), (3, .int x3)]) X dX5_worthBehind_35 6 rfl rfl (by decide) rfl ?_
        refine ww_goto (pc := 38) (tgt := 6) X dX5_worthBehind_38 (by decide) ?_
        refine ww_lsub [3, 4, 5, 6, 1, 0] rfl ?_
        have h3 : f_X5_worthBehind SL x1 x2 x3 = lp_X5_worthBehind_6 SL x1 x2 x3 k_6 (j_6 + 1) (f_X5_worthNextYear SL x1 u_6) := by rw [hf]; show lb_X5_worthBehind_6 SL x1 x2 x3 (lp_X5_worthBehind_6 SL x1 x2 x3 k_6) j_6 u_6 = _; unfold lb_X5_worthBehind_6; try rw [if_neg c2]; first | done | rfl
        exact ww_cast rfl (congrArg (fun (i9 : Int32) => ([(0, .ref (rL 0)), (1, .int x1), (2, .int x2), (3, .int x3), (4, .int (f_X5_worthNextYear SL x1 u_6)), (5, .int i9)] : List (Nat × Value))) (nI_1 j_6).symm) (ih (j_6 + 1) (f_X5_worthNextYear SL x1 u_6) (by omega) trivial h3)
      · refine ww_iload (pc := 28) X dX5_worthBehind_28 5 rfl ?_
        exact ww_iret X hr rfl (Eq.symm (by rw [hf]; show lb_X5_worthBehind_6 SL x1 x2 x3 (lp_X5_worthBehind_6 SL x1 x2 x3 k_6) j_6 u_6 = _; unfold lb_X5_worthBehind_6; try rw [if_pos c2]; first | done | rfl)) rfl dX5_worthBehind_30
  refine ww_lsub [2, 3, 4, 5, 1, 0] rfl ?_
  exact L6 x3.toNatClampNeg 0 x2 (by omega) trivial (by unfold f_X5_worthBehind; first | done | rfl)
