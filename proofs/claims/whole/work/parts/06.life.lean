def f_X3_isPerson (x0 : Int32) : Int32 :=
  if x0 < 0 then
    0
  else
    if 7 ≤ x0 then
      0
    else
      1
theorem in_X3_isPerson {x : Int32} (h : ¬ f_X3_isPerson x = 0) : vp_in x 7 := by
  unfold f_X3_isPerson at h
  split at h
  · exact absurd rfl h
  split at h
  · exact absurd rfl h
  exact vin_nge (by assumption) (by assumption) rfl
theorem hd_X3_isPerson : yX3_isPerson.cls = RX3 ∧ yX3_isPerson.cls ≠ "java/lang/invoke/MethodHandle" ∧ yX3_isPerson.cls ≠ "java/lang/invoke/VarHandle" ∧ (parseMethodDescriptor yX3_isPerson.desc).map (fun d => d.parameters.length) = some 1 := by decide +kernel
set_option maxHeartbeats 4000000 in
set_option maxRecDepth 100000 in
theorem c_X3_isPerson (l : Launch) (D : va_G) (cI cZ cQ : ClassId) (x0 : Int32) : Ci l yX3_isPerson wsX3_isPerson { frames := 0, cells := 0, slots := 0, locals := 0 } D (tyL cI cZ cQ) [.int x0] (fl []) (f_X3_isPerson x0) (fl []) := by
  refine ci_of (cc := cX3_isPerson) (nL := 1) (ty := .boolean) (lv0 := [(0, .int x0)]) (by decide) rfl (Nat.le_of_ble_eq_true rfl) rfl ?_
  intro p e s m args below meth c A X hr
  refine ww_iload_n (pc := 0) X dX3_isPerson_0 0 rfl rfl ?_
  refine ww_if_lt (pc := 1) (tgt := 14) X dX3_isPerson_1 (by decide) (fun c1 => ?_) (fun c1 => ?_)
  · refine ww_iconst (pc := 14) (v := 0) X dX3_isPerson_14 (by decide) ?_
    exact ww_iret X hr rfl (Eq.symm (by unfold f_X3_isPerson; try rw [if_pos c1]; first | done | rfl)) rfl dX3_isPerson_15
  · refine ww_iload_n (pc := 4) X dX3_isPerson_4 0 rfl rfl ?_
    refine ww_bipush (pc := 5) (v := 7) X dX3_isPerson_5 (by decide) ?_
    refine ww_icmp_ge (pc := 7) (tgt := 14) X dX3_isPerson_7 (by decide) (fun c2 => ?_) (fun c2 => ?_)
    · refine ww_iconst (pc := 14) (v := 0) X dX3_isPerson_14 (by decide) ?_
      exact ww_iret X hr rfl (Eq.symm (by unfold f_X3_isPerson; try rw [if_neg c1, if_pos c2]; first | done | rfl)) rfl dX3_isPerson_15
    · refine ww_iconst (pc := 10) (v := 1) X dX3_isPerson_10 (by decide) ?_
      refine ww_goto (pc := 11) (tgt := 15) X dX3_isPerson_11 (by decide) ?_
      exact ww_iret X hr rfl (Eq.symm (by unfold f_X3_isPerson; try rw [if_neg c1, if_neg c2]; first | done | rfl)) rfl dX3_isPerson_15
def f_X3_isGood (x0 : Int32) : Int32 :=
  if x0 < 0 then
    0
  else
    if 6 ≤ x0 then
      0
    else
      1
theorem in_X3_isGood {x : Int32} (h : ¬ f_X3_isGood x = 0) : vp_in x 6 := by
  unfold f_X3_isGood at h
  split at h
  · exact absurd rfl h
  split at h
  · exact absurd rfl h
  exact vin_nge (by assumption) (by assumption) rfl
theorem hd_X3_isGood : yX3_isGood.cls = RX3 ∧ yX3_isGood.cls ≠ "java/lang/invoke/MethodHandle" ∧ yX3_isGood.cls ≠ "java/lang/invoke/VarHandle" ∧ (parseMethodDescriptor yX3_isGood.desc).map (fun d => d.parameters.length) = some 1 := by decide +kernel
set_option maxHeartbeats 4000000 in
set_option maxRecDepth 100000 in
theorem c_X3_isGood (l : Launch) (D : va_G) (cI cZ cQ : ClassId) (x0 : Int32) : Ci l yX3_isGood wsX3_isGood { frames := 0, cells := 0, slots := 0, locals := 0 } D (tyL cI cZ cQ) [.int x0] (fl []) (f_X3_isGood x0) (fl []) := by
  refine ci_of (cc := cX3_isGood) (nL := 1) (ty := .boolean) (lv0 := [(0, .int x0)]) (by decide) rfl (Nat.le_of_ble_eq_true rfl) rfl ?_
  intro p e s m args below meth c A X hr
  refine ww_iload_n (pc := 0) X dX3_isGood_0 0 rfl rfl ?_
  refine ww_if_lt (pc := 1) (tgt := 14) X dX3_isGood_1 (by decide) (fun c1 => ?_) (fun c1 => ?_)
  · refine ww_iconst (pc := 14) (v := 0) X dX3_isGood_14 (by decide) ?_
    exact ww_iret X hr rfl (Eq.symm (by unfold f_X3_isGood; try rw [if_pos c1]; first | done | rfl)) rfl dX3_isGood_15
  · refine ww_iload_n (pc := 4) X dX3_isGood_4 0 rfl rfl ?_
    refine ww_bipush (pc := 5) (v := 6) X dX3_isGood_5 (by decide) ?_
    refine ww_icmp_ge (pc := 7) (tgt := 14) X dX3_isGood_7 (by decide) (fun c2 => ?_) (fun c2 => ?_)
    · refine ww_iconst (pc := 14) (v := 0) X dX3_isGood_14 (by decide) ?_
      exact ww_iret X hr rfl (Eq.symm (by unfold f_X3_isGood; try rw [if_neg c1, if_pos c2]; first | done | rfl)) rfl dX3_isGood_15
    · refine ww_iconst (pc := 10) (v := 1) X dX3_isGood_10 (by decide) ?_
      refine ww_goto (pc := 11) (tgt := 15) X dX3_isGood_11 (by decide) ?_
      exact ww_iret X hr rfl (Eq.symm (by unfold f_X3_isGood; try rw [if_neg c1, if_neg c2]; first | done | rfl)) rfl dX3_isGood_15
def f_X3_years (SF : St) : Int32 :=
  (SF.2 0) ((0 : Int32)).toNatClampNeg
theorem inX3_years_3 : ∀ w ∈ wsX30, w ∈ wsX3_years := by decide +kernel
theorem hd_X3_years : yX3_years.cls = RX3 ∧ yX3_years.cls ≠ "java/lang/invoke/MethodHandle" ∧ yX3_years.cls ≠ "java/lang/invoke/VarHandle" ∧ (parseMethodDescriptor yX3_years.desc).map (fun d => d.parameters.length) = some 0 := by decide +kernel
set_option maxHeartbeats 4000000 in
set_option maxRecDepth 100000 in
theorem c_X3_years (l : Launch) (D : va_G) (cI cZ cQ : ClassId) (rF : Nat → Nat) (SF : St) : Ci l yX3_years wsX3_years { frames := 0, cells := 0, slots := 0, locals := 0 } D (tyL cI cZ cQ) [.ref (rF 0)] (fl [wX3 cI cZ cQ rF SF]) (f_X3_years SF) (fl [wX3 cI cZ cQ rF SF]) := by
  refine ci_of (cc := cX3_years) (nL := 1) (ty := .int) (lv0 := [(0, .ref (rF 0))]) (by decide) rfl (Nat.le_of_ble_eq_true rfl) rfl ?_
  intro p e s m args below meth c A X hr
  refine ww_aload_n (pc := 0) X dX3_years_0 0 rfl rfl ?_
  refine ww_get (pc := 1) (ci := 3) (v := .ref (rF 1)) (C := RX3) (T := TX3) (N := 1) X inX3_years_3 0 rfl rfl 0 (by decide) (by decide +kernel) rfl dX3_years_1 ?_
  refine ww_iconst (pc := 4) (v := 0) X dX3_years_4 (by decide) ?_
  refine ww_iald (pc := 5) (f := SF.2 0) X 1 0 rfl rfl (vl_in (by decide)) dX3_years_5 ?_
  exact ww_iret X hr rfl (Eq.symm (by unfold f_X3_years; first | done | rfl)) rfl dX3_years_6
def f_X3_age (SF : St) (x1 : Int32) : Int32 :=
  if (f_X3_isPerson x1) = 0 then
    0
  else
    (SF.2 0) ((1 + x1 : Int32)).toNatClampNeg
theorem inX3_age_3 : ∀ w ∈ wsX30, w ∈ wsX3_age := by decide +kernel
theorem hd_X3_age : yX3_age.cls = RX3 ∧ yX3_age.cls ≠ "java/lang/invoke/MethodHandle" ∧ yX3_age.cls ≠ "java/lang/invoke/VarHandle" ∧ (parseMethodDescriptor yX3_age.desc).map (fun d => d.parameters.length) = some 1 := by decide +kernel
set_option maxHeartbeats 4000000 in
set_option maxRecDepth 100000 in
theorem c_X3_age (l : Launch) (D : va_G) (cI cZ cQ : ClassId) (rF : Nat → Nat) (SF : St) (x1 : Int32) : Ci l yX3_age wsX3_age { frames := 1, cells := 0, slots := 0, locals := 20 } D (tyL cI cZ cQ) [.ref (rF 0), .int x1] (fl [wX3 cI cZ cQ rF SF]) (f_X3_age SF x1) (fl [wX3 cI cZ cQ rF SF]) := by
  refine ci_of (cc := cX3_age) (nL := 2) (ty := .int) (lv0 := [(0, .ref (rF 0)), (1, .int x1)]) (by decide) rfl (Nat.le_of_ble_eq_true rfl) rfl ?_
  intro p e s m args below meth c A X hr
  refine ww_iload_n (pc := 0) X dX3_age_0 1 rfl rfl ?_
  refine ww_gSi (pc := 1) (rest := []) (gsN := [wX3 cI cZ cQ rF SF]) X (c_X3_isPerson l D cI cZ cQ x1) gX3_age_X3_isPerson rfl hd_X3_isPerson [false] rfl rfl rfl rfl ⟨rfl, rfl⟩ ⟨Nat.le_of_ble_eq_true rfl, Nat.le_of_ble_eq_true rfl⟩ (Nat.le_of_ble_eq_true rfl) ⟨Nat.zero_le _, Nat.zero_le _⟩ dX3_age_1 ?_
  refine ww_if_eq (pc := 4) (tgt := 18) X dX3_age_4 (by decide) (fun c1 => ?_) (fun c1 => ?_)
  · refine ww_iconst (pc := 18) (v := 0) X dX3_age_18 (by decide) ?_
    exact ww_iret X hr rfl (Eq.symm (by unfold f_X3_age; try rw [if_pos c1]; first | done | rfl)) rfl dX3_age_19
  · refine ww_aload_n (pc := 7) X dX3_age_7 0 rfl rfl ?_
    refine ww_get (pc := 8) (ci := 3) (v := .ref (rF 1)) (C := RX3) (T := TX3) (N := 1) X inX3_age_3 0 rfl rfl 0 (by decide) (by decide +kernel) rfl dX3_age_8 ?_
    refine ww_iconst (pc := 11) (v := 1) X dX3_age_11 (by decide) ?_
    refine ww_iload_n (pc := 12) X dX3_age_12 1 rfl rfl ?_
    have hb2 := clb (in_X3_isPerson c1)
    refine ww_iadd (pc := 13) X dX3_age_13 ?_
    refine ww_iald (pc := 14) (f := SF.2 0) X 1 0 rfl rfl (vn (m := 1 + ((x1 : Int32).toNatClampNeg)) (nat_iadd (a := 1) (b := (x1 : Int32).toNatClampNeg) rfl (cl_of (in_X3_isPerson c1))) (by omega) (by decide)) dX3_age_14 ?_
    refine ww_goto (pc := 15) (tgt := 19) X dX3_age_15 (by decide) ?_
    exact ww_iret X hr rfl (Eq.symm (by unfold f_X3_age; try rw [if_neg c1]; first | done | rfl)) rfl dX3_age_19
def f_X3_place (SF : St) (x1 : Int32) : Int32 :=
  if (f_X3_isPerson x1) = 0 then
    1
  else
    (SF.2 0) ((8 + x1 : Int32)).toNatClampNeg
theorem inX3_place_3 : ∀ w ∈ wsX30, w ∈ wsX3_place := by decide +kernel
theorem hd_X3_place : yX3_place.cls = RX3 ∧ yX3_place.cls ≠ "java/lang/invoke/MethodHandle" ∧ yX3_place.cls ≠ "java/lang/invoke/VarHandle" ∧ (parseMethodDescriptor yX3_place.desc).map (fun d => d.parameters.length) = some 1 := by decide +kernel
set_option maxHeartbeats 4000000 in
set_option maxRecDepth 100000 in
theorem c_X3_place (l : Launch) (D : va_G) (cI cZ cQ : ClassId) (rF : Nat → Nat) (SF : St) (x1 : Int32) : Ci l yX3_place wsX3_place { frames := 1, cells := 0, slots := 0, locals := 20 } D (tyL cI cZ cQ) [.ref (rF 0), .int x1] (fl [wX3 cI cZ cQ rF SF]) (f_X3_place SF x1) (fl [wX3 cI cZ cQ rF SF]) := by
  refine ci_of (cc := cX3_place) (nL := 2) (ty := .int) (lv0 := [(0, .ref (rF 0)), (1, .int x1)]) (by decide) rfl (Nat.le_of_ble_eq_true rfl) rfl ?_
  intro p e s m args below meth c A X hr
  refine ww_iload_n (pc := 0) X dX3_place_0 1 rfl rfl ?_
  refine ww_gSi (pc := 1) (rest := []) (gsN := [wX3 cI cZ cQ rF SF]) X (c_X3_isPerson l D cI cZ cQ x1) gX3_place_X3_isPerson rfl hd_X3_isPerson [false] rfl rfl rfl rfl ⟨rfl, rfl⟩ ⟨Nat.le_of_ble_eq_true rfl, Nat.le_of_ble_eq_true rfl⟩ (Nat.le_of_ble_eq_true rfl) ⟨Nat.zero_le _, Nat.zero_le _⟩ dX3_place_1 ?_
  refine ww_if_eq (pc := 4) (tgt := 19) X dX3_place_4 (by decide) (fun c1 => ?_) (fun c1 => ?_)
  · refine ww_iconst (pc := 19) (v := 1) X dX3_place_19 (by decide) ?_
    exact ww_iret X hr rfl (Eq.symm (by unfold f_X3_place; try rw [if_pos c1]; first | done | rfl)) rfl dX3_place_20
  · refine ww_aload_n (pc := 7) X dX3_place_7 0 rfl rfl ?_
    refine ww_get (pc := 8) (ci := 3) (v := .ref (rF 1)) (C := RX3) (T := TX3) (N := 1) X inX3_place_3 0 rfl rfl 0 (by decide) (by decide +kernel) rfl dX3_place_8 ?_
    refine ww_bipush (pc := 11) (v := 8) X dX3_place_11 (by decide) ?_
    refine ww_iload_n (pc := 13) X dX3_place_13 1 rfl rfl ?_
    have hb2 := clb (in_X3_isPerson c1)
    refine ww_iadd (pc := 14) X dX3_place_14 ?_
    refine ww_iald (pc := 15) (f := SF.2 0) X 1 0 rfl rfl (vn (m := 8 + ((x1 : Int32).toNatClampNeg)) (nat_iadd (a := 8) (b := (x1 : Int32).toNatClampNeg) rfl (cl_of (in_X3_isPerson c1))) (by omega) (by decide)) dX3_place_15 ?_
    refine ww_goto (pc := 16) (tgt := 20) X dX3_place_16 (by decide) ?_
    exact ww_iret X hr rfl (Eq.symm (by unfold f_X3_place; try rw [if_neg c1]; first | done | rfl)) rfl dX3_place_20
def f_X3_box (SF : St) (x1 : Int32) : Int32 :=
  if (f_X3_isPerson x1) = 0 then
    0
  else
    (SF.2 0) ((15 + x1 : Int32)).toNatClampNeg
theorem inX3_box_3 : ∀ w ∈ wsX30, w ∈ wsX3_box := by decide +kernel
theorem hd_X3_box : yX3_box.cls = RX3 ∧ yX3_box.cls ≠ "java/lang/invoke/MethodHandle" ∧ yX3_box.cls ≠ "java/lang/invoke/VarHandle" ∧ (parseMethodDescriptor yX3_box.desc).map (fun d => d.parameters.length) = some 1 := by decide +kernel
set_option maxHeartbeats 4000000 in
set_option maxRecDepth 100000 in
theorem c_X3_box (l : Launch) (D : va_G) (cI cZ cQ : ClassId) (rF : Nat → Nat) (SF : St) (x1 : Int32) : Ci l yX3_box wsX3_box { frames := 1, cells := 0, slots := 0, locals := 20 } D (tyL cI cZ cQ) [.ref (rF 0), .int x1] (fl [wX3 cI cZ cQ rF SF]) (f_X3_box SF x1) (fl [wX3 cI cZ cQ rF SF]) := by
  refine ci_of (cc := cX3_box) (nL := 2) (ty := .int) (lv0 := [(0, .ref (rF 0)), (1, .int x1)]) (by decide) rfl (Nat.le_of_ble_eq_true rfl) rfl ?_
  intro p e s m args below meth c A X hr
  refine ww_iload_n (pc := 0) X dX3_box_0 1 rfl rfl ?_
  refine ww_gSi (pc := 1) (rest := []) (gsN := [wX3 cI cZ cQ rF SF]) X (c_X3_isPerson l D cI cZ cQ x1) gX3_box_X3_isPerson rfl hd_X3_isPerson [false] rfl rfl rfl rfl ⟨rfl, rfl⟩ ⟨Nat.le_of_ble_eq_true rfl, Nat.le_of_ble_eq_true rfl⟩ (Nat.le_of_ble_eq_true rfl) ⟨Nat.zero_le _, Nat.zero_le _⟩ dX3_box_1 ?_
  refine ww_if_eq (pc := 4) (tgt := 19) X dX3_box_4 (by decide) (fun c1 => ?_) (fun c1 => ?_)
  · refine ww_iconst (pc := 19) (v := 0) X dX3_box_19 (by decide) ?_
    exact ww_iret X hr rfl (Eq.symm (by unfold f_X3_box; try rw [if_pos c1]; first | done | rfl)) rfl dX3_box_20
  · refine ww_aload_n (pc := 7) X dX3_box_7 0 rfl rfl ?_
    refine ww_get (pc := 8) (ci := 3) (v := .ref (rF 1)) (C := RX3) (T := TX3) (N := 1) X inX3_box_3 0 rfl rfl 0 (by decide) (by decide +kernel) rfl dX3_box_8 ?_
    refine ww_bipush (pc := 11) (v := 15) X dX3_box_11 (by decide) ?_
    refine ww_iload_n (pc := 13) X dX3_box_13 1 rfl rfl ?_
    have hb2 := clb (in_X3_isPerson c1)
    refine ww_iadd (pc := 14) X dX3_box_14 ?_
    refine ww_iald (pc := 15) (f := SF.2 0) X 1 0 rfl rfl (vn (m := 15 + ((x1 : Int32).toNatClampNeg)) (nat_iadd (a := 15) (b := (x1 : Int32).toNatClampNeg) rfl (cl_of (in_X3_isPerson c1))) (by omega) (by decide)) dX3_box_15 ?_
    refine ww_goto (pc := 16) (tgt := 20) X dX3_box_16 (by decide) ?_
    exact ww_iret X hr rfl (Eq.symm (by unfold f_X3_box; try rw [if_neg c1]; first | done | rfl)) rfl dX3_box_20
def f_X3_worth (SF : St) (x1 : Int32) : Int32 :=
  if (f_X3_isGood x1) = 0 then
    0
  else
    (SF.2 0) ((29 + x1 : Int32)).toNatClampNeg
theorem inX3_worth_3 : ∀ w ∈ wsX30, w ∈ wsX3_worth := by decide +kernel
theorem hd_X3_worth : yX3_worth.cls = RX3 ∧ yX3_worth.cls ≠ "java/lang/invoke/MethodHandle" ∧ yX3_worth.cls ≠ "java/lang/invoke/VarHandle" ∧ (parseMethodDescriptor yX3_worth.desc).map (fun d => d.parameters.length) = some 1 := by decide +kernel
set_option maxHeartbeats 4000000 in
set_option maxRecDepth 100000 in
theorem c_X3_worth (l : Launch) (D : va_G) (cI cZ cQ : ClassId) (rF : Nat → Nat) (SF : St) (x1 : Int32) : Ci l yX3_worth wsX3_worth { frames := 1, cells := 0, slots := 0, locals := 20 } D (tyL cI cZ cQ) [.ref (rF 0), .int x1] (fl [wX3 cI cZ cQ rF SF]) (f_X3_worth SF x1) (fl [wX3 cI cZ cQ rF SF]) := by
  refine ci_of (cc := cX3_worth) (nL := 2) (ty := .int) (lv0 := [(0, .ref (rF 0)), (1, .int x1)]) (by decide) rfl (Nat.le_of_ble_eq_true rfl) rfl ?_
  intro p e s m args below meth c A X hr
  refine ww_iload_n (pc := 0) X dX3_worth_0 1 rfl rfl ?_
  refine ww_gSi (pc := 1) (rest := []) (gsN := [wX3 cI cZ cQ rF SF]) X (c_X3_isGood l D cI cZ cQ x1) gX3_worth_X3_isGood rfl hd_X3_isGood [false] rfl rfl rfl rfl ⟨rfl, rfl⟩ ⟨Nat.le_of_ble_eq_true rfl, Nat.le_of_ble_eq_true rfl⟩ (Nat.le_of_ble_eq_true rfl) ⟨Nat.zero_le _, Nat.zero_le _⟩ dX3_worth_1 ?_
  refine ww_if_eq (pc := 4) (tgt := 19) X dX3_worth_4 (by decide) (fun c1 => ?_) (fun c1 => ?_)
  · refine ww_iconst (pc := 19) (v := 0) X dX3_worth_19 (by decide) ?_
    exact ww_iret X hr rfl (Eq.symm (by unfold f_X3_worth; try rw [if_pos c1]; first | done | rfl)) rfl dX3_worth_20
  · refine ww_aload_n (pc := 7) X dX3_worth_7 0 rfl rfl ?_
    refine ww_get (pc := 8) (ci := 3) (v := .ref (rF 1)) (C := RX3) (T := TX3) (N := 1) X inX3_worth_3 0 rfl rfl 0 (by decide) (by decide +kernel) rfl dX3_worth_8 ?_
    refine ww_bipush (pc := 11) (v := 29) X dX3_worth_11 (by decide) ?_
    refine ww_iload_n (pc := 13) X dX3_worth_13 1 rfl rfl ?_
    have hb2 := clb (in_X3_isGood c1)
    refine ww_iadd (pc := 14) X dX3_worth_14 ?_
    refine ww_iald (pc := 15) (f := SF.2 0) X 1 0 rfl rfl (vn (m := 29 + ((x1 : Int32).toNatClampNeg)) (nat_iadd (a := 29) (b := (x1 : Int32).toNatClampNeg) rfl (cl_of (in_X3_isGood c1))) (by omega) (by decide)) dX3_worth_15 ?_
    refine ww_goto (pc := 16) (tgt := 20) X dX3_worth_16 (by decide) ?_
    exact ww_iret X hr rfl (Eq.symm (by unfold f_X3_worth; try rw [if_neg c1]; first | done | rfl)) rfl dX3_worth_20
def f_X3_isAbove (SF : St) (x1 : Int32) : Int32 :=
  if (f_X3_place SF x1) = 0 then
    1
  else
    0
theorem in_X3_isAbove {S : St} {x : Int32} (h : ¬ f_X3_isAbove S x = 0) : vp_in x 7 := by
  unfold f_X3_isAbove f_X3_place at h
  by_cases h1 : f_X3_isPerson x = 0
  · rw [if_pos h1] at h
    exact absurd (if_neg (by decide)) h
  · exact in_X3_isPerson h1
theorem hd_X3_isAbove : yX3_isAbove.cls = RX3 ∧ yX3_isAbove.cls ≠ "java/lang/invoke/MethodHandle" ∧ yX3_isAbove.cls ≠ "java/lang/invoke/VarHandle" ∧ (parseMethodDescriptor yX3_isAbove.desc).map (fun d => d.parameters.length) = some 1 := by decide +kernel
set_option maxHeartbeats 4000000 in
set_option maxRecDepth 100000 in
theorem c_X3_isAbove (l : Launch) (D : va_G) (cI cZ cQ : ClassId) (rF : Nat → Nat) (SF : St) (x1 : Int32) : Ci l yX3_isAbove wsX3_isAbove { frames := 2, cells := 0, slots := 0, locals := 41 } D (tyL cI cZ cQ) [.ref (rF 0), .int x1] (fl [wX3 cI cZ cQ rF SF]) (f_X3_isAbove SF x1) (fl [wX3 cI cZ cQ rF SF]) := by
  refine ci_of (cc := cX3_isAbove) (nL := 2) (ty := .boolean) (lv0 := [(0, .ref (rF 0)), (1, .int x1)]) (by decide) rfl (Nat.le_of_ble_eq_true rfl) rfl ?_
  intro p e s m args below meth c A X hr
  refine ww_aload_n (pc := 0) X dX3_isAbove_0 0 rfl rfl ?_
  refine ww_iload_n (pc := 1) X dX3_isAbove_1 1 rfl rfl ?_
  refine ww_gVi (pc := 2) (rest := []) (gsN := [wX3 cI cZ cQ rF SF]) (ci := 3) (gi := 0) (qi := 0) X (c_X3_place l D cI cZ cQ rF SF x1) gX3_isAbove_X3_place rfl hd_X3_place [true] rfl rfl rfl rfl rfl rfl rfl rfl ⟨rfl, rfl⟩ ⟨Nat.le_of_ble_eq_true rfl, Nat.le_of_ble_eq_true rfl⟩ (Nat.le_of_ble_eq_true rfl) ⟨Nat.zero_le _, Nat.zero_le _⟩ dX3_isAbove_2 ?_
  refine ww_if_ne (pc := 5) (tgt := 12) X dX3_isAbove_5 (by decide) (fun c1 => ?_) (fun c1 => ?_)
  · refine ww_iconst (pc := 12) (v := 0) X dX3_isAbove_12 (by decide) ?_
    exact ww_iret X hr rfl (Eq.symm (by unfold f_X3_isAbove; try rw [if_neg c1]; first | done | rfl)) rfl dX3_isAbove_13
  · refine ww_iconst (pc := 8) (v := 1) X dX3_isAbove_8 (by decide) ?_
    refine ww_goto (pc := 9) (tgt := 13) X dX3_isAbove_9 (by decide) ?_
    exact ww_iret X hr rfl (Eq.symm (by unfold f_X3_isAbove; try rw [if_pos c1]; first | done | rfl)) rfl dX3_isAbove_13
def f_X3_isBelow (SF : St) (x1 : Int32) : Int32 :=
  if (f_X3_place SF x1) < 10 then
    0
  else
    1
theorem in_X3_isBelow {S : St} {x : Int32} (h : ¬ f_X3_isBelow S x = 0) : vp_in x 7 := by
  unfold f_X3_isBelow f_X3_place at h
  by_cases h1 : f_X3_isPerson x = 0
  · rw [if_pos h1] at h
    exact absurd (by decide) h
  · exact in_X3_isPerson h1
theorem hd_X3_isBelow : yX3_isBelow.cls = RX3 ∧ yX3_isBelow.cls ≠ "java/lang/invoke/MethodHandle" ∧ yX3_isBelow.cls ≠ "java/lang/invoke/VarHandle" ∧ (parseMethodDescriptor yX3_isBelow.desc).map (fun d => d.parameters.length) = some 1 := by decide +kernel
set_option maxHeartbeats 4000000 in
set_option maxRecDepth 100000 in
theorem c_X3_isBelow (l : Launch) (D : va_G) (cI cZ cQ : ClassId) (rF : Nat → Nat) (SF : St) (x1 : Int32) : Ci l yX3_isBelow wsX3_isBelow { frames := 2, cells := 0, slots := 0, locals := 41 } D (tyL cI cZ cQ) [.ref (rF 0), .int x1] (fl [wX3 cI cZ cQ rF SF]) (f_X3_isBelow SF x1) (fl [wX3 cI cZ cQ rF SF]) := by
  refine ci_of (cc := cX3_isBelow) (nL := 2) (ty := .boolean) (lv0 := [(0, .ref (rF 0)), (1, .int x1)]) (by decide) rfl (Nat.le_of_ble_eq_true rfl) rfl ?_
  intro p e s m args below meth c A X hr
  refine ww_aload_n (pc := 0) X dX3_isBelow_0 0 rfl rfl ?_
  refine ww_iload_n (pc := 1) X dX3_isBelow_1 1 rfl rfl ?_
  refine ww_gVi (pc := 2) (rest := []) (gsN := [wX3 cI cZ cQ rF SF]) (ci := 3) (gi := 0) (qi := 0) X (c_X3_place l D cI cZ cQ rF SF x1) gX3_isBelow_X3_place rfl hd_X3_place [true] rfl rfl rfl rfl rfl rfl rfl rfl ⟨rfl, rfl⟩ ⟨Nat.le_of_ble_eq_true rfl, Nat.le_of_ble_eq_true rfl⟩ (Nat.le_of_ble_eq_true rfl) ⟨Nat.zero_le _, Nat.zero_le _⟩ dX3_isBelow_2 ?_
  refine ww_bipush (pc := 5) (v := 10) X dX3_isBelow_5 (by decide) ?_
  refine ww_icmp_lt (pc := 7) (tgt := 14) X dX3_isBelow_7 (by decide) (fun c1 => ?_) (fun c1 => ?_)
  · refine ww_iconst (pc := 14) (v := 0) X dX3_isBelow_14 (by decide) ?_
    exact ww_iret X hr rfl (Eq.symm (by unfold f_X3_isBelow; try rw [if_pos c1]; first | done | rfl)) rfl dX3_isBelow_15
  · refine ww_iconst (pc := 10) (v := 1) X dX3_isBelow_10 (by decide) ?_
    refine ww_goto (pc := 11) (tgt := 15) X dX3_isBelow_11 (by decide) ?_
    exact ww_iret X hr rfl (Eq.symm (by unfold f_X3_isBelow; try rw [if_neg c1]; first | done | rfl)) rfl dX3_isBelow_15
def f_X3_daysBelow (SL : St) (SF : St) (x2 : Int32) : Int32 :=
  if (f_X3_isBelow SF x2) = 0 then
    0
  else
    f_X5_daysIn SL ((f_X3_place SF x2) - 10) ((SF.2 0) ((22 + x2 : Int32)).toNatClampNeg)
theorem inX3_daysBelow_3 : ∀ w ∈ wsX30, w ∈ wsX3_daysBelow := by decide +kernel
theorem hd_X3_daysBelow : yX3_daysBelow.cls = RX3 ∧ yX3_daysBelow.cls ≠ "java/lang/invoke/MethodHandle" ∧ yX3_daysBelow.cls ≠ "java/lang/invoke/VarHandle" ∧ (parseMethodDescriptor yX3_daysBelow.desc).map (fun d => d.parameters.length) = some 2 := by decide +kernel
set_option maxHeartbeats 4000000 in
set_option maxRecDepth 100000 in
theorem c_X3_daysBelow (l : Launch) (D : va_G) (cI cZ cQ : ClassId) (rL : Nat → Nat) (rF : Nat → Nat) (SL : St) (SF : St) (x2 : Int32) : Ci l yX3_daysBelow wsX3_daysBelow { frames := 3, cells := 0, slots := 0, locals := 62 } D (tyL cI cZ cQ) [.ref (rF 0), .ref (rL 0), .int x2] (fl [wX5 cI cZ cQ rL SL, wX3 cI cZ cQ rF SF]) (f_X3_daysBelow SL SF x2) (fl [wX5 cI cZ cQ rL SL, wX3 cI cZ cQ rF SF]) := by
  refine ci_of (cc := cX3_daysBelow) (nL := 3) (ty := .int) (lv0 := [(0, .ref (rF 0)), (1, .ref (rL 0)), (2, .int x2)]) (by decide) rfl (Nat.le_of_ble_eq_true rfl) rfl ?_
  intro p e s m args below meth c A X hr
  refine ww_aload_n (pc := 0) X dX3_daysBelow_0 0 rfl rfl ?_
  refine ww_iload_n (pc := 1) X dX3_daysBelow_1 2 rfl rfl ?_
  refine ww_gVi (pc := 2) (rest := []) (gsN := [wX5 cI cZ cQ rL SL, wX3 cI cZ cQ rF SF]) (ci := 3) (gi := 0) (qi := 0) X (c_X3_isBelow l D cI cZ cQ rF SF x2) gX3_daysBelow_X3_isBelow rfl hd_X3_isBelow [false, true] rfl rfl rfl rfl rfl rfl rfl rfl ⟨rfl, rfl⟩ ⟨Nat.le_of_ble_eq_true rfl, Nat.le_of_ble_eq_true rfl⟩ (Nat.le_of_ble_eq_true rfl) ⟨Nat.zero_le _, Nat.zero_le _⟩ dX3_daysBelow_2 ?_
  refine ww_if_eq (pc := 5) (tgt := 32) X dX3_daysBelow_5 (by decide) (fun c1 => ?_) (fun c1 => ?_)
  · refine ww_iconst (pc := 32) (v := 0) X dX3_daysBelow_32 (by decide) ?_
    exact ww_iret X hr rfl (Eq.symm (by unfold f_X3_daysBelow; try rw [if_pos c1]; first | done | rfl)) rfl dX3_daysBelow_33
  · refine ww_aload_n (pc := 8) X dX3_daysBelow_8 1 rfl rfl ?_
    refine ww_aload_n (pc := 9) X dX3_daysBelow_9 0 rfl rfl ?_
    refine ww_iload_n (pc := 10) X dX3_daysBelow_10 2 rfl rfl ?_
    refine ww_gVi (pc := 11) (rest := [.ref (rL 0)]) (gsN := [wX5 cI cZ cQ rL SL, wX3 cI cZ cQ rF SF]) (ci := 3) (gi := 0) (qi := 0) X (c_X3_place l D cI cZ cQ rF SF x2) gX3_daysBelow_X3_place rfl hd_X3_place [false, true] rfl rfl rfl rfl rfl rfl rfl rfl ⟨rfl, rfl⟩ ⟨Nat.le_of_ble_eq_true rfl, Nat.le_of_ble_eq_true rfl⟩ (Nat.le_of_ble_eq_true rfl) ⟨Nat.zero_le _, Nat.zero_le _⟩ dX3_daysBelow_11 ?_
    refine ww_bipush (pc := 14) (v := 10) X dX3_daysBelow_14 (by decide) ?_
    refine ww_isub (pc := 16) X dX3_daysBelow_16 ?_
    refine ww_aload_n (pc := 17) X dX3_daysBelow_17 0 rfl rfl ?_
    refine ww_get (pc := 18) (ci := 3) (v := .ref (rF 1)) (C := RX3) (T := TX3) (N := 1) X inX3_daysBelow_3 7 rfl rfl 0 (by decide) (by decide +kernel) rfl dX3_daysBelow_18 ?_
    refine ww_bipush (pc := 21) (v := 22) X dX3_daysBelow_21 (by decide) ?_
    refine ww_iload_n (pc := 23) X dX3_daysBelow_23 2 rfl rfl ?_
    have hb2 := clb (in_X3_isBelow c1)
    refine ww_iadd (pc := 24) X dX3_daysBelow_24 ?_
    refine ww_iald (pc := 25) (f := SF.2 0) X 8 0 rfl rfl (vn (m := 22 + ((x2 : Int32).toNatClampNeg)) (nat_iadd (a := 22) (b := (x2 : Int32).toNatClampNeg) rfl (cl_of (in_X3_isBelow c1))) (by omega) (by decide)) dX3_daysBelow_25 ?_
    refine ww_gVi (pc := 26) (rest := []) (gsN := [wX5 cI cZ cQ rL SL, wX3 cI cZ cQ rF SF]) (ci := 5) (gi := 0) (qi := 0) X (c_X5_daysIn l D cI cZ cQ rL SL ((f_X3_place SF x2) - 10) ((SF.2 0) ((22 + x2 : Int32)).toNatClampNeg)) gX3_daysBelow_X5_daysIn rfl hd_X5_daysIn [true, false] rfl rfl rfl rfl rfl rfl rfl rfl ⟨rfl, rfl⟩ ⟨Nat.le_of_ble_eq_true rfl, Nat.le_of_ble_eq_true rfl⟩ (Nat.le_of_ble_eq_true rfl) ⟨Nat.zero_le _, Nat.zero_le _⟩ dX3_daysBelow_26 ?_
    refine ww_goto (pc := 29) (tgt := 33) X dX3_daysBelow_29 (by decide) ?_
    exact ww_iret X hr rfl (Eq.symm (by unfold f_X3_daysBelow; try rw [if_neg c1]; first | done | rfl)) rfl dX3_daysBelow_33
def f_X3_goDown (SF : St) (x1 : Int32) (x2 : Int32) : St :=
  if (f_X3_isPerson x1) = 0 then
    SF
  else
    (sA SF 0 (upd (upd (SF.2 0) ((8 + x1 : Int32)).toNatClampNeg (10 + x2)) ((22 + x1 : Int32)).toNatClampNeg 0))
theorem inX3_goDown_3 : ∀ w ∈ wsX30, w ∈ wsX3_goDown := by decide +kernel
theorem hd_X3_goDown : yX3_goDown.cls = RX3 ∧ yX3_goDown.cls ≠ "java/lang/invoke/MethodHandle" ∧ yX3_goDown.cls ≠ "java/lang/invoke/VarHandle" ∧ (parseMethodDescriptor yX3_goDown.desc).map (fun d => d.parameters.length) = some 2 := by decide +kernel
set_option maxHeartbeats 4000000 in
set_option maxRecDepth 100000 in
theorem c_X3_goDown (l : Launch) (D : va_G) (cI cZ cQ : ClassId) (rF : Nat → Nat) (SF : St) (x1 : Int32) (x2 : Int32) : Cv l yX3_goDown wsX3_goDown { frames := 1, cells := 0, slots := 0, locals := 20 } D (tyL cI cZ cQ) [.ref (rF 0), .int x1, .int x2] (fl [wX3 cI cZ cQ rF SF]) (fl [wX3 cI cZ cQ rF (f_X3_goDown SF x1 x2)]) := by
  refine cv_of (cc := cX3_goDown) (nL := 3) (lv0 := [(0, .ref (rF 0)), (1, .int x1), (2, .int x2)]) (by decide) rfl (Nat.le_of_ble_eq_true rfl) rfl ?_
  intro p e s m args below meth c A X hr
  refine ww_iload_n (pc := 0) X dX3_goDown_0 1 rfl rfl ?_
  refine ww_gSi (pc := 1) (rest := []) (gsN := [wX3 cI cZ cQ rF SF]) X (c_X3_isPerson l D cI cZ cQ x1) gX3_goDown_X3_isPerson rfl hd_X3_isPerson [false] rfl rfl rfl rfl ⟨rfl, rfl⟩ ⟨Nat.le_of_ble_eq_true rfl, Nat.le_of_ble_eq_true rfl⟩ (Nat.le_of_ble_eq_true rfl) ⟨Nat.zero_le _, Nat.zero_le _⟩ dX3_goDown_1 ?_
  refine ww_if_eq (pc := 4) (tgt := 30) X dX3_goDown_4 (by decide) (fun c1 => ?_) (fun c1 => ?_)
  · have h2 : f_X3_goDown SF x1 x2 = SF := by unfold f_X3_goDown; try rw [if_pos c1]; first | done | rfl
    exact ww_vret X hr (congrArg (fun u9 : St => fl [wX3 cI cZ cQ rF u9]) h2.symm) dX3_goDown_30
  · refine ww_aload_n (pc := 7) X dX3_goDown_7 0 rfl rfl ?_
    refine ww_get (pc := 8) (ci := 3) (v := .ref (rF 1)) (C := RX3) (T := TX3) (N := 1) X inX3_goDown_3 0 rfl rfl 0 (by decide) (by decide +kernel) rfl dX3_goDown_8 ?_
    refine ww_bipush (pc := 11) (v := 8) X dX3_goDown_11 (by decide) ?_
    refine ww_iload_n (pc := 13) X dX3_goDown_13 1 rfl rfl ?_
    have hb3 := clb (in_X3_isPerson c1)
    refine ww_iadd (pc := 14) X dX3_goDown_14 ?_
    refine ww_bipush (pc := 15) (v := 10) X dX3_goDown_15 (by decide) ?_
    refine ww_iload_n (pc := 17) X dX3_goDown_17 2 rfl rfl ?_
    refine ww_iadd (pc := 18) X dX3_goDown_18 ?_
    refine ww_iast (pc := 19) (f := SF.2 0) (ws' := fl [wX3 cI cZ cQ rF (sA SF 0 (upd (SF.2 0) ((8 + x1 : Int32)).toNatClampNeg (10 + x2)))]) X 1 0 rfl rfl (vn (m := 8 + ((x1 : Int32).toNatClampNeg)) (nat_iadd (a := 8) (b := (x1 : Int32).toNatClampNeg) rfl (cl_of (in_X3_isPerson c1))) (by omega) (by decide)) rfl dX3_goDown_19 ?_
    refine ww_aload_n (pc := 20) X dX3_goDown_20 0 rfl rfl ?_
    refine ww_get (pc := 21) (ci := 3) (v := .ref (rF 1)) (C := RX3) (T := TX3) (N := 1) X inX3_goDown_3 0 rfl rfl 0 (by decide) (by decide +kernel) rfl dX3_goDown_21 ?_
    refine ww_bipush (pc := 24) (v := 22) X dX3_goDown_24 (by decide) ?_
    refine ww_iload_n (pc := 26) X dX3_goDown_26 1 rfl rfl ?_
    refine ww_iadd (pc := 27) X dX3_goDown_27 ?_
    refine ww_iconst (pc := 28) (v := 0) X dX3_goDown_28 (by decide) ?_
    refine ww_iast (pc := 29) (f := upd (SF.2 0) ((8 + x1 : Int32)).toNatClampNeg (10 + x2)) (ws' := fl [wX3 cI cZ cQ rF (sA SF 0 (upd (upd (SF.2 0) ((8 + x1 : Int32)).toNatClampNeg (10 + x2)) ((22 + x1 : Int32)).toNatClampNeg 0))]) X 1 0 rfl rfl (vn (m := 22 + ((x1 : Int32).toNatClampNeg)) (nat_iadd (a := 22) (b := (x1 : Int32).toNatClampNeg) rfl (cl_of (in_X3_isPerson c1))) (by omega) (by decide)) rfl dX3_goDown_29 ?_
    have h4 : f_X3_goDown SF x1 x2 = (sA SF 0 (upd (upd (SF.2 0) ((8 + x1 : Int32)).toNatClampNeg (10 + x2)) ((22 + x1 : Int32)).toNatClampNeg 0)) := by unfold f_X3_goDown; try rw [if_neg c1]; first | done | rfl
    exact ww_vret X hr (congrArg (fun u9 : St => fl [wX3 cI cZ cQ rF u9]) h4.symm) dX3_goDown_30
def f_X3_comeUp (SF : St) (x1 : Int32) : St :=
  if (f_X3_isPerson x1) = 0 then
    SF
  else
    (sA SF 0 (upd (SF.2 0) ((8 + x1 : Int32)).toNatClampNeg 0))
theorem inX3_comeUp_3 : ∀ w ∈ wsX30, w ∈ wsX3_comeUp := by decide +kernel
theorem hd_X3_comeUp : yX3_comeUp.cls = RX3 ∧ yX3_comeUp.cls ≠ "java/lang/invoke/MethodHandle" ∧ yX3_comeUp.cls ≠ "java/lang/invoke/VarHandle" ∧ (parseMethodDescriptor yX3_comeUp.desc).map (fun d => d.parameters.length) = some 1 := by decide +kernel
set_option maxHeartbeats 4000000 in
set_option maxRecDepth 100000 in
theorem c_X3_comeUp (l : Launch) (D : va_G) (cI cZ cQ : ClassId) (rF : Nat → Nat) (SF : St) (x1 : Int32) : Cv l yX3_comeUp wsX3_comeUp { frames := 1, cells := 0, slots := 0, locals := 20 } D (tyL cI cZ cQ) [.ref (rF 0), .int x1] (fl [wX3 cI cZ cQ rF SF]) (fl [wX3 cI cZ cQ rF (f_X3_comeUp SF x1)]) := by
  refine cv_of (cc := cX3_comeUp) (nL := 2) (lv0 := [(0, .ref (rF 0)), (1, .int x1)]) (by decide) rfl (Nat.le_of_ble_eq_true rfl) rfl ?_
  intro p e s m args below meth c A X hr
  refine ww_iload_n (pc := 0) X dX3_comeUp_0 1 rfl rfl ?_
  refine ww_gSi (pc := 1) (rest := []) (gsN := [wX3 cI cZ cQ rF SF]) X (c_X3_isPerson l D cI cZ cQ x1) gX3_comeUp_X3_isPerson rfl hd_X3_isPerson [false] rfl rfl rfl rfl ⟨rfl, rfl⟩ ⟨Nat.le_of_ble_eq_true rfl, Nat.le_of_ble_eq_true rfl⟩ (Nat.le_of_ble_eq_true rfl) ⟨Nat.zero_le _, Nat.zero_le _⟩ dX3_comeUp_1 ?_
  refine ww_if_eq (pc := 4) (tgt := 17) X dX3_comeUp_4 (by decide) (fun c1 => ?_) (fun c1 => ?_)
  · have h2 : f_X3_comeUp SF x1 = SF := by unfold f_X3_comeUp; try rw [if_pos c1]; first | done | rfl
    exact ww_vret X hr (congrArg (fun u9 : St => fl [wX3 cI cZ cQ rF u9]) h2.symm) dX3_comeUp_17
  · refine ww_aload_n (pc := 7) X dX3_comeUp_7 0 rfl rfl ?_
    refine ww_get (pc := 8) (ci := 3) (v := .ref (rF 1)) (C := RX3) (T := TX3) (N := 1) X inX3_comeUp_3 0 rfl rfl 0 (by decide) (by decide +kernel) rfl dX3_comeUp_8 ?_
    refine ww_bipush (pc := 11) (v := 8) X dX3_comeUp_11 (by decide) ?_
    refine ww_iload_n (pc := 13) X dX3_comeUp_13 1 rfl rfl ?_
    have hb3 := clb (in_X3_isPerson c1)
    refine ww_iadd (pc := 14) X dX3_comeUp_14 ?_
    refine ww_iconst (pc := 15) (v := 0) X dX3_comeUp_15 (by decide) ?_
    refine ww_iast (pc := 16) (f := SF.2 0) (ws' := fl [wX3 cI cZ cQ rF (sA SF 0 (upd (SF.2 0) ((8 + x1 : Int32)).toNatClampNeg 0))]) X 1 0 rfl rfl (vn (m := 8 + ((x1 : Int32).toNatClampNeg)) (nat_iadd (a := 8) (b := (x1 : Int32).toNatClampNeg) rfl (cl_of (in_X3_isPerson c1))) (by omega) (by decide)) rfl dX3_comeUp_16 ?_
    have h4 : f_X3_comeUp SF x1 = (sA SF 0 (upd (SF.2 0) ((8 + x1 : Int32)).toNatClampNeg 0)) := by unfold f_X3_comeUp; try rw [if_neg c1]; first | done | rfl
    exact ww_vret X hr (congrArg (fun u9 : St => fl [wX3 cI cZ cQ rF u9]) h4.symm) dX3_comeUp_17
def f_X3_buryIfOld (SL : St) (SF : St) (x2 : Int32) : St :=
  if ((SF.2 0) ((1 + x2 : Int32)).toNatClampNeg) < ((SL.2 2) ((x2 : Int32)).toNatClampNeg) then
    SF
  else
    (sA SF 0 (upd (SF.2 0) ((8 + x2 : Int32)).toNatClampNeg 1))
theorem inX3_buryIfOld_3 : ∀ w ∈ wsX30, w ∈ wsX3_buryIfOld := by decide +kernel
theorem inX3_buryIfOld_5 : ∀ w ∈ wsX50, w ∈ wsX3_buryIfOld := by decide +kernel
theorem hd_X3_buryIfOld : yX3_buryIfOld.cls = RX3 ∧ yX3_buryIfOld.cls ≠ "java/lang/invoke/MethodHandle" ∧ yX3_buryIfOld.cls ≠ "java/lang/invoke/VarHandle" ∧ (parseMethodDescriptor yX3_buryIfOld.desc).map (fun d => d.parameters.length) = some 2 := by decide +kernel
set_option maxHeartbeats 4000000 in
set_option maxRecDepth 100000 in
theorem c_X3_buryIfOld (l : Launch) (D : va_G) (cI cZ cQ : ClassId) (rL : Nat → Nat) (rF : Nat → Nat) (SL : St) (SF : St) (x2 : Int32) (hx : vp_in x2 7) : Cv l yX3_buryIfOld wsX3_buryIfOld { frames := 0, cells := 0, slots := 0, locals := 0 } D (tyL cI cZ cQ) [.ref (rF 0), .ref (rL 0), .int x2] (fl [wX5 cI cZ cQ rL SL, wX3 cI cZ cQ rF SF]) (fl [wX5 cI cZ cQ rL SL, wX3 cI cZ cQ rF (f_X3_buryIfOld SL SF x2)]) := by
  refine cv_of (cc := cX3_buryIfOld) (nL := 3) (lv0 := [(0, .ref (rF 0)), (1, .ref (rL 0)), (2, .int x2)]) (by decide) rfl (Nat.le_of_ble_eq_true rfl) rfl ?_
  intro p e s m args below meth c A X hr
  refine ww_aload_n (pc := 0) X dX3_buryIfOld_0 0 rfl rfl ?_
  refine ww_get (pc := 1) (ci := 3) (v := .ref (rF 1)) (C := RX3) (T := TX3) (N := 1) X inX3_buryIfOld_3 7 rfl rfl 0 (by decide) (by decide +kernel) rfl dX3_buryIfOld_1 ?_
  refine ww_iconst (pc := 4) (v := 1) X dX3_buryIfOld_4 (by decide) ?_
  refine ww_iload_n (pc := 5) X dX3_buryIfOld_5 2 rfl rfl ?_
  have hb1 := clb hx
  refine ww_iadd (pc := 6) X dX3_buryIfOld_6 ?_
  refine ww_iald (pc := 7) (f := SF.2 0) X 8 0 rfl rfl (vn (m := 1 + ((x2 : Int32).toNatClampNeg)) (nat_iadd (a := 1) (b := (x2 : Int32).toNatClampNeg) rfl (cl_of hx)) (by omega) (by decide)) dX3_buryIfOld_7 ?_
  refine ww_aload_n (pc := 8) X dX3_buryIfOld_8 1 rfl rfl ?_
  refine ww_get (pc := 9) (ci := 5) (v := .ref (rL 3)) (C := RX5) (T := TX5) (N := 11) X inX3_buryIfOld_5 0 rfl rfl 7 (by decide) (by decide +kernel) rfl dX3_buryIfOld_9 ?_
  refine ww_iload_n (pc := 12) X dX3_buryIfOld_12 2 rfl rfl ?_
  refine ww_iald (pc := 13) (f := SL.2 2) X 3 0 rfl rfl hx dX3_buryIfOld_13 ?_
  refine ww_icmp_lt (pc := 14) (tgt := 27) X dX3_buryIfOld_14 (by decide) (fun c2 => ?_) (fun c2 => ?_)
  · have h3 : f_X3_buryIfOld SL SF x2 = SF := by unfold f_X3_buryIfOld; try rw [if_pos c2]; first | done | rfl
    exact ww_vret X hr (congrArg (fun u9 : St => fl [wX5 cI cZ cQ rL SL, wX3 cI cZ cQ rF u9]) h3.symm) dX3_buryIfOld_27
  · refine ww_aload_n (pc := 17) X dX3_buryIfOld_17 0 rfl rfl ?_
    refine ww_get (pc := 18) (ci := 3) (v := .ref (rF 1)) (C := RX3) (T := TX3) (N := 1) X inX3_buryIfOld_3 7 rfl rfl 0 (by decide) (by decide +kernel) rfl dX3_buryIfOld_18 ?_
    refine ww_bipush (pc := 21) (v := 8) X dX3_buryIfOld_21 (by decide) ?_
    refine ww_iload_n (pc := 23) X dX3_buryIfOld_23 2 rfl rfl ?_
    refine ww_iadd (pc := 24) X dX3_buryIfOld_24 ?_
    refine ww_iconst (pc := 25) (v := 1) X dX3_buryIfOld_25 (by decide) ?_
    refine ww_iast (pc := 26) (f := SF.2 0) (ws' := fl [wX5 cI cZ cQ rL SL, wX3 cI cZ cQ rF (sA SF 0 (upd (SF.2 0) ((8 + x2 : Int32)).toNatClampNeg 1))]) X 8 0 rfl rfl (vn (m := 8 + ((x2 : Int32).toNatClampNeg)) (nat_iadd (a := 8) (b := (x2 : Int32).toNatClampNeg) rfl (cl_of hx)) (by omega) (by decide)) rfl dX3_buryIfOld_26 ?_
    have h4 : f_X3_buryIfOld SL SF x2 = (sA SF 0 (upd (SF.2 0) ((8 + x2 : Int32)).toNatClampNeg 1)) := by unfold f_X3_buryIfOld; try rw [if_neg c2]; first | done | rfl
    exact ww_vret X hr (congrArg (fun u9 : St => fl [wX5 cI cZ cQ rL SL, wX3 cI cZ cQ rF u9]) h4.symm) dX3_buryIfOld_27
def f_X3_openBox_k1 (SL : St) (SF : St) (x2 : Int32) (z4 : St) : St :=
  z4
def f_X3_openBox (SL : St) (SF : St) (x2 : Int32) : St :=
  if (f_X3_isPerson x2) = 0 then
    SF
  else
    f_X3_openBox_k1 SL SF x2 (f_X3_buryIfOld SL (sA SF 0 (upd (upd (SF.2 0) ((1 + x2 : Int32)).toNatClampNeg (((SF.2 0) ((1 + x2 : Int32)).toNatClampNeg) + ((SF.2 0) ((15 + x2 : Int32)).toNatClampNeg))) ((15 + x2 : Int32)).toNatClampNeg 0)) x2)
theorem inX3_openBox_3 : ∀ w ∈ wsX30, w ∈ wsX3_openBox := by decide +kernel
theorem hd_X3_openBox : yX3_openBox.cls = RX3 ∧ yX3_openBox.cls ≠ "java/lang/invoke/MethodHandle" ∧ yX3_openBox.cls ≠ "java/lang/invoke/VarHandle" ∧ (parseMethodDescriptor yX3_openBox.desc).map (fun d => d.parameters.length) = some 2 := by decide +kernel
set_option maxHeartbeats 4000000 in
set_option maxRecDepth 100000 in
theorem c_X3_openBox (l : Launch) (D : va_G) (cI cZ cQ : ClassId) (rL : Nat → Nat) (rF : Nat → Nat) (SL : St) (SF : St) (x2 : Int32) : Cv l yX3_openBox wsX3_openBox { frames := 1, cells := 0, slots := 0, locals := 22 } D (tyL cI cZ cQ) [.ref (rF 0), .ref (rL 0), .int x2] (fl [wX5 cI cZ cQ rL SL, wX3 cI cZ cQ rF SF]) (fl [wX5 cI cZ cQ rL SL, wX3 cI cZ cQ rF (f_X3_openBox SL SF x2)]) := by
  refine cv_of (cc := cX3_openBox) (nL := 3) (lv0 := [(0, .ref (rF 0)), (1, .ref (rL 0)), (2, .int x2)]) (by decide) rfl (Nat.le_of_ble_eq_true rfl) rfl ?_
  intro p e s m args below meth c A X hr
  refine ww_iload_n (pc := 0) X dX3_openBox_0 2 rfl rfl ?_
  refine ww_gSi (pc := 1) (rest := []) (gsN := [wX5 cI cZ cQ rL SL, wX3 cI cZ cQ rF SF]) X (c_X3_isPerson l D cI cZ cQ x2) gX3_openBox_X3_isPerson rfl hd_X3_isPerson [false, false] rfl rfl rfl rfl ⟨rfl, rfl⟩ ⟨Nat.le_of_ble_eq_true rfl, Nat.le_of_ble_eq_true rfl⟩ (Nat.le_of_ble_eq_true rfl) ⟨Nat.zero_le _, Nat.zero_le _⟩ dX3_openBox_1 ?_
  refine ww_if_eq (pc := 4) (tgt := 43) X dX3_openBox_4 (by decide) (fun c1 => ?_) (fun c1 => ?_)
  · have h2 : f_X3_openBox SL SF x2 = SF := by unfold f_X3_openBox; try rw [if_pos c1]; first | done | rfl
    exact ww_vret X hr (congrArg (fun u9 : St => fl [wX5 cI cZ cQ rL SL, wX3 cI cZ cQ rF u9]) h2.symm) dX3_openBox_43
  · refine ww_aload_n (pc := 7) X dX3_openBox_7 0 rfl rfl ?_
    refine ww_get (pc := 8) (ci := 3) (v := .ref (rF 1)) (C := RX3) (T := TX3) (N := 1) X inX3_openBox_3 7 rfl rfl 0 (by decide) (by decide +kernel) rfl dX3_openBox_8 ?_
    refine ww_iconst (pc := 11) (v := 1) X dX3_openBox_11 (by decide) ?_
    refine ww_iload_n (pc := 12) X dX3_openBox_12 2 rfl rfl ?_
    have hb3 := clb (in_X3_isPerson c1)
    refine ww_iadd (pc := 13) X dX3_openBox_13 ?_
    refine ww_dup2_11 (pc := 14) X dX3_openBox_14 rfl rfl ?_
    refine ww_iald (pc := 15) (f := SF.2 0) X 8 0 rfl rfl (vn (m := 1 + ((x2 : Int32).toNatClampNeg)) (nat_iadd (a := 1) (b := (x2 : Int32).toNatClampNeg) rfl (cl_of (in_X3_isPerson c1))) (by omega) (by decide)) dX3_openBox_15 ?_
    refine ww_aload_n (pc := 16) X dX3_openBox_16 0 rfl rfl ?_
    refine ww_get (pc := 17) (ci := 3) (v := .ref (rF 1)) (C := RX3) (T := TX3) (N := 1) X inX3_openBox_3 7 rfl rfl 0 (by decide) (by decide +kernel) rfl dX3_openBox_17 ?_
    refine ww_bipush (pc := 20) (v := 15) X dX3_openBox_20 (by decide) ?_
    refine ww_iload_n (pc := 22) X dX3_openBox_22 2 rfl rfl ?_
    refine ww_iadd (pc := 23) X dX3_openBox_23 ?_
    refine ww_iald (pc := 24) (f := SF.2 0) X 8 0 rfl rfl (vn (m := 15 + ((x2 : Int32).toNatClampNeg)) (nat_iadd (a := 15) (b := (x2 : Int32).toNatClampNeg) rfl (cl_of (in_X3_isPerson c1))) (by omega) (by decide)) dX3_openBox_24 ?_
    refine ww_iadd (pc := 25) X dX3_openBox_25 ?_
    refine ww_iast (pc := 26) (f := SF.2 0) (ws' := fl [wX5 cI cZ cQ rL SL, wX3 cI cZ cQ rF (sA SF 0 (upd (SF.2 0) ((1 + x2 : Int32)).toNatClampNeg (((SF.2 0) ((1 + x2 : Int32)).toNatClampNeg) + ((SF.2 0) ((15 + x2 : Int32)).toNatClampNeg))))]) X 8 0 rfl rfl (vn (m := 1 + ((x2 : Int32).toNatClampNeg)) (nat_iadd (a := 1) (b := (x2 : Int32).toNatClampNeg) rfl (cl_of (in_X3_isPerson c1))) (by omega) (by decide)) rfl dX3_openBox_26 ?_
    refine ww_aload_n (pc := 27) X dX3_openBox_27 0 rfl rfl ?_
    refine ww_get (pc := 28) (ci := 3) (v := .ref (rF 1)) (C := RX3) (T := TX3) (N := 1) X inX3_openBox_3 7 rfl rfl 0 (by decide) (by decide +kernel) rfl dX3_openBox_28 ?_
    refine ww_bipush (pc := 31) (v := 15) X dX3_openBox_31 (by decide) ?_
    refine ww_iload_n (pc := 33) X dX3_openBox_33 2 rfl rfl ?_
    refine ww_iadd (pc := 34) X dX3_openBox_34 ?_
    refine ww_iconst (pc := 35) (v := 0) X dX3_openBox_35 (by decide) ?_
    refine ww_iast (pc := 36) (f := upd (SF.2 0) ((1 + x2 : Int32)).toNatClampNeg (((SF.2 0) ((1 + x2 : Int32)).toNatClampNeg) + ((SF.2 0) ((15 + x2 : Int32)).toNatClampNeg))) (ws' := fl [wX5 cI cZ cQ rL SL, wX3 cI cZ cQ rF (sA SF 0 (upd (upd (SF.2 0) ((1 + x2 : Int32)).toNatClampNeg (((SF.2 0) ((1 + x2 : Int32)).toNatClampNeg) + ((SF.2 0) ((15 + x2 : Int32)).toNatClampNeg))) ((15 + x2 : Int32)).toNatClampNeg 0))]) X 8 0 rfl rfl (vn (m := 15 + ((x2 : Int32).toNatClampNeg)) (nat_iadd (a := 15) (b := (x2 : Int32).toNatClampNeg) rfl (cl_of (in_X3_isPerson c1))) (by omega) (by decide)) rfl dX3_openBox_36 ?_
    refine ww_aload_n (pc := 37) X dX3_openBox_37 0 rfl rfl ?_
    refine ww_aload_n (pc := 38) X dX3_openBox_38 1 rfl rfl ?_
    refine ww_iload_n (pc := 39) X dX3_openBox_39 2 rfl rfl ?_
    refine ww_gVv (pc := 40) (rest := []) (gsN := [wX5 cI cZ cQ rL SL, wX3 cI cZ cQ rF (f_X3_buryIfOld SL (sA SF 0 (upd (upd (SF.2 0) ((1 + x2 : Int32)).toNatClampNeg (((SF.2 0) ((1 + x2 : Int32)).toNatClampNeg) + ((SF.2 0) ((15 + x2 : Int32)).toNatClampNeg))) ((15 + x2 : Int32)).toNatClampNeg 0)) x2)]) (ci := 3) (gi := 1) (qi := 0) X (c_X3_buryIfOld l D cI cZ cQ rL rF SL (sA SF 0 (upd (upd (SF.2 0) ((1 + x2 : Int32)).toNatClampNeg (((SF.2 0) ((1 + x2 : Int32)).toNatClampNeg) + ((SF.2 0) ((15 + x2 : Int32)).toNatClampNeg))) ((15 + x2 : Int32)).toNatClampNeg 0)) x2 (in_X3_isPerson c1)) gX3_openBox_X3_buryIfOld rfl hd_X3_buryIfOld [true, true] rfl (acons rfl (acons (ad3 _ _ _ _ _ _) rfl)) rfl rfl rfl rfl rfl rfl ⟨rfl, rfl⟩ ⟨Nat.le_of_ble_eq_true rfl, Nat.le_of_ble_eq_true rfl⟩ (Nat.le_of_ble_eq_true rfl) ⟨Nat.zero_le _, Nat.zero_le _⟩ dX3_openBox_40 ?_
    generalize hz4 : (f_X3_buryIfOld SL (sA SF 0 (upd (upd (SF.2 0) ((1 + x2 : Int32)).toNatClampNeg (((SF.2 0) ((1 + x2 : Int32)).toNatClampNeg) + ((SF.2 0) ((15 + x2 : Int32)).toNatClampNeg))) ((15 + x2 : Int32)).toNatClampNeg 0)) x2) = z4
    have h5 : f_X3_openBox SL SF x2 = z4 := by unfold f_X3_openBox; try rw [if_neg c1, hz4]; try unfold f_X3_openBox_k1; first | done | rfl
    exact ww_vret X hr (congrArg (fun u9 : St => fl [wX5 cI cZ cQ rL SL, wX3 cI cZ cQ rF u9]) h5.symm) dX3_openBox_43
def f_X3_takeGood (SF : St) (x1 : Int32) : St :=
  if (f_X3_isGood x1) = 0 then
    SF
  else
    (sA SF 0 (upd (SF.2 0) ((29 + x1 : Int32)).toNatClampNeg 0))
theorem inX3_takeGood_3 : ∀ w ∈ wsX30, w ∈ wsX3_takeGood := by decide +kernel
theorem hd_X3_takeGood : yX3_takeGood.cls = RX3 ∧ yX3_takeGood.cls ≠ "java/lang/invoke/MethodHandle" ∧ yX3_takeGood.cls ≠ "java/lang/invoke/VarHandle" ∧ (parseMethodDescriptor yX3_takeGood.desc).map (fun d => d.parameters.length) = some 1 := by decide +kernel
set_option maxHeartbeats 4000000 in
set_option maxRecDepth 100000 in
theorem c_X3_takeGood (l : Launch) (D : va_G) (cI cZ cQ : ClassId) (rF : Nat → Nat) (SF : St) (x1 : Int32) : Cv l yX3_takeGood wsX3_takeGood { frames := 1, cells := 0, slots := 0, locals := 20 } D (tyL cI cZ cQ) [.ref (rF 0), .int x1] (fl [wX3 cI cZ cQ rF SF]) (fl [wX3 cI cZ cQ rF (f_X3_takeGood SF x1)]) := by
  refine cv_of (cc := cX3_takeGood) (nL := 2) (lv0 := [(0, .ref (rF 0)), (1, .int x1)]) (by decide) rfl (Nat.le_of_ble_eq_true rfl) rfl ?_
  intro p e s m args below meth c A X hr
  refine ww_iload_n (pc := 0) X dX3_takeGood_0 1 rfl rfl ?_
  refine ww_gSi (pc := 1) (rest := []) (gsN := [wX3 cI cZ cQ rF SF]) X (c_X3_isGood l D cI cZ cQ x1) gX3_takeGood_X3_isGood rfl hd_X3_isGood [false] rfl rfl rfl rfl ⟨rfl, rfl⟩ ⟨Nat.le_of_ble_eq_true rfl, Nat.le_of_ble_eq_true rfl⟩ (Nat.le_of_ble_eq_true rfl) ⟨Nat.zero_le _, Nat.zero_le _⟩ dX3_takeGood_1 ?_
  refine ww_if_eq (pc := 4) (tgt := 17) X dX3_takeGood_4 (by decide) (fun c1 => ?_) (fun c1 => ?_)
  · have h2 : f_X3_takeGood SF x1 = SF := by unfold f_X3_takeGood; try rw [if_pos c1]; first | done | rfl
    exact ww_vret X hr (congrArg (fun u9 : St => fl [wX3 cI cZ cQ rF u9]) h2.symm) dX3_takeGood_17
  · refine ww_aload_n (pc := 7) X dX3_takeGood_7 0 rfl rfl ?_
    refine ww_get (pc := 8) (ci := 3) (v := .ref (rF 1)) (C := RX3) (T := TX3) (N := 1) X inX3_takeGood_3 0 rfl rfl 0 (by decide) (by decide +kernel) rfl dX3_takeGood_8 ?_
    refine ww_bipush (pc := 11) (v := 29) X dX3_takeGood_11 (by decide) ?_
    refine ww_iload_n (pc := 13) X dX3_takeGood_13 1 rfl rfl ?_
    have hb3 := clb (in_X3_isGood c1)
    refine ww_iadd (pc := 14) X dX3_takeGood_14 ?_
    refine ww_iconst (pc := 15) (v := 0) X dX3_takeGood_15 (by decide) ?_
    refine ww_iast (pc := 16) (f := SF.2 0) (ws' := fl [wX3 cI cZ cQ rF (sA SF 0 (upd (SF.2 0) ((29 + x1 : Int32)).toNatClampNeg 0))]) X 1 0 rfl rfl (vn (m := 29 + ((x1 : Int32).toNatClampNeg)) (nat_iadd (a := 29) (b := (x1 : Int32).toNatClampNeg) rfl (cl_of (in_X3_isGood c1))) (by omega) (by decide)) rfl dX3_takeGood_16 ?_
    have h4 : f_X3_takeGood SF x1 = (sA SF 0 (upd (SF.2 0) ((29 + x1 : Int32)).toNatClampNeg 0)) := by unfold f_X3_takeGood; try rw [if_neg c1]; first | done | rfl
    exact ww_vret X hr (congrArg (fun u9 : St => fl [wX3 cI cZ cQ rF u9]) h4.symm) dX3_takeGood_17
def bd_X3_begin_2 (SL : St) (j : Nat) (u : St) : St :=
  (sA u 0 (upd (u.2 0) (((nI j) : Int32)).toNatClampNeg 0))
def it_X3_begin_2 (SL : St) (u : St) : Nat → St
  | 0 => u
  | j + 1 => bd_X3_begin_2 SL j (it_X3_begin_2 SL u j)
def bd_X3_begin_23_k1 (SL : St) (j : Nat) (u : St) (z3 : St) : St :=
  z3
def bd_X3_begin_23 (SL : St) (j : Nat) (u : St) : St :=
  bd_X3_begin_23_k1 SL j u (f_X3_buryIfOld SL (sA u 0 (upd (u.2 0) ((1 + (nI j) : Int32)).toNatClampNeg ((SL.2 1) (((nI j) : Int32)).toNatClampNeg))) (nI j))
def it_X3_begin_23 (SL : St) (u : St) : Nat → St
  | 0 => u
  | j + 1 => bd_X3_begin_23 SL j (it_X3_begin_23 SL u j)
def bd_X3_begin_59 (SL : St) (j : Nat) (u : St) : St :=
  (sA u 0 (upd (u.2 0) ((29 + (nI j) : Int32)).toNatClampNeg ((SL.2 3) (((nI j) : Int32)).toNatClampNeg)))
def it_X3_begin_59 (SL : St) (u : St) : Nat → St
  | 0 => u
  | j + 1 => bd_X3_begin_59 SL j (it_X3_begin_59 SL u j)
def f_X3_begin_k3 (SL : St) (SF : St) (z2 : St) (z6 : St) (z8 : St) : St :=
  z8
def f_X3_begin_k2 (SL : St) (SF : St) (z2 : St) (z6 : St) : St :=
  f_X3_begin_k3 SL SF z2 z6 (it_X3_begin_59 SL z6 ((SL.1 4).toNatClampNeg))
def f_X3_begin_k1 (SL : St) (SF : St) (z2 : St) : St :=
  f_X3_begin_k2 SL SF z2 (it_X3_begin_23 SL z2 ((SL.1 3).toNatClampNeg))
def f_X3_begin (SL : St) (SF : St) : St :=
  f_X3_begin_k1 SL SF (it_X3_begin_2 SL SF 35)
theorem inX3_begin_3 : ∀ w ∈ wsX30, w ∈ wsX3_begin := by decide +kernel
theorem inX3_begin_5 : ∀ w ∈ wsX50, w ∈ wsX3_begin := by decide +kernel
theorem hd_X3_begin : yX3_begin.cls = RX3 ∧ yX3_begin.cls ≠ "java/lang/invoke/MethodHandle" ∧ yX3_begin.cls ≠ "java/lang/invoke/VarHandle" ∧ (parseMethodDescriptor yX3_begin.desc).map (fun d => d.parameters.length) = some 1 := by decide +kernel
set_option maxHeartbeats 4000000 in
set_option maxRecDepth 100000 in
theorem c_X3_begin (l : Launch) (D : va_G) (cI cZ cQ : ClassId) (rL : Nat → Nat) (rF : Nat → Nat) (SL : St) (SF : St) (okL : okS SL) : Cv l yX3_begin wsX3_begin { frames := 1, cells := 0, slots := 0, locals := 22 } D (tyL cI cZ cQ) [.ref (rF 0), .ref (rL 0)] (fl [wX5 cI cZ cQ rL SL, wX3 cI cZ cQ rF SF]) (fl [wX5 cI cZ cQ rL SL, wX3 cI cZ cQ rF (f_X3_begin SL SF)]) := by
  refine cv_of (cc := cX3_begin) (nL := 3) (lv0 := [(0, .ref (rF 0)), (1, .ref (rL 0))]) (by decide) rfl (Nat.le_of_ble_eq_true rfl) rfl ?_
  intro p e s m args below meth c A X hr
  refine ww_iconst (pc := 0) (v := 0) X dX3_begin_0 (by decide) ?_
  refine ww_istore_n (pc := 1) (lv' := [(2, .int 0), (0, .ref (rF 0)), (1, .ref (rL 0))]) X dX3_begin_1 rfl (by decide) rfl ?_
  have L2 : ∀ (k_2 j_2 : Nat), j_2 + k_2 = 35 → WW p l e (headSpec wsX3_begin { frames := 1, cells := 0, slots := 0, locals := 22 }).room s m args below meth c 3 D A 0 0 (RQv below args s D A (fl [wX5 cI cZ cQ rL SL, wX3 cI cZ cQ rF (f_X3_begin SL SF)])) (fl [wX5 cI cZ cQ rL SL, wX3 cI cZ cQ rF (it_X3_begin_2 SL SF 35)]) [(0, .ref (rF 0)), (1, .ref (rL 0)), (2, .int (nI 35))] 21 [] → WW p l e (headSpec wsX3_begin { frames := 1, cells := 0, slots := 0, locals := 22 }).room s m args below meth c 3 D A 0 0 (RQv below args s D A (fl [wX5 cI cZ cQ rL SL, wX3 cI cZ cQ rF (f_X3_begin SL SF)])) (fl [wX5 cI cZ cQ rL SL, wX3 cI cZ cQ rF (it_X3_begin_2 SL SF j_2)]) [(0, .ref (rF 0)), (1, .ref (rL 0)), (2, .int (nI j_2))] 2 [] := by
    intro k_2
    induction k_2 with
    | zero =>
      intro j_2 hj K
      have hjB : j_2 = 35 := by omega
      subst hjB
      refine ww_iload_n (pc := 2) X dX3_begin_2 2 rfl rfl ?_
      refine ww_bipush (pc := 3) (v := 35) X dX3_begin_3 (by decide) ?_
      exact ww_icmp_ge (pc := 5) (tgt := 21) X dX3_begin_5 (by decide) (fun _ => K) (fun c9 => absurd (lp_ge0 rfl (Nat.le_refl _) (by decide)) c9)
    | succ k_2 ih =>
      intro j_2 hj K
      have hjB : j_2 < 35 := by omega
      refine ww_iload_n (pc := 2) X dX3_begin_2 2 rfl rfl ?_
      refine ww_bipush (pc := 3) (v := 35) X dX3_begin_3 (by decide) ?_
      refine ww_icmp_ge (pc := 5) (tgt := 21) X dX3_begin_5 (by decide) (fun c9 => absurd c9 (lp_ge1 rfl hjB (by decide))) (fun _ => ?_)
      refine ww_aload_n (pc := 8) X dX3_begin_8 0 rfl rfl ?_
      refine ww_get (pc := 9) (ci := 3) (v := .ref (rF 1)) (C := RX3) (T := TX3) (N := 1) X inX3_begin_3 7 rfl rfl 0 (by decide) (by decide +kernel) rfl dX3_begin_9 ?_
      refine ww_iload_n (pc := 12) X dX3_begin_12 2 rfl rfl ?_
      refine ww_iconst (pc := 13) (v := 0) X dX3_begin_13 (by decide) ?_
      refine ww_iast (pc := 14) (f := (it_X3_begin_2 SL SF j_2).2 0) (ws' := fl [wX5 cI cZ cQ rL SL, wX3 cI cZ cQ rF (sA (it_X3_begin_2 SL SF j_2) 0 (upd ((it_X3_begin_2 SL SF j_2).2 0) (((nI j_2) : Int32)).toNatClampNeg 0))]) X 8 0 rfl rfl (vn (m := j_2) rfl (by omega) (by decide)) rfl dX3_begin_14 ?_
      refine ww_iinc (pc := 15) (v := (nI j_2) + 1) (lv' := [(2, .int ((nI j_2) + 1)), (0, .ref (rF 0)), (1, .ref (rL 0))]) X dX3_begin_15 2 rfl rfl (by decide) rfl ?_
      refine ww_goto (pc := 18) (tgt := 2) X dX3_begin_18 (by decide) ?_
      have h1 : (it_X3_begin_2 SL SF (j_2 + 1)) = (sA (it_X3_begin_2 SL SF j_2) 0 (upd ((it_X3_begin_2 SL SF j_2).2 0) (((nI j_2) : Int32)).toNatClampNeg 0)) := by
        show bd_X3_begin_2 SL j_2 (it_X3_begin_2 SL SF j_2) = _; unfold bd_X3_begin_2; first | done | rfl
      refine ww_lsub [1, 2, 0] rfl ?_
      exact ww_castI (fun u9 : St => fl [wX5 cI cZ cQ rL SL, wX3 cI cZ cQ rF u9]) (fun (u9 : St) (i9 : Int32) => ([(0, .ref (rF 0)), (1, .ref (rL 0)), (2, .int i9)] : List (Nat × Value))) h1 (ih (j_2 + 1) (by omega) K)
  refine ww_lsub [1, 2, 0] rfl ?_
  refine L2 35 0 (by omega) ?_
  generalize hz2 : ((it_X3_begin_2 SL SF 35)) = z2
  refine ww_iconst (pc := 21) (v := 0) X dX3_begin_21 (by decide) ?_
  refine ww_istore_n (pc := 22) (lv' := [(2, .int 0), (0, .ref (rF 0)), (1, .ref (rL 0))]) X dX3_begin_22 rfl (by decide) rfl ?_
  have L23 : ∀ (k_23 j_23 : Nat), j_23 + k_23 = (SL.1 3).toNatClampNeg → WW p l e (headSpec wsX3_begin { frames := 1, cells := 0, slots := 0, locals := 22 }).room s m args below meth c 3 D A 0 0 (RQv below args s D A (fl [wX5 cI cZ cQ rL SL, wX3 cI cZ cQ rF (f_X3_begin SL SF)])) (fl [wX5 cI cZ cQ rL SL, wX3 cI cZ cQ rF (it_X3_begin_23 SL z2 ((SL.1 3).toNatClampNeg))]) [(0, .ref (rF 0)), (1, .ref (rL 0)), (2, .int (nI ((SL.1 3).toNatClampNeg)))] 57 [] → WW p l e (headSpec wsX3_begin { frames := 1, cells := 0, slots := 0, locals := 22 }).room s m args below meth c 3 D A 0 0 (RQv below args s D A (fl [wX5 cI cZ cQ rL SL, wX3 cI cZ cQ rF (f_X3_begin SL SF)])) (fl [wX5 cI cZ cQ rL SL, wX3 cI cZ cQ rF (it_X3_begin_23 SL z2 j_23)]) [(0, .ref (rF 0)), (1, .ref (rL 0)), (2, .int (nI j_23))] 23 [] := by
    intro k_23
    induction k_23 with
    | zero =>
      intro j_23 hj K
      have hjB : j_23 = (SL.1 3).toNatClampNeg := by omega
      subst hjB
      refine ww_iload_n (pc := 23) X dX3_begin_23 2 rfl rfl ?_
      refine ww_aload_n (pc := 24) X dX3_begin_24 1 rfl rfl ?_
      refine ww_get (pc := 25) (ci := 5) (v := .int (SL.1 3)) (C := RX5) (T := TX5) (N := 11) X inX3_begin_5 0 rfl rfl 3 (by decide) (by decide +kernel) rfl dX3_begin_25 ?_
      exact ww_icmp_ge (pc := 28) (tgt := 57) X dX3_begin_28 (by decide) (fun _ => K) (fun c9 => absurd (lp_ge0c (Nat.le_refl _) (cl_lt _)) c9)
    | succ k_23 ih =>
      intro j_23 hj K
      have hjB : j_23 < (SL.1 3).toNatClampNeg := by omega
      have h7_23 := okS_p okL
      refine ww_iload_n (pc := 23) X dX3_begin_23 2 rfl rfl ?_
      refine ww_aload_n (pc := 24) X dX3_begin_24 1 rfl rfl ?_
      refine ww_get (pc := 25) (ci := 5) (v := .int (SL.1 3)) (C := RX5) (T := TX5) (N := 11) X inX3_begin_5 0 rfl rfl 3 (by decide) (by decide +kernel) rfl dX3_begin_25 ?_
      refine ww_icmp_ge (pc := 28) (tgt := 57) X dX3_begin_28 (by decide) (fun c9 => absurd c9 (lp_ge1c hjB)) (fun _ => ?_)
      refine ww_aload_n (pc := 31) X dX3_begin_31 0 rfl rfl ?_
      refine ww_get (pc := 32) (ci := 3) (v := .ref (rF 1)) (C := RX3) (T := TX3) (N := 1) X inX3_begin_3 7 rfl rfl 0 (by decide) (by decide +kernel) rfl dX3_begin_32 ?_
      refine ww_iconst (pc := 35) (v := 1) X dX3_begin_35 (by decide) ?_
      refine ww_iload_n (pc := 36) X dX3_begin_36 2 rfl rfl ?_
      refine ww_iadd (pc := 37) X dX3_begin_37 ?_
      refine ww_aload_n (pc := 38) X dX3_begin_38 1 rfl rfl ?_
      refine ww_get (pc := 39) (ci := 5) (v := .ref (rL 2)) (C := RX5) (T := TX5) (N := 11) X inX3_begin_5 0 rfl rfl 6 (by decide) (by decide +kernel) rfl dX3_begin_39 ?_
      refine ww_iload_n (pc := 42) X dX3_begin_42 2 rfl rfl ?_
      refine ww_iald (pc := 43) (f := SL.2 1) X 2 0 rfl rfl (vn (m := j_23) rfl (by omega) (by decide)) dX3_begin_43 ?_
      refine ww_iast (pc := 44) (f := (it_X3_begin_23 SL z2 j_23).2 0) (ws' := fl [wX5 cI cZ cQ rL SL, wX3 cI cZ cQ rF (sA (it_X3_begin_23 SL z2 j_23) 0 (upd ((it_X3_begin_23 SL z2 j_23).2 0) ((1 + (nI j_23) : Int32)).toNatClampNeg ((SL.2 1) (((nI j_23) : Int32)).toNatClampNeg)))]) X 8 0 rfl rfl (vn (m := 1 + j_23) (nat_iadd (a := 1) (b := j_23) rfl rfl) (by omega) (by decide)) rfl dX3_begin_44 ?_
      refine ww_aload_n (pc := 45) X dX3_begin_45 0 rfl rfl ?_
      refine ww_aload_n (pc := 46) X dX3_begin_46 1 rfl rfl ?_
      refine ww_iload_n (pc := 47) X dX3_begin_47 2 rfl rfl ?_
      refine ww_gVv (pc := 48) (rest := []) (gsN := [wX5 cI cZ cQ rL SL, wX3 cI cZ cQ rF (f_X3_buryIfOld SL (sA (it_X3_begin_23 SL z2 j_23) 0 (upd ((it_X3_begin_23 SL z2 j_23).2 0) ((1 + (nI j_23) : Int32)).toNatClampNeg ((SL.2 1) (((nI j_23) : Int32)).toNatClampNeg))) (nI j_23))]) (ci := 3) (gi := 1) (qi := 0) X (c_X3_buryIfOld l D cI cZ cQ rL rF SL (sA (it_X3_begin_23 SL z2 j_23) 0 (upd ((it_X3_begin_23 SL z2 j_23).2 0) ((1 + (nI j_23) : Int32)).toNatClampNeg ((SL.2 1) (((nI j_23) : Int32)).toNatClampNeg))) (nI j_23) (vn (m := j_23) rfl (by omega) (by decide))) gX3_begin_X3_buryIfOld rfl hd_X3_buryIfOld [true, true] rfl (acons rfl (acons (ad3 _ _ _ _ _ _) rfl)) rfl rfl rfl rfl rfl rfl ⟨rfl, rfl⟩ ⟨Nat.le_of_ble_eq_true rfl, Nat.le_of_ble_eq_true rfl⟩ (Nat.le_of_ble_eq_true rfl) ⟨Nat.zero_le _, Nat.zero_le _⟩ dX3_begin_48 ?_
      generalize hz4 : (f_X3_buryIfOld SL (sA (it_X3_begin_23 SL z2 j_23) 0 (upd ((it_X3_begin_23 SL z2 j_23).2 0) ((1 + (nI j_23) : Int32)).toNatClampNeg ((SL.2 1) (((nI j_23) : Int32)).toNatClampNeg))) (nI j_23)) = z4
      refine ww_iinc (pc := 51) (v := (nI j_23) + 1) (lv' := [(2, .int ((nI j_23) + 1)), (0, .ref (rF 0)), (1, .ref (rL 0))]) X dX3_begin_51 2 rfl rfl (by decide) rfl ?_
      refine ww_goto (pc := 54) (tgt := 23) X dX3_begin_54 (by decide) ?_
      have h5 : (it_X3_begin_23 SL z2 (j_23 + 1)) = z4 := by
        show bd_X3_begin_23 SL j_23 (it_X3_begin_23 SL z2 j_23) = _; unfold bd_X3_begin_23; try rw [hz4]; try unfold bd_X3_begin_23_k1; first | done | rfl
      refine ww_lsub [1, 2, 0] rfl ?_
      exact ww_castI (fun u9 : St => fl [wX5 cI cZ cQ rL SL, wX3 cI cZ cQ rF u9]) (fun (u9 : St) (i9 : Int32) => ([(0, .ref (rF 0)), (1, .ref (rL 0)), (2, .int i9)] : List (Nat × Value))) h5 (ih (j_23 + 1) (by omega) K)
  refine ww_lsub [1, 2, 0] rfl ?_
  refine L23 ((SL.1 3).toNatClampNeg) 0 (by omega) ?_
  generalize hz6 : ((it_X3_begin_23 SL z2 ((SL.1 3).toNatClampNeg))) = z6
  refine ww_iconst (pc := 57) (v := 0) X dX3_begin_57 (by decide) ?_
  refine ww_istore_n (pc := 58) (lv' := [(2, .int 0), (0, .ref (rF 0)), (1, .ref (rL 0))]) X dX3_begin_58 rfl (by decide) rfl ?_
  have L59 : ∀ (k_59 j_59 : Nat), j_59 + k_59 = (SL.1 4).toNatClampNeg → WW p l e (headSpec wsX3_begin { frames := 1, cells := 0, slots := 0, locals := 22 }).room s m args below meth c 3 D A 0 0 (RQv below args s D A (fl [wX5 cI cZ cQ rL SL, wX3 cI cZ cQ rF (f_X3_begin SL SF)])) (fl [wX5 cI cZ cQ rL SL, wX3 cI cZ cQ rF (it_X3_begin_59 SL z6 ((SL.1 4).toNatClampNeg))]) [(0, .ref (rF 0)), (1, .ref (rL 0)), (2, .int (nI ((SL.1 4).toNatClampNeg)))] 88 [] → WW p l e (headSpec wsX3_begin { frames := 1, cells := 0, slots := 0, locals := 22 }).room s m args below meth c 3 D A 0 0 (RQv below args s D A (fl [wX5 cI cZ cQ rL SL, wX3 cI cZ cQ rF (f_X3_begin SL SF)])) (fl [wX5 cI cZ cQ rL SL, wX3 cI cZ cQ rF (it_X3_begin_59 SL z6 j_59)]) [(0, .ref (rF 0)), (1, .ref (rL 0)), (2, .int (nI j_59))] 59 [] := by
    intro k_59
    induction k_59 with
    | zero =>
      intro j_59 hj K
      have hjB : j_59 = (SL.1 4).toNatClampNeg := by omega
      subst hjB
      refine ww_iload_n (pc := 59) X dX3_begin_59 2 rfl rfl ?_
      refine ww_aload_n (pc := 60) X dX3_begin_60 1 rfl rfl ?_
      refine ww_get (pc := 61) (ci := 5) (v := .int (SL.1 4)) (C := RX5) (T := TX5) (N := 11) X inX3_begin_5 0 rfl rfl 4 (by decide) (by decide +kernel) rfl dX3_begin_61 ?_
      exact ww_icmp_ge (pc := 64) (tgt := 88) X dX3_begin_64 (by decide) (fun _ => K) (fun c9 => absurd (lp_ge0c (Nat.le_refl _) (cl_lt _)) c9)
    | succ k_59 ih =>
      intro j_59 hj K
      have hjB : j_59 < (SL.1 4).toNatClampNeg := by omega
      have h6_59 := okS_g okL
      refine ww_iload_n (pc := 59) X dX3_begin_59 2 rfl rfl ?_
      refine ww_aload_n (pc := 60) X dX3_begin_60 1 rfl rfl ?_
      refine ww_get (pc := 61) (ci := 5) (v := .int (SL.1 4)) (C := RX5) (T := TX5) (N := 11) X inX3_begin_5 0 rfl rfl 4 (by decide) (by decide +kernel) rfl dX3_begin_61 ?_
      refine ww_icmp_ge (pc := 64) (tgt := 88) X dX3_begin_64 (by decide) (fun c9 => absurd c9 (lp_ge1c hjB)) (fun _ => ?_)
      refine ww_aload_n (pc := 67) X dX3_begin_67 0 rfl rfl ?_
      refine ww_get (pc := 68) (ci := 3) (v := .ref (rF 1)) (C := RX3) (T := TX3) (N := 1) X inX3_begin_3 7 rfl rfl 0 (by decide) (by decide +kernel) rfl dX3_begin_68 ?_
      refine ww_bipush (pc := 71) (v := 29) X dX3_begin_71 (by decide) ?_
      refine ww_iload_n (pc := 73) X dX3_begin_73 2 rfl rfl ?_
      refine ww_iadd (pc := 74) X dX3_begin_74 ?_
      refine ww_aload_n (pc := 75) X dX3_begin_75 1 rfl rfl ?_
      refine ww_get (pc := 76) (ci := 5) (v := .ref (rL 4)) (C := RX5) (T := TX5) (N := 11) X inX3_begin_5 0 rfl rfl 8 (by decide) (by decide +kernel) rfl dX3_begin_76 ?_
      refine ww_iload_n (pc := 79) X dX3_begin_79 2 rfl rfl ?_
      refine ww_iald (pc := 80) (f := SL.2 3) X 4 0 rfl rfl (vn (m := j_59) rfl (by omega) (by decide)) dX3_begin_80 ?_
      refine ww_iast (pc := 81) (f := (it_X3_begin_59 SL z6 j_59).2 0) (ws' := fl [wX5 cI cZ cQ rL SL, wX3 cI cZ cQ rF (sA (it_X3_begin_59 SL z6 j_59) 0 (upd ((it_X3_begin_59 SL z6 j_59).2 0) ((29 + (nI j_59) : Int32)).toNatClampNeg ((SL.2 3) (((nI j_59) : Int32)).toNatClampNeg)))]) X 8 0 rfl rfl (vn (m := 29 + j_59) (nat_iadd (a := 29) (b := j_59) rfl rfl) (by omega) (by decide)) rfl dX3_begin_81 ?_
      refine ww_iinc (pc := 82) (v := (nI j_59) + 1) (lv' := [(2, .int ((nI j_59) + 1)), (0, .ref (rF 0)), (1, .ref (rL 0))]) X dX3_begin_82 2 rfl rfl (by decide) rfl ?_
      refine ww_goto (pc := 85) (tgt := 59) X dX3_begin_85 (by decide) ?_
      have h7 : (it_X3_begin_59 SL z6 (j_59 + 1)) = (sA (it_X3_begin_59 SL z6 j_59) 0 (upd ((it_X3_begin_59 SL z6 j_59).2 0) ((29 + (nI j_59) : Int32)).toNatClampNeg ((SL.2 3) (((nI j_59) : Int32)).toNatClampNeg))) := by
        show bd_X3_begin_59 SL j_59 (it_X3_begin_59 SL z6 j_59) = _; unfold bd_X3_begin_59; first | done | rfl
      refine ww_lsub [1, 2, 0] rfl ?_
      exact ww_castI (fun u9 : St => fl [wX5 cI cZ cQ rL SL, wX3 cI cZ cQ rF u9]) (fun (u9 : St) (i9 : Int32) => ([(0, .ref (rF 0)), (1, .ref (rL 0)), (2, .int i9)] : List (Nat × Value))) h7 (ih (j_59 + 1) (by omega) K)
  refine ww_lsub [1, 2, 0] rfl ?_
  refine L59 ((SL.1 4).toNatClampNeg) 0 (by omega) ?_
  generalize hz8 : ((it_X3_begin_59 SL z6 ((SL.1 4).toNatClampNeg))) = z8
  have h9 : f_X3_begin SL SF = z8 := by unfold f_X3_begin; try rw [hz2]; try unfold f_X3_begin_k1; try rw [hz6]; try unfold f_X3_begin_k2; try rw [hz8]; try unfold f_X3_begin_k3; first | done | rfl
  exact ww_vret X hr (congrArg (fun u9 : St => fl [wX5 cI cZ cQ rL SL, wX3 cI cZ cQ rF u9]) h9.symm) dX3_begin_88
def bd_X3_deadOnes_4 (SL : St) (SF : St) (j : Nat) (u : Int32) : Int32 :=
  if (f_X3_place SF (nI j)) = 1 then
    u ||| (1 <<< ((nI j) &&& 31))
  else
    u
def it_X3_deadOnes_4 (SL : St) (SF : St) (u : Int32) : Nat → Int32
  | 0 => u
  | j + 1 => bd_X3_deadOnes_4 SL SF j (it_X3_deadOnes_4 SL SF u j)
def f_X3_deadOnes_k1 (SL : St) (SF : St) (z6 : Int32) : Int32 :=
  z6
def f_X3_deadOnes (SL : St) (SF : St) : Int32 :=
  f_X3_deadOnes_k1 SL SF (it_X3_deadOnes_4 SL SF (0 : Int32) ((SL.1 3).toNatClampNeg))
theorem inX3_deadOnes_5 : ∀ w ∈ wsX50, w ∈ wsX3_deadOnes := by decide +kernel
theorem hd_X3_deadOnes : yX3_deadOnes.cls = RX3 ∧ yX3_deadOnes.cls ≠ "java/lang/invoke/MethodHandle" ∧ yX3_deadOnes.cls ≠ "java/lang/invoke/VarHandle" ∧ (parseMethodDescriptor yX3_deadOnes.desc).map (fun d => d.parameters.length) = some 1 := by decide +kernel
set_option maxHeartbeats 4000000 in
set_option maxRecDepth 100000 in
theorem c_X3_deadOnes (l : Launch) (D : va_G) (cI cZ cQ : ClassId) (rL : Nat → Nat) (rF : Nat → Nat) (SL : St) (SF : St) (okL : okS SL) : Ci l yX3_deadOnes wsX3_deadOnes { frames := 2, cells := 0, slots := 0, locals := 41 } D (tyL cI cZ cQ) [.ref (rF 0), .ref (rL 0)] (fl [wX5 cI cZ cQ rL SL, wX3 cI cZ cQ rF SF]) (f_X3_deadOnes SL SF) (fl [wX5 cI cZ cQ rL SL, wX3 cI cZ cQ rF SF]) := by
  refine ci_of (cc := cX3_deadOnes) (nL := 4) (ty := .int) (lv0 := [(0, .ref (rF 0)), (1, .ref (rL 0))]) (by decide) rfl (Nat.le_of_ble_eq_true rfl) rfl ?_
  intro p e s m args below meth c A X hr
  refine ww_iconst (pc := 0) (v := 0) X dX3_deadOnes_0 (by decide) ?_
  refine ww_istore_n (pc := 1) (lv' := [(2, .int 0), (0, .ref (rF 0)), (1, .ref (rL 0))]) X dX3_deadOnes_1 rfl (by decide) rfl ?_
  refine ww_iconst (pc := 2) (v := 0) X dX3_deadOnes_2 (by decide) ?_
  refine ww_istore_n (pc := 3) (lv' := [(3, .int 0), (2, .int 0), (0, .ref (rF 0)), (1, .ref (rL 0))]) X dX3_deadOnes_3 rfl (by decide) rfl ?_
  have L4 : ∀ (k_4 j_4 : Nat), j_4 + k_4 = (SL.1 3).toNatClampNeg → WW p l e (headSpec wsX3_deadOnes { frames := 2, cells := 0, slots := 0, locals := 41 }).room s m args below meth c 4 D A 0 0 (RQi below args s D A (f_X3_deadOnes SL SF) (fl [wX5 cI cZ cQ rL SL, wX3 cI cZ cQ rF SF])) (fl [wX5 cI cZ cQ rL SL, wX3 cI cZ cQ rF SF]) [(0, .ref (rF 0)), (1, .ref (rL 0)), (2, .int (it_X3_deadOnes_4 SL SF (0 : Int32) ((SL.1 3).toNatClampNeg))), (3, .int (nI ((SL.1 3).toNatClampNeg)))] 33 [] → WW p l e (headSpec wsX3_deadOnes { frames := 2, cells := 0, slots := 0, locals := 41 }).room s m args below meth c 4 D A 0 0 (RQi below args s D A (f_X3_deadOnes SL SF) (fl [wX5 cI cZ cQ rL SL, wX3 cI cZ cQ rF SF])) (fl [wX5 cI cZ cQ rL SL, wX3 cI cZ cQ rF SF]) [(0, .ref (rF 0)), (1, .ref (rL 0)), (2, .int (it_X3_deadOnes_4 SL SF (0 : Int32) j_4)), (3, .int (nI j_4))] 4 [] := by
    intro k_4
    induction k_4 with
    | zero =>
      intro j_4 hj K
      have hjB : j_4 = (SL.1 3).toNatClampNeg := by omega
      subst hjB
      refine ww_iload_n (pc := 4) X dX3_deadOnes_4 3 rfl rfl ?_
      refine ww_aload_n (pc := 5) X dX3_deadOnes_5 1 rfl rfl ?_
      refine ww_get (pc := 6) (ci := 5) (v := .int (SL.1 3)) (C := RX5) (T := TX5) (N := 11) X inX3_deadOnes_5 0 rfl rfl 3 (by decide) (by decide +kernel) rfl dX3_deadOnes_6 ?_
      exact ww_icmp_ge (pc := 9) (tgt := 33) X dX3_deadOnes_9 (by decide) (fun _ => K) (fun c9 => absurd (lp_ge0c (Nat.le_refl _) (cl_lt _)) c9)
    | succ k_4 ih =>
      intro j_4 hj K
      have hjB : j_4 < (SL.1 3).toNatClampNeg := by omega
      have h7_4 := okS_p okL
      refine ww_iload_n (pc := 4) X dX3_deadOnes_4 3 rfl rfl ?_
      refine ww_aload_n (pc := 5) X dX3_deadOnes_5 1 rfl rfl ?_
      refine ww_get (pc := 6) (ci := 5) (v := .int (SL.1 3)) (C := RX5) (T := TX5) (N := 11) X inX3_deadOnes_5 0 rfl rfl 3 (by decide) (by decide +kernel) rfl dX3_deadOnes_6 ?_
      refine ww_icmp_ge (pc := 9) (tgt := 33) X dX3_deadOnes_9 (by decide) (fun c9 => absurd c9 (lp_ge1c hjB)) (fun _ => ?_)
      refine ww_aload_n (pc := 12) X dX3_deadOnes_12 0 rfl rfl ?_
      refine ww_iload_n (pc := 13) X dX3_deadOnes_13 3 rfl rfl ?_
      refine ww_gVi (pc := 14) (rest := []) (gsN := [wX5 cI cZ cQ rL SL, wX3 cI cZ cQ rF SF]) (ci := 3) (gi := 0) (qi := 0) X (c_X3_place l D cI cZ cQ rF SF (nI j_4)) gX3_deadOnes_X3_place rfl hd_X3_place [false, true] rfl rfl rfl rfl rfl rfl rfl rfl ⟨rfl, rfl⟩ ⟨Nat.le_of_ble_eq_true rfl, Nat.le_of_ble_eq_true rfl⟩ (Nat.le_of_ble_eq_true rfl) ⟨Nat.zero_le _, Nat.zero_le _⟩ dX3_deadOnes_14 ?_
      refine ww_iconst (pc := 17) (v := 1) X dX3_deadOnes_17 (by decide) ?_
      refine ww_icmp_ne (pc := 18) (tgt := 27) X dX3_deadOnes_18 (by decide) (fun c2 => ?_) (fun c2 => ?_)
      · refine ww_iinc (pc := 27) (v := (nI j_4) + 1) (lv' := [(3, .int ((nI j_4) + 1)), (0, .ref (rF 0)), (1, .ref (rL 0)), (2, .int (it_X3_deadOnes_4 SL SF (0 : Int32) j_4))]) X dX3_deadOnes_27 3 rfl rfl (by decide) rfl ?_
        refine ww_goto (pc := 30) (tgt := 4) X dX3_deadOnes_30 (by decide) ?_
        have h3 : (it_X3_deadOnes_4 SL SF (0 : Int32) (j_4 + 1)) = (it_X3_deadOnes_4 SL SF (0 : Int32) j_4) := by
          show bd_X3_deadOnes_4 SL SF j_4 (it_X3_deadOnes_4 SL SF (0 : Int32) j_4) = _; unfold bd_X3_deadOnes_4; try rw [if_neg c2]; first | done | rfl
        refine ww_lsub [1, 2, 3, 0] rfl ?_
        exact ww_castI (fun u9 : Int32 => fl [wX5 cI cZ cQ rL SL, wX3 cI cZ cQ rF SF]) (fun (u9 : Int32) (i9 : Int32) => ([(0, .ref (rF 0)), (1, .ref (rL 0)), (2, .int u9), (3, .int i9)] : List (Nat × Value))) h3 (ih (j_4 + 1) (by omega) K)
      · refine ww_iload_n (pc := 21) X dX3_deadOnes_21 2 rfl rfl ?_
        refine ww_iconst (pc := 22) (v := 1) X dX3_deadOnes_22 (by decide) ?_
        refine ww_iload_n (pc := 23) X dX3_deadOnes_23 3 rfl rfl ?_
        refine ww_ishl (pc := 24) X dX3_deadOnes_24 ?_
        refine ww_ior (pc := 25) X dX3_deadOnes_25 ?_
        generalize hz4 : ((it_X3_deadOnes_4 SL SF (0 : Int32) j_4) ||| (1 <<< ((nI j_4) &&& 31))) = z4
        refine ww_istore_n (pc := 26) (lv' := [(2, .int z4), (0, .ref (rF 0)), (1, .ref (rL 0)), (3, .int (nI j_4))]) X dX3_deadOnes_26 rfl (by decide) rfl ?_
        refine ww_iinc (pc := 27) (v := (nI j_4) + 1) (lv' := [(3, .int ((nI j_4) + 1)), (2, .int z4), (0, .ref (rF 0)), (1, .ref (rL 0))]) X dX3_deadOnes_27 3 rfl rfl (by decide) rfl ?_
        refine ww_goto (pc := 30) (tgt := 4) X dX3_deadOnes_30 (by decide) ?_
        have h5 : (it_X3_deadOnes_4 SL SF (0 : Int32) (j_4 + 1)) = z4 := by
          show bd_X3_deadOnes_4 SL SF j_4 (it_X3_deadOnes_4 SL SF (0 : Int32) j_4) = _; unfold bd_X3_deadOnes_4; try rw [if_pos c2, hz4]; try unfold bd_X3_deadOnes_4_k1; first | done | rfl
        refine ww_lsub [2, 3, 1, 0] rfl ?_
        exact ww_castI (fun u9 : Int32 => fl [wX5 cI cZ cQ rL SL, wX3 cI cZ cQ rF SF]) (fun (u9 : Int32) (i9 : Int32) => ([(0, .ref (rF 0)), (1, .ref (rL 0)), (2, .int u9), (3, .int i9)] : List (Nat × Value))) h5 (ih (j_4 + 1) (by omega) K)
  refine ww_lsub [2, 3, 1, 0] rfl ?_
  refine L4 ((SL.1 3).toNatClampNeg) 0 (by omega) ?_
  generalize hz6 : ((it_X3_deadOnes_4 SL SF (0 : Int32) ((SL.1 3).toNatClampNeg))) = z6
  refine ww_iload_n (pc := 33) X dX3_deadOnes_33 2 rfl rfl ?_
  exact ww_iret X hr rfl (Eq.symm (by unfold f_X3_deadOnes; try rw [hz6]; try unfold f_X3_deadOnes_k1; first | done | rfl)) rfl dX3_deadOnes_34
def bd_X3_stayersOf_5 (SL : St) (SF : St) (x2 : Int32) (j : Nat) (u : Int32) : Int32 :=
  if (f_X3_isBelow SF (nI j)) = 0 then
    u
  else
    if ((SF.2 0) ((22 + (nI j) : Int32)).toNatClampNeg) < x2 then
      u
    else
      u ||| (1 <<< ((nI j) &&& 31))
def it_X3_stayersOf_5 (SL : St) (SF : St) (x2 : Int32) (u : Int32) : Nat → Int32
  | 0 => u
  | j + 1 => bd_X3_stayersOf_5 SL SF x2 j (it_X3_stayersOf_5 SL SF x2 u j)
def f_X3_stayersOf_k1 (SL : St) (SF : St) (x2 : Int32) (z9 : Int32) : Int32 :=
  z9
def f_X3_stayersOf (SL : St) (SF : St) (x2 : Int32) : Int32 :=
  f_X3_stayersOf_k1 SL SF x2 (it_X3_stayersOf_5 SL SF x2 (0 : Int32) ((SL.1 3).toNatClampNeg))
theorem inX3_stayersOf_3 : ∀ w ∈ wsX30, w ∈ wsX3_stayersOf := by decide +kernel
theorem inX3_stayersOf_5 : ∀ w ∈ wsX50, w ∈ wsX3_stayersOf := by decide +kernel
theorem hd_X3_stayersOf : yX3_stayersOf.cls = RX3 ∧ yX3_stayersOf.cls ≠ "java/lang/invoke/MethodHandle" ∧ yX3_stayersOf.cls ≠ "java/lang/invoke/VarHandle" ∧ (parseMethodDescriptor yX3_stayersOf.desc).map (fun d => d.parameters.length) = some 2 := by decide +kernel
set_option maxHeartbeats 4000000 in
set_option maxRecDepth 100000 in
theorem c_X3_stayersOf (l : Launch) (D : va_G) (cI cZ cQ : ClassId) (rL : Nat → Nat) (rF : Nat → Nat) (SL : St) (SF : St) (x2 : Int32) (okL : okS SL) : Ci l yX3_stayersOf wsX3_stayersOf { frames := 3, cells := 0, slots := 0, locals := 62 } D (tyL cI cZ cQ) [.ref (rF 0), .ref (rL 0), .int x2] (fl [wX5 cI cZ cQ rL SL, wX3 cI cZ cQ rF SF]) (f_X3_stayersOf SL SF x2) (fl [wX5 cI cZ cQ rL SL, wX3 cI cZ cQ rF SF]) := by
  refine ci_of (cc := cX3_stayersOf) (nL := 5) (ty := .int) (lv0 := [(0, .ref (rF 0)), (1, .ref (rL 0)), (2, .int x2)]) (by decide) rfl (Nat.le_of_ble_eq_true rfl) rfl ?_
  intro p e s m args below meth c A X hr
  refine ww_iconst (pc := 0) (v := 0) X dX3_stayersOf_0 (by decide) ?_
  refine ww_istore_n (pc := 1) (lv' := [(3, .int 0), (0, .ref (rF 0)), (1, .ref (rL 0)), (2, .int x2)]) X dX3_stayersOf_1 rfl (by decide) rfl ?_
  refine ww_iconst (pc := 2) (v := 0) X dX3_stayersOf_2 (by decide) ?_
  refine ww_istore (pc := 3) (lv' := [(4, .int 0), (3, .int 0), (0, .ref (rF 0)), (1, .ref (rL 0)), (2, .int x2)]) X dX3_stayersOf_3 (by decide) rfl ?_
  have L5 : ∀ (k_5 j_5 : Nat), j_5 + k_5 = (SL.1 3).toNatClampNeg → WW p l e (headSpec wsX3_stayersOf { frames := 3, cells := 0, slots := 0, locals := 62 }).room s m args below meth c 5 D A 0 0 (RQi below args s D A (f_X3_stayersOf SL SF x2) (fl [wX5 cI cZ cQ rL SL, wX3 cI cZ cQ rF SF])) (fl [wX5 cI cZ cQ rL SL, wX3 cI cZ cQ rF SF]) [(0, .ref (rF 0)), (1, .ref (rL 0)), (2, .int x2), (3, .int (it_X3_stayersOf_5 SL SF x2 (0 : Int32) ((SL.1 3).toNatClampNeg))), (4, .int (nI ((SL.1 3).toNatClampNeg)))] 50 [] → WW p l e (headSpec wsX3_stayersOf { frames := 3, cells := 0, slots := 0, locals := 62 }).room s m args below meth c 5 D A 0 0 (RQi below args s D A (f_X3_stayersOf SL SF x2) (fl [wX5 cI cZ cQ rL SL, wX3 cI cZ cQ rF SF])) (fl [wX5 cI cZ cQ rL SL, wX3 cI cZ cQ rF SF]) [(0, .ref (rF 0)), (1, .ref (rL 0)), (2, .int x2), (3, .int (it_X3_stayersOf_5 SL SF x2 (0 : Int32) j_5)), (4, .int (nI j_5))] 5 [] := by
    intro k_5
    induction k_5 with
    | zero =>
      intro j_5 hj K
      have hjB : j_5 = (SL.1 3).toNatClampNeg := by omega
      subst hjB
      refine ww_iload (pc := 5) X dX3_stayersOf_5 4 rfl ?_
      refine ww_aload_n (pc := 7) X dX3_stayersOf_7 1 rfl rfl ?_
      refine ww_get (pc := 8) (ci := 5) (v := .int (SL.1 3)) (C := RX5) (T := TX5) (N := 11) X inX3_stayersOf_5 0 rfl rfl 3 (by decide) (by decide +kernel) rfl dX3_stayersOf_8 ?_
      exact ww_icmp_ge (pc := 11) (tgt := 50) X dX3_stayersOf_11 (by decide) (fun _ => K) (fun c9 => absurd (lp_ge0c (Nat.le_refl _) (cl_lt _)) c9)
    | succ k_5 ih =>
      intro j_5 hj K
      have hjB : j_5 < (SL.1 3).toNatClampNeg := by omega
      have h7_5 := okS_p okL
      refine ww_iload (pc := 5) X dX3_stayersOf_5 4 rfl ?_
      refine ww_aload_n (pc := 7) X dX3_stayersOf_7 1 rfl rfl ?_
      refine ww_get (pc := 8) (ci := 5) (v := .int (SL.1 3)) (C := RX5) (T := TX5) (N := 11) X inX3_stayersOf_5 0 rfl rfl 3 (by decide) (by decide +kernel) rfl dX3_stayersOf_8 ?_
      refine ww_icmp_ge (pc := 11) (tgt := 50) X dX3_stayersOf_11 (by decide) (fun c9 => absurd c9 (lp_ge1c hjB)) (fun _ => ?_)
      refine ww_aload_n (pc := 14) X dX3_stayersOf_14 0 rfl rfl ?_
      refine ww_iload (pc := 15) X dX3_stayersOf_15 4 rfl ?_
      refine ww_gVi (pc := 17) (rest := []) (gsN := [wX5 cI cZ cQ rL SL, wX3 cI cZ cQ rF SF]) (ci := 3) (gi := 0) (qi := 0) X (c_X3_isBelow l D cI cZ cQ rF SF (nI j_5)) gX3_stayersOf_X3_isBelow rfl hd_X3_isBelow [false, true] rfl rfl rfl rfl rfl rfl rfl rfl ⟨rfl, rfl⟩ ⟨Nat.le_of_ble_eq_true rfl, Nat.le_of_ble_eq_true rfl⟩ (Nat.le_of_ble_eq_true rfl) ⟨Nat.zero_le _, Nat.zero_le _⟩ dX3_stayersOf_17 ?_
      refine ww_if_eq (pc := 20) (tgt := 44) X dX3_stayersOf_20 (by decide) (fun c3 => ?_) (fun c3 => ?_)
      · refine ww_iinc (pc := 44) (v := (nI j_5) + 1) (lv' := [(4, .int ((nI j_5) + 1)), (0, .ref (rF 0)), (1, .ref (rL 0)), (2, .int x2), (3, .int (it_X3_stayersOf_5 SL SF x2 (0 : Int32) j_5))]) X dX3_stayersOf_44 4 rfl rfl (by decide) rfl ?_
        refine ww_goto (pc := 47) (tgt := 5) X dX3_stayersOf_47 (by decide) ?_
        have h4 : (it_X3_stayersOf_5 SL SF x2 (0 : Int32) (j_5 + 1)) = (it_X3_stayersOf_5 SL SF x2 (0 : Int32) j_5) := by
          show bd_X3_stayersOf_5 SL SF x2 j_5 (it_X3_stayersOf_5 SL SF x2 (0 : Int32) j_5) = _; unfold bd_X3_stayersOf_5; try rw [if_pos c3]; first | done | rfl
        refine ww_lsub [1, 2, 3, 4, 0] rfl ?_
        exact ww_castI (fun u9 : Int32 => fl [wX5 cI cZ cQ rL SL, wX3 cI cZ cQ rF SF]) (fun (u9 : Int32) (i9 : Int32) => ([(0, .ref (rF 0)), (1, .ref (rL 0)), (2, .int x2), (3, .int u9), (4, .int i9)] : List (Nat × Value))) h4 (ih (j_5 + 1) (by omega) K)
      · refine ww_aload_n (pc := 23) X dX3_stayersOf_23 0 rfl rfl ?_
        refine ww_get (pc := 24) (ci := 3) (v := .ref (rF 1)) (C := RX3) (T := TX3) (N := 1) X inX3_stayersOf_3 7 rfl rfl 0 (by decide) (by decide +kernel) rfl dX3_stayersOf_24 ?_
        refine ww_bipush (pc := 27) (v := 22) X dX3_stayersOf_27 (by decide) ?_
        refine ww_iload (pc := 29) X dX3_stayersOf_29 4 rfl ?_
        refine ww_iadd (pc := 31) X dX3_stayersOf_31 ?_
        refine ww_iald (pc := 32) (f := SF.2 0) X 8 0 rfl rfl (vn (m := 22 + j_5) (nat_iadd (a := 22) (b := j_5) rfl rfl) (by omega) (by decide)) dX3_stayersOf_32 ?_
        refine ww_iload_n (pc := 33) X dX3_stayersOf_33 2 rfl rfl ?_
        refine ww_icmp_lt (pc := 34) (tgt := 44) X dX3_stayersOf_34 (by decide) (fun c5 => ?_) (fun c5 => ?_)
        · refine ww_iinc (pc := 44) (v := (nI j_5) + 1) (lv' := [(4, .int ((nI j_5) + 1)), (0, .ref (rF 0)), (1, .ref (rL 0)), (2, .int x2), (3, .int (it_X3_stayersOf_5 SL SF x2 (0 : Int32) j_5))]) X dX3_stayersOf_44 4 rfl rfl (by decide) rfl ?_
          refine ww_goto (pc := 47) (tgt := 5) X dX3_stayersOf_47 (by decide) ?_
          have h6 : (it_X3_stayersOf_5 SL SF x2 (0 : Int32) (j_5 + 1)) = (it_X3_stayersOf_5 SL SF x2 (0 : Int32) j_5) := by
            show bd_X3_stayersOf_5 SL SF x2 j_5 (it_X3_stayersOf_5 SL SF x2 (0 : Int32) j_5) = _; unfold bd_X3_stayersOf_5; try rw [if_neg c3, if_pos c5]; first | done | rfl
          refine ww_lsub [1, 2, 3, 4, 0] rfl ?_
          exact ww_castI (fun u9 : Int32 => fl [wX5 cI cZ cQ rL SL, wX3 cI cZ cQ rF SF]) (fun (u9 : Int32) (i9 : Int32) => ([(0, .ref (rF 0)), (1, .ref (rL 0)), (2, .int x2), (3, .int u9), (4, .int i9)] : List (Nat × Value))) h6 (ih (j_5 + 1) (by omega) K)
        · refine ww_iload_n (pc := 37) X dX3_stayersOf_37 3 rfl rfl ?_
          refine ww_iconst (pc := 38) (v := 1) X dX3_stayersOf_38 (by decide) ?_
          refine ww_iload (pc := 39) X dX3_stayersOf_39 4 rfl ?_
          refine ww_ishl (pc := 41) X dX3_stayersOf_41 ?_
          refine ww_ior (pc := 42) X dX3_stayersOf_42 ?_
          generalize hz7 : ((it_X3_stayersOf_5 SL SF x2 (0 : Int32) j_5) ||| (1 <<< ((nI j_5) &&& 31))) = z7
          refine ww_istore_n (pc := 43) (lv' := [(3, .int z7), (0, .ref (rF 0)), (1, .ref (rL 0)), (2, .int x2), (4, .int (nI j_5))]) X dX3_stayersOf_43 rfl (by decide) rfl ?_
          refine ww_iinc (pc := 44) (v := (nI j_5) + 1) (lv' := [(4, .int ((nI j_5) + 1)), (3, .int z7), (0, .ref (rF 0)), (1, .ref (rL 0)), (2, .int x2)]) X dX3_stayersOf_44 4 rfl rfl (by decide) rfl ?_
          refine ww_goto (pc := 47) (tgt := 5) X dX3_stayersOf_47 (by decide) ?_
          have h8 : (it_X3_stayersOf_5 SL SF x2 (0 : Int32) (j_5 + 1)) = z7 := by
            show bd_X3_stayersOf_5 SL SF x2 j_5 (it_X3_stayersOf_5 SL SF x2 (0 : Int32) j_5) = _; unfold bd_X3_stayersOf_5; try rw [if_neg c3, if_neg c5, hz7]; try unfold bd_X3_stayersOf_5_k1; first | done | rfl
          refine ww_lsub [2, 3, 4, 1, 0] rfl ?_
          exact ww_castI (fun u9 : Int32 => fl [wX5 cI cZ cQ rL SL, wX3 cI cZ cQ rF SF]) (fun (u9 : Int32) (i9 : Int32) => ([(0, .ref (rF 0)), (1, .ref (rL 0)), (2, .int x2), (3, .int u9), (4, .int i9)] : List (Nat × Value))) h8 (ih (j_5 + 1) (by omega) K)
  refine ww_lsub [2, 3, 4, 1, 0] rfl ?_
  refine L5 ((SL.1 3).toNatClampNeg) 0 (by omega) ?_
  generalize hz9 : ((it_X3_stayersOf_5 SL SF x2 (0 : Int32) ((SL.1 3).toNatClampNeg))) = z9
  refine ww_iload_n (pc := 50) X dX3_stayersOf_50 3 rfl rfl ?_
  exact ww_iret X hr rfl (Eq.symm (by unfold f_X3_stayersOf; try rw [hz9]; try unfold f_X3_stayersOf_k1; first | done | rfl)) rfl dX3_stayersOf_51
def bd_X3_passYears_12_k1 (SL : St) (x2 : Int32) (j : Nat) (u : St) (z3 : St) : St :=
  z3
def bd_X3_passYears_12 (SL : St) (x2 : Int32) (j : Nat) (u : St) : St :=
  if (f_X3_isAbove u (nI j)) = 0 then
    if (f_X3_isBelow u (nI j)) = 0 then
      u
    else
      (sA u 0 (upd (upd (u.2 0) ((15 + (nI j) : Int32)).toNatClampNeg (((u.2 0) ((15 + (nI j) : Int32)).toNatClampNeg) + x2)) ((22 + (nI j) : Int32)).toNatClampNeg (((upd (u.2 0) ((15 + (nI j) : Int32)).toNatClampNeg (((u.2 0) ((15 + (nI j) : Int32)).toNatClampNeg) + x2)) ((22 + (nI j) : Int32)).toNatClampNeg) + x2)))
  else
    bd_X3_passYears_12_k1 SL x2 j u (f_X3_buryIfOld SL (sA u 0 (upd (u.2 0) ((1 + (nI j) : Int32)).toNatClampNeg (((u.2 0) ((1 + (nI j) : Int32)).toNatClampNeg) + (if (((SL.2 2) (((nI j) : Int32)).toNatClampNeg) - ((u.2 0) ((1 + (nI j) : Int32)).toNatClampNeg)) < x2 then (((SL.2 2) (((nI j) : Int32)).toNatClampNeg) - ((u.2 0) ((1 + (nI j) : Int32)).toNatClampNeg)) else x2)))) (nI j))
def it_X3_passYears_12 (SL : St) (x2 : Int32) (u : St) : Nat → St
  | 0 => u
  | j + 1 => bd_X3_passYears_12 SL x2 j (it_X3_passYears_12 SL x2 u j)
def bd_X3_passYears_109 (SL : St) (x2 : Int32) (j : Nat) (u : St) : St :=
  (sA u 0 (upd (u.2 0) ((29 + (nI j) : Int32)).toNatClampNeg (f_X5_worthBehind SL (nI j) ((u.2 0) ((29 + (nI j) : Int32)).toNatClampNeg) x2)))
def it_X3_passYears_109 (SL : St) (x2 : Int32) (u : St) : Nat → St
  | 0 => u
  | j + 1 => bd_X3_passYears_109 SL x2 j (it_X3_passYears_109 SL x2 u j)
def f_X3_passYears_k2 (SL : St) (SF : St) (x2 : Int32) (z10 : St) (z12 : St) : St :=
  z12
def f_X3_passYears_k1 (SL : St) (SF : St) (x2 : Int32) (z10 : St) : St :=
  f_X3_passYears_k2 SL SF x2 z10 (it_X3_passYears_109 SL x2 z10 ((SL.1 4).toNatClampNeg))
def f_X3_passYears (SL : St) (SF : St) (x2 : Int32) : St :=
  f_X3_passYears_k1 SL SF x2 (it_X3_passYears_12 SL x2 (sA SF 0 (upd (SF.2 0) ((0 : Int32)).toNatClampNeg (((SF.2 0) ((0 : Int32)).toNatClampNeg) + x2))) ((SL.1 3).toNatClampNeg))
theorem inX3_passYears_3 : ∀ w ∈ wsX30, w ∈ wsX3_passYears := by decide +kernel
theorem inX3_passYears_5 : ∀ w ∈ wsX50, w ∈ wsX3_passYears := by decide +kernel
theorem hd_X3_passYears : yX3_passYears.cls = RX3 ∧ yX3_passYears.cls ≠ "java/lang/invoke/MethodHandle" ∧ yX3_passYears.cls ≠ "java/lang/invoke/VarHandle" ∧ (parseMethodDescriptor yX3_passYears.desc).map (fun d => d.parameters.length) = some 2 := by decide +kernel
set_option maxHeartbeats 4000000 in
set_option maxRecDepth 100000 in
theorem c_X3_passYears (l : Launch) (D : va_G) (cI cZ cQ : ClassId) (rL : Nat → Nat) (rF : Nat → Nat) (SL : St) (SF : St) (x2 : Int32) (okL : okS SL) : Cv l yX3_passYears wsX3_passYears { frames := 3, cells := 0, slots := 0, locals := 70 } D (tyL cI cZ cQ) [.ref (rF 0), .ref (rL 0), .int x2] (fl [wX5 cI cZ cQ rL SL, wX3 cI cZ cQ rF SF]) (fl [wX5 cI cZ cQ rL SL, wX3 cI cZ cQ rF (f_X3_passYears SL SF x2)]) := by
  refine cv_of (cc := cX3_passYears) (nL := 4) (lv0 := [(0, .ref (rF 0)), (1, .ref (rL 0)), (2, .int x2)]) (by decide) rfl (Nat.le_of_ble_eq_true rfl) rfl ?_
  intro p e s m args below meth c A X hr
  refine ww_aload_n (pc := 0) X dX3_passYears_0 0 rfl rfl ?_
  refine ww_get (pc := 1) (ci := 3) (v := .ref (rF 1)) (C := RX3) (T := TX3) (N := 1) X inX3_passYears_3 7 rfl rfl 0 (by decide) (by decide +kernel) rfl dX3_passYears_1 ?_
  refine ww_iconst (pc := 4) (v := 0) X dX3_passYears_4 (by decide) ?_
  refine ww_dup2_11 (pc := 5) X dX3_passYears_5 rfl rfl ?_
  refine ww_iald (pc := 6) (f := SF.2 0) X 8 0 rfl rfl (vl_in (by decide)) dX3_passYears_6 ?_
  refine ww_iload_n (pc := 7) X dX3_passYears_7 2 rfl rfl ?_
  refine ww_iadd (pc := 8) X dX3_passYears_8 ?_
  refine ww_iast (pc := 9) (f := SF.2 0) (ws' := fl [wX5 cI cZ cQ rL SL, wX3 cI cZ cQ rF (sA SF 0 (upd (SF.2 0) ((0 : Int32)).toNatClampNeg (((SF.2 0) ((0 : Int32)).toNatClampNeg) + x2)))]) X 8 0 rfl rfl (vl_in (by decide)) rfl dX3_passYears_9 ?_
  refine ww_iconst (pc := 10) (v := 0) X dX3_passYears_10 (by decide) ?_
  refine ww_istore_n (pc := 11) (lv' := [(3, .int 0), (0, .ref (rF 0)), (1, .ref (rL 0)), (2, .int x2)]) X dX3_passYears_11 rfl (by decide) rfl ?_
  have L12 : ∀ (k_12 j_12 : Nat), j_12 + k_12 = (SL.1 3).toNatClampNeg → WW p l e (headSpec wsX3_passYears { frames := 3, cells := 0, slots := 0, locals := 70 }).room s m args below meth c 4 D A 0 0 (RQv below args s D A (fl [wX5 cI cZ cQ rL SL, wX3 cI cZ cQ rF (f_X3_passYears SL SF x2)])) (fl [wX5 cI cZ cQ rL SL, wX3 cI cZ cQ rF (it_X3_passYears_12 SL x2 (sA SF 0 (upd (SF.2 0) ((0 : Int32)).toNatClampNeg (((SF.2 0) ((0 : Int32)).toNatClampNeg) + x2))) ((SL.1 3).toNatClampNeg))]) [(0, .ref (rF 0)), (1, .ref (rL 0)), (2, .int x2), (3, .int (nI ((SL.1 3).toNatClampNeg)))] 107 [] → WW p l e (headSpec wsX3_passYears { frames := 3, cells := 0, slots := 0, locals := 70 }).room s m args below meth c 4 D A 0 0 (RQv below args s D A (fl [wX5 cI cZ cQ rL SL, wX3 cI cZ cQ rF (f_X3_passYears SL SF x2)])) (fl [wX5 cI cZ cQ rL SL, wX3 cI cZ cQ rF (it_X3_passYears_12 SL x2 (sA SF 0 (upd (SF.2 0) ((0 : Int32)).toNatClampNeg (((SF.2 0) ((0 : Int32)).toNatClampNeg) + x2))) j_12)]) [(0, .ref (rF 0)), (1, .ref (rL 0)), (2, .int x2), (3, .int (nI j_12))] 12 [] := by
    intro k_12
    induction k_12 with
    | zero =>
      intro j_12 hj K
      have hjB : j_12 = (SL.1 3).toNatClampNeg := by omega
      subst hjB
      refine ww_iload_n (pc := 12) X dX3_passYears_12 3 rfl rfl ?_
      refine ww_aload_n (pc := 13) X dX3_passYears_13 1 rfl rfl ?_
      refine ww_get (pc := 14) (ci := 5) (v := .int (SL.1 3)) (C := RX5) (T := TX5) (N := 11) X inX3_passYears_5 0 rfl rfl 3 (by decide) (by decide +kernel) rfl dX3_passYears_14 ?_
      exact ww_icmp_ge (pc := 17) (tgt := 107) X dX3_passYears_17 (by decide) (fun _ => K) (fun c9 => absurd (lp_ge0c (Nat.le_refl _) (cl_lt _)) c9)
    | succ k_12 ih =>
      intro j_12 hj K
      have hjB : j_12 < (SL.1 3).toNatClampNeg := by omega
      have h7_12 := okS_p okL
      refine ww_iload_n (pc := 12) X dX3_passYears_12 3 rfl rfl ?_
      refine ww_aload_n (pc := 13) X dX3_passYears_13 1 rfl rfl ?_
      refine ww_get (pc := 14) (ci := 5) (v := .int (SL.1 3)) (C := RX5) (T := TX5) (N := 11) X inX3_passYears_5 0 rfl rfl 3 (by decide) (by decide +kernel) rfl dX3_passYears_14 ?_
      refine ww_icmp_ge (pc := 17) (tgt := 107) X dX3_passYears_17 (by decide) (fun c9 => absurd c9 (lp_ge1c hjB)) (fun _ => ?_)
      refine ww_aload_n (pc := 20) X dX3_passYears_20 0 rfl rfl ?_
      refine ww_iload_n (pc := 21) X dX3_passYears_21 3 rfl rfl ?_
      refine ww_gVi (pc := 22) (rest := []) (gsN := [wX5 cI cZ cQ rL SL, wX3 cI cZ cQ rF (it_X3_passYears_12 SL x2 (sA SF 0 (upd (SF.2 0) ((0 : Int32)).toNatClampNeg (((SF.2 0) ((0 : Int32)).toNatClampNeg) + x2))) j_12)]) (ci := 3) (gi := 0) (qi := 0) X (c_X3_isAbove l D cI cZ cQ rF (it_X3_passYears_12 SL x2 (sA SF 0 (upd (SF.2 0) ((0 : Int32)).toNatClampNeg (((SF.2 0) ((0 : Int32)).toNatClampNeg) + x2))) j_12) (nI j_12)) gX3_passYears_X3_isAbove rfl hd_X3_isAbove [false, true] rfl rfl rfl rfl rfl rfl rfl rfl ⟨rfl, rfl⟩ ⟨Nat.le_of_ble_eq_true rfl, Nat.le_of_ble_eq_true rfl⟩ (Nat.le_of_ble_eq_true rfl) ⟨Nat.zero_le _, Nat.zero_le _⟩ dX3_passYears_22 ?_
      refine ww_if_eq (pc := 25) (tgt := 67) X dX3_passYears_25 (by decide) (fun c4 => ?_) (fun c4 => ?_)
      · refine ww_aload_n (pc := 67) X dX3_passYears_67 0 rfl rfl ?_
        refine ww_iload_n (pc := 68) X dX3_passYears_68 3 rfl rfl ?_
        refine ww_gVi (pc := 69) (rest := []) (gsN := [wX5 cI cZ cQ rL SL, wX3 cI cZ cQ rF (it_X3_passYears_12 SL x2 (sA SF 0 (upd (SF.2 0) ((0 : Int32)).toNatClampNeg (((SF.2 0) ((0 : Int32)).toNatClampNeg) + x2))) j_12)]) (ci := 3) (gi := 0) (qi := 0) X (c_X3_isBelow l D cI cZ cQ rF (it_X3_passYears_12 SL x2 (sA SF 0 (upd (SF.2 0) ((0 : Int32)).toNatClampNeg (((SF.2 0) ((0 : Int32)).toNatClampNeg) + x2))) j_12) (nI j_12)) gX3_passYears_X3_isBelow rfl hd_X3_isBelow [false, true] rfl rfl rfl rfl rfl rfl rfl rfl ⟨rfl, rfl⟩ ⟨Nat.le_of_ble_eq_true rfl, Nat.le_of_ble_eq_true rfl⟩ (Nat.le_of_ble_eq_true rfl) ⟨Nat.zero_le _, Nat.zero_le _⟩ dX3_passYears_69 ?_
        refine ww_if_eq (pc := 72) (tgt := 101) X dX3_passYears_72 (by decide) (fun c5 => ?_) (fun c5 => ?_)
        · refine ww_iinc (pc := 101) (v := (nI j_12) + 1) (lv' := [(3, .int ((nI j_12) + 1)), (0, .ref (rF 0)), (1, .ref (rL 0)), (2, .int x2)]) X dX3_passYears_101 3 rfl rfl (by decide) rfl ?_
          refine ww_goto (pc := 104) (tgt := 12) X dX3_passYears_104 (by decide) ?_
          have h6 : (it_X3_passYears_12 SL x2 (sA SF 0 (upd (SF.2 0) ((0 : Int32)).toNatClampNeg (((SF.2 0) ((0 : Int32)).toNatClampNeg) + x2))) (j_12 + 1)) = (it_X3_passYears_12 SL x2 (sA SF 0 (upd (SF.2 0) ((0 : Int32)).toNatClampNeg (((SF.2 0) ((0 : Int32)).toNatClampNeg) + x2))) j_12) := by
            show bd_X3_passYears_12 SL x2 j_12 (it_X3_passYears_12 SL x2 (sA SF 0 (upd (SF.2 0) ((0 : Int32)).toNatClampNeg (((SF.2 0) ((0 : Int32)).toNatClampNeg) + x2))) j_12) = _; unfold bd_X3_passYears_12; try rw [if_pos c4, if_pos c5]; first | done | rfl
          refine ww_lsub [1, 2, 3, 0] rfl ?_
          exact ww_castI (fun u9 : St => fl [wX5 cI cZ cQ rL SL, wX3 cI cZ cQ rF u9]) (fun (u9 : St) (i9 : Int32) => ([(0, .ref (rF 0)), (1, .ref (rL 0)), (2, .int x2), (3, .int i9)] : List (Nat × Value))) h6 (ih (j_12 + 1) (by omega) K)
        · refine ww_aload_n (pc := 75) X dX3_passYears_75 0 rfl rfl ?_
          refine ww_get (pc := 76) (ci := 3) (v := .ref (rF 1)) (C := RX3) (T := TX3) (N := 1) X inX3_passYears_3 7 rfl rfl 0 (by decide) (by decide +kernel) rfl dX3_passYears_76 ?_
          refine ww_bipush (pc := 79) (v := 15) X dX3_passYears_79 (by decide) ?_
          refine ww_iload_n (pc := 81) X dX3_passYears_81 3 rfl rfl ?_
          refine ww_iadd (pc := 82) X dX3_passYears_82 ?_
          refine ww_dup2_11 (pc := 83) X dX3_passYears_83 rfl rfl ?_
          refine ww_iald (pc := 84) (f := (it_X3_passYears_12 SL x2 (sA SF 0 (upd (SF.2 0) ((0 : Int32)).toNatClampNeg (((SF.2 0) ((0 : Int32)).toNatClampNeg) + x2))) j_12).2 0) X 8 0 rfl rfl (vn (m := 15 + j_12) (nat_iadd (a := 15) (b := j_12) rfl rfl) (by omega) (by decide)) dX3_passYears_84 ?_
          refine ww_iload_n (pc := 85) X dX3_passYears_85 2 rfl rfl ?_
          refine ww_iadd (pc := 86) X dX3_passYears_86 ?_
          refine ww_iast (pc := 87) (f := (it_X3_passYears_12 SL x2 (sA SF 0 (upd (SF.2 0) ((0 : Int32)).toNatClampNeg (((SF.2 0) ((0 : Int32)).toNatClampNeg) + x2))) j_12).2 0) (ws' := fl [wX5 cI cZ cQ rL SL, wX3 cI cZ cQ rF (sA (it_X3_passYears_12 SL x2 (sA SF 0 (upd (SF.2 0) ((0 : Int32)).toNatClampNeg (((SF.2 0) ((0 : Int32)).toNatClampNeg) + x2))) j_12) 0 (upd ((it_X3_passYears_12 SL x2 (sA SF 0 (upd (SF.2 0) ((0 : Int32)).toNatClampNeg (((SF.2 0) ((0 : Int32)).toNatClampNeg) + x2))) j_12).2 0) ((15 + (nI j_12) : Int32)).toNatClampNeg ((((it_X3_passYears_12 SL x2 (sA SF 0 (upd (SF.2 0) ((0 : Int32)).toNatClampNeg (((SF.2 0) ((0 : Int32)).toNatClampNeg) + x2))) j_12).2 0) ((15 + (nI j_12) : Int32)).toNatClampNeg) + x2)))]) X 8 0 rfl rfl (vn (m := 15 + j_12) (nat_iadd (a := 15) (b := j_12) rfl rfl) (by omega) (by decide)) rfl dX3_passYears_87 ?_
          refine ww_aload_n (pc := 88) X dX3_passYears_88 0 rfl rfl ?_
          refine ww_get (pc := 89) (ci := 3) (v := .ref (rF 1)) (C := RX3) (T := TX3) (N := 1) X inX3_passYears_3 7 rfl rfl 0 (by decide) (by decide +kernel) rfl dX3_passYears_89 ?_
          refine ww_bipush (pc := 92) (v := 22) X dX3_passYears_92 (by decide) ?_
          refine ww_iload_n (pc := 94) X dX3_passYears_94 3 rfl rfl ?_
          refine ww_iadd (pc := 95) X dX3_passYears_95 ?_
          refine ww_dup2_11 (pc := 96) X dX3_passYears_96 rfl rfl ?_
          refine ww_iald (pc := 97) (f := upd ((it_X3_passYears_12 SL x2 (sA SF 0 (upd (SF.2 0) ((0 : Int32)).toNatClampNeg (((SF.2 0) ((0 : Int32)).toNatClampNeg) + x2))) j_12).2 0) ((15 + (nI j_12) : Int32)).toNatClampNeg ((((it_X3_passYears_12 SL x2 (sA SF 0 (upd (SF.2 0) ((0 : Int32)).toNatClampNeg (((SF.2 0) ((0 : Int32)).toNatClampNeg) + x2))) j_12).2 0) ((15 + (nI j_12) : Int32)).toNatClampNeg) + x2)) X 8 0 rfl rfl (vn (m := 22 + j_12) (nat_iadd (a := 22) (b := j_12) rfl rfl) (by omega) (by decide)) dX3_passYears_97 ?_
          refine ww_iload_n (pc := 98) X dX3_passYears_98 2 rfl rfl ?_
          refine ww_iadd (pc := 99) X dX3_passYears_99 ?_
          refine ww_iast (pc := 100) (f := upd ((it_X3_passYears_12 SL x2 (sA SF 0 (upd (SF.2 0) ((0 : Int32)).toNatClampNeg (((SF.2 0) ((0 : Int32)).toNatClampNeg) + x2))) j_12).2 0) ((15 + (nI j_12) : Int32)).toNatClampNeg ((((it_X3_passYears_12 SL x2 (sA SF 0 (upd (SF.2 0) ((0 : Int32)).toNatClampNeg (((SF.2 0) ((0 : Int32)).toNatClampNeg) + x2))) j_12).2 0) ((15 + (nI j_12) : Int32)).toNatClampNeg) + x2)) (ws' := fl [wX5 cI cZ cQ rL SL, wX3 cI cZ cQ rF (sA (it_X3_passYears_12 SL x2 (sA SF 0 (upd (SF.2 0) ((0 : Int32)).toNatClampNeg (((SF.2 0) ((0 : Int32)).toNatClampNeg) + x2))) j_12) 0 (upd (upd ((it_X3_passYears_12 SL x2 (sA SF 0 (upd (SF.2 0) ((0 : Int32)).toNatClampNeg (((SF.2 0) ((0 : Int32)).toNatClampNeg) + x2))) j_12).2 0) ((15 + (nI j_12) : Int32)).toNatClampNeg ((((it_X3_passYears_12 SL x2 (sA SF 0 (upd (SF.2 0) ((0 : Int32)).toNatClampNeg (((SF.2 0) ((0 : Int32)).toNatClampNeg) + x2))) j_12).2 0) ((15 + (nI j_12) : Int32)).toNatClampNeg) + x2)) ((22 + (nI j_12) : Int32)).toNatClampNeg (((upd ((it_X3_passYears_12 SL x2 (sA SF 0 (upd (SF.2 0) ((0 : Int32)).toNatClampNeg (((SF.2 0) ((0 : Int32)).toNatClampNeg) + x2))) j_12).2 0) ((15 + (nI j_12) : Int32)).toNatClampNeg ((((it_X3_passYears_12 SL x2 (sA SF 0 (upd (SF.2 0) ((0 : Int32)).toNatClampNeg (((SF.2 0) ((0 : Int32)).toNatClampNeg) + x2))) j_12).2 0) ((15 + (nI j_12) : Int32)).toNatClampNeg) + x2)) ((22 + (nI j_12) : Int32)).toNatClampNeg) + x2)))]) X 8 0 rfl rfl (vn (m := 22 + j_12) (nat_iadd (a := 22) (b := j_12) rfl rfl) (by omega) (by decide)) rfl dX3_passYears_100 ?_
          refine ww_iinc (pc := 101) (v := (nI j_12) + 1) (lv' := [(3, .int ((nI j_12) + 1)), (0, .ref (rF 0)), (1, .ref (rL 0)), (2, .int x2)]) X dX3_passYears_101 3 rfl rfl (by decide) rfl ?_
          refine ww_goto (pc := 104) (tgt := 12) X dX3_passYears_104 (by decide) ?_
          have h7 : (it_X3_passYears_12 SL x2 (sA SF 0 (upd (SF.2 0) ((0 : Int32)).toNatClampNeg (((SF.2 0) ((0 : Int32)).toNatClampNeg) + x2))) (j_12 + 1)) = (sA (it_X3_passYears_12 SL x2 (sA SF 0 (upd (SF.2 0) ((0 : Int32)).toNatClampNeg (((SF.2 0) ((0 : Int32)).toNatClampNeg) + x2))) j_12) 0 (upd (upd ((it_X3_passYears_12 SL x2 (sA SF 0 (upd (SF.2 0) ((0 : Int32)).toNatClampNeg (((SF.2 0) ((0 : Int32)).toNatClampNeg) + x2))) j_12).2 0) ((15 + (nI j_12) : Int32)).toNatClampNeg ((((it_X3_passYears_12 SL x2 (sA SF 0 (upd (SF.2 0) ((0 : Int32)).toNatClampNeg (((SF.2 0) ((0 : Int32)).toNatClampNeg) + x2))) j_12).2 0) ((15 + (nI j_12) : Int32)).toNatClampNeg) + x2)) ((22 + (nI j_12) : Int32)).toNatClampNeg (((upd ((it_X3_passYears_12 SL x2 (sA SF 0 (upd (SF.2 0) ((0 : Int32)).toNatClampNeg (((SF.2 0) ((0 : Int32)).toNatClampNeg) + x2))) j_12).2 0) ((15 + (nI j_12) : Int32)).toNatClampNeg ((((it_X3_passYears_12 SL x2 (sA SF 0 (upd (SF.2 0) ((0 : Int32)).toNatClampNeg (((SF.2 0) ((0 : Int32)).toNatClampNeg) + x2))) j_12).2 0) ((15 + (nI j_12) : Int32)).toNatClampNeg) + x2)) ((22 + (nI j_12) : Int32)).toNatClampNeg) + x2))) := by
            show bd_X3_passYears_12 SL x2 j_12 (it_X3_passYears_12 SL x2 (sA SF 0 (upd (SF.2 0) ((0 : Int32)).toNatClampNeg (((SF.2 0) ((0 : Int32)).toNatClampNeg) + x2))) j_12) = _; unfold bd_X3_passYears_12; try rw [if_pos c4, if_neg c5]; first | done | rfl
          refine ww_lsub [1, 2, 3, 0] rfl ?_
          exact ww_castI (fun u9 : St => fl [wX5 cI cZ cQ rL SL, wX3 cI cZ cQ rF u9]) (fun (u9 : St) (i9 : Int32) => ([(0, .ref (rF 0)), (1, .ref (rL 0)), (2, .int x2), (3, .int i9)] : List (Nat × Value))) h7 (ih (j_12 + 1) (by omega) K)
      · refine ww_aload_n (pc := 28) X dX3_passYears_28 0 rfl rfl ?_
        refine ww_get (pc := 29) (ci := 3) (v := .ref (rF 1)) (C := RX3) (T := TX3) (N := 1) X inX3_passYears_3 7 rfl rfl 0 (by decide) (by decide +kernel) rfl dX3_passYears_29 ?_
        refine ww_iconst (pc := 32) (v := 1) X dX3_passYears_32 (by decide) ?_
        refine ww_iload_n (pc := 33) X dX3_passYears_33 3 rfl rfl ?_
        refine ww_iadd (pc := 34) X dX3_passYears_34 ?_
        refine ww_dup2_11 (pc := 35) X dX3_passYears_35 rfl rfl ?_
        refine ww_iald (pc := 36) (f := (it_X3_passYears_12 SL x2 (sA SF 0 (upd (SF.2 0) ((0 : Int32)).toNatClampNeg (((SF.2 0) ((0 : Int32)).toNatClampNeg) + x2))) j_12).2 0) X 8 0 rfl rfl (vn (m := 1 + j_12) (nat_iadd (a := 1) (b := j_12) rfl rfl) (by omega) (by decide)) dX3_passYears_36 ?_
        refine ww_iload_n (pc := 37) X dX3_passYears_37 2 rfl rfl ?_
        refine ww_aload_n (pc := 38) X dX3_passYears_38 1 rfl rfl ?_
        refine ww_get (pc := 39) (ci := 5) (v := .ref (rL 3)) (C := RX5) (T := TX5) (N := 11) X inX3_passYears_5 0 rfl rfl 7 (by decide) (by decide +kernel) rfl dX3_passYears_39 ?_
        refine ww_iload_n (pc := 42) X dX3_passYears_42 3 rfl rfl ?_
        refine ww_iald (pc := 43) (f := SL.2 2) X 3 0 rfl rfl (vn (m := j_12) rfl (by omega) (by decide)) dX3_passYears_43 ?_
        refine ww_aload_n (pc := 44) X dX3_passYears_44 0 rfl rfl ?_
        refine ww_get (pc := 45) (ci := 3) (v := .ref (rF 1)) (C := RX3) (T := TX3) (N := 1) X inX3_passYears_3 7 rfl rfl 0 (by decide) (by decide +kernel) rfl dX3_passYears_45 ?_
        refine ww_iconst (pc := 48) (v := 1) X dX3_passYears_48 (by decide) ?_
        refine ww_iload_n (pc := 49) X dX3_passYears_49 3 rfl rfl ?_
        refine ww_iadd (pc := 50) X dX3_passYears_50 ?_
        refine ww_iald (pc := 51) (f := (it_X3_passYears_12 SL x2 (sA SF 0 (upd (SF.2 0) ((0 : Int32)).toNatClampNeg (((SF.2 0) ((0 : Int32)).toNatClampNeg) + x2))) j_12).2 0) X 8 0 rfl rfl (vn (m := 1 + j_12) (nat_iadd (a := 1) (b := j_12) rfl rfl) (by omega) (by decide)) dX3_passYears_51 ?_
        refine ww_isub (pc := 52) X dX3_passYears_52 ?_
        refine ww_mmin (pc := 53) X (by decide +kernel) (by decide +kernel) (by decide +kernel) (by decide +kernel) (Nat.le_of_ble_eq_true rfl) (Nat.le_of_ble_eq_true rfl) (Nat.zero_le _) (Nat.zero_le _) dX3_passYears_53 ?_
        refine ww_iadd (pc := 56) X dX3_passYears_56 ?_
        refine ww_iast (pc := 57) (f := (it_X3_passYears_12 SL x2 (sA SF 0 (upd (SF.2 0) ((0 : Int32)).toNatClampNeg (((SF.2 0) ((0 : Int32)).toNatClampNeg) + x2))) j_12).2 0) (ws' := fl [wX5 cI cZ cQ rL SL, wX3 cI cZ cQ rF (sA (it_X3_passYears_12 SL x2 (sA SF 0 (upd (SF.2 0) ((0 : Int32)).toNatClampNeg (((SF.2 0) ((0 : Int32)).toNatClampNeg) + x2))) j_12) 0 (upd ((it_X3_passYears_12 SL x2 (sA SF 0 (upd (SF.2 0) ((0 : Int32)).toNatClampNeg (((SF.2 0) ((0 : Int32)).toNatClampNeg) + x2))) j_12).2 0) ((1 + (nI j_12) : Int32)).toNatClampNeg ((((it_X3_passYears_12 SL x2 (sA SF 0 (upd (SF.2 0) ((0 : Int32)).toNatClampNeg (((SF.2 0) ((0 : Int32)).toNatClampNeg) + x2))) j_12).2 0) ((1 + (nI j_12) : Int32)).toNatClampNeg) + (if (((SL.2 2) (((nI j_12) : Int32)).toNatClampNeg) - (((it_X3_passYears_12 SL x2 (sA SF 0 (upd (SF.2 0) ((0 : Int32)).toNatClampNeg (((SF.2 0) ((0 : Int32)).toNatClampNeg) + x2))) j_12).2 0) ((1 + (nI j_12) : Int32)).toNatClampNeg)) < x2 then (((SL.2 2) (((nI j_12) : Int32)).toNatClampNeg) - (((it_X3_passYears_12 SL x2 (sA SF 0 (upd (SF.2 0) ((0 : Int32)).toNatClampNeg (((SF.2 0) ((0 : Int32)).toNatClampNeg) + x2))) j_12).2 0) ((1 + (nI j_12) : Int32)).toNatClampNeg)) else x2))))]) X 8 0 rfl rfl (vn (m := 1 + j_12) (nat_iadd (a := 1) (b := j_12) rfl rfl) (by omega) (by decide)) rfl dX3_passYears_57 ?_
        refine ww_aload_n (pc := 58) X dX3_passYears_58 0 rfl rfl ?_
        refine ww_aload_n (pc := 59) X dX3_passYears_59 1 rfl rfl ?_
        refine ww_iload_n (pc := 60) X dX3_passYears_60 3 rfl rfl ?_
        refine ww_gVv (pc := 61) (rest := []) (gsN := [wX5 cI cZ cQ rL SL, wX3 cI cZ cQ rF (f_X3_buryIfOld SL (sA (it_X3_passYears_12 SL x2 (sA SF 0 (upd (SF.2 0) ((0 : Int32)).toNatClampNeg (((SF.2 0) ((0 : Int32)).toNatClampNeg) + x2))) j_12) 0 (upd ((it_X3_passYears_12 SL x2 (sA SF 0 (upd (SF.2 0) ((0 : Int32)).toNatClampNeg (((SF.2 0) ((0 : Int32)).toNatClampNeg) + x2))) j_12).2 0) ((1 + (nI j_12) : Int32)).toNatClampNeg ((((it_X3_passYears_12 SL x2 (sA SF 0 (upd (SF.2 0) ((0 : Int32)).toNatClampNeg (((SF.2 0) ((0 : Int32)).toNatClampNeg) + x2))) j_12).2 0) ((1 + (nI j_12) : Int32)).toNatClampNeg) + (if (((SL.2 2) (((nI j_12) : Int32)).toNatClampNeg) - (((it_X3_passYears_12 SL x2 (sA SF 0 (upd (SF.2 0) ((0 : Int32)).toNatClampNeg (((SF.2 0) ((0 : Int32)).toNatClampNeg) + x2))) j_12).2 0) ((1 + (nI j_12) : Int32)).toNatClampNeg)) < x2 then (((SL.2 2) (((nI j_12) : Int32)).toNatClampNeg) - (((it_X3_passYears_12 SL x2 (sA SF 0 (upd (SF.2 0) ((0 : Int32)).toNatClampNeg (((SF.2 0) ((0 : Int32)).toNatClampNeg) + x2))) j_12).2 0) ((1 + (nI j_12) : Int32)).toNatClampNeg)) else x2)))) (nI j_12))]) (ci := 3) (gi := 1) (qi := 0) X (c_X3_buryIfOld l D cI cZ cQ rL rF SL (sA (it_X3_passYears_12 SL x2 (sA SF 0 (upd (SF.2 0) ((0 : Int32)).toNatClampNeg (((SF.2 0) ((0 : Int32)).toNatClampNeg) + x2))) j_12) 0 (upd ((it_X3_passYears_12 SL x2 (sA SF 0 (upd (SF.2 0) ((0 : Int32)).toNatClampNeg (((SF.2 0) ((0 : Int32)).toNatClampNeg) + x2))) j_12).2 0) ((1 + (nI j_12) : Int32)).toNatClampNeg ((((it_X3_passYears_12 SL x2 (sA SF 0 (upd (SF.2 0) ((0 : Int32)).toNatClampNeg (((SF.2 0) ((0 : Int32)).toNatClampNeg) + x2))) j_12).2 0) ((1 + (nI j_12) : Int32)).toNatClampNeg) + (if (((SL.2 2) (((nI j_12) : Int32)).toNatClampNeg) - (((it_X3_passYears_12 SL x2 (sA SF 0 (upd (SF.2 0) ((0 : Int32)).toNatClampNeg (((SF.2 0) ((0 : Int32)).toNatClampNeg) + x2))) j_12).2 0) ((1 + (nI j_12) : Int32)).toNatClampNeg)) < x2 then (((SL.2 2) (((nI j_12) : Int32)).toNatClampNeg) - (((it_X3_passYears_12 SL x2 (sA SF 0 (upd (SF.2 0) ((0 : Int32)).toNatClampNeg (((SF.2 0) ((0 : Int32)).toNatClampNeg) + x2))) j_12).2 0) ((1 + (nI j_12) : Int32)).toNatClampNeg)) else x2)))) (nI j_12) (vn (m := j_12) rfl (by omega) (by decide))) gX3_passYears_X3_buryIfOld rfl hd_X3_buryIfOld [true, true] rfl (acons rfl (acons (ad3 _ _ _ _ _ _) rfl)) rfl rfl rfl rfl rfl rfl ⟨rfl, rfl⟩ ⟨Nat.le_of_ble_eq_true rfl, Nat.le_of_ble_eq_true rfl⟩ (Nat.le_of_ble_eq_true rfl) ⟨Nat.zero_le _, Nat.zero_le _⟩ dX3_passYears_61 ?_
        generalize hz8 : (f_X3_buryIfOld SL (sA (it_X3_passYears_12 SL x2 (sA SF 0 (upd (SF.2 0) ((0 : Int32)).toNatClampNeg (((SF.2 0) ((0 : Int32)).toNatClampNeg) + x2))) j_12) 0 (upd ((it_X3_passYears_12 SL x2 (sA SF 0 (upd (SF.2 0) ((0 : Int32)).toNatClampNeg (((SF.2 0) ((0 : Int32)).toNatClampNeg) + x2))) j_12).2 0) ((1 + (nI j_12) : Int32)).toNatClampNeg ((((it_X3_passYears_12 SL x2 (sA SF 0 (upd (SF.2 0) ((0 : Int32)).toNatClampNeg (((SF.2 0) ((0 : Int32)).toNatClampNeg) + x2))) j_12).2 0) ((1 + (nI j_12) : Int32)).toNatClampNeg) + (if (((SL.2 2) (((nI j_12) : Int32)).toNatClampNeg) - (((it_X3_passYears_12 SL x2 (sA SF 0 (upd (SF.2 0) ((0 : Int32)).toNatClampNeg (((SF.2 0) ((0 : Int32)).toNatClampNeg) + x2))) j_12).2 0) ((1 + (nI j_12) : Int32)).toNatClampNeg)) < x2 then (((SL.2 2) (((nI j_12) : Int32)).toNatClampNeg) - (((it_X3_passYears_12 SL x2 (sA SF 0 (upd (SF.2 0) ((0 : Int32)).toNatClampNeg (((SF.2 0) ((0 : Int32)).toNatClampNeg) + x2))) j_12).2 0) ((1 + (nI j_12) : Int32)).toNatClampNeg)) else x2)))) (nI j_12)) = z8
        refine ww_goto (pc := 64) (tgt := 101) X dX3_passYears_64 (by decide) ?_
        refine ww_iinc (pc := 101) (v := (nI j_12) + 1) (lv' := [(3, .int ((nI j_12) + 1)), (0, .ref (rF 0)), (1, .ref (rL 0)), (2, .int x2)]) X dX3_passYears_101 3 rfl rfl (by decide) rfl ?_
        refine ww_goto (pc := 104) (tgt := 12) X dX3_passYears_104 (by decide) ?_
        have h9 : (it_X3_passYears_12 SL x2 (sA SF 0 (upd (SF.2 0) ((0 : Int32)).toNatClampNeg (((SF.2 0) ((0 : Int32)).toNatClampNeg) + x2))) (j_12 + 1)) = z8 := by
          show bd_X3_passYears_12 SL x2 j_12 (it_X3_passYears_12 SL x2 (sA SF 0 (upd (SF.2 0) ((0 : Int32)).toNatClampNeg (((SF.2 0) ((0 : Int32)).toNatClampNeg) + x2))) j_12) = _; unfold bd_X3_passYears_12; try rw [if_neg c4, hz8]; try unfold bd_X3_passYears_12_k1; first | done | rfl
        refine ww_lsub [1, 2, 3, 0] rfl ?_
        exact ww_castI (fun u9 : St => fl [wX5 cI cZ cQ rL SL, wX3 cI cZ cQ rF u9]) (fun (u9 : St) (i9 : Int32) => ([(0, .ref (rF 0)), (1, .ref (rL 0)), (2, .int x2), (3, .int i9)] : List (Nat × Value))) h9 (ih (j_12 + 1) (by omega) K)
  refine ww_lsub [1, 2, 3, 0] rfl ?_
  refine L12 ((SL.1 3).toNatClampNeg) 0 (by omega) ?_
  generalize hz10 : ((it_X3_passYears_12 SL x2 (sA SF 0 (upd (SF.2 0) ((0 : Int32)).toNatClampNeg (((SF.2 0) ((0 : Int32)).toNatClampNeg) + x2))) ((SL.1 3).toNatClampNeg))) = z10
  refine ww_iconst (pc := 107) (v := 0) X dX3_passYears_107 (by decide) ?_
  refine ww_istore_n (pc := 108) (lv' := [(3, .int 0), (0, .ref (rF 0)), (1, .ref (rL 0)), (2, .int x2)]) X dX3_passYears_108 rfl (by decide) rfl ?_
  have L109 : ∀ (k_109 j_109 : Nat), j_109 + k_109 = (SL.1 4).toNatClampNeg → WW p l e (headSpec wsX3_passYears { frames := 3, cells := 0, slots := 0, locals := 70 }).room s m args below meth c 4 D A 0 0 (RQv below args s D A (fl [wX5 cI cZ cQ rL SL, wX3 cI cZ cQ rF (f_X3_passYears SL SF x2)])) (fl [wX5 cI cZ cQ rL SL, wX3 cI cZ cQ rF (it_X3_passYears_109 SL x2 z10 ((SL.1 4).toNatClampNeg))]) [(0, .ref (rF 0)), (1, .ref (rL 0)), (2, .int x2), (3, .int (nI ((SL.1 4).toNatClampNeg)))] 147 [] → WW p l e (headSpec wsX3_passYears { frames := 3, cells := 0, slots := 0, locals := 70 }).room s m args below meth c 4 D A 0 0 (RQv below args s D A (fl [wX5 cI cZ cQ rL SL, wX3 cI cZ cQ rF (f_X3_passYears SL SF x2)])) (fl [wX5 cI cZ cQ rL SL, wX3 cI cZ cQ rF (it_X3_passYears_109 SL x2 z10 j_109)]) [(0, .ref (rF 0)), (1, .ref (rL 0)), (2, .int x2), (3, .int (nI j_109))] 109 [] := by
    intro k_109
    induction k_109 with
    | zero =>
      intro j_109 hj K
      have hjB : j_109 = (SL.1 4).toNatClampNeg := by omega
      subst hjB
      refine ww_iload_n (pc := 109) X dX3_passYears_109 3 rfl rfl ?_
      refine ww_aload_n (pc := 110) X dX3_passYears_110 1 rfl rfl ?_
      refine ww_get (pc := 111) (ci := 5) (v := .int (SL.1 4)) (C := RX5) (T := TX5) (N := 11) X inX3_passYears_5 0 rfl rfl 4 (by decide) (by decide +kernel) rfl dX3_passYears_111 ?_
      exact ww_icmp_ge (pc := 114) (tgt := 147) X dX3_passYears_114 (by decide) (fun _ => K) (fun c9 => absurd (lp_ge0c (Nat.le_refl _) (cl_lt _)) c9)
    | succ k_109 ih =>
      intro j_109 hj K
      have hjB : j_109 < (SL.1 4).toNatClampNeg := by omega
      have h6_109 := okS_g okL
      refine ww_iload_n (pc := 109) X dX3_passYears_109 3 rfl rfl ?_
      refine ww_aload_n (pc := 110) X dX3_passYears_110 1 rfl rfl ?_
      refine ww_get (pc := 111) (ci := 5) (v := .int (SL.1 4)) (C := RX5) (T := TX5) (N := 11) X inX3_passYears_5 0 rfl rfl 4 (by decide) (by decide +kernel) rfl dX3_passYears_111 ?_
      refine ww_icmp_ge (pc := 114) (tgt := 147) X dX3_passYears_114 (by decide) (fun c9 => absurd c9 (lp_ge1c hjB)) (fun _ => ?_)
      refine ww_aload_n (pc := 117) X dX3_passYears_117 0 rfl rfl ?_
      refine ww_get (pc := 118) (ci := 3) (v := .ref (rF 1)) (C := RX3) (T := TX3) (N := 1) X inX3_passYears_3 7 rfl rfl 0 (by decide) (by decide +kernel) rfl dX3_passYears_118 ?_
      refine ww_bipush (pc := 121) (v := 29) X dX3_passYears_121 (by decide) ?_
      refine ww_iload_n (pc := 123) X dX3_passYears_123 3 rfl rfl ?_
      refine ww_iadd (pc := 124) X dX3_passYears_124 ?_
      refine ww_aload_n (pc := 125) X dX3_passYears_125 1 rfl rfl ?_
      refine ww_iload_n (pc := 126) X dX3_passYears_126 3 rfl rfl ?_
      refine ww_aload_n (pc := 127) X dX3_passYears_127 0 rfl rfl ?_
      refine ww_get (pc := 128) (ci := 3) (v := .ref (rF 1)) (C := RX3) (T := TX3) (N := 1) X inX3_passYears_3 7 rfl rfl 0 (by decide) (by decide +kernel) rfl dX3_passYears_128 ?_
      refine ww_bipush (pc := 131) (v := 29) X dX3_passYears_131 (by decide) ?_
      refine ww_iload_n (pc := 133) X dX3_passYears_133 3 rfl rfl ?_
      refine ww_iadd (pc := 134) X dX3_passYears_134 ?_
      refine ww_iald (pc := 135) (f := (it_X3_passYears_109 SL x2 z10 j_109).2 0) X 8 0 rfl rfl (vn (m := 29 + j_109) (nat_iadd (a := 29) (b := j_109) rfl rfl) (by omega) (by decide)) dX3_passYears_135 ?_
      refine ww_iload_n (pc := 136) X dX3_passYears_136 2 rfl rfl ?_
      refine ww_gVi (pc := 137) (rest := [.int (29 + (nI j_109)), .ref (rF 1)]) (gsN := [wX5 cI cZ cQ rL SL, wX3 cI cZ cQ rF (it_X3_passYears_109 SL x2 z10 j_109)]) (ci := 5) (gi := 0) (qi := 0) X (c_X5_worthBehind l D cI cZ cQ rL SL (nI j_109) (((it_X3_passYears_109 SL x2 z10 j_109).2 0) ((29 + (nI j_109) : Int32)).toNatClampNeg) x2) gX3_passYears_X5_worthBehind rfl hd_X5_worthBehind [true, false] rfl rfl rfl rfl rfl rfl rfl rfl ⟨rfl, rfl⟩ ⟨Nat.le_of_ble_eq_true rfl, Nat.le_of_ble_eq_true rfl⟩ (Nat.le_of_ble_eq_true rfl) ⟨Nat.zero_le _, Nat.zero_le _⟩ dX3_passYears_137 ?_
      refine ww_iast (pc := 140) (f := (it_X3_passYears_109 SL x2 z10 j_109).2 0) (ws' := fl [wX5 cI cZ cQ rL SL, wX3 cI cZ cQ rF (sA (it_X3_passYears_109 SL x2 z10 j_109) 0 (upd ((it_X3_passYears_109 SL x2 z10 j_109).2 0) ((29 + (nI j_109) : Int32)).toNatClampNeg (f_X5_worthBehind SL (nI j_109) (((it_X3_passYears_109 SL x2 z10 j_109).2 0) ((29 + (nI j_109) : Int32)).toNatClampNeg) x2)))]) X 8 0 rfl rfl (vn (m := 29 + j_109) (nat_iadd (a := 29) (b := j_109) rfl rfl) (by omega) (by decide)) rfl dX3_passYears_140 ?_
      refine ww_iinc (pc := 141) (v := (nI j_109) + 1) (lv' := [(3, .int ((nI j_109) + 1)), (0, .ref (rF 0)), (1, .ref (rL 0)), (2, .int x2)]) X dX3_passYears_141 3 rfl rfl (by decide) rfl ?_
      refine ww_goto (pc := 144) (tgt := 109) X dX3_passYears_144 (by decide) ?_
      have h11 : (it_X3_passYears_109 SL x2 z10 (j_109 + 1)) = (sA (it_X3_passYears_109 SL x2 z10 j_109) 0 (upd ((it_X3_passYears_109 SL x2 z10 j_109).2 0) ((29 + (nI j_109) : Int32)).toNatClampNeg (f_X5_worthBehind SL (nI j_109) (((it_X3_passYears_109 SL x2 z10 j_109).2 0) ((29 + (nI j_109) : Int32)).toNatClampNeg) x2))) := by
        show bd_X3_passYears_109 SL x2 j_109 (it_X3_passYears_109 SL x2 z10 j_109) = _; unfold bd_X3_passYears_109; first | done | rfl
      refine ww_lsub [1, 2, 3, 0] rfl ?_
      exact ww_castI (fun u9 : St => fl [wX5 cI cZ cQ rL SL, wX3 cI cZ cQ rF u9]) (fun (u9 : St) (i9 : Int32) => ([(0, .ref (rF 0)), (1, .ref (rL 0)), (2, .int x2), (3, .int i9)] : List (Nat × Value))) h11 (ih (j_109 + 1) (by omega) K)
  refine ww_lsub [1, 2, 3, 0] rfl ?_
  refine L109 ((SL.1 4).toNatClampNeg) 0 (by omega) ?_
  generalize hz12 : ((it_X3_passYears_109 SL x2 z10 ((SL.1 4).toNatClampNeg))) = z12
  have h13 : f_X3_passYears SL SF x2 = z12 := by unfold f_X3_passYears; try rw [hz10]; try unfold f_X3_passYears_k1; try rw [hz12]; try unfold f_X3_passYears_k2; first | done | rfl
  exact ww_vret X hr (congrArg (fun u9 : St => fl [wX5 cI cZ cQ rL SL, wX3 cI cZ cQ rF u9]) h13.symm) dX3_passYears_147
