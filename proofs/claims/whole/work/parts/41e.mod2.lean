def f_X8_descends (SM : St) (x1 : Int32) (x2 : Int32) : St :=
  (sA SM 9 (upd (upd (SM.2 9) ((8 + x1 : Int32)).toNatClampNeg (10 + x2)) ((22 + x1 : Int32)).toNatClampNeg 0))
theorem inX8_descends_8 : ∀ w ∈ wsX80, w ∈ wsX8_descends := by decide +kernel
theorem hd_X8_descends : yX8_descends.cls = RX8 ∧ yX8_descends.cls ≠ "java/lang/invoke/MethodHandle" ∧ yX8_descends.cls ≠ "java/lang/invoke/VarHandle" ∧ (parseMethodDescriptor yX8_descends.desc).map (fun d => d.parameters.length) = some 2 := by decide +kernel
set_option maxHeartbeats 4000000 in
set_option maxRecDepth 100000 in
theorem c_X8_descends (l : Launch) (D : va_G) (cI cZ cQ : ClassId) (rM : Nat → Nat) (SM : St) (x1 : Int32) (x2 : Int32) (hp : vp_in x1 7) : Cv l yX8_descends wsX8_descends { frames := 0, cells := 0, slots := 0, locals := 0 } D (tyL cI cZ cQ) [.ref (rM 0), .int x1, .int x2] (fl [wX8 cI cZ cQ rM SM]) (fl [wX8 cI cZ cQ rM (f_X8_descends SM x1 x2)]) := by
  refine cv_of (cc := cX8_descends) (nL := 3) (lv0 := [(0, .ref (rM 0)), (1, .int x1), (2, .int x2)]) (by decide) rfl (Nat.le_of_ble_eq_true rfl) rfl ?_
  intro p e s m args below meth c A X hr
  refine ww_aload_n (pc := 0) X dX8_descends_0 0 rfl rfl ?_
  refine ww_get (pc := 1) (ci := 8) (v := .ref (rM 10)) (C := RX8) (T := TX8) (N := 27) X inX8_descends_8 0 rfl rfl 11 (by decide) (by decide +kernel) rfl dX8_descends_1 ?_
  refine ww_bipush (pc := 4) (v := 8) X dX8_descends_4 (by decide) ?_
  refine ww_iload_n (pc := 6) X dX8_descends_6 1 rfl rfl ?_
  have hb1 := clb (n := 7) hp
  refine ww_iadd (pc := 7) X dX8_descends_7 ?_
  refine ww_bipush (pc := 8) (v := 10) X dX8_descends_8 (by decide) ?_
  refine ww_iload_n (pc := 10) X dX8_descends_10 2 rfl rfl ?_
  refine ww_iadd (pc := 11) X dX8_descends_11 ?_
  refine ww_iast (pc := 12) (f := SM.2 9) (ws' := fl [wX8 cI cZ cQ rM (sA SM 9 (upd (SM.2 9) ((8 + x1 : Int32)).toNatClampNeg (10 + x2)))]) X 10 0 rfl rfl (vn (m := 8 + ((x1 : Int32).toNatClampNeg)) (nat_iadd (a := 8) (b := (x1 : Int32).toNatClampNeg) rfl (cl_of hp)) (by omega) (by decide)) (st8a_9 _ _ _ _ _ _) dX8_descends_12 ?_
  refine ww_aload_n (pc := 13) X dX8_descends_13 0 rfl rfl ?_
  refine ww_get (pc := 14) (ci := 8) (v := .ref (rM 10)) (C := RX8) (T := TX8) (N := 27) X inX8_descends_8 0 rfl rfl 11 (by decide) (by decide +kernel) rfl dX8_descends_14 ?_
  refine ww_bipush (pc := 17) (v := 22) X dX8_descends_17 (by decide) ?_
  refine ww_iload_n (pc := 19) X dX8_descends_19 1 rfl rfl ?_
  refine ww_iadd (pc := 20) X dX8_descends_20 ?_
  refine ww_iconst (pc := 21) (v := 0) X dX8_descends_21 (by decide) ?_
  refine ww_iast (pc := 22) (f := upd (SM.2 9) ((8 + x1 : Int32)).toNatClampNeg (10 + x2)) (ws' := fl [wX8 cI cZ cQ rM (sA SM 9 (upd (upd (SM.2 9) ((8 + x1 : Int32)).toNatClampNeg (10 + x2)) ((22 + x1 : Int32)).toNatClampNeg 0))]) X 10 0 (ga8_9 _ _ _ _ _ sA_eq) rfl (vn (m := 22 + ((x1 : Int32).toNatClampNeg)) (nat_iadd (a := 22) (b := (x1 : Int32).toNatClampNeg) rfl (cl_of hp)) (by omega) (by decide)) (st8b_9 _ _ _ _ _ _ _) dX8_descends_22 ?_
  have h2 : f_X8_descends SM x1 x2 = (sA SM 9 (upd (upd (SM.2 9) ((8 + x1 : Int32)).toNatClampNeg (10 + x2)) ((22 + x1 : Int32)).toNatClampNeg 0)) := by unfold f_X8_descends; first | done | rfl
  exact ww_vret X hr (congrArg (fun u9 : St => fl [wX8 cI cZ cQ rM u9]) h2.symm) dX8_descends_23
def f_X8_ascends (SM : St) (x1 : Int32) : St :=
  (sA SM 9 (upd (upd (SM.2 9) ((8 + x1 : Int32)).toNatClampNeg 0) ((22 + x1 : Int32)).toNatClampNeg 0))
theorem inX8_ascends_8 : ∀ w ∈ wsX80, w ∈ wsX8_ascends := by decide +kernel
theorem hd_X8_ascends : yX8_ascends.cls = RX8 ∧ yX8_ascends.cls ≠ "java/lang/invoke/MethodHandle" ∧ yX8_ascends.cls ≠ "java/lang/invoke/VarHandle" ∧ (parseMethodDescriptor yX8_ascends.desc).map (fun d => d.parameters.length) = some 1 := by decide +kernel
set_option maxHeartbeats 4000000 in
set_option maxRecDepth 100000 in
theorem c_X8_ascends (l : Launch) (D : va_G) (cI cZ cQ : ClassId) (rM : Nat → Nat) (SM : St) (x1 : Int32) (hp : vp_in x1 7) : Cv l yX8_ascends wsX8_ascends { frames := 0, cells := 0, slots := 0, locals := 0 } D (tyL cI cZ cQ) [.ref (rM 0), .int x1] (fl [wX8 cI cZ cQ rM SM]) (fl [wX8 cI cZ cQ rM (f_X8_ascends SM x1)]) := by
  refine cv_of (cc := cX8_ascends) (nL := 2) (lv0 := [(0, .ref (rM 0)), (1, .int x1)]) (by decide) rfl (Nat.le_of_ble_eq_true rfl) rfl ?_
  intro p e s m args below meth c A X hr
  refine ww_aload_n (pc := 0) X dX8_ascends_0 0 rfl rfl ?_
  refine ww_get (pc := 1) (ci := 8) (v := .ref (rM 10)) (C := RX8) (T := TX8) (N := 27) X inX8_ascends_8 0 rfl rfl 11 (by decide) (by decide +kernel) rfl dX8_ascends_1 ?_
  refine ww_bipush (pc := 4) (v := 8) X dX8_ascends_4 (by decide) ?_
  refine ww_iload_n (pc := 6) X dX8_ascends_6 1 rfl rfl ?_
  have hb1 := clb (n := 7) hp
  refine ww_iadd (pc := 7) X dX8_ascends_7 ?_
  refine ww_iconst (pc := 8) (v := 0) X dX8_ascends_8 (by decide) ?_
  refine ww_iast (pc := 9) (f := SM.2 9) (ws' := fl [wX8 cI cZ cQ rM (sA SM 9 (upd (SM.2 9) ((8 + x1 : Int32)).toNatClampNeg 0))]) X 10 0 rfl rfl (vn (m := 8 + ((x1 : Int32).toNatClampNeg)) (nat_iadd (a := 8) (b := (x1 : Int32).toNatClampNeg) rfl (cl_of hp)) (by omega) (by decide)) (st8a_9 _ _ _ _ _ _) dX8_ascends_9 ?_
  refine ww_aload_n (pc := 10) X dX8_ascends_10 0 rfl rfl ?_
  refine ww_get (pc := 11) (ci := 8) (v := .ref (rM 10)) (C := RX8) (T := TX8) (N := 27) X inX8_ascends_8 0 rfl rfl 11 (by decide) (by decide +kernel) rfl dX8_ascends_11 ?_
  refine ww_bipush (pc := 14) (v := 22) X dX8_ascends_14 (by decide) ?_
  refine ww_iload_n (pc := 16) X dX8_ascends_16 1 rfl rfl ?_
  refine ww_iadd (pc := 17) X dX8_ascends_17 ?_
  refine ww_iconst (pc := 18) (v := 0) X dX8_ascends_18 (by decide) ?_
  refine ww_iast (pc := 19) (f := upd (SM.2 9) ((8 + x1 : Int32)).toNatClampNeg 0) (ws' := fl [wX8 cI cZ cQ rM (sA SM 9 (upd (upd (SM.2 9) ((8 + x1 : Int32)).toNatClampNeg 0) ((22 + x1 : Int32)).toNatClampNeg 0))]) X 10 0 (ga8_9 _ _ _ _ _ sA_eq) rfl (vn (m := 22 + ((x1 : Int32).toNatClampNeg)) (nat_iadd (a := 22) (b := (x1 : Int32).toNatClampNeg) rfl (cl_of hp)) (by omega) (by decide)) (st8b_9 _ _ _ _ _ _ _) dX8_ascends_19 ?_
  have h2 : f_X8_ascends SM x1 = (sA SM 9 (upd (upd (SM.2 9) ((8 + x1 : Int32)).toNatClampNeg 0) ((22 + x1 : Int32)).toNatClampNeg 0)) := by unfold f_X8_ascends; first | done | rfl
  exact ww_vret X hr (congrArg (fun u9 : St => fl [wX8 cI cZ cQ rM u9]) h2.symm) dX8_ascends_20
def f_X8_draw (SM : St) (x1 : Int32) : Int32 × St :=
  ((((((((((SM.1 3 : Int32)).toInt64) * 1103515245) + 12345) &&& 2147483647 : Int64)).toInt32) / 65536) - (((((((((SM.1 3 : Int32)).toInt64) * 1103515245) + 12345) &&& 2147483647 : Int64)).toInt32) / 65536) / x1 * x1, (sI SM 3 ((((((((SM.1 3 : Int32)).toInt64) * 1103515245) + 12345) &&& 2147483647 : Int64)).toInt32)))
theorem sd_nn (x : Int64) : ∃ k : Nat, k < 2 ^ 31 ∧ (x &&& 2147483647).toInt32 = nI k := by
  obtain ⟨n, -, rfl⟩ := wb_of x
  refine ⟨n % 2 ^ 31, Nat.mod_lt _ (by decide), ?_⟩
  rw [show (2147483647 : Int64) = lN (2 ^ 31 - 1) from rfl, fb_maskL, lN_i]
theorem dr_in {S : St} {n : Int32} {z : Int32 × St} (hz : f_X8_draw S n = z) (h1 : ¬ n ≤ 0) (h2 : n ≤ 7) : vp_in z.1 7 := by
  subst hz
  have h3 : ¬ n < 0 := fun h => h1 (by rw [Int32.le_iff_toInt_le]; rw [Int32.lt_iff_toInt_lt] at h; exact Int.le_of_lt h)
  obtain ⟨j, hj, rfl⟩ := nI_of h3
  have h4 : j ≤ 7 := (nI_leI hj (by decide)).mp h2
  have h5 : 0 < j := Nat.pos_of_ne_zero (fun e => h1 (by rw [e]; decide))
  obtain ⟨k, hk, e⟩ := sd_nn (((S.1 3 : Int32)).toInt64 * 1103515245 + 12345)
  unfold f_X8_draw
  simp only [e]
  rw [show (65536 : Int32) = nI 65536 from rfl, pk_div hk (by decide) (by decide), pk_rem (by omega) h5 hj]
  exact vp_mono (vp_in_nI (Nat.mod_lt _ h5) hj) h4
theorem dr_n {S : St} {n : Int32} {z : Int32 × St} (hz : f_X8_draw S n = z) (ok : okM S) : ¬ (((z.2.2 1) ((2 : Int32)).toNatClampNeg) + 2) = 0 := by
  subst hz
  show ¬ ((S.2 1) ((2 : Int32)).toNatClampNeg + 2) = 0
  obtain ⟨j, hj, e⟩ := nI_of ok.1.1
  have h4 : j ≤ 4 := (nI_leI hj (by decide)).mp (by rw [← e]; exact ok.1.2)
  rw [e, show (2 : Int32) = nI 2 from rfl, nI_add]
  exact nI_ne0 (by omega) (by omega)
theorem inX8_draw_8 : ∀ w ∈ wsX80, w ∈ wsX8_draw := by decide +kernel
theorem hd_X8_draw : yX8_draw.cls = RX8 ∧ yX8_draw.cls ≠ "java/lang/invoke/MethodHandle" ∧ yX8_draw.cls ≠ "java/lang/invoke/VarHandle" ∧ (parseMethodDescriptor yX8_draw.desc).map (fun d => d.parameters.length) = some 1 := by decide +kernel
set_option maxHeartbeats 4000000 in
set_option maxRecDepth 100000 in
theorem c_X8_draw (l : Launch) (D : va_G) (cI cZ cQ : ClassId) (rM : Nat → Nat) (SM : St) (x1 : Int32) (hn : ¬ x1 = 0) : Ci l yX8_draw wsX8_draw { frames := 0, cells := 0, slots := 0, locals := 0 } D (tyL cI cZ cQ) [.ref (rM 0), .int x1] (fl [wX8 cI cZ cQ rM SM]) ((f_X8_draw SM x1).1) (fl [wX8 cI cZ cQ rM ((f_X8_draw SM x1).2)]) := by
  refine ci_of (cc := cX8_draw) (nL := 2) (ty := .int) (lv0 := [(0, .ref (rM 0)), (1, .int x1)]) (by decide) rfl (Nat.le_of_ble_eq_true rfl) rfl ?_
  intro p e s m args below meth c A X hr
  refine ww_aload_n (pc := 0) X dX8_draw_0 0 rfl rfl ?_
  refine ww_aload_n (pc := 1) X dX8_draw_1 0 rfl rfl ?_
  refine ww_get (pc := 2) (ci := 8) (v := .int (SM.1 3)) (C := RX8) (T := TX8) (N := 27) X inX8_draw_8 0 rfl rfl 17 (by decide) (by decide +kernel) rfl dX8_draw_2 ?_
  refine ww_i2l (pc := 5) X dX8_draw_5 rfl ?_
  refine ww_ldc2 (pc := 6) (v := 1103515245) X (by decide +kernel) dX8_draw_6 ?_
  refine ww_lmul (pc := 9) X dX8_draw_9 ?_
  refine ww_ldc2 (pc := 10) (v := 12345) X (by decide +kernel) dX8_draw_10 ?_
  refine ww_ladd (pc := 13) X dX8_draw_13 ?_
  refine ww_ldc2 (pc := 14) (v := 2147483647) X (by decide +kernel) dX8_draw_14 ?_
  refine ww_land (pc := 17) X dX8_draw_17 ?_
  refine ww_l2i (pc := 18) X dX8_draw_18 rfl ?_
  refine ww_put (pc := 19) (ci := 8) (v := .int ((((((((SM.1 3 : Int32)).toInt64) * 1103515245) + 12345) &&& 2147483647 : Int64)).toInt32)) (C := RX8) (T := TX8) (N := 27) (ws' := fl [wX8 cI cZ cQ rM (sI SM 3 ((((((((SM.1 3 : Int32)).toInt64) * 1103515245) + 12345) &&& 2147483647 : Int64)).toInt32))]) X inX8_draw_8 tyX8 tyX8_ok nmX8 0 rfl rfl 17 (by decide) (by decide +kernel) rfl rfl rfl (Nat.le_of_ble_eq_true rfl) (pt8a_3 _ _ _ _ _ _) dX8_draw_19 ?_
  refine ww_aload_n (pc := 22) X dX8_draw_22 0 rfl rfl ?_
  refine ww_get (pc := 23) (ci := 8) (v := .int ((((((((SM.1 3 : Int32)).toInt64) * 1103515245) + 12345) &&& 2147483647 : Int64)).toInt32)) (C := RX8) (T := TX8) (N := 27) X inX8_draw_8 0 rfl rfl 17 (by decide) (by decide +kernel) (gv sI_eq) dX8_draw_23 ?_
  refine ww_ldc (pc := 26) (v := 65536) X (by decide +kernel) dX8_draw_26 ?_
  refine ww_idiv (pc := 28) X dX8_draw_28 (by decide) ?_
  refine ww_iload_n (pc := 29) X dX8_draw_29 1 rfl rfl ?_
  refine ww_irem (pc := 30) X dX8_draw_30 (by assumption) ?_
  have h1 : f_X8_draw SM x1 = ((((((((((SM.1 3 : Int32)).toInt64) * 1103515245) + 12345) &&& 2147483647 : Int64)).toInt32) / 65536) - (((((((((SM.1 3 : Int32)).toInt64) * 1103515245) + 12345) &&& 2147483647 : Int64)).toInt32) / 65536) / x1 * x1, (sI SM 3 ((((((((SM.1 3 : Int32)).toInt64) * 1103515245) + 12345) &&& 2147483647 : Int64)).toInt32))) := by unfold f_X8_draw; first | done | rfl
  exact ww_iret X hr rfl (congrArg (fun u9 : Int32 × St => u9.1) h1).symm (congrArg (fun u9 : Int32 × St => fl [wX8 cI cZ cQ rM u9.2]) h1.symm) dX8_draw_31
