/-- what the constructors need of the tables -/
def Zc (cI cZ cQ : ClassId) (_ : Nat → Prop) (U : State) (_ : Heap) : Prop := (U.vm.findClass "[I" = some cI ∧ U.vm.findClass "[Z" = some cZ ∧ U.vm.findClass "[[I" = some cQ) ∧ (Cond.arrayOver (.array .int)).before #[] U = true ∧ va_Nw (.methodLinkNest RX7 9 yX6_init RX7) U ∧ va_Nw (.methodLinkNest RX7 18 yX5_init RX7) U ∧ va_Nw (.methodLinkNest RX7 28 yX3_init RX7) U ∧ va_Nw (.methodLinkNest RX7 35 yX4_init RX7) U ∧ va_Nw (.methodLinkNest RX7 42 yX2_init RX7) U ∧ va_Nw (.methodLinkNest RX7 49 yX1_init RX7) U ∧ va_Nw (.methodLinkNest RX7 56 yX0_init RX7) U
theorem Zc_ok (cI cZ cQ : ClassId) : ZOK (Zc cI cZ cQ) := by
  refine ⟨fun A u U H hW h => ?_, fun A u U H hv h => ?_, fun A U H H1 h _ => h, fun A B U H h _ => h⟩
  · obtain ⟨⟨a, b, c⟩, d, n1, n2, n3, n4, n5, n6, n7⟩ := h
    have hv := hW.alike
    exact ⟨⟨(hv.findClass _ _).trans a, (hv.findClass _ _).trans b, (hv.findClass _ _).trans c⟩, over_moved hv d, n1.warmM hW, n2.warmM hW, n3.warmM hW, n4.warmM hW, n5.warmM hW, n6.warmM hW, n7.warmM hW⟩
  · obtain ⟨⟨a, b, c⟩, d, n1, n2, n3, n4, n5, n6, n7⟩ := h
    have hl : u.vm.Alike U.vm := by rw [hv]; exact Vm.Alike.refl u.vm
    exact ⟨⟨(hl.findClass _ _).trans a, (hl.findClass _ _).trans b, (hl.findClass _ _).trans c⟩, over_moved hl d, va_Nw.same rfl hv.symm n1, va_Nw.same rfl hv.symm n2, va_Nw.same rfl hv.symm n3, va_Nw.same rfl hv.symm n4, va_Nw.same rfl hv.symm n5, va_Nw.same rfl hv.symm n6, va_Nw.same rfl hv.symm n7⟩
theorem Zc_o {cI cZ cQ : ClassId} {A : Nat → Prop} {U : State} {H : Heap} {args : Array Value} (h : Zc cI cZ cQ A U H) : (Cond.arrayOver (.array .int)).before args U = true := over_moved (Vm.Alike.refl _) h.2.1
/-- all ints 0 -/
def S00 : St := (fun _ => 0, fun _ _ => 0)
def S06 : St := (fun k => if k = 3 then -1 else 0, fun _ _ => 0)
def S08 : St := (fun k => if k = 1 then -1 else 0, fun _ _ => 0)
theorem ww_vretw {p : Program} {l : Launch} {e : Env} {R : Room} {s : State} {m : MethodId} {args : Array Value} {below : List Frame} {meth : Method} {c : Code} {D : va_G} {A : Nat → Prop} {tys : List (ClassId × FieldType)} {nL k9 n9 : Nat} {cc : ByteArray} {own : String} {Ts : List Cond} {ws : va_W} {lv : List (Nat × Value)} {pc : Nat} {S : Type} {ph : S → Prop} {w1 : S → va_W} (X : CX p s m args meth c cc own Ts nL D tys A) (hr : meth.sig.returnType = none) (r : S) (hph : ph r) (hw : ws = w1 r) (hdg : decode cc pc = .ok (.return_, 1)) : WW p l e R s m args below meth c nL D A k9 n9 (RQn below args s D A ph w1 k9 n9) ws lv pc [] :=
  fun H locs ls hP hD hS hl => W.vret X.1 X.2.1 hr (fun t ht hW => ⟨⟨r, rfl, hph, by rw [ht, ← hw]; exact hP, by rw [← hw]; exact hD⟩, hS.F ht⟩) hS.2.2 hdg X.2.2.2.2.2.2.2
theorem inX0_init : ∀ w ∈ wsX00, w ∈ wsX0_init := by decide +kernel
set_option maxHeartbeats 4000000 in
set_option maxRecDepth 100000 in
theorem c_X0_init (l : Launch) (D : va_G) (cI cZ cQ : ClassId) (h0 : Nat) : CnZ (Zc cI cZ cQ) l yX0_init wsX0_init { frames := 1, cells := 2, slots := 30, locals := 12 } D (tyL cI cZ cQ) h0 [(h0, .inr (0, [.null, .null, .int 0]))] (fun r : Nat → Nat => r 0 = h0) (fun r => wX0 cI cZ cQ r S00) 2 30 := by
  refine cnz_of (cc := cX0_init) (nL := 1) (by decide) rfl rfl (Nat.le_of_ble_eq_true rfl) ?_
  intro p e s m args below meth c A X hr hin hZ
  refine ww_aload_n (pc := 0) X dX0_init_0 0 rfl rfl ?_
  refine ww_objInit (pc := 1) X (by decide +kernel) (by decide +kernel) (List.mem_cons_of_mem _ (List.mem_of_getElem? (i := 2) rfl)) (Nat.le_of_ble_eq_true rfl) (fun _ => Nat.le_of_ble_eq_true rfl) dX0_init_1 ?_
  refine ww_aload_n (pc := 4) X dX0_init_4 0 rfl rfl ?_
  refine ww_bipush (pc := 5) (v := 15) X dX0_init_5 (by decide) ?_
  refine ww_newa (pc := 7) (ty := .int) (cA := cI) (N' := 15) (a0 := (15, .inl (fun _ => 0))) X (by decide +kernel) rfl hZ.1.1 (fun _ => rfl) (by decide) rfl (by decide) (Nat.le_of_ble_eq_true rfl) (Nat.le_of_ble_eq_true rfl) dX0_init_7 (fun q1 => ?_)
  refine ww_putF (pc := 9) (ci := 0) (v := .ref q1) (C := RX0) (T := TX0) (N := 3) (ws' := [(h0, .inr (0, [.ref q1, .null, .int 0])), (q1, .inl (cI, 15, .inl (fun _ => 0)))]) X inX0_init tyX0 tyX0_ok nmX0 0 rfl rfl 0 (by decide) (by decide +kernel) rfl hin rfl rfl rfl (Nat.le_of_ble_eq_true rfl) rfl dX0_init_9 ?_
  refine ww_aload_n (pc := 12) X dX0_init_12 0 rfl rfl ?_
  refine ww_bipush (pc := 13) (v := 15) X dX0_init_13 (by decide) ?_
  refine ww_newa (pc := 15) (ty := .int) (cA := cI) (N' := 15) (a0 := (15, .inl (fun _ => 0))) X (by decide +kernel) rfl hZ.1.1 (fun _ => rfl) (by decide) rfl (by decide) (Nat.le_of_ble_eq_true rfl) (Nat.le_of_ble_eq_true rfl) dX0_init_15 (fun q2 => ?_)
  refine ww_putF (pc := 17) (ci := 0) (v := .ref q2) (C := RX0) (T := TX0) (N := 3) (ws' := [(h0, .inr (0, [.ref q1, .ref q2, .int 0])), (q1, .inl (cI, 15, .inl (fun _ => 0))), (q2, .inl (cI, 15, .inl (fun _ => 0)))]) X inX0_init tyX0 tyX0_ok nmX0 0 rfl rfl 1 (by decide) (by decide +kernel) rfl hin rfl rfl rfl (Nat.le_of_ble_eq_true rfl) rfl dX0_init_17 ?_
  obtain ⟨r, e0, e1, e2⟩ : ∃ r : Nat → Nat, r 0 = h0 ∧ r 1 = q1 ∧ r 2 = q2 := ⟨fun k => [h0, q1, q2].getD k 0, rfl, rfl, rfl⟩
  subst e0
  subst e1
  subst e2
  exact ww_vretn X hr r rfl [0, 1, 2] rfl (by decide) rfl dX0_init_20
theorem inX1_init : ∀ w ∈ wsX10, w ∈ wsX1_init := by decide +kernel
set_option maxHeartbeats 4000000 in
set_option maxRecDepth 100000 in
theorem c_X1_init (l : Launch) (D : va_G) (cI cZ cQ : ClassId) (h0 : Nat) : CnZ (Zc cI cZ cQ) l yX1_init wsX1_init { frames := 1, cells := 11, slots := 892, locals := 12 } D (tyL cI cZ cQ) h0 [(h0, .inr (1, [.null, .null, .null, .int 0, .null, .int 0, .null, .int 0, .int 0]))] (fun r : Nat → Nat => r 0 = h0) (fun r => wX1 cI cZ cQ r S00) 11 892 := by
  refine cnz_of (cc := cX1_init) (nL := 1) (by decide) rfl rfl (Nat.le_of_ble_eq_true rfl) ?_
  intro p e s m args below meth c A X hr hin hZ
  refine ww_aload_n (pc := 0) X dX1_init_0 0 rfl rfl ?_
  refine ww_objInit (pc := 1) X (by decide +kernel) (by decide +kernel) (List.mem_cons_of_mem _ (List.mem_of_getElem? (i := 2) rfl)) (Nat.le_of_ble_eq_true rfl) (fun _ => Nat.le_of_ble_eq_true rfl) dX1_init_1 ?_
  refine ww_aload_n (pc := 4) X dX1_init_4 0 rfl rfl ?_
  refine ww_bipush (pc := 5) (v := 6) X dX1_init_5 (by decide) ?_
  refine ww_newa (pc := 7) (ty := .int) (cA := cI) (N' := 6) (a0 := (6, .inl (fun _ => 0))) X (by decide +kernel) rfl hZ.1.1 (fun _ => rfl) (by decide) rfl (by decide) (Nat.le_of_ble_eq_true rfl) (Nat.le_of_ble_eq_true rfl) dX1_init_7 (fun q1 => ?_)
  refine ww_putF (pc := 9) (ci := 1) (v := .ref q1) (C := RX1) (T := TX1) (N := 9) (ws' := [(h0, .inr (1, [.ref q1, .null, .null, .int 0, .null, .int 0, .null, .int 0, .int 0])), (q1, .inl (cI, 6, .inl (fun _ => 0)))]) X inX1_init tyX1 tyX1_ok nmX1 0 rfl rfl 0 (by decide) (by decide +kernel) rfl hin rfl rfl rfl (Nat.le_of_ble_eq_true rfl) rfl dX1_init_9 ?_
  refine ww_aload_n (pc := 12) X dX1_init_12 0 rfl rfl ?_
  refine ww_bipush (pc := 13) (v := 6) X dX1_init_13 (by decide) ?_
  refine ww_newa (pc := 15) (ty := .int) (cA := cI) (N' := 6) (a0 := (6, .inl (fun _ => 0))) X (by decide +kernel) rfl hZ.1.1 (fun _ => rfl) (by decide) rfl (by decide) (Nat.le_of_ble_eq_true rfl) (Nat.le_of_ble_eq_true rfl) dX1_init_15 (fun q2 => ?_)
  refine ww_putF (pc := 17) (ci := 1) (v := .ref q2) (C := RX1) (T := TX1) (N := 9) (ws' := [(h0, .inr (1, [.ref q1, .ref q2, .null, .int 0, .null, .int 0, .null, .int 0, .int 0])), (q1, .inl (cI, 6, .inl (fun _ => 0))), (q2, .inl (cI, 6, .inl (fun _ => 0)))]) X inX1_init tyX1 tyX1_ok nmX1 0 rfl rfl 1 (by decide) (by decide +kernel) rfl hin rfl rfl rfl (Nat.le_of_ble_eq_true rfl) rfl dX1_init_17 ?_
  refine ww_aload_n (pc := 20) X dX1_init_20 0 rfl rfl ?_
  refine ww_bipush (pc := 21) (v := 6) X dX1_init_21 (by decide) ?_
  refine ww_newa (pc := 23) (ty := .int) (cA := cI) (N' := 6) (a0 := (6, .inl (fun _ => 0))) X (by decide +kernel) rfl hZ.1.1 (fun _ => rfl) (by decide) rfl (by decide) (Nat.le_of_ble_eq_true rfl) (Nat.le_of_ble_eq_true rfl) dX1_init_23 (fun q3 => ?_)
  refine ww_putF (pc := 25) (ci := 1) (v := .ref q3) (C := RX1) (T := TX1) (N := 9) (ws' := [(h0, .inr (1, [.ref q1, .ref q2, .ref q3, .int 0, .null, .int 0, .null, .int 0, .int 0])), (q1, .inl (cI, 6, .inl (fun _ => 0))), (q2, .inl (cI, 6, .inl (fun _ => 0))), (q3, .inl (cI, 6, .inl (fun _ => 0)))]) X inX1_init tyX1 tyX1_ok nmX1 0 rfl rfl 2 (by decide) (by decide +kernel) rfl hin rfl rfl rfl (Nat.le_of_ble_eq_true rfl) rfl dX1_init_25 ?_
  refine ww_aload_n (pc := 28) X dX1_init_28 0 rfl rfl ?_
  refine ww_bipush (pc := 29) (v := 6) X dX1_init_29 (by decide) ?_
  refine ww_bipush (pc := 31) (v := 124) X dX1_init_31 (by decide) ?_
  refine ww_mna (pc := 33) (cI := cI) (cQ := cQ) (N' := 6) (K' := 124) X (by decide +kernel) (Zc_o hZ) (by decide +kernel) hZ.1.1 hZ.1.2.2 (by decide) (by decide) rfl rfl (by decide) (by decide) (by decide) (Nat.le_of_ble_eq_true rfl) (Nat.le_of_ble_eq_true rfl) dX1_init_33 (fun q4 rr => ?_)
  refine ww_putF (pc := 37) (ci := 1) (v := .ref q4) (C := RX1) (T := TX1) (N := 9) (ws' := [(h0, .inr (1, [.ref q1, .ref q2, .ref q3, .int 0, .ref q4, .int 0, .null, .int 0, .int 0])), (q1, .inl (cI, 6, .inl (fun _ => 0))), (q2, .inl (cI, 6, .inl (fun _ => 0))), (q3, .inl (cI, 6, .inl (fun _ => 0))), (q4, .inl (cQ, 6, .inr (.inr (.inr (.inr (fun i => if i < 6 then some (rr i) else none)))))), (rr 0, .inl (cI, 124, .inl (fun _ => 0))), (rr 1, .inl (cI, 124, .inl (fun _ => 0))), (rr 2, .inl (cI, 124, .inl (fun _ => 0))), (rr 3, .inl (cI, 124, .inl (fun _ => 0))), (rr 4, .inl (cI, 124, .inl (fun _ => 0))), (rr 5, .inl (cI, 124, .inl (fun _ => 0)))]) X inX1_init tyX1 tyX1_ok nmX1 0 rfl rfl 4 (by decide) (by decide +kernel) rfl hin rfl rfl rfl (Nat.le_of_ble_eq_true rfl) rfl dX1_init_37 ?_
  refine ww_aload_n (pc := 40) X dX1_init_40 0 rfl rfl ?_
  refine ww_bipush (pc := 41) (v := 124) X dX1_init_41 (by decide) ?_
  refine ww_newa (pc := 43) (ty := .int) (cA := cI) (N' := 124) (a0 := (124, .inl (fun _ => 0))) X (by decide +kernel) rfl hZ.1.1 (fun _ => rfl) (by decide) rfl (by decide) (Nat.le_of_ble_eq_true rfl) (Nat.le_of_ble_eq_true rfl) dX1_init_43 (fun q5 => ?_)
  refine ww_putF (pc := 45) (ci := 1) (v := .ref q5) (C := RX1) (T := TX1) (N := 9) (ws' := [(h0, .inr (1, [.ref q1, .ref q2, .ref q3, .int 0, .ref q4, .int 0, .ref q5, .int 0, .int 0])), (q1, .inl (cI, 6, .inl (fun _ => 0))), (q2, .inl (cI, 6, .inl (fun _ => 0))), (q3, .inl (cI, 6, .inl (fun _ => 0))), (q4, .inl (cQ, 6, .inr (.inr (.inr (.inr (fun i => if i < 6 then some (rr i) else none)))))), (rr 0, .inl (cI, 124, .inl (fun _ => 0))), (rr 1, .inl (cI, 124, .inl (fun _ => 0))), (rr 2, .inl (cI, 124, .inl (fun _ => 0))), (rr 3, .inl (cI, 124, .inl (fun _ => 0))), (rr 4, .inl (cI, 124, .inl (fun _ => 0))), (rr 5, .inl (cI, 124, .inl (fun _ => 0))), (q5, .inl (cI, 124, .inl (fun _ => 0)))]) X inX1_init tyX1 tyX1_ok nmX1 0 rfl rfl 6 (by decide) (by decide +kernel) rfl hin rfl rfl rfl (Nat.le_of_ble_eq_true rfl) rfl dX1_init_45 ?_
  obtain ⟨r, e0, e1, e2, e3, e4, e5, er⟩ : ∃ r : Nat → Nat, r 0 = h0 ∧ r 1 = q1 ∧ r 2 = q2 ∧ r 3 = q3 ∧ r 4 = q4 ∧ r 5 = q5 ∧ ∀ i : Nat, rr i = r (6 + i) := ⟨fun k => if k < 6 then [h0, q1, q2, q3, q4, q5].getD k 0 else rr (k - 6), rfl, rfl, rfl, rfl, rfl, rfl, fun i => by show rr i = if 6 + i < 6 then _ else rr (6 + i - 6); rw [if_neg (by omega), show 6 + i - 6 = i by omega]⟩
  subst e0
  subst e1
  subst e2
  subst e3
  subst e4
  subst e5
  obtain rfl : rr = fun i => r (6 + i) := funext er
  exact ww_vretn X hr r rfl [0, 1, 2, 3, 4, 11, 5, 6, 7, 8, 9, 10] rfl (by decide) rfl dX1_init_48
theorem inX2_init : ∀ w ∈ wsX20, w ∈ wsX2_init := by decide +kernel
set_option maxHeartbeats 4000000 in
set_option maxRecDepth 100000 in
theorem c_X2_init (l : Launch) (D : va_G) (cI cZ cQ : ClassId) (h0 : Nat) : CnZ (Zc cI cZ cQ) l yX2_init wsX2_init { frames := 1, cells := 5, slots := 76, locals := 12 } D (tyL cI cZ cQ) h0 [(h0, .inr (2, [.null, .null, .null]))] (fun r : Nat → Nat => r 0 = h0) (fun r => wX2 cI cZ cQ r S00) 5 76 := by
  refine cnz_of (cc := cX2_init) (nL := 1) (by decide) rfl rfl (Nat.le_of_ble_eq_true rfl) ?_
  intro p e s m args below meth c A X hr hin hZ
  refine ww_aload_n (pc := 0) X dX2_init_0 0 rfl rfl ?_
  refine ww_objInit (pc := 1) X (by decide +kernel) (by decide +kernel) (List.mem_cons_of_mem _ (List.mem_of_getElem? (i := 2) rfl)) (Nat.le_of_ble_eq_true rfl) (fun _ => Nat.le_of_ble_eq_true rfl) dX2_init_1 ?_
  refine ww_aload_n (pc := 4) X dX2_init_4 0 rfl rfl ?_
  refine ww_iconst (pc := 5) (v := 2) X dX2_init_5 (by decide) ?_
  refine ww_bipush (pc := 6) (v := 35) X dX2_init_6 (by decide) ?_
  refine ww_mna (pc := 8) (cI := cI) (cQ := cQ) (N' := 2) (K' := 35) X (by decide +kernel) (Zc_o hZ) (by decide +kernel) hZ.1.1 hZ.1.2.2 (by decide) (by decide) rfl rfl (by decide) (by decide) (by decide) (Nat.le_of_ble_eq_true rfl) (Nat.le_of_ble_eq_true rfl) dX2_init_8 (fun q1 rr => ?_)
  refine ww_putF (pc := 12) (ci := 2) (v := .ref q1) (C := RX2) (T := TX2) (N := 3) (ws' := [(h0, .inr (2, [.ref q1, .null, .null])), (q1, .inl (cQ, 2, .inr (.inr (.inr (.inr (fun i => if i < 2 then some (rr i) else none)))))), (rr 0, .inl (cI, 35, .inl (fun _ => 0))), (rr 1, .inl (cI, 35, .inl (fun _ => 0)))]) X inX2_init tyX2 tyX2_ok nmX2 0 rfl rfl 0 (by decide) (by decide +kernel) rfl hin rfl rfl rfl (Nat.le_of_ble_eq_true rfl) rfl dX2_init_12 ?_
  refine ww_aload_n (pc := 15) X dX2_init_15 0 rfl rfl ?_
  refine ww_iconst (pc := 16) (v := 2) X dX2_init_16 (by decide) ?_
  refine ww_newa (pc := 17) (ty := .int) (cA := cI) (N' := 2) (a0 := (2, .inl (fun _ => 0))) X (by decide +kernel) rfl hZ.1.1 (fun _ => rfl) (by decide) rfl (by decide) (Nat.le_of_ble_eq_true rfl) (Nat.le_of_ble_eq_true rfl) dX2_init_17 (fun q2 => ?_)
  refine ww_putF (pc := 19) (ci := 2) (v := .ref q2) (C := RX2) (T := TX2) (N := 3) (ws' := [(h0, .inr (2, [.ref q1, .ref q2, .null])), (q1, .inl (cQ, 2, .inr (.inr (.inr (.inr (fun i => if i < 2 then some (rr i) else none)))))), (rr 0, .inl (cI, 35, .inl (fun _ => 0))), (rr 1, .inl (cI, 35, .inl (fun _ => 0))), (q2, .inl (cI, 2, .inl (fun _ => 0)))]) X inX2_init tyX2 tyX2_ok nmX2 0 rfl rfl 1 (by decide) (by decide +kernel) rfl hin rfl rfl rfl (Nat.le_of_ble_eq_true rfl) rfl dX2_init_19 ?_
  refine ww_aload_n (pc := 22) X dX2_init_22 0 rfl rfl ?_
  refine ww_iconst (pc := 23) (v := 2) X dX2_init_23 (by decide) ?_
  refine ww_newa (pc := 24) (ty := .boolean) (cA := cZ) (N' := 2) (a0 := (2, .inl (fun _ => 0))) X (by decide +kernel) rfl hZ.1.2.1 (fun _ => rfl) (by decide) rfl (by decide) (Nat.le_of_ble_eq_true rfl) (Nat.le_of_ble_eq_true rfl) dX2_init_24 (fun q3 => ?_)
  refine ww_putF (pc := 26) (ci := 2) (v := .ref q3) (C := RX2) (T := TX2) (N := 3) (ws' := [(h0, .inr (2, [.ref q1, .ref q2, .ref q3])), (q1, .inl (cQ, 2, .inr (.inr (.inr (.inr (fun i => if i < 2 then some (rr i) else none)))))), (rr 0, .inl (cI, 35, .inl (fun _ => 0))), (rr 1, .inl (cI, 35, .inl (fun _ => 0))), (q2, .inl (cI, 2, .inl (fun _ => 0))), (q3, .inl (cZ, 2, .inl (fun _ => 0)))]) X inX2_init tyX2 tyX2_ok nmX2 0 rfl rfl 2 (by decide) (by decide +kernel) rfl hin rfl rfl rfl (Nat.le_of_ble_eq_true rfl) rfl dX2_init_26 ?_
  obtain ⟨r, e0, e1, e2, e3, er⟩ : ∃ r : Nat → Nat, r 0 = h0 ∧ r 1 = q1 ∧ r 2 = q2 ∧ r 3 = q3 ∧ ∀ i : Nat, rr i = r (4 + i) := ⟨fun k => if k < 4 then [h0, q1, q2, q3].getD k 0 else rr (k - 4), rfl, rfl, rfl, rfl, fun i => by show rr i = if 4 + i < 4 then _ else rr (4 + i - 4); rw [if_neg (by omega), show 4 + i - 4 = i by omega]⟩
  subst e0
  subst e1
  subst e2
  subst e3
  obtain rfl : rr = fun i => r (4 + i) := funext er
  exact ww_vretn X hr r rfl [0, 1, 4, 5, 2, 3] rfl (by decide) rfl dX2_init_29
theorem inX3_init : ∀ w ∈ wsX30, w ∈ wsX3_init := by decide +kernel
set_option maxHeartbeats 4000000 in
set_option maxRecDepth 100000 in
theorem c_X3_init (l : Launch) (D : va_G) (cI cZ cQ : ClassId) (h0 : Nat) : CnZ (Zc cI cZ cQ) l yX3_init wsX3_init { frames := 1, cells := 1, slots := 35, locals := 12 } D (tyL cI cZ cQ) h0 [(h0, .inr (3, [.null]))] (fun r : Nat → Nat => r 0 = h0) (fun r => wX3 cI cZ cQ r S00) 1 35 := by
  refine cnz_of (cc := cX3_init) (nL := 1) (by decide) rfl rfl (Nat.le_of_ble_eq_true rfl) ?_
  intro p e s m args below meth c A X hr hin hZ
  refine ww_aload_n (pc := 0) X dX3_init_0 0 rfl rfl ?_
  refine ww_objInit (pc := 1) X (by decide +kernel) (by decide +kernel) (List.mem_cons_of_mem _ (List.mem_of_getElem? (i := 2) rfl)) (Nat.le_of_ble_eq_true rfl) (fun _ => Nat.le_of_ble_eq_true rfl) dX3_init_1 ?_
  refine ww_aload_n (pc := 4) X dX3_init_4 0 rfl rfl ?_
  refine ww_bipush (pc := 5) (v := 35) X dX3_init_5 (by decide) ?_
  refine ww_newa (pc := 7) (ty := .int) (cA := cI) (N' := 35) (a0 := (35, .inl (fun _ => 0))) X (by decide +kernel) rfl hZ.1.1 (fun _ => rfl) (by decide) rfl (by decide) (Nat.le_of_ble_eq_true rfl) (Nat.le_of_ble_eq_true rfl) dX3_init_7 (fun q1 => ?_)
  refine ww_putF (pc := 9) (ci := 3) (v := .ref q1) (C := RX3) (T := TX3) (N := 1) (ws' := [(h0, .inr (3, [.ref q1])), (q1, .inl (cI, 35, .inl (fun _ => 0)))]) X inX3_init tyX3 tyX3_ok nmX3 0 rfl rfl 0 (by decide) (by decide +kernel) rfl hin rfl rfl rfl (Nat.le_of_ble_eq_true rfl) rfl dX3_init_9 ?_
  obtain ⟨r, e0, e1⟩ : ∃ r : Nat → Nat, r 0 = h0 ∧ r 1 = q1 := ⟨fun k => [h0, q1].getD k 0, rfl, rfl⟩
  subst e0
  subst e1
  exact ww_vretn X hr r rfl [0, 1] rfl (by decide) rfl dX3_init_12
theorem inX4_init : ∀ w ∈ wsX40, w ∈ wsX4_init := by decide +kernel
set_option maxHeartbeats 4000000 in
set_option maxRecDepth 100000 in
theorem c_X4_init (l : Launch) (D : va_G) (cI cZ cQ : ClassId) (h0 : Nat) : CnZ (Zc cI cZ cQ) l yX4_init wsX4_init { frames := 1, cells := 21, slots := 720, locals := 12 } D (tyL cI cZ cQ) h0 [(h0, .inr (4, [.null, .int 0, .int 0]))] (fun r : Nat → Nat => r 0 = h0) (fun r => wX4 cI cZ cQ r S00) 21 720 := by
  refine cnz_of (cc := cX4_init) (nL := 1) (by decide) rfl rfl (Nat.le_of_ble_eq_true rfl) ?_
  intro p e s m args below meth c A X hr hin hZ
  refine ww_aload_n (pc := 0) X dX4_init_0 0 rfl rfl ?_
  refine ww_objInit (pc := 1) X (by decide +kernel) (by decide +kernel) (List.mem_cons_of_mem _ (List.mem_of_getElem? (i := 2) rfl)) (Nat.le_of_ble_eq_true rfl) (fun _ => Nat.le_of_ble_eq_true rfl) dX4_init_1 ?_
  refine ww_aload_n (pc := 4) X dX4_init_4 0 rfl rfl ?_
  refine ww_bipush (pc := 5) (v := 20) X dX4_init_5 (by decide) ?_
  refine ww_bipush (pc := 7) (v := 35) X dX4_init_7 (by decide) ?_
  refine ww_mna (pc := 9) (cI := cI) (cQ := cQ) (N' := 20) (K' := 35) X (by decide +kernel) (Zc_o hZ) (by decide +kernel) hZ.1.1 hZ.1.2.2 (by decide) (by decide) rfl rfl (by decide) (by decide) (by decide) (Nat.le_of_ble_eq_true rfl) (Nat.le_of_ble_eq_true rfl) dX4_init_9 (fun q1 rr => ?_)
  refine ww_putF (pc := 13) (ci := 4) (v := .ref q1) (C := RX4) (T := TX4) (N := 3) (ws' := [(h0, .inr (4, [.ref q1, .int 0, .int 0])), (q1, .inl (cQ, 20, .inr (.inr (.inr (.inr (fun i => if i < 20 then some (rr i) else none)))))), (rr 0, .inl (cI, 35, .inl (fun _ => 0))), (rr 1, .inl (cI, 35, .inl (fun _ => 0))), (rr 2, .inl (cI, 35, .inl (fun _ => 0))), (rr 3, .inl (cI, 35, .inl (fun _ => 0))), (rr 4, .inl (cI, 35, .inl (fun _ => 0))), (rr 5, .inl (cI, 35, .inl (fun _ => 0))), (rr 6, .inl (cI, 35, .inl (fun _ => 0))), (rr 7, .inl (cI, 35, .inl (fun _ => 0))), (rr 8, .inl (cI, 35, .inl (fun _ => 0))), (rr 9, .inl (cI, 35, .inl (fun _ => 0))), (rr 10, .inl (cI, 35, .inl (fun _ => 0))), (rr 11, .inl (cI, 35, .inl (fun _ => 0))), (rr 12, .inl (cI, 35, .inl (fun _ => 0))), (rr 13, .inl (cI, 35, .inl (fun _ => 0))), (rr 14, .inl (cI, 35, .inl (fun _ => 0))), (rr 15, .inl (cI, 35, .inl (fun _ => 0))), (rr 16, .inl (cI, 35, .inl (fun _ => 0))), (rr 17, .inl (cI, 35, .inl (fun _ => 0))), (rr 18, .inl (cI, 35, .inl (fun _ => 0))), (rr 19, .inl (cI, 35, .inl (fun _ => 0)))]) X inX4_init tyX4 tyX4_ok nmX4 0 rfl rfl 0 (by decide) (by decide +kernel) rfl hin rfl rfl rfl (Nat.le_of_ble_eq_true rfl) rfl dX4_init_13 ?_
  obtain ⟨r, e0, e1, er⟩ : ∃ r : Nat → Nat, r 0 = h0 ∧ r 1 = q1 ∧ ∀ i : Nat, rr i = r (2 + i) := ⟨fun k => if k < 2 then [h0, q1].getD k 0 else rr (k - 2), rfl, rfl, fun i => by show rr i = if 2 + i < 2 then _ else rr (2 + i - 2); rw [if_neg (by omega), show 2 + i - 2 = i by omega]⟩
  subst e0
  subst e1
  obtain rfl : rr = fun i => r (2 + i) := funext er
  exact ww_vretn X hr r rfl [0, 1, 2, 3, 4, 5, 6, 7, 8, 9, 10, 11, 12, 13, 14, 15, 16, 17, 18, 19, 20, 21] rfl (by decide) rfl dX4_init_16
theorem inX5_init : ∀ w ∈ wsX50, w ∈ wsX5_init := by decide +kernel
set_option maxHeartbeats 4000000 in
set_option maxRecDepth 100000 in
theorem c_X5_init (l : Launch) (D : va_G) (cI cZ cQ : ClassId) (h0 : Nat) : CnZ (Zc cI cZ cQ) l yX5_init wsX5_init { frames := 1, cells := 6, slots := 36, locals := 12 } D (tyL cI cZ cQ) h0 [(h0, .inr (5, [.int 0, .int 0, .int 0, .int 0, .int 0, .null, .null, .null, .null, .null, .null]))] (fun r : Nat → Nat => r 0 = h0) (fun r => wX5 cI cZ cQ r S00) 6 36 := by
  refine cnz_of (cc := cX5_init) (nL := 1) (by decide) rfl rfl (Nat.le_of_ble_eq_true rfl) ?_
  intro p e s m args below meth c A X hr hin hZ
  refine ww_aload_n (pc := 0) X dX5_init_0 0 rfl rfl ?_
  refine ww_objInit (pc := 1) X (by decide +kernel) (by decide +kernel) (List.mem_cons_of_mem _ (List.mem_of_getElem? (i := 2) rfl)) (Nat.le_of_ble_eq_true rfl) (fun _ => Nat.le_of_ble_eq_true rfl) dX5_init_1 ?_
  refine ww_aload_n (pc := 4) X dX5_init_4 0 rfl rfl ?_
  refine ww_iconst (pc := 5) (v := 4) X dX5_init_5 (by decide) ?_
  refine ww_newa (pc := 6) (ty := .int) (cA := cI) (N' := 4) (a0 := (4, .inl (fun _ => 0))) X (by decide +kernel) rfl hZ.1.1 (fun _ => rfl) (by decide) rfl (by decide) (Nat.le_of_ble_eq_true rfl) (Nat.le_of_ble_eq_true rfl) dX5_init_6 (fun q1 => ?_)
  refine ww_putF (pc := 8) (ci := 5) (v := .ref q1) (C := RX5) (T := TX5) (N := 11) (ws' := [(h0, .inr (5, [.int 0, .int 0, .int 0, .int 0, .int 0, .ref q1, .null, .null, .null, .null, .null])), (q1, .inl (cI, 4, .inl (fun _ => 0)))]) X inX5_init tyX5 tyX5_ok nmX5 0 rfl rfl 5 (by decide) (by decide +kernel) rfl hin rfl rfl rfl (Nat.le_of_ble_eq_true rfl) rfl dX5_init_8 ?_
  refine ww_aload_n (pc := 11) X dX5_init_11 0 rfl rfl ?_
  refine ww_bipush (pc := 12) (v := 7) X dX5_init_12 (by decide) ?_
  refine ww_newa (pc := 14) (ty := .int) (cA := cI) (N' := 7) (a0 := (7, .inl (fun _ => 0))) X (by decide +kernel) rfl hZ.1.1 (fun _ => rfl) (by decide) rfl (by decide) (Nat.le_of_ble_eq_true rfl) (Nat.le_of_ble_eq_true rfl) dX5_init_14 (fun q2 => ?_)
  refine ww_putF (pc := 16) (ci := 5) (v := .ref q2) (C := RX5) (T := TX5) (N := 11) (ws' := [(h0, .inr (5, [.int 0, .int 0, .int 0, .int 0, .int 0, .ref q1, .ref q2, .null, .null, .null, .null])), (q1, .inl (cI, 4, .inl (fun _ => 0))), (q2, .inl (cI, 7, .inl (fun _ => 0)))]) X inX5_init tyX5 tyX5_ok nmX5 0 rfl rfl 6 (by decide) (by decide +kernel) rfl hin rfl rfl rfl (Nat.le_of_ble_eq_true rfl) rfl dX5_init_16 ?_
  refine ww_aload_n (pc := 19) X dX5_init_19 0 rfl rfl ?_
  refine ww_bipush (pc := 20) (v := 7) X dX5_init_20 (by decide) ?_
  refine ww_newa (pc := 22) (ty := .int) (cA := cI) (N' := 7) (a0 := (7, .inl (fun _ => 0))) X (by decide +kernel) rfl hZ.1.1 (fun _ => rfl) (by decide) rfl (by decide) (Nat.le_of_ble_eq_true rfl) (Nat.le_of_ble_eq_true rfl) dX5_init_22 (fun q3 => ?_)
  refine ww_putF (pc := 24) (ci := 5) (v := .ref q3) (C := RX5) (T := TX5) (N := 11) (ws' := [(h0, .inr (5, [.int 0, .int 0, .int 0, .int 0, .int 0, .ref q1, .ref q2, .ref q3, .null, .null, .null])), (q1, .inl (cI, 4, .inl (fun _ => 0))), (q2, .inl (cI, 7, .inl (fun _ => 0))), (q3, .inl (cI, 7, .inl (fun _ => 0)))]) X inX5_init tyX5 tyX5_ok nmX5 0 rfl rfl 7 (by decide) (by decide +kernel) rfl hin rfl rfl rfl (Nat.le_of_ble_eq_true rfl) rfl dX5_init_24 ?_
  refine ww_aload_n (pc := 27) X dX5_init_27 0 rfl rfl ?_
  refine ww_bipush (pc := 28) (v := 6) X dX5_init_28 (by decide) ?_
  refine ww_newa (pc := 30) (ty := .int) (cA := cI) (N' := 6) (a0 := (6, .inl (fun _ => 0))) X (by decide +kernel) rfl hZ.1.1 (fun _ => rfl) (by decide) rfl (by decide) (Nat.le_of_ble_eq_true rfl) (Nat.le_of_ble_eq_true rfl) dX5_init_30 (fun q4 => ?_)
  refine ww_putF (pc := 32) (ci := 5) (v := .ref q4) (C := RX5) (T := TX5) (N := 11) (ws' := [(h0, .inr (5, [.int 0, .int 0, .int 0, .int 0, .int 0, .ref q1, .ref q2, .ref q3, .ref q4, .null, .null])), (q1, .inl (cI, 4, .inl (fun _ => 0))), (q2, .inl (cI, 7, .inl (fun _ => 0))), (q3, .inl (cI, 7, .inl (fun _ => 0))), (q4, .inl (cI, 6, .inl (fun _ => 0)))]) X inX5_init tyX5 tyX5_ok nmX5 0 rfl rfl 8 (by decide) (by decide +kernel) rfl hin rfl rfl rfl (Nat.le_of_ble_eq_true rfl) rfl dX5_init_32 ?_
  refine ww_aload_n (pc := 35) X dX5_init_35 0 rfl rfl ?_
  refine ww_bipush (pc := 36) (v := 6) X dX5_init_36 (by decide) ?_
  refine ww_newa (pc := 38) (ty := .int) (cA := cI) (N' := 6) (a0 := (6, .inl (fun _ => 0))) X (by decide +kernel) rfl hZ.1.1 (fun _ => rfl) (by decide) rfl (by decide) (Nat.le_of_ble_eq_true rfl) (Nat.le_of_ble_eq_true rfl) dX5_init_38 (fun q5 => ?_)
  refine ww_putF (pc := 40) (ci := 5) (v := .ref q5) (C := RX5) (T := TX5) (N := 11) (ws' := [(h0, .inr (5, [.int 0, .int 0, .int 0, .int 0, .int 0, .ref q1, .ref q2, .ref q3, .ref q4, .ref q5, .null])), (q1, .inl (cI, 4, .inl (fun _ => 0))), (q2, .inl (cI, 7, .inl (fun _ => 0))), (q3, .inl (cI, 7, .inl (fun _ => 0))), (q4, .inl (cI, 6, .inl (fun _ => 0))), (q5, .inl (cI, 6, .inl (fun _ => 0)))]) X inX5_init tyX5 tyX5_ok nmX5 0 rfl rfl 9 (by decide) (by decide +kernel) rfl hin rfl rfl rfl (Nat.le_of_ble_eq_true rfl) rfl dX5_init_40 ?_
  refine ww_aload_n (pc := 43) X dX5_init_43 0 rfl rfl ?_
  refine ww_bipush (pc := 44) (v := 6) X dX5_init_44 (by decide) ?_
  refine ww_newa (pc := 46) (ty := .int) (cA := cI) (N' := 6) (a0 := (6, .inl (fun _ => 0))) X (by decide +kernel) rfl hZ.1.1 (fun _ => rfl) (by decide) rfl (by decide) (Nat.le_of_ble_eq_true rfl) (Nat.le_of_ble_eq_true rfl) dX5_init_46 (fun q6 => ?_)
  refine ww_putF (pc := 48) (ci := 5) (v := .ref q6) (C := RX5) (T := TX5) (N := 11) (ws' := [(h0, .inr (5, [.int 0, .int 0, .int 0, .int 0, .int 0, .ref q1, .ref q2, .ref q3, .ref q4, .ref q5, .ref q6])), (q1, .inl (cI, 4, .inl (fun _ => 0))), (q2, .inl (cI, 7, .inl (fun _ => 0))), (q3, .inl (cI, 7, .inl (fun _ => 0))), (q4, .inl (cI, 6, .inl (fun _ => 0))), (q5, .inl (cI, 6, .inl (fun _ => 0))), (q6, .inl (cI, 6, .inl (fun _ => 0)))]) X inX5_init tyX5 tyX5_ok nmX5 0 rfl rfl 10 (by decide) (by decide +kernel) rfl hin rfl rfl rfl (Nat.le_of_ble_eq_true rfl) rfl dX5_init_48 ?_
  obtain ⟨r, e0, e1, e2, e3, e4, e5, e6⟩ : ∃ r : Nat → Nat, r 0 = h0 ∧ r 1 = q1 ∧ r 2 = q2 ∧ r 3 = q3 ∧ r 4 = q4 ∧ r 5 = q5 ∧ r 6 = q6 := ⟨fun k => [h0, q1, q2, q3, q4, q5, q6].getD k 0, rfl, rfl, rfl, rfl, rfl, rfl, rfl⟩
  subst e0
  subst e1
  subst e2
  subst e3
  subst e4
  subst e5
  subst e6
  exact ww_vretn X hr r rfl [0, 1, 2, 3, 4, 5, 6] rfl (by decide) rfl dX5_init_51
theorem inX6_init : ∀ w ∈ wsX60, w ∈ wsX6_init := by decide +kernel
set_option maxHeartbeats 4000000 in
set_option maxRecDepth 100000 in
theorem c_X6_init (l : Launch) (D : va_G) (cI cZ cQ : ClassId) (h0 : Nat) : CnZ (Zc cI cZ cQ) l yX6_init wsX6_init { frames := 1, cells := 2, slots := 243, locals := 12 } D (tyL cI cZ cQ) h0 [(h0, .inr (6, [.null, .null, .int 0, .int 0, .int 0, .int 0]))] (fun r : Nat → Nat => r 0 = h0) (fun r => wX6 cI cZ cQ r S06) 2 243 := by
  refine cnz_of (cc := cX6_init) (nL := 1) (by decide) rfl rfl (Nat.le_of_ble_eq_true rfl) ?_
  intro p e s m args below meth c A X hr hin hZ
  refine ww_aload_n (pc := 0) X dX6_init_0 0 rfl rfl ?_
  refine ww_objInit (pc := 1) X (by decide +kernel) (by decide +kernel) (List.mem_cons_of_mem _ (List.mem_of_getElem? (i := 2) rfl)) (Nat.le_of_ble_eq_true rfl) (fun _ => Nat.le_of_ble_eq_true rfl) dX6_init_1 ?_
  refine ww_aload_n (pc := 4) X dX6_init_4 0 rfl rfl ?_
  refine ww_sipush (pc := 5) (v := 240) X dX6_init_5 (by decide) ?_
  refine ww_newa (pc := 8) (ty := .int) (cA := cI) (N' := 240) (a0 := (240, .inl (fun _ => 0))) X (by decide +kernel) rfl hZ.1.1 (fun _ => rfl) (by decide) rfl (by decide) (Nat.le_of_ble_eq_true rfl) (Nat.le_of_ble_eq_true rfl) dX6_init_8 (fun q1 => ?_)
  refine ww_putF (pc := 10) (ci := 6) (v := .ref q1) (C := RX6) (T := TX6) (N := 6) (ws' := [(h0, .inr (6, [.ref q1, .null, .int 0, .int 0, .int 0, .int 0])), (q1, .inl (cI, 240, .inl (fun _ => 0)))]) X inX6_init tyX6 tyX6_ok nmX6 0 rfl rfl 0 (by decide) (by decide +kernel) rfl hin rfl rfl rfl (Nat.le_of_ble_eq_true rfl) rfl dX6_init_10 ?_
  refine ww_aload_n (pc := 13) X dX6_init_13 0 rfl rfl ?_
  refine ww_iconst (pc := 14) (v := 3) X dX6_init_14 (by decide) ?_
  refine ww_newa (pc := 15) (ty := .int) (cA := cI) (N' := 3) (a0 := (3, .inl (fun _ => 0))) X (by decide +kernel) rfl hZ.1.1 (fun _ => rfl) (by decide) rfl (by decide) (Nat.le_of_ble_eq_true rfl) (Nat.le_of_ble_eq_true rfl) dX6_init_15 (fun q2 => ?_)
  refine ww_putF (pc := 17) (ci := 6) (v := .ref q2) (C := RX6) (T := TX6) (N := 6) (ws' := [(h0, .inr (6, [.ref q1, .ref q2, .int 0, .int 0, .int 0, .int 0])), (q1, .inl (cI, 240, .inl (fun _ => 0))), (q2, .inl (cI, 3, .inl (fun _ => 0)))]) X inX6_init tyX6 tyX6_ok nmX6 0 rfl rfl 1 (by decide) (by decide +kernel) rfl hin rfl rfl rfl (Nat.le_of_ble_eq_true rfl) rfl dX6_init_17 ?_
  refine ww_aload_n (pc := 20) X dX6_init_20 0 rfl rfl ?_
  refine ww_iconst (pc := 21) (v := (-1)) X dX6_init_21 (by decide) ?_
  refine ww_put (pc := 22) (ci := 6) (v := .int (-1)) (C := RX6) (T := TX6) (N := 6) (ws' := [(h0, .inr (6, [.ref q1, .ref q2, .int 0, .int 0, .int 0, .int (-1)])), (q1, .inl (cI, 240, .inl (fun _ => 0))), (q2, .inl (cI, 3, .inl (fun _ => 0)))]) X inX6_init tyX6 tyX6_ok nmX6 0 rfl rfl 5 (by decide) (by decide +kernel) rfl rfl rfl (Nat.le_of_ble_eq_true rfl) rfl dX6_init_22 ?_
  obtain ⟨r, e0, e1, e2⟩ : ∃ r : Nat → Nat, r 0 = h0 ∧ r 1 = q1 ∧ r 2 = q2 := ⟨fun k => [h0, q1, q2].getD k 0, rfl, rfl, rfl⟩
  subst e0
  subst e1
  subst e2
  exact ww_vretn X hr r rfl [0, 1, 2] rfl (by decide) rfl dX6_init_25
theorem inX8_init : ∀ w ∈ wsX80, w ∈ wsX8_init := by decide +kernel
set_option maxHeartbeats 4000000 in
set_option maxRecDepth 100000 in
theorem c_X8_init (l : Launch) (D : va_G) (cI cZ cQ : ClassId) (h0 : Nat) : CnZ (Zc cI cZ cQ) l yX8_init wsX8_init { frames := 1, cells := 19, slots := 2053, locals := 12 } D (tyL cI cZ cQ) h0 [(h0, .inr (8, [.null, .int 0, .int 0, .null, .null, .null, .null, .null, .null, .null, .null, .null, .null, .int 0, .null, .null, .null, .int 0, .null, .int 0, .null, .int 0, .int 0, .int 0, .null, .null, .null]))] (fun r : Nat → Nat => r 0 = h0) (fun r => wX8 cI cZ cQ r S08) 19 2053 := by
  refine cnz_of (cc := cX8_init) (nL := 1) (by decide) rfl rfl (Nat.le_of_ble_eq_true rfl) ?_
  intro p e s m args below meth c A X hr hin hZ
  refine ww_aload_n (pc := 0) X dX8_init_0 0 rfl rfl ?_
  refine ww_objInit (pc := 1) X (by decide +kernel) (by decide +kernel) (List.mem_cons_of_mem _ (List.mem_of_getElem? (i := 2) rfl)) (Nat.le_of_ble_eq_true rfl) (fun _ => Nat.le_of_ble_eq_true rfl) dX8_init_1 ?_
  refine ww_aload_n (pc := 4) X dX8_init_4 0 rfl rfl ?_
  refine ww_sipush (pc := 5) (v := 240) X dX8_init_5 (by decide) ?_
  refine ww_newa (pc := 8) (ty := .int) (cA := cI) (N' := 240) (a0 := (240, .inl (fun _ => 0))) X (by decide +kernel) rfl hZ.1.1 (fun _ => rfl) (by decide) rfl (by decide) (Nat.le_of_ble_eq_true rfl) (Nat.le_of_ble_eq_true rfl) dX8_init_8 (fun q1 => ?_)
  refine ww_putF (pc := 10) (ci := 8) (v := .ref q1) (C := RX8) (T := TX8) (N := 27) (ws' := [(h0, .inr (8, [.ref q1, .int 0, .int 0, .null, .null, .null, .null, .null, .null, .null, .null, .null, .null, .int 0, .null, .null, .null, .int 0, .null, .int 0, .null, .int 0, .int 0, .int 0, .null, .null, .null])), (q1, .inl (cI, 240, .inl (fun _ => 0)))]) X inX8_init tyX8 tyX8_ok nmX8 0 rfl rfl 0 (by decide) (by decide +kernel) rfl hin rfl rfl rfl (Nat.le_of_ble_eq_true rfl) rfl dX8_init_10 ?_
  refine ww_aload_n (pc := 13) X dX8_init_13 0 rfl rfl ?_
  refine ww_iconst (pc := 14) (v := (-1)) X dX8_init_14 (by decide) ?_
  refine ww_put (pc := 15) (ci := 8) (v := .int (-1)) (C := RX8) (T := TX8) (N := 27) (ws' := [(h0, .inr (8, [.ref q1, .int 0, .int (-1), .null, .null, .null, .null, .null, .null, .null, .null, .null, .null, .int 0, .null, .null, .null, .int 0, .null, .int 0, .null, .int 0, .int 0, .int 0, .null, .null, .null])), (q1, .inl (cI, 240, .inl (fun _ => 0)))]) X inX8_init tyX8 tyX8_ok nmX8 0 rfl rfl 2 (by decide) (by decide +kernel) rfl rfl rfl (Nat.le_of_ble_eq_true rfl) rfl dX8_init_15 ?_
  refine ww_aload_n (pc := 18) X dX8_init_18 0 rfl rfl ?_
  refine ww_iconst (pc := 19) (v := 5) X dX8_init_19 (by decide) ?_
  refine ww_newa (pc := 20) (ty := .int) (cA := cI) (N' := 5) (a0 := (5, .inl (fun _ => 0))) X (by decide +kernel) rfl hZ.1.1 (fun _ => rfl) (by decide) rfl (by decide) (Nat.le_of_ble_eq_true rfl) (Nat.le_of_ble_eq_true rfl) dX8_init_20 (fun q2 => ?_)
  refine ww_putF (pc := 22) (ci := 8) (v := .ref q2) (C := RX8) (T := TX8) (N := 27) (ws' := [(h0, .inr (8, [.ref q1, .int 0, .int (-1), .ref q2, .null, .null, .null, .null, .null, .null, .null, .null, .null, .int 0, .null, .null, .null, .int 0, .null, .int 0, .null, .int 0, .int 0, .int 0, .null, .null, .null])), (q1, .inl (cI, 240, .inl (fun _ => 0))), (q2, .inl (cI, 5, .inl (fun _ => 0)))]) X inX8_init tyX8 tyX8_ok nmX8 0 rfl rfl 3 (by decide) (by decide +kernel) rfl hin rfl rfl rfl (Nat.le_of_ble_eq_true rfl) rfl dX8_init_22 ?_
  refine ww_aload_n (pc := 25) X dX8_init_25 0 rfl rfl ?_
  refine ww_iconst (pc := 26) (v := 4) X dX8_init_26 (by decide) ?_
  refine ww_newa (pc := 27) (ty := .int) (cA := cI) (N' := 4) (a0 := (4, .inl (fun _ => 0))) X (by decide +kernel) rfl hZ.1.1 (fun _ => rfl) (by decide) rfl (by decide) (Nat.le_of_ble_eq_true rfl) (Nat.le_of_ble_eq_true rfl) dX8_init_27 (fun q3 => ?_)
  refine ww_putF (pc := 29) (ci := 8) (v := .ref q3) (C := RX8) (T := TX8) (N := 27) (ws' := [(h0, .inr (8, [.ref q1, .int 0, .int (-1), .ref q2, .ref q3, .null, .null, .null, .null, .null, .null, .null, .null, .int 0, .null, .null, .null, .int 0, .null, .int 0, .null, .int 0, .int 0, .int 0, .null, .null, .null])), (q1, .inl (cI, 240, .inl (fun _ => 0))), (q2, .inl (cI, 5, .inl (fun _ => 0))), (q3, .inl (cI, 4, .inl (fun _ => 0)))]) X inX8_init tyX8 tyX8_ok nmX8 0 rfl rfl 4 (by decide) (by decide +kernel) rfl hin rfl rfl rfl (Nat.le_of_ble_eq_true rfl) rfl dX8_init_29 ?_
  refine ww_aload_n (pc := 32) X dX8_init_32 0 rfl rfl ?_
  refine ww_bipush (pc := 33) (v := 14) X dX8_init_33 (by decide) ?_
  refine ww_newa (pc := 35) (ty := .int) (cA := cI) (N' := 14) (a0 := (14, .inl (fun _ => 0))) X (by decide +kernel) rfl hZ.1.1 (fun _ => rfl) (by decide) rfl (by decide) (Nat.le_of_ble_eq_true rfl) (Nat.le_of_ble_eq_true rfl) dX8_init_35 (fun q4 => ?_)
  refine ww_putF (pc := 37) (ci := 8) (v := .ref q4) (C := RX8) (T := TX8) (N := 27) (ws' := [(h0, .inr (8, [.ref q1, .int 0, .int (-1), .ref q2, .ref q3, .ref q4, .null, .null, .null, .null, .null, .null, .null, .int 0, .null, .null, .null, .int 0, .null, .int 0, .null, .int 0, .int 0, .int 0, .null, .null, .null])), (q1, .inl (cI, 240, .inl (fun _ => 0))), (q2, .inl (cI, 5, .inl (fun _ => 0))), (q3, .inl (cI, 4, .inl (fun _ => 0))), (q4, .inl (cI, 14, .inl (fun _ => 0)))]) X inX8_init tyX8 tyX8_ok nmX8 0 rfl rfl 5 (by decide) (by decide +kernel) rfl hin rfl rfl rfl (Nat.le_of_ble_eq_true rfl) rfl dX8_init_37 ?_
  refine ww_aload_n (pc := 40) X dX8_init_40 0 rfl rfl ?_
  refine ww_bipush (pc := 41) (v := 18) X dX8_init_41 (by decide) ?_
  refine ww_newa (pc := 43) (ty := .int) (cA := cI) (N' := 18) (a0 := (18, .inl (fun _ => 0))) X (by decide +kernel) rfl hZ.1.1 (fun _ => rfl) (by decide) rfl (by decide) (Nat.le_of_ble_eq_true rfl) (Nat.le_of_ble_eq_true rfl) dX8_init_43 (fun q5 => ?_)
  refine ww_putF (pc := 45) (ci := 8) (v := .ref q5) (C := RX8) (T := TX8) (N := 27) (ws' := [(h0, .inr (8, [.ref q1, .int 0, .int (-1), .ref q2, .ref q3, .ref q4, .ref q5, .null, .null, .null, .null, .null, .null, .int 0, .null, .null, .null, .int 0, .null, .int 0, .null, .int 0, .int 0, .int 0, .null, .null, .null])), (q1, .inl (cI, 240, .inl (fun _ => 0))), (q2, .inl (cI, 5, .inl (fun _ => 0))), (q3, .inl (cI, 4, .inl (fun _ => 0))), (q4, .inl (cI, 14, .inl (fun _ => 0))), (q5, .inl (cI, 18, .inl (fun _ => 0)))]) X inX8_init tyX8 tyX8_ok nmX8 0 rfl rfl 6 (by decide) (by decide +kernel) rfl hin rfl rfl rfl (Nat.le_of_ble_eq_true rfl) rfl dX8_init_45 ?_
  refine ww_aload_n (pc := 48) X dX8_init_48 0 rfl rfl ?_
  refine ww_iconst (pc := 49) (v := 5) X dX8_init_49 (by decide) ?_
  refine ww_newa (pc := 50) (ty := .int) (cA := cI) (N' := 5) (a0 := (5, .inl (fun _ => 0))) X (by decide +kernel) rfl hZ.1.1 (fun _ => rfl) (by decide) rfl (by decide) (Nat.le_of_ble_eq_true rfl) (Nat.le_of_ble_eq_true rfl) dX8_init_50 (fun q6 => ?_)
  refine ww_putF (pc := 52) (ci := 8) (v := .ref q6) (C := RX8) (T := TX8) (N := 27) (ws' := [(h0, .inr (8, [.ref q1, .int 0, .int (-1), .ref q2, .ref q3, .ref q4, .ref q5, .ref q6, .null, .null, .null, .null, .null, .int 0, .null, .null, .null, .int 0, .null, .int 0, .null, .int 0, .int 0, .int 0, .null, .null, .null])), (q1, .inl (cI, 240, .inl (fun _ => 0))), (q2, .inl (cI, 5, .inl (fun _ => 0))), (q3, .inl (cI, 4, .inl (fun _ => 0))), (q4, .inl (cI, 14, .inl (fun _ => 0))), (q5, .inl (cI, 18, .inl (fun _ => 0))), (q6, .inl (cI, 5, .inl (fun _ => 0)))]) X inX8_init tyX8 tyX8_ok nmX8 0 rfl rfl 7 (by decide) (by decide +kernel) rfl hin rfl rfl rfl (Nat.le_of_ble_eq_true rfl) rfl dX8_init_52 ?_
  refine ww_aload_n (pc := 55) X dX8_init_55 0 rfl rfl ?_
  refine ww_iconst (pc := 56) (v := 4) X dX8_init_56 (by decide) ?_
  refine ww_newa (pc := 57) (ty := .int) (cA := cI) (N' := 4) (a0 := (4, .inl (fun _ => 0))) X (by decide +kernel) rfl hZ.1.1 (fun _ => rfl) (by decide) rfl (by decide) (Nat.le_of_ble_eq_true rfl) (Nat.le_of_ble_eq_true rfl) dX8_init_57 (fun q7 => ?_)
  refine ww_putF (pc := 59) (ci := 8) (v := .ref q7) (C := RX8) (T := TX8) (N := 27) (ws' := [(h0, .inr (8, [.ref q1, .int 0, .int (-1), .ref q2, .ref q3, .ref q4, .ref q5, .ref q6, .ref q7, .null, .null, .null, .null, .int 0, .null, .null, .null, .int 0, .null, .int 0, .null, .int 0, .int 0, .int 0, .null, .null, .null])), (q1, .inl (cI, 240, .inl (fun _ => 0))), (q2, .inl (cI, 5, .inl (fun _ => 0))), (q3, .inl (cI, 4, .inl (fun _ => 0))), (q4, .inl (cI, 14, .inl (fun _ => 0))), (q5, .inl (cI, 18, .inl (fun _ => 0))), (q6, .inl (cI, 5, .inl (fun _ => 0))), (q7, .inl (cI, 4, .inl (fun _ => 0)))]) X inX8_init tyX8 tyX8_ok nmX8 0 rfl rfl 8 (by decide) (by decide +kernel) rfl hin rfl rfl rfl (Nat.le_of_ble_eq_true rfl) rfl dX8_init_59 ?_
  refine ww_aload_n (pc := 62) X dX8_init_62 0 rfl rfl ?_
  refine ww_bipush (pc := 63) (v := 14) X dX8_init_63 (by decide) ?_
  refine ww_newa (pc := 65) (ty := .int) (cA := cI) (N' := 14) (a0 := (14, .inl (fun _ => 0))) X (by decide +kernel) rfl hZ.1.1 (fun _ => rfl) (by decide) rfl (by decide) (Nat.le_of_ble_eq_true rfl) (Nat.le_of_ble_eq_true rfl) dX8_init_65 (fun q8 => ?_)
  refine ww_putF (pc := 67) (ci := 8) (v := .ref q8) (C := RX8) (T := TX8) (N := 27) (ws' := [(h0, .inr (8, [.ref q1, .int 0, .int (-1), .ref q2, .ref q3, .ref q4, .ref q5, .ref q6, .ref q7, .ref q8, .null, .null, .null, .int 0, .null, .null, .null, .int 0, .null, .int 0, .null, .int 0, .int 0, .int 0, .null, .null, .null])), (q1, .inl (cI, 240, .inl (fun _ => 0))), (q2, .inl (cI, 5, .inl (fun _ => 0))), (q3, .inl (cI, 4, .inl (fun _ => 0))), (q4, .inl (cI, 14, .inl (fun _ => 0))), (q5, .inl (cI, 18, .inl (fun _ => 0))), (q6, .inl (cI, 5, .inl (fun _ => 0))), (q7, .inl (cI, 4, .inl (fun _ => 0))), (q8, .inl (cI, 14, .inl (fun _ => 0)))]) X inX8_init tyX8 tyX8_ok nmX8 0 rfl rfl 9 (by decide) (by decide +kernel) rfl hin rfl rfl rfl (Nat.le_of_ble_eq_true rfl) rfl dX8_init_67 ?_
  refine ww_aload_n (pc := 70) X dX8_init_70 0 rfl rfl ?_
  refine ww_bipush (pc := 71) (v := 18) X dX8_init_71 (by decide) ?_
  refine ww_newa (pc := 73) (ty := .int) (cA := cI) (N' := 18) (a0 := (18, .inl (fun _ => 0))) X (by decide +kernel) rfl hZ.1.1 (fun _ => rfl) (by decide) rfl (by decide) (Nat.le_of_ble_eq_true rfl) (Nat.le_of_ble_eq_true rfl) dX8_init_73 (fun q9 => ?_)
  refine ww_putF (pc := 75) (ci := 8) (v := .ref q9) (C := RX8) (T := TX8) (N := 27) (ws' := [(h0, .inr (8, [.ref q1, .int 0, .int (-1), .ref q2, .ref q3, .ref q4, .ref q5, .ref q6, .ref q7, .ref q8, .ref q9, .null, .null, .int 0, .null, .null, .null, .int 0, .null, .int 0, .null, .int 0, .int 0, .int 0, .null, .null, .null])), (q1, .inl (cI, 240, .inl (fun _ => 0))), (q2, .inl (cI, 5, .inl (fun _ => 0))), (q3, .inl (cI, 4, .inl (fun _ => 0))), (q4, .inl (cI, 14, .inl (fun _ => 0))), (q5, .inl (cI, 18, .inl (fun _ => 0))), (q6, .inl (cI, 5, .inl (fun _ => 0))), (q7, .inl (cI, 4, .inl (fun _ => 0))), (q8, .inl (cI, 14, .inl (fun _ => 0))), (q9, .inl (cI, 18, .inl (fun _ => 0)))]) X inX8_init tyX8 tyX8_ok nmX8 0 rfl rfl 10 (by decide) (by decide +kernel) rfl hin rfl rfl rfl (Nat.le_of_ble_eq_true rfl) rfl dX8_init_75 ?_
  refine ww_aload_n (pc := 78) X dX8_init_78 0 rfl rfl ?_
  refine ww_bipush (pc := 79) (v := 35) X dX8_init_79 (by decide) ?_
  refine ww_newa (pc := 81) (ty := .int) (cA := cI) (N' := 35) (a0 := (35, .inl (fun _ => 0))) X (by decide +kernel) rfl hZ.1.1 (fun _ => rfl) (by decide) rfl (by decide) (Nat.le_of_ble_eq_true rfl) (Nat.le_of_ble_eq_true rfl) dX8_init_81 (fun q10 => ?_)
  refine ww_putF (pc := 83) (ci := 8) (v := .ref q10) (C := RX8) (T := TX8) (N := 27) (ws' := [(h0, .inr (8, [.ref q1, .int 0, .int (-1), .ref q2, .ref q3, .ref q4, .ref q5, .ref q6, .ref q7, .ref q8, .ref q9, .ref q10, .null, .int 0, .null, .null, .null, .int 0, .null, .int 0, .null, .int 0, .int 0, .int 0, .null, .null, .null])), (q1, .inl (cI, 240, .inl (fun _ => 0))), (q2, .inl (cI, 5, .inl (fun _ => 0))), (q3, .inl (cI, 4, .inl (fun _ => 0))), (q4, .inl (cI, 14, .inl (fun _ => 0))), (q5, .inl (cI, 18, .inl (fun _ => 0))), (q6, .inl (cI, 5, .inl (fun _ => 0))), (q7, .inl (cI, 4, .inl (fun _ => 0))), (q8, .inl (cI, 14, .inl (fun _ => 0))), (q9, .inl (cI, 18, .inl (fun _ => 0))), (q10, .inl (cI, 35, .inl (fun _ => 0)))]) X inX8_init tyX8 tyX8_ok nmX8 0 rfl rfl 11 (by decide) (by decide +kernel) rfl hin rfl rfl rfl (Nat.le_of_ble_eq_true rfl) rfl dX8_init_83 ?_
  refine ww_aload_n (pc := 86) X dX8_init_86 0 rfl rfl ?_
  refine ww_sipush (pc := 87) (v := 700) X dX8_init_87 (by decide) ?_
  refine ww_newa (pc := 90) (ty := .int) (cA := cI) (N' := 700) (a0 := (700, .inl (fun _ => 0))) X (by decide +kernel) rfl hZ.1.1 (fun _ => rfl) (by decide) rfl (by decide) (Nat.le_of_ble_eq_true rfl) (Nat.le_of_ble_eq_true rfl) dX8_init_90 (fun q11 => ?_)
  refine ww_putF (pc := 92) (ci := 8) (v := .ref q11) (C := RX8) (T := TX8) (N := 27) (ws' := [(h0, .inr (8, [.ref q1, .int 0, .int (-1), .ref q2, .ref q3, .ref q4, .ref q5, .ref q6, .ref q7, .ref q8, .ref q9, .ref q10, .ref q11, .int 0, .null, .null, .null, .int 0, .null, .int 0, .null, .int 0, .int 0, .int 0, .null, .null, .null])), (q1, .inl (cI, 240, .inl (fun _ => 0))), (q2, .inl (cI, 5, .inl (fun _ => 0))), (q3, .inl (cI, 4, .inl (fun _ => 0))), (q4, .inl (cI, 14, .inl (fun _ => 0))), (q5, .inl (cI, 18, .inl (fun _ => 0))), (q6, .inl (cI, 5, .inl (fun _ => 0))), (q7, .inl (cI, 4, .inl (fun _ => 0))), (q8, .inl (cI, 14, .inl (fun _ => 0))), (q9, .inl (cI, 18, .inl (fun _ => 0))), (q10, .inl (cI, 35, .inl (fun _ => 0))), (q11, .inl (cI, 700, .inl (fun _ => 0)))]) X inX8_init tyX8 tyX8_ok nmX8 0 rfl rfl 12 (by decide) (by decide +kernel) rfl hin rfl rfl rfl (Nat.le_of_ble_eq_true rfl) rfl dX8_init_92 ?_
  refine ww_aload_n (pc := 95) X dX8_init_95 0 rfl rfl ?_
  refine ww_bipush (pc := 96) (v := 70) X dX8_init_96 (by decide) ?_
  refine ww_newa (pc := 98) (ty := .int) (cA := cI) (N' := 70) (a0 := (70, .inl (fun _ => 0))) X (by decide +kernel) rfl hZ.1.1 (fun _ => rfl) (by decide) rfl (by decide) (Nat.le_of_ble_eq_true rfl) (Nat.le_of_ble_eq_true rfl) dX8_init_98 (fun q12 => ?_)
  refine ww_putF (pc := 100) (ci := 8) (v := .ref q12) (C := RX8) (T := TX8) (N := 27) (ws' := [(h0, .inr (8, [.ref q1, .int 0, .int (-1), .ref q2, .ref q3, .ref q4, .ref q5, .ref q6, .ref q7, .ref q8, .ref q9, .ref q10, .ref q11, .int 0, .ref q12, .null, .null, .int 0, .null, .int 0, .null, .int 0, .int 0, .int 0, .null, .null, .null])), (q1, .inl (cI, 240, .inl (fun _ => 0))), (q2, .inl (cI, 5, .inl (fun _ => 0))), (q3, .inl (cI, 4, .inl (fun _ => 0))), (q4, .inl (cI, 14, .inl (fun _ => 0))), (q5, .inl (cI, 18, .inl (fun _ => 0))), (q6, .inl (cI, 5, .inl (fun _ => 0))), (q7, .inl (cI, 4, .inl (fun _ => 0))), (q8, .inl (cI, 14, .inl (fun _ => 0))), (q9, .inl (cI, 18, .inl (fun _ => 0))), (q10, .inl (cI, 35, .inl (fun _ => 0))), (q11, .inl (cI, 700, .inl (fun _ => 0))), (q12, .inl (cI, 70, .inl (fun _ => 0)))]) X inX8_init tyX8 tyX8_ok nmX8 0 rfl rfl 14 (by decide) (by decide +kernel) rfl hin rfl rfl rfl (Nat.le_of_ble_eq_true rfl) rfl dX8_init_100 ?_
  refine ww_aload_n (pc := 103) X dX8_init_103 0 rfl rfl ?_
  refine ww_iconst (pc := 104) (v := 2) X dX8_init_104 (by decide) ?_
  refine ww_newa (pc := 105) (ty := .int) (cA := cI) (N' := 2) (a0 := (2, .inl (fun _ => 0))) X (by decide +kernel) rfl hZ.1.1 (fun _ => rfl) (by decide) rfl (by decide) (Nat.le_of_ble_eq_true rfl) (Nat.le_of_ble_eq_true rfl) dX8_init_105 (fun q13 => ?_)
  refine ww_putF (pc := 107) (ci := 8) (v := .ref q13) (C := RX8) (T := TX8) (N := 27) (ws' := [(h0, .inr (8, [.ref q1, .int 0, .int (-1), .ref q2, .ref q3, .ref q4, .ref q5, .ref q6, .ref q7, .ref q8, .ref q9, .ref q10, .ref q11, .int 0, .ref q12, .ref q13, .null, .int 0, .null, .int 0, .null, .int 0, .int 0, .int 0, .null, .null, .null])), (q1, .inl (cI, 240, .inl (fun _ => 0))), (q2, .inl (cI, 5, .inl (fun _ => 0))), (q3, .inl (cI, 4, .inl (fun _ => 0))), (q4, .inl (cI, 14, .inl (fun _ => 0))), (q5, .inl (cI, 18, .inl (fun _ => 0))), (q6, .inl (cI, 5, .inl (fun _ => 0))), (q7, .inl (cI, 4, .inl (fun _ => 0))), (q8, .inl (cI, 14, .inl (fun _ => 0))), (q9, .inl (cI, 18, .inl (fun _ => 0))), (q10, .inl (cI, 35, .inl (fun _ => 0))), (q11, .inl (cI, 700, .inl (fun _ => 0))), (q12, .inl (cI, 70, .inl (fun _ => 0))), (q13, .inl (cI, 2, .inl (fun _ => 0)))]) X inX8_init tyX8 tyX8_ok nmX8 0 rfl rfl 15 (by decide) (by decide +kernel) rfl hin rfl rfl rfl (Nat.le_of_ble_eq_true rfl) rfl dX8_init_107 ?_
  refine ww_aload_n (pc := 110) X dX8_init_110 0 rfl rfl ?_
  refine ww_iconst (pc := 111) (v := 2) X dX8_init_111 (by decide) ?_
  refine ww_newa (pc := 112) (ty := .boolean) (cA := cZ) (N' := 2) (a0 := (2, .inl (fun _ => 0))) X (by decide +kernel) rfl hZ.1.2.1 (fun _ => rfl) (by decide) rfl (by decide) (Nat.le_of_ble_eq_true rfl) (Nat.le_of_ble_eq_true rfl) dX8_init_112 (fun q14 => ?_)
  refine ww_putF (pc := 114) (ci := 8) (v := .ref q14) (C := RX8) (T := TX8) (N := 27) (ws' := [(h0, .inr (8, [.ref q1, .int 0, .int (-1), .ref q2, .ref q3, .ref q4, .ref q5, .ref q6, .ref q7, .ref q8, .ref q9, .ref q10, .ref q11, .int 0, .ref q12, .ref q13, .ref q14, .int 0, .null, .int 0, .null, .int 0, .int 0, .int 0, .null, .null, .null])), (q1, .inl (cI, 240, .inl (fun _ => 0))), (q2, .inl (cI, 5, .inl (fun _ => 0))), (q3, .inl (cI, 4, .inl (fun _ => 0))), (q4, .inl (cI, 14, .inl (fun _ => 0))), (q5, .inl (cI, 18, .inl (fun _ => 0))), (q6, .inl (cI, 5, .inl (fun _ => 0))), (q7, .inl (cI, 4, .inl (fun _ => 0))), (q8, .inl (cI, 14, .inl (fun _ => 0))), (q9, .inl (cI, 18, .inl (fun _ => 0))), (q10, .inl (cI, 35, .inl (fun _ => 0))), (q11, .inl (cI, 700, .inl (fun _ => 0))), (q12, .inl (cI, 70, .inl (fun _ => 0))), (q13, .inl (cI, 2, .inl (fun _ => 0))), (q14, .inl (cZ, 2, .inl (fun _ => 0)))]) X inX8_init tyX8 tyX8_ok nmX8 0 rfl rfl 16 (by decide) (by decide +kernel) rfl hin rfl rfl rfl (Nat.le_of_ble_eq_true rfl) rfl dX8_init_114 ?_
  refine ww_aload_n (pc := 117) X dX8_init_117 0 rfl rfl ?_
  refine ww_bipush (pc := 118) (v := 18) X dX8_init_118 (by decide) ?_
  refine ww_newa (pc := 120) (ty := .int) (cA := cI) (N' := 18) (a0 := (18, .inl (fun _ => 0))) X (by decide +kernel) rfl hZ.1.1 (fun _ => rfl) (by decide) rfl (by decide) (Nat.le_of_ble_eq_true rfl) (Nat.le_of_ble_eq_true rfl) dX8_init_120 (fun q15 => ?_)
  refine ww_putF (pc := 122) (ci := 8) (v := .ref q15) (C := RX8) (T := TX8) (N := 27) (ws' := [(h0, .inr (8, [.ref q1, .int 0, .int (-1), .ref q2, .ref q3, .ref q4, .ref q5, .ref q6, .ref q7, .ref q8, .ref q9, .ref q10, .ref q11, .int 0, .ref q12, .ref q13, .ref q14, .int 0, .ref q15, .int 0, .null, .int 0, .int 0, .int 0, .null, .null, .null])), (q1, .inl (cI, 240, .inl (fun _ => 0))), (q2, .inl (cI, 5, .inl (fun _ => 0))), (q3, .inl (cI, 4, .inl (fun _ => 0))), (q4, .inl (cI, 14, .inl (fun _ => 0))), (q5, .inl (cI, 18, .inl (fun _ => 0))), (q6, .inl (cI, 5, .inl (fun _ => 0))), (q7, .inl (cI, 4, .inl (fun _ => 0))), (q8, .inl (cI, 14, .inl (fun _ => 0))), (q9, .inl (cI, 18, .inl (fun _ => 0))), (q10, .inl (cI, 35, .inl (fun _ => 0))), (q11, .inl (cI, 700, .inl (fun _ => 0))), (q12, .inl (cI, 70, .inl (fun _ => 0))), (q13, .inl (cI, 2, .inl (fun _ => 0))), (q14, .inl (cZ, 2, .inl (fun _ => 0))), (q15, .inl (cI, 18, .inl (fun _ => 0)))]) X inX8_init tyX8 tyX8_ok nmX8 0 rfl rfl 18 (by decide) (by decide +kernel) rfl hin rfl rfl rfl (Nat.le_of_ble_eq_true rfl) rfl dX8_init_122 ?_
  refine ww_aload_n (pc := 125) X dX8_init_125 0 rfl rfl ?_
  refine ww_bipush (pc := 126) (v := 30) X dX8_init_126 (by decide) ?_
  refine ww_newa (pc := 128) (ty := .int) (cA := cI) (N' := 30) (a0 := (30, .inl (fun _ => 0))) X (by decide +kernel) rfl hZ.1.1 (fun _ => rfl) (by decide) rfl (by decide) (Nat.le_of_ble_eq_true rfl) (Nat.le_of_ble_eq_true rfl) dX8_init_128 (fun q16 => ?_)
  refine ww_putF (pc := 130) (ci := 8) (v := .ref q16) (C := RX8) (T := TX8) (N := 27) (ws' := [(h0, .inr (8, [.ref q1, .int 0, .int (-1), .ref q2, .ref q3, .ref q4, .ref q5, .ref q6, .ref q7, .ref q8, .ref q9, .ref q10, .ref q11, .int 0, .ref q12, .ref q13, .ref q14, .int 0, .ref q15, .int 0, .ref q16, .int 0, .int 0, .int 0, .null, .null, .null])), (q1, .inl (cI, 240, .inl (fun _ => 0))), (q2, .inl (cI, 5, .inl (fun _ => 0))), (q3, .inl (cI, 4, .inl (fun _ => 0))), (q4, .inl (cI, 14, .inl (fun _ => 0))), (q5, .inl (cI, 18, .inl (fun _ => 0))), (q6, .inl (cI, 5, .inl (fun _ => 0))), (q7, .inl (cI, 4, .inl (fun _ => 0))), (q8, .inl (cI, 14, .inl (fun _ => 0))), (q9, .inl (cI, 18, .inl (fun _ => 0))), (q10, .inl (cI, 35, .inl (fun _ => 0))), (q11, .inl (cI, 700, .inl (fun _ => 0))), (q12, .inl (cI, 70, .inl (fun _ => 0))), (q13, .inl (cI, 2, .inl (fun _ => 0))), (q14, .inl (cZ, 2, .inl (fun _ => 0))), (q15, .inl (cI, 18, .inl (fun _ => 0))), (q16, .inl (cI, 30, .inl (fun _ => 0)))]) X inX8_init tyX8 tyX8_ok nmX8 0 rfl rfl 20 (by decide) (by decide +kernel) rfl hin rfl rfl rfl (Nat.le_of_ble_eq_true rfl) rfl dX8_init_130 ?_
  refine ww_aload_n (pc := 133) X dX8_init_133 0 rfl rfl ?_
  refine ww_bipush (pc := 134) (v := 6) X dX8_init_134 (by decide) ?_
  refine ww_newa (pc := 136) (ty := .int) (cA := cI) (N' := 6) (a0 := (6, .inl (fun _ => 0))) X (by decide +kernel) rfl hZ.1.1 (fun _ => rfl) (by decide) rfl (by decide) (Nat.le_of_ble_eq_true rfl) (Nat.le_of_ble_eq_true rfl) dX8_init_136 (fun q17 => ?_)
  refine ww_putF (pc := 138) (ci := 8) (v := .ref q17) (C := RX8) (T := TX8) (N := 27) (ws' := [(h0, .inr (8, [.ref q1, .int 0, .int (-1), .ref q2, .ref q3, .ref q4, .ref q5, .ref q6, .ref q7, .ref q8, .ref q9, .ref q10, .ref q11, .int 0, .ref q12, .ref q13, .ref q14, .int 0, .ref q15, .int 0, .ref q16, .int 0, .int 0, .int 0, .ref q17, .null, .null])), (q1, .inl (cI, 240, .inl (fun _ => 0))), (q2, .inl (cI, 5, .inl (fun _ => 0))), (q3, .inl (cI, 4, .inl (fun _ => 0))), (q4, .inl (cI, 14, .inl (fun _ => 0))), (q5, .inl (cI, 18, .inl (fun _ => 0))), (q6, .inl (cI, 5, .inl (fun _ => 0))), (q7, .inl (cI, 4, .inl (fun _ => 0))), (q8, .inl (cI, 14, .inl (fun _ => 0))), (q9, .inl (cI, 18, .inl (fun _ => 0))), (q10, .inl (cI, 35, .inl (fun _ => 0))), (q11, .inl (cI, 700, .inl (fun _ => 0))), (q12, .inl (cI, 70, .inl (fun _ => 0))), (q13, .inl (cI, 2, .inl (fun _ => 0))), (q14, .inl (cZ, 2, .inl (fun _ => 0))), (q15, .inl (cI, 18, .inl (fun _ => 0))), (q16, .inl (cI, 30, .inl (fun _ => 0))), (q17, .inl (cI, 6, .inl (fun _ => 0)))]) X inX8_init tyX8 tyX8_ok nmX8 0 rfl rfl 24 (by decide) (by decide +kernel) rfl hin rfl rfl rfl (Nat.le_of_ble_eq_true rfl) rfl dX8_init_138 ?_
  refine ww_aload_n (pc := 141) X dX8_init_141 0 rfl rfl ?_
  refine ww_bipush (pc := 142) (v := 124) X dX8_init_142 (by decide) ?_
  refine ww_newa (pc := 144) (ty := .int) (cA := cI) (N' := 124) (a0 := (124, .inl (fun _ => 0))) X (by decide +kernel) rfl hZ.1.1 (fun _ => rfl) (by decide) rfl (by decide) (Nat.le_of_ble_eq_true rfl) (Nat.le_of_ble_eq_true rfl) dX8_init_144 (fun q18 => ?_)
  refine ww_putF (pc := 146) (ci := 8) (v := .ref q18) (C := RX8) (T := TX8) (N := 27) (ws' := [(h0, .inr (8, [.ref q1, .int 0, .int (-1), .ref q2, .ref q3, .ref q4, .ref q5, .ref q6, .ref q7, .ref q8, .ref q9, .ref q10, .ref q11, .int 0, .ref q12, .ref q13, .ref q14, .int 0, .ref q15, .int 0, .ref q16, .int 0, .int 0, .int 0, .ref q17, .ref q18, .null])), (q1, .inl (cI, 240, .inl (fun _ => 0))), (q2, .inl (cI, 5, .inl (fun _ => 0))), (q3, .inl (cI, 4, .inl (fun _ => 0))), (q4, .inl (cI, 14, .inl (fun _ => 0))), (q5, .inl (cI, 18, .inl (fun _ => 0))), (q6, .inl (cI, 5, .inl (fun _ => 0))), (q7, .inl (cI, 4, .inl (fun _ => 0))), (q8, .inl (cI, 14, .inl (fun _ => 0))), (q9, .inl (cI, 18, .inl (fun _ => 0))), (q10, .inl (cI, 35, .inl (fun _ => 0))), (q11, .inl (cI, 700, .inl (fun _ => 0))), (q12, .inl (cI, 70, .inl (fun _ => 0))), (q13, .inl (cI, 2, .inl (fun _ => 0))), (q14, .inl (cZ, 2, .inl (fun _ => 0))), (q15, .inl (cI, 18, .inl (fun _ => 0))), (q16, .inl (cI, 30, .inl (fun _ => 0))), (q17, .inl (cI, 6, .inl (fun _ => 0))), (q18, .inl (cI, 124, .inl (fun _ => 0)))]) X inX8_init tyX8 tyX8_ok nmX8 0 rfl rfl 25 (by decide) (by decide +kernel) rfl hin rfl rfl rfl (Nat.le_of_ble_eq_true rfl) rfl dX8_init_146 ?_
  refine ww_aload_n (pc := 149) X dX8_init_149 0 rfl rfl ?_
  refine ww_sipush (pc := 150) (v := 744) X dX8_init_150 (by decide) ?_
  refine ww_newa (pc := 153) (ty := .int) (cA := cI) (N' := 744) (a0 := (744, .inl (fun _ => 0))) X (by decide +kernel) rfl hZ.1.1 (fun _ => rfl) (by decide) rfl (by decide) (Nat.le_of_ble_eq_true rfl) (Nat.le_of_ble_eq_true rfl) dX8_init_153 (fun q19 => ?_)
  refine ww_putF (pc := 155) (ci := 8) (v := .ref q19) (C := RX8) (T := TX8) (N := 27) (ws' := [(h0, .inr (8, [.ref q1, .int 0, .int (-1), .ref q2, .ref q3, .ref q4, .ref q5, .ref q6, .ref q7, .ref q8, .ref q9, .ref q10, .ref q11, .int 0, .ref q12, .ref q13, .ref q14, .int 0, .ref q15, .int 0, .ref q16, .int 0, .int 0, .int 0, .ref q17, .ref q18, .ref q19])), (q1, .inl (cI, 240, .inl (fun _ => 0))), (q2, .inl (cI, 5, .inl (fun _ => 0))), (q3, .inl (cI, 4, .inl (fun _ => 0))), (q4, .inl (cI, 14, .inl (fun _ => 0))), (q5, .inl (cI, 18, .inl (fun _ => 0))), (q6, .inl (cI, 5, .inl (fun _ => 0))), (q7, .inl (cI, 4, .inl (fun _ => 0))), (q8, .inl (cI, 14, .inl (fun _ => 0))), (q9, .inl (cI, 18, .inl (fun _ => 0))), (q10, .inl (cI, 35, .inl (fun _ => 0))), (q11, .inl (cI, 700, .inl (fun _ => 0))), (q12, .inl (cI, 70, .inl (fun _ => 0))), (q13, .inl (cI, 2, .inl (fun _ => 0))), (q14, .inl (cZ, 2, .inl (fun _ => 0))), (q15, .inl (cI, 18, .inl (fun _ => 0))), (q16, .inl (cI, 30, .inl (fun _ => 0))), (q17, .inl (cI, 6, .inl (fun _ => 0))), (q18, .inl (cI, 124, .inl (fun _ => 0))), (q19, .inl (cI, 744, .inl (fun _ => 0)))]) X inX8_init tyX8 tyX8_ok nmX8 0 rfl rfl 26 (by decide) (by decide +kernel) rfl hin rfl rfl rfl (Nat.le_of_ble_eq_true rfl) rfl dX8_init_155 ?_
  obtain ⟨r, e0, e1, e2, e3, e4, e5, e6, e7, e8, e9, e10, e11, e12, e13, e14, e15, e16, e17, e18, e19⟩ : ∃ r : Nat → Nat, r 0 = h0 ∧ r 1 = q1 ∧ r 2 = q2 ∧ r 3 = q3 ∧ r 4 = q4 ∧ r 5 = q5 ∧ r 6 = q6 ∧ r 7 = q7 ∧ r 8 = q8 ∧ r 9 = q9 ∧ r 10 = q10 ∧ r 11 = q11 ∧ r 12 = q12 ∧ r 13 = q13 ∧ r 14 = q14 ∧ r 15 = q15 ∧ r 16 = q16 ∧ r 17 = q17 ∧ r 18 = q18 ∧ r 19 = q19 := ⟨fun k => [h0, q1, q2, q3, q4, q5, q6, q7, q8, q9, q10, q11, q12, q13, q14, q15, q16, q17, q18, q19].getD k 0, rfl, rfl, rfl, rfl, rfl, rfl, rfl, rfl, rfl, rfl, rfl, rfl, rfl, rfl, rfl, rfl, rfl, rfl, rfl, rfl⟩
  subst e0
  subst e1
  subst e2
  subst e3
  subst e4
  subst e5
  subst e6
  subst e7
  subst e8
  subst e9
  subst e10
  subst e11
  subst e12
  subst e13
  subst e14
  subst e15
  subst e16
  subst e17
  subst e18
  subst e19
  exact ww_vretn X hr r rfl [0, 1, 2, 3, 4, 5, 6, 7, 8, 9, 10, 11, 12, 13, 14, 15, 16, 17, 18, 19] rfl (by decide) rfl dX8_init_158
theorem inX7_init_6 : ∀ w ∈ wsX60, w ∈ wsX7_init := by decide +kernel
theorem inX7_init_7 : ∀ w ∈ wsX70, w ∈ wsX7_init := by decide +kernel
theorem inX7_init_5 : ∀ w ∈ wsX50, w ∈ wsX7_init := by decide +kernel
theorem inX7_init_3 : ∀ w ∈ wsX30, w ∈ wsX7_init := by decide +kernel
theorem inX7_init_4 : ∀ w ∈ wsX40, w ∈ wsX7_init := by decide +kernel
theorem inX7_init_2 : ∀ w ∈ wsX20, w ∈ wsX7_init := by decide +kernel
theorem inX7_init_1 : ∀ w ∈ wsX10, w ∈ wsX7_init := by decide +kernel
theorem inX7_init_0 : ∀ w ∈ wsX00, w ∈ wsX7_init := by decide +kernel
set_option maxHeartbeats 8000000 in
set_option maxRecDepth 100000 in
theorem c_X7_init (l : Launch) (D : va_G) (cI cZ cQ : ClassId) (h0 : Nat) : CnZ (Zc cI cZ cQ) l yX7_init wsX7_init { frames := 2, cells := 62, slots := 2115, locals := 32 } D (tyL cI cZ cQ) h0 [(h0, .inr (7, [.null, .null, .null, .null, .null, .null, .null, .null, .int 0]))] (fun g : Nat → Nat → Nat => g 0 0 = h0) (fun g => fl [wX7 cI cZ cQ g S00, wX6 cI cZ cQ (g 1) S06, wX5 cI cZ cQ (g 2) S00, wX5 cI cZ cQ (g 3) S00, wX3 cI cZ cQ (g 4) S00, wX4 cI cZ cQ (g 5) S00, wX2 cI cZ cQ (g 6) S00, wX1 cI cZ cQ (g 7) S00, wX0 cI cZ cQ (g 8) S00]) 62 2115 := by
  refine cnz_of (cc := cX7_init) (nL := 1) (by decide) rfl rfl (Nat.le_of_ble_eq_true rfl) ?_
  intro p e s m args below meth c A X hr hin hZ
  refine ww_aload_n (pc := 0) X dX7_init_0 0 rfl rfl ?_
  refine ww_objInit (pc := 1) X (by decide +kernel) (by decide +kernel) (List.mem_cons_of_mem _ (List.mem_of_getElem? (i := 2) rfl)) (Nat.le_of_ble_eq_true rfl) (fun _ => Nat.le_of_ble_eq_true rfl) dX7_init_1 ?_
  refine ww_aload_n (pc := 4) X dX7_init_4 0 rfl rfl ?_
  refine ww_new (pc := 5) (ci := 6) (fs := [.null, .null, .int 0, .int 0, .int 0, .int 0]) (C := RX6) (T := TX6) (N := 6) X inX7_init_6 tyX6 tyX6_ok (by decide +kernel) (by decide +kernel) (by decide +kernel) rfl (fun j hj => by rcases (show j = 0 ∨ j = 1 ∨ j = 2 ∨ j = 3 ∨ j = 4 ∨ j = 5 by omega) with rfl | rfl | rfl | rfl | rfl | rfl <;> rfl) (Nat.le_of_ble_eq_true rfl) (Nat.le_of_ble_eq_true rfl) dX7_init_5 (fun q1 => ?_)
  refine ww_dup (pc := 8) X dX7_init_8 rfl ?_
  refine ww_cIN (R := (headSpec wsX7_init { frames := 2, cells := 62, slots := 2115, locals := 32 }).room) (k9 := 1) (n9 := 6) (pc := 9) (ws := [(h0, .inr (7, [.null, .null, .null, .null, .null, .null, .null, .null, .int 0]))]) (rest := [.ref q1, .ref h0]) X (Zc_ok cI cZ cQ) hZ (c_X6_init l D cI cZ cQ q1) gX7_init_X6_init_n9 rfl rfl rfl hZ.2.2.1 (by decide +kernel) (by decide +kernel) rfl (by decide +kernel) (by exact ⟨Nat.le_of_ble_eq_true rfl, Nat.le_of_ble_eq_true rfl⟩) (Nat.le_of_ble_eq_true rfl) (by exact ⟨Nat.le_of_ble_eq_true rfl, Nat.le_of_ble_eq_true rfl⟩) dX7_init_9 (fun r1 hr1 => ?_)
  subst hr1
  refine ww_putF (pc := 12) (ci := 7) (v := .ref (r1 0)) (C := RX7) (T := TX7) (N := 9) (ws' := [(h0, .inr (7, [.ref (r1 0), .null, .null, .null, .null, .null, .null, .null, .int 0]))] ++ wX6 cI cZ cQ r1 S06) X inX7_init_7 tyX7 tyX7_ok nmX7 0 rfl rfl 0 (by decide) (by decide +kernel) rfl hin rfl rfl rfl (Nat.le_of_ble_eq_true rfl) rfl dX7_init_12 ?_
  refine ww_aload_n (pc := 15) X dX7_init_15 0 rfl rfl ?_
  refine ww_new (pc := 16) (ci := 5) (fs := [.int 0, .int 0, .int 0, .int 0, .int 0, .null, .null, .null, .null, .null, .null]) (C := RX5) (T := TX5) (N := 11) X inX7_init_5 tyX5 tyX5_ok (by decide +kernel) (by decide +kernel) (by decide +kernel) rfl (fun j hj => by rcases (show j = 0 ∨ j = 1 ∨ j = 2 ∨ j = 3 ∨ j = 4 ∨ j = 5 ∨ j = 6 ∨ j = 7 ∨ j = 8 ∨ j = 9 ∨ j = 10 by omega) with rfl | rfl | rfl | rfl | rfl | rfl | rfl | rfl | rfl | rfl | rfl <;> rfl) (Nat.le_of_ble_eq_true rfl) (Nat.le_of_ble_eq_true rfl) dX7_init_16 (fun q2 => ?_)
  refine ww_dup (pc := 19) X dX7_init_19 rfl ?_
  refine ww_cIN (R := (headSpec wsX7_init { frames := 2, cells := 62, slots := 2115, locals := 32 }).room) (k9 := 4) (n9 := 260) (pc := 20) (ws := [(h0, .inr (7, [.ref (r1 0), .null, .null, .null, .null, .null, .null, .null, .int 0]))] ++ wX6 cI cZ cQ r1 S06) (rest := [.ref q2, .ref h0]) X (Zc_ok cI cZ cQ) hZ (c_X5_init l D cI cZ cQ q2) gX7_init_X5_init_n18 rfl rfl rfl hZ.2.2.2.1 (by decide +kernel) (by decide +kernel) rfl (by decide +kernel) (by exact ⟨Nat.le_of_ble_eq_true rfl, Nat.le_of_ble_eq_true rfl⟩) (Nat.le_of_ble_eq_true rfl) (by exact ⟨Nat.le_of_ble_eq_true rfl, Nat.le_of_ble_eq_true rfl⟩) dX7_init_20 (fun r2 hr2 => ?_)
  subst hr2
  refine ww_put (pc := 23) (ci := 7) (v := .ref (r2 0)) (C := RX7) (T := TX7) (N := 9) (ws' := [(h0, .inr (7, [.ref (r1 0), .ref (r2 0), .null, .null, .null, .null, .null, .null, .int 0]))] ++ wX6 cI cZ cQ r1 S06 ++ wX5 cI cZ cQ r2 S00) X inX7_init_7 tyX7 tyX7_ok nmX7 0 rfl rfl 1 (by decide) (by decide +kernel) rfl rfl rfl (Nat.le_of_ble_eq_true rfl) rfl dX7_init_23 ?_
  refine ww_aload_n (pc := 26) X dX7_init_26 0 rfl rfl ?_
  refine ww_new (pc := 27) (ci := 5) (fs := [.int 0, .int 0, .int 0, .int 0, .int 0, .null, .null, .null, .null, .null, .null]) (C := RX5) (T := TX5) (N := 11) X inX7_init_5 tyX5 tyX5_ok (by decide +kernel) (by decide +kernel) (by decide +kernel) rfl (fun j hj => by rcases (show j = 0 ∨ j = 1 ∨ j = 2 ∨ j = 3 ∨ j = 4 ∨ j = 5 ∨ j = 6 ∨ j = 7 ∨ j = 8 ∨ j = 9 ∨ j = 10 by omega) with rfl | rfl | rfl | rfl | rfl | rfl | rfl | rfl | rfl | rfl | rfl <;> rfl) (Nat.le_of_ble_eq_true rfl) (Nat.le_of_ble_eq_true rfl) dX7_init_27 (fun q3 => ?_)
  refine ww_dup (pc := 30) X dX7_init_30 rfl ?_
  refine ww_cIN (R := (headSpec wsX7_init { frames := 2, cells := 62, slots := 2115, locals := 32 }).room) (k9 := 11) (n9 := 307) (pc := 31) (ws := [(h0, .inr (7, [.ref (r1 0), .ref (r2 0), .null, .null, .null, .null, .null, .null, .int 0]))] ++ wX6 cI cZ cQ r1 S06 ++ wX5 cI cZ cQ r2 S00) (rest := [.ref q3, .ref h0]) X (Zc_ok cI cZ cQ) hZ (c_X5_init l D cI cZ cQ q3) gX7_init_X5_init_n18 rfl rfl rfl hZ.2.2.2.1 (by decide +kernel) (by decide +kernel) rfl (by decide +kernel) (by exact ⟨Nat.le_of_ble_eq_true rfl, Nat.le_of_ble_eq_true rfl⟩) (Nat.le_of_ble_eq_true rfl) (by exact ⟨Nat.le_of_ble_eq_true rfl, Nat.le_of_ble_eq_true rfl⟩) dX7_init_31 (fun r3 hr3 => ?_)
  subst hr3
  refine ww_put (pc := 34) (ci := 7) (v := .ref (r3 0)) (C := RX7) (T := TX7) (N := 9) (ws' := [(h0, .inr (7, [.ref (r1 0), .ref (r2 0), .ref (r3 0), .null, .null, .null, .null, .null, .int 0]))] ++ wX6 cI cZ cQ r1 S06 ++ wX5 cI cZ cQ r2 S00 ++ wX5 cI cZ cQ r3 S00) X inX7_init_7 tyX7 tyX7_ok nmX7 0 rfl rfl 2 (by decide) (by decide +kernel) rfl rfl rfl (Nat.le_of_ble_eq_true rfl) rfl dX7_init_34 ?_
  refine ww_aload_n (pc := 37) X dX7_init_37 0 rfl rfl ?_
  refine ww_new (pc := 38) (ci := 3) (fs := [.null]) (C := RX3) (T := TX3) (N := 1) X inX7_init_3 tyX3 tyX3_ok (by decide +kernel) (by decide +kernel) (by decide +kernel) rfl (fun j hj => by rw [show j = 0 by omega]; rfl) (Nat.le_of_ble_eq_true rfl) (Nat.le_of_ble_eq_true rfl) dX7_init_38 (fun q4 => ?_)
  refine ww_dup (pc := 41) X dX7_init_41 rfl ?_
  refine ww_cIN (R := (headSpec wsX7_init { frames := 2, cells := 62, slots := 2115, locals := 32 }).room) (k9 := 18) (n9 := 344) (pc := 42) (ws := [(h0, .inr (7, [.ref (r1 0), .ref (r2 0), .ref (r3 0), .null, .null, .null, .null, .null, .int 0]))] ++ wX6 cI cZ cQ r1 S06 ++ wX5 cI cZ cQ r2 S00 ++ wX5 cI cZ cQ r3 S00) (rest := [.ref q4, .ref h0]) X (Zc_ok cI cZ cQ) hZ (c_X3_init l D cI cZ cQ q4) gX7_init_X3_init_n28 rfl rfl rfl hZ.2.2.2.2.1 (by decide +kernel) (by decide +kernel) rfl (by decide +kernel) (by exact ⟨Nat.le_of_ble_eq_true rfl, Nat.le_of_ble_eq_true rfl⟩) (Nat.le_of_ble_eq_true rfl) (by exact ⟨Nat.le_of_ble_eq_true rfl, Nat.le_of_ble_eq_true rfl⟩) dX7_init_42 (fun r4 hr4 => ?_)
  subst hr4
  refine ww_putF (pc := 45) (ci := 7) (v := .ref (r4 0)) (C := RX7) (T := TX7) (N := 9) (ws' := [(h0, .inr (7, [.ref (r1 0), .ref (r2 0), .ref (r3 0), .ref (r4 0), .null, .null, .null, .null, .int 0]))] ++ wX6 cI cZ cQ r1 S06 ++ wX5 cI cZ cQ r2 S00 ++ wX5 cI cZ cQ r3 S00 ++ wX3 cI cZ cQ r4 S00) X inX7_init_7 tyX7 tyX7_ok nmX7 0 rfl rfl 3 (by decide) (by decide +kernel) rfl hin rfl rfl rfl (Nat.le_of_ble_eq_true rfl) rfl dX7_init_45 ?_
  refine ww_aload_n (pc := 48) X dX7_init_48 0 rfl rfl ?_
  refine ww_new (pc := 49) (ci := 4) (fs := [.null, .int 0, .int 0]) (C := RX4) (T := TX4) (N := 3) X inX7_init_4 tyX4 tyX4_ok (by decide +kernel) (by decide +kernel) (by decide +kernel) rfl (fun j hj => by rcases (show j = 0 ∨ j = 1 ∨ j = 2 by omega) with rfl | rfl | rfl <;> rfl) (Nat.le_of_ble_eq_true rfl) (Nat.le_of_ble_eq_true rfl) dX7_init_49 (fun q5 => ?_)
  refine ww_dup (pc := 52) X dX7_init_52 rfl ?_
  refine ww_cIN (R := (headSpec wsX7_init { frames := 2, cells := 62, slots := 2115, locals := 32 }).room) (k9 := 20) (n9 := 382) (pc := 53) (ws := [(h0, .inr (7, [.ref (r1 0), .ref (r2 0), .ref (r3 0), .ref (r4 0), .null, .null, .null, .null, .int 0]))] ++ wX6 cI cZ cQ r1 S06 ++ wX5 cI cZ cQ r2 S00 ++ wX5 cI cZ cQ r3 S00 ++ wX3 cI cZ cQ r4 S00) (rest := [.ref q5, .ref h0]) X (Zc_ok cI cZ cQ) hZ (c_X4_init l D cI cZ cQ q5) gX7_init_X4_init_n35 rfl rfl rfl hZ.2.2.2.2.2.1 (by decide +kernel) (by decide +kernel) rfl (by decide +kernel) (by exact ⟨Nat.le_of_ble_eq_true rfl, Nat.le_of_ble_eq_true rfl⟩) (Nat.le_of_ble_eq_true rfl) (by exact ⟨Nat.le_of_ble_eq_true rfl, Nat.le_of_ble_eq_true rfl⟩) dX7_init_53 (fun r5 hr5 => ?_)
  subst hr5
  refine ww_putF (pc := 56) (ci := 7) (v := .ref (r5 0)) (C := RX7) (T := TX7) (N := 9) (ws' := [(h0, .inr (7, [.ref (r1 0), .ref (r2 0), .ref (r3 0), .ref (r4 0), .ref (r5 0), .null, .null, .null, .int 0]))] ++ wX6 cI cZ cQ r1 S06 ++ wX5 cI cZ cQ r2 S00 ++ wX5 cI cZ cQ r3 S00 ++ wX3 cI cZ cQ r4 S00 ++ wX4 cI cZ cQ r5 S00) X inX7_init_7 tyX7 tyX7_ok nmX7 0 rfl rfl 4 (by decide) (by decide +kernel) rfl hin rfl rfl rfl (Nat.le_of_ble_eq_true rfl) rfl dX7_init_56 ?_
  refine ww_aload_n (pc := 59) X dX7_init_59 0 rfl rfl ?_
  refine ww_new (pc := 60) (ci := 2) (fs := [.null, .null, .null]) (C := RX2) (T := TX2) (N := 3) X inX7_init_2 tyX2 tyX2_ok (by decide +kernel) (by decide +kernel) (by decide +kernel) rfl (fun j hj => by rcases (show j = 0 ∨ j = 1 ∨ j = 2 by omega) with rfl | rfl | rfl <;> rfl) (Nat.le_of_ble_eq_true rfl) (Nat.le_of_ble_eq_true rfl) dX7_init_60 (fun q6 => ?_)
  refine ww_dup (pc := 63) X dX7_init_63 rfl ?_
  refine ww_cIN (R := (headSpec wsX7_init { frames := 2, cells := 62, slots := 2115, locals := 32 }).room) (k9 := 42) (n9 := 1105) (pc := 64) (ws := [(h0, .inr (7, [.ref (r1 0), .ref (r2 0), .ref (r3 0), .ref (r4 0), .ref (r5 0), .null, .null, .null, .int 0]))] ++ wX6 cI cZ cQ r1 S06 ++ wX5 cI cZ cQ r2 S00 ++ wX5 cI cZ cQ r3 S00 ++ wX3 cI cZ cQ r4 S00 ++ wX4 cI cZ cQ r5 S00) (rest := [.ref q6, .ref h0]) X (Zc_ok cI cZ cQ) hZ (c_X2_init l D cI cZ cQ q6) gX7_init_X2_init_n42 rfl rfl rfl hZ.2.2.2.2.2.2.1 (by decide +kernel) (by decide +kernel) rfl (by decide +kernel) (by exact ⟨Nat.le_of_ble_eq_true rfl, Nat.le_of_ble_eq_true rfl⟩) (Nat.le_of_ble_eq_true rfl) (by exact ⟨Nat.le_of_ble_eq_true rfl, Nat.le_of_ble_eq_true rfl⟩) dX7_init_64 (fun r6 hr6 => ?_)
  subst hr6
  refine ww_putF (pc := 67) (ci := 7) (v := .ref (r6 0)) (C := RX7) (T := TX7) (N := 9) (ws' := [(h0, .inr (7, [.ref (r1 0), .ref (r2 0), .ref (r3 0), .ref (r4 0), .ref (r5 0), .ref (r6 0), .null, .null, .int 0]))] ++ wX6 cI cZ cQ r1 S06 ++ wX5 cI cZ cQ r2 S00 ++ wX5 cI cZ cQ r3 S00 ++ wX3 cI cZ cQ r4 S00 ++ wX4 cI cZ cQ r5 S00 ++ wX2 cI cZ cQ r6 S00) X inX7_init_7 tyX7 tyX7_ok nmX7 0 rfl rfl 5 (by decide) (by decide +kernel) rfl hin rfl rfl rfl (Nat.le_of_ble_eq_true rfl) rfl dX7_init_67 ?_
  refine ww_aload_n (pc := 70) X dX7_init_70 0 rfl rfl ?_
  refine ww_new (pc := 71) (ci := 1) (fs := [.null, .null, .null, .int 0, .null, .int 0, .null, .int 0, .int 0]) (C := RX1) (T := TX1) (N := 9) X inX7_init_1 tyX1 tyX1_ok (by decide +kernel) (by decide +kernel) (by decide +kernel) rfl (fun j hj => by rcases (show j = 0 ∨ j = 1 ∨ j = 2 ∨ j = 3 ∨ j = 4 ∨ j = 5 ∨ j = 6 ∨ j = 7 ∨ j = 8 by omega) with rfl | rfl | rfl | rfl | rfl | rfl | rfl | rfl | rfl <;> rfl) (Nat.le_of_ble_eq_true rfl) (Nat.le_of_ble_eq_true rfl) dX7_init_71 (fun q7 => ?_)
  refine ww_dup (pc := 74) X dX7_init_74 rfl ?_
  refine ww_cIN (R := (headSpec wsX7_init { frames := 2, cells := 62, slots := 2115, locals := 32 }).room) (k9 := 48) (n9 := 1190) (pc := 75) (ws := [(h0, .inr (7, [.ref (r1 0), .ref (r2 0), .ref (r3 0), .ref (r4 0), .ref (r5 0), .ref (r6 0), .null, .null, .int 0]))] ++ wX6 cI cZ cQ r1 S06 ++ wX5 cI cZ cQ r2 S00 ++ wX5 cI cZ cQ r3 S00 ++ wX3 cI cZ cQ r4 S00 ++ wX4 cI cZ cQ r5 S00 ++ wX2 cI cZ cQ r6 S00) (rest := [.ref q7, .ref h0]) X (Zc_ok cI cZ cQ) hZ (c_X1_init l D cI cZ cQ q7) gX7_init_X1_init_n49 rfl rfl rfl hZ.2.2.2.2.2.2.2.1 (by decide +kernel) (by decide +kernel) rfl (by decide +kernel) (by exact ⟨Nat.le_of_ble_eq_true rfl, Nat.le_of_ble_eq_true rfl⟩) (Nat.le_of_ble_eq_true rfl) (by exact ⟨Nat.le_of_ble_eq_true rfl, Nat.le_of_ble_eq_true rfl⟩) dX7_init_75 (fun r7 hr7 => ?_)
  subst hr7
  refine ww_putF (pc := 78) (ci := 7) (v := .ref (r7 0)) (C := RX7) (T := TX7) (N := 9) (ws' := [(h0, .inr (7, [.ref (r1 0), .ref (r2 0), .ref (r3 0), .ref (r4 0), .ref (r5 0), .ref (r6 0), .ref (r7 0), .null, .int 0]))] ++ wX6 cI cZ cQ r1 S06 ++ wX5 cI cZ cQ r2 S00 ++ wX5 cI cZ cQ r3 S00 ++ wX3 cI cZ cQ r4 S00 ++ wX4 cI cZ cQ r5 S00 ++ wX2 cI cZ cQ r6 S00 ++ wX1 cI cZ cQ r7 S00) X inX7_init_7 tyX7 tyX7_ok nmX7 0 rfl rfl 6 (by decide) (by decide +kernel) rfl hin rfl rfl rfl (Nat.le_of_ble_eq_true rfl) rfl dX7_init_78 ?_
  refine ww_aload_n (pc := 81) X dX7_init_81 0 rfl rfl ?_
  refine ww_new (pc := 82) (ci := 0) (fs := [.null, .null, .int 0]) (C := RX0) (T := TX0) (N := 3) X inX7_init_0 tyX0 tyX0_ok (by decide +kernel) (by decide +kernel) (by decide +kernel) rfl (fun j hj => by rcases (show j = 0 ∨ j = 1 ∨ j = 2 by omega) with rfl | rfl | rfl <;> rfl) (Nat.le_of_ble_eq_true rfl) (Nat.le_of_ble_eq_true rfl) dX7_init_82 (fun q8 => ?_)
  refine ww_dup (pc := 85) X dX7_init_85 rfl ?_
  refine ww_cIN (R := (headSpec wsX7_init { frames := 2, cells := 62, slots := 2115, locals := 32 }).room) (k9 := 60) (n9 := 2085) (pc := 86) (ws := [(h0, .inr (7, [.ref (r1 0), .ref (r2 0), .ref (r3 0), .ref (r4 0), .ref (r5 0), .ref (r6 0), .ref (r7 0), .null, .int 0]))] ++ wX6 cI cZ cQ r1 S06 ++ wX5 cI cZ cQ r2 S00 ++ wX5 cI cZ cQ r3 S00 ++ wX3 cI cZ cQ r4 S00 ++ wX4 cI cZ cQ r5 S00 ++ wX2 cI cZ cQ r6 S00 ++ wX1 cI cZ cQ r7 S00) (rest := [.ref q8, .ref h0]) X (Zc_ok cI cZ cQ) hZ (c_X0_init l D cI cZ cQ q8) gX7_init_X0_init_n56 rfl rfl rfl hZ.2.2.2.2.2.2.2.2 (by decide +kernel) (by decide +kernel) rfl (by decide +kernel) (by exact ⟨Nat.le_of_ble_eq_true rfl, Nat.le_of_ble_eq_true rfl⟩) (Nat.le_of_ble_eq_true rfl) (by exact ⟨Nat.le_of_ble_eq_true rfl, Nat.le_of_ble_eq_true rfl⟩) dX7_init_86 (fun r8 hr8 => ?_)
  subst hr8
  refine ww_putF (pc := 89) (ci := 7) (v := .ref (r8 0)) (C := RX7) (T := TX7) (N := 9) (ws' := [(h0, .inr (7, [.ref (r1 0), .ref (r2 0), .ref (r3 0), .ref (r4 0), .ref (r5 0), .ref (r6 0), .ref (r7 0), .ref (r8 0), .int 0]))] ++ wX6 cI cZ cQ r1 S06 ++ wX5 cI cZ cQ r2 S00 ++ wX5 cI cZ cQ r3 S00 ++ wX3 cI cZ cQ r4 S00 ++ wX4 cI cZ cQ r5 S00 ++ wX2 cI cZ cQ r6 S00 ++ wX1 cI cZ cQ r7 S00 ++ wX0 cI cZ cQ r8 S00) X inX7_init_7 tyX7 tyX7_ok nmX7 0 rfl rfl 7 (by decide) (by decide +kernel) rfl hin rfl rfl rfl (Nat.le_of_ble_eq_true rfl) rfl dX7_init_89 ?_
  obtain ⟨g, e0, e1, e2, e3, e4, e5, e6, e7, e8⟩ : ∃ g : Nat → Nat → Nat, g 0 0 = h0 ∧ g 1 = r1 ∧ g 2 = r2 ∧ g 3 = r3 ∧ g 4 = r4 ∧ g 5 = r5 ∧ g 6 = r6 ∧ g 7 = r7 ∧ g 8 = r8 := ⟨fun k => if k = 0 then (fun _ => h0) else if k = 1 then r1 else if k = 2 then r2 else if k = 3 then r3 else if k = 4 then r4 else if k = 5 then r5 else if k = 6 then r6 else if k = 7 then r7 else r8, rfl, rfl, rfl, rfl, rfl, rfl, rfl, rfl, rfl⟩
  subst e0
  subst e1
  subst e2
  subst e3
  subst e4
  subst e5
  subst e6
  subst e7
  subst e8
  exact ww_vretw X hr g rfl rfl dX7_init_92
