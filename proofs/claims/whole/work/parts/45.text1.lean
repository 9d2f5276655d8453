/-- the model's reader: the place is within the letters -/
def okT (S : St) : Prop := ¬ S.1 0 < 0 ∧ S.1 0 ≤ 240 ∧ ¬ S.1 6 < 0 ∧ S.1 6 ≤ S.1 0
theorem okT_b {S : St} (h : okT S) : (S.1 6).toNatClampNeg ≤ 240 := by
  refine cl_le (N := 240) ?_ rfl (by decide)
  have h1 := h.2.1
  have h2 := h.2.2.2
  rw [Int32.le_iff_toInt_le] at h1 h2 ⊢
  omega
theorem inc_cl {x y : Int32} (h0 : ¬ x < 0) (h1 : x < y) : (x + 1).toNatClampNeg = x.toNatClampNeg + 1 ∧ ¬ x + 1 < 0 ∧ x + 1 ≤ y := by
  obtain ⟨j, hj, rfl⟩ := nI_of h0
  have h2 : (0 : Int32) ≤ y := Int32.le_of_lt (Int32.lt_of_le_of_lt (nI_pos' hj) h1)
  obtain ⟨k, hk, rfl⟩ := nI_of (Int32.not_lt.mpr h2)
  have h3 : j < k := (nI_ltI hj hk).mp h1
  rw [nI_1, nI_clamp (by omega), nI_clamp hj]
  exact ⟨rfl, nI_pos (by omega), nI_le (by omega) hk⟩
theorem lk_lt {S : St} {v : Int32} (c : f_X8_look S = v) (hv : ¬ v = -1) : S.1 6 < S.1 0 := by
  unfold f_X8_look at c
  split at c
  · exact absurd c.symm hv
  · exact Int32.not_le.mp (by assumption)
theorem okT_inc {S : St} (h : okT S) (hl : S.1 6 < S.1 0) : okT (sI S 6 ((S.1 6) + 1)) ∧ ((sI S 6 ((S.1 6) + 1)).1 6).toNatClampNeg = (S.1 6).toNatClampNeg + 1 := by
  obtain ⟨h1, h2, h3⟩ := inc_cl h.2.2.1 hl
  refine ⟨⟨h.1, h.2.1, ?_, ?_⟩, ?_⟩
  · rw [sI_eq]; exact h2
  · rw [sI_eq, sI_ne (by decide)]; exact h3
  · rw [sI_eq]; exact h1
theorem sp_step {S : St} {k : Nat} (hi : okT S ∧ 241 ≤ (S.1 6).toNatClampNeg + (k + 1)) (c : f_X8_look S = 32) : okT (sI S 6 ((S.1 6) + 1)) ∧ 241 ≤ ((sI S 6 ((S.1 6) + 1)).1 6).toNatClampNeg + k := by
  obtain ⟨h1, h2⟩ := okT_inc hi.1 (lk_lt c (by decide))
  exact ⟨h1, by omega⟩
theorem dg_lt {S : St} (c : ¬ f_X8_in (f_X8_look S) 48 57 = 0) : S.1 6 < S.1 0 := by
  refine lk_lt rfl (fun e => c ?_)
  rw [e]
  decide
theorem nm_step {S : St} {k : Nat} (hi : okT S ∧ 241 ≤ (S.1 6).toNatClampNeg + (k + 1)) (c : ¬ f_X8_in (f_X8_look S) 48 57 = 0) : okT (sI S 6 ((S.1 6) + 1)) ∧ 241 ≤ ((sI S 6 ((S.1 6) + 1)).1 6).toNatClampNeg + k := by
  obtain ⟨h1, h2⟩ := okT_inc hi.1 (dg_lt c)
  exact ⟨h1, by omega⟩
/-- what a reader's step leaves as it was: all rows, the letters, all but place and fault -/
def kT (S S' : St) : Prop := okT S' ∧ S'.2 = S.2 ∧ ∀ k : Nat, k ≠ 6 → k ≠ 7 → S'.1 k = S.1 k
theorem kT_rf {S : St} (h : okT S) : kT S S := ⟨h, rfl, fun _ _ _ => rfl⟩
theorem kT_t {S T U : St} (h : kT S T) (g : kT T U) : kT S U := ⟨g.1, g.2.1.trans h.2.1, fun k a b => (g.2.2 k a b).trans (h.2.2 k a b)⟩
theorem kT_inc {S : St} (h : okT S) (hl : S.1 6 < S.1 0) : kT S (sI S 6 ((S.1 6) + 1)) := ⟨(okT_inc h hl).1, rfl, fun _ a _ => sI_ne a⟩
theorem kT_7 {S : St} (h : okT S) (v : Int32) : kT S (sI S 7 v) := ⟨⟨h.1, h.2.1, h.2.2.1, h.2.2.2⟩, rfl, fun _ _ a => sI_ne a⟩
def lb_X8_skips_0  (rec : (St) → St) (u : St) : St :=
  if (u.1 7) = 0 then
    if (f_X8_look u) = 32 then
      rec (sI u 6 ((u.1 6) + 1))
    else
      u
  else
    u
def lp_X8_skips_0  : Nat → (St) → St
  | 0, u => u
  | k + 1, u => lb_X8_skips_0  (lp_X8_skips_0  k) u
def f_X8_skips (SM : St) : St :=
  lp_X8_skips_0  241 SM
theorem oT_lps : ∀ (k : Nat) (S : St), okT S → kT S (lp_X8_skips_0 k S)
  | 0, S, h => kT_rf h
  | k + 1, S, h => by
    show kT S (lb_X8_skips_0 (lp_X8_skips_0 k) S)
    unfold lb_X8_skips_0
    repeat' split
    all_goals first | exact kT_rf h | exact kT_t (kT_inc h (lk_lt (by assumption) (by decide))) (oT_lps k _ (kT_inc h (lk_lt (by assumption) (by decide))).1)
theorem oT_skips {S : St} (h : okT S) : kT S (f_X8_skips S) := oT_lps 241 S h
theorem inX8_skips_8 : ∀ w ∈ wsX80, w ∈ wsX8_skips := by decide +kernel
theorem hd_X8_skips : yX8_skips.cls = RX8 ∧ yX8_skips.cls ≠ "java/lang/invoke/MethodHandle" ∧ yX8_skips.cls ≠ "java/lang/invoke/VarHandle" ∧ (parseMethodDescriptor yX8_skips.desc).map (fun d => d.parameters.length) = some 0 := by decide +kernel
set_option maxHeartbeats 4000000 in
set_option maxRecDepth 100000 in
theorem c_X8_skips (l : Launch) (D : va_G) (cI cZ cQ : ClassId) (rM : Nat → Nat) (SM : St) (okt : okT SM) : Cv l yX8_skips wsX8_skips { frames := 1, cells := 0, slots := 0, locals := 20 } D (tyL cI cZ cQ) [.ref (rM 0)] (fl [wX8 cI cZ cQ rM SM]) (fl [wX8 cI cZ cQ rM (f_X8_skips SM)]) := by
  refine cv_of (cc := cX8_skips) (nL := 1) (lv0 := [(0, .ref (rM 0))]) (by decide) rfl (Nat.le_of_ble_eq_true rfl) rfl ?_
  intro p e s m args below meth c A X hr
  have L0 : ∀ (k_0 : Nat) (u_0 : St), (okT u_0 ∧ 241 ≤ (u_0.1 6).toNatClampNeg + k_0) → f_X8_skips SM = lp_X8_skips_0  k_0 u_0 → WW p l e (headSpec wsX8_skips { frames := 1, cells := 0, slots := 0, locals := 20 }).room s m args below meth c 1 D A 0 0 (RQv below args s D A (fl [wX8 cI cZ cQ rM (f_X8_skips SM)])) (fl [wX8 cI cZ cQ rM u_0]) [(0, .ref (rM 0))] 0 [] := by
    intro k_0
    induction k_0 with
    | zero =>
      intro u_0 hi hf
      exact absurd hi.2 (by have := okT_b hi.1; omega)
    | succ k_0 ih =>
      intro u_0 hi hf
      refine ww_aload_n (pc := 0) X dX8_skips_0 0 rfl rfl ?_
      refine ww_get (pc := 1) (ci := 8) (v := .int (u_0.1 7)) (C := RX8) (T := TX8) (N := 27) X inX8_skips_8 0 rfl rfl 23 (by decide) (by decide +kernel) rfl dX8_skips_1 ?_
      refine ww_if_ne (pc := 4) (tgt := 29) X dX8_skips_4 (by decide) (fun c7 => ?_) (fun c7 => ?_)
      · have h8 : f_X8_skips SM = u_0 := by rw [hf]; show lb_X8_skips_0  (lp_X8_skips_0  k_0) u_0 = _; unfold lb_X8_skips_0; try rw [if_neg c7]; first | done | rfl
        have hw9 := congrArg (fun u9 : St => fl [wX8 cI cZ cQ rM u9]) h8.symm
        exact ww_vret X hr hw9 dX8_skips_29
      · refine ww_aload_n (pc := 7) X dX8_skips_7 0 rfl rfl ?_
        refine ww_gVi (pc := 8) (rest := []) (gsN := [wX8 cI cZ cQ rM u_0]) (ci := 8) (gi := 0) (qi := 0) X (c_X8_look l D cI cZ cQ rM u_0 hi.1.2.2.1 hi.1.2.1) gX8_skips_X8_look rfl hd_X8_look [true] rfl rfl rfl rfl rfl rfl rfl rfl ⟨rfl, rfl⟩ ⟨Nat.le_of_ble_eq_true rfl, Nat.le_of_ble_eq_true rfl⟩ (Nat.le_of_ble_eq_true rfl) ⟨Nat.zero_le _, Nat.zero_le _⟩ dX8_skips_8 ?_
        refine ww_bipush (pc := 11) (v := 32) X dX8_skips_11 (by decide) ?_
        refine ww_icmp_ne (pc := 13) (tgt := 29) X dX8_skips_13 (by decide) (fun c10 => ?_) (fun c10 => ?_)
        · have h11 : f_X8_skips SM = u_0 := by rw [hf]; show lb_X8_skips_0  (lp_X8_skips_0  k_0) u_0 = _; unfold lb_X8_skips_0; try rw [if_pos c7, if_neg c10]; first | done | rfl
          have hw12 := congrArg (fun u9 : St => fl [wX8 cI cZ cQ rM u9]) h11.symm
          exact ww_vret X hr hw12 dX8_skips_29
        · refine ww_aload_n (pc := 16) X dX8_skips_16 0 rfl rfl ?_
          refine ww_dup (pc := 17) X dX8_skips_17 rfl ?_
          refine ww_get (pc := 18) (ci := 8) (v := .int (u_0.1 6)) (C := RX8) (T := TX8) (N := 27) X inX8_skips_8 0 rfl rfl 22 (by decide) (by decide +kernel) rfl dX8_skips_18 ?_
          refine ww_iconst (pc := 21) (v := 1) X dX8_skips_21 (by decide) ?_
          refine ww_iadd (pc := 22) X dX8_skips_22 ?_
          refine ww_put (pc := 23) (ci := 8) (v := .int ((u_0.1 6) + 1)) (C := RX8) (T := TX8) (N := 27) (ws' := fl [wX8 cI cZ cQ rM (sI u_0 6 ((u_0.1 6) + 1))]) X inX8_skips_8 tyX8 tyX8_ok nmX8 0 rfl rfl 22 (by decide) (by decide +kernel) rfl rfl rfl (Nat.le_of_ble_eq_true rfl) (pt8a_6 _ _ _ _ _ _) dX8_skips_23 ?_
          refine ww_goto (pc := 26) (tgt := 0) X dX8_skips_26 (by decide) ?_
          refine ww_lsub [0] rfl ?_
          have h13 : f_X8_skips SM = lp_X8_skips_0  k_0 (sI u_0 6 ((u_0.1 6) + 1)) := by rw [hf]; show lb_X8_skips_0  (lp_X8_skips_0  k_0) u_0 = _; unfold lb_X8_skips_0; try rw [if_pos c7, if_pos c10]; first | done | rfl
          exact ih (sI u_0 6 ((u_0.1 6) + 1)) (sp_step hi c10) h13
  refine ww_lsub [0] rfl ?_
  exact L0 241 SM ⟨okt, by omega⟩ (by unfold f_X8_skips; first | done | rfl)
def f_X8_stops_k2 (SM : St) (z1 : St) (z6 : St) : St :=
  z6
def f_X8_stops_k1 (SM : St) (z1 : St) : St :=
  if (z1.1 7) = 0 then
    if (f_X8_look z1) = 59 then
      (sI z1 6 ((z1.1 6) + 1))
    else
      f_X8_stops_k2 SM z1 (f_X8_fails z1 1)
  else
    z1
def f_X8_stops (SM : St) : St :=
  f_X8_stops_k1 SM (f_X8_skips SM)
theorem inX8_stops_8 : ∀ w ∈ wsX80, w ∈ wsX8_stops := by decide +kernel
theorem hd_X8_stops : yX8_stops.cls = RX8 ∧ yX8_stops.cls ≠ "java/lang/invoke/MethodHandle" ∧ yX8_stops.cls ≠ "java/lang/invoke/VarHandle" ∧ (parseMethodDescriptor yX8_stops.desc).map (fun d => d.parameters.length) = some 0 := by decide +kernel
set_option maxHeartbeats 4000000 in
set_option maxRecDepth 100000 in
theorem c_X8_stops (l : Launch) (D : va_G) (cI cZ cQ : ClassId) (rM : Nat → Nat) (SM : St) (okt : okT SM) : Cv l yX8_stops wsX8_stops { frames := 2, cells := 0, slots := 0, locals := 40 } D (tyL cI cZ cQ) [.ref (rM 0)] (fl [wX8 cI cZ cQ rM SM]) (fl [wX8 cI cZ cQ rM (f_X8_stops SM)]) := by
  refine cv_of (cc := cX8_stops) (nL := 1) (lv0 := [(0, .ref (rM 0))]) (by decide) rfl (Nat.le_of_ble_eq_true rfl) rfl ?_
  intro p e s m args below meth c A X hr
  refine ww_aload_n (pc := 0) X dX8_stops_0 0 rfl rfl ?_
  refine ww_gVv (pc := 1) (rest := []) (gsN := [wX8 cI cZ cQ rM (f_X8_skips SM)]) (ci := 8) (gi := 0) (qi := 0) X (c_X8_skips l D cI cZ cQ rM SM (by assumption)) gX8_stops_X8_skips rfl hd_X8_skips [true] rfl (acons (ad8 _ _ _ _ _ _) rfl) rfl rfl rfl rfl rfl rfl ⟨rfl, rfl⟩ ⟨Nat.le_of_ble_eq_true rfl, Nat.le_of_ble_eq_true rfl⟩ (Nat.le_of_ble_eq_true rfl) ⟨Nat.zero_le _, Nat.zero_le _⟩ dX8_stops_1 ?_
  generalize hz1 : (f_X8_skips SM) = z1
  have okz : okT z1 := by rw [← hz1]; exact (oT_skips okt).1
  refine ww_aload_n (pc := 4) X dX8_stops_4 0 rfl rfl ?_
  refine ww_get (pc := 5) (ci := 8) (v := .int (z1.1 7)) (C := RX8) (T := TX8) (N := 27) X inX8_stops_8 0 rfl rfl 23 (by decide) (by decide +kernel) rfl dX8_stops_5 ?_
  refine ww_if_ne (pc := 8) (tgt := 38) X dX8_stops_8 (by decide) (fun c2 => ?_) (fun c2 => ?_)
  · have h3 : f_X8_stops SM = z1 := by unfold f_X8_stops; try rw [hz1]; try unfold f_X8_stops_k1; try rw [if_neg c2]; first | done | rfl
    have hw4 := congrArg (fun u9 : St => fl [wX8 cI cZ cQ rM u9]) h3.symm
    exact ww_vret X hr hw4 dX8_stops_38
  · refine ww_aload_n (pc := 11) X dX8_stops_11 0 rfl rfl ?_
    refine ww_gVi (pc := 12) (rest := []) (gsN := [wX8 cI cZ cQ rM z1]) (ci := 8) (gi := 0) (qi := 0) X (c_X8_look l D cI cZ cQ rM z1 okz.2.2.1 okz.2.1) gX8_stops_X8_look rfl hd_X8_look [true] rfl rfl rfl rfl rfl rfl rfl rfl ⟨rfl, rfl⟩ ⟨Nat.le_of_ble_eq_true rfl, Nat.le_of_ble_eq_true rfl⟩ (Nat.le_of_ble_eq_true rfl) ⟨Nat.zero_le _, Nat.zero_le _⟩ dX8_stops_12 ?_
    refine ww_bipush (pc := 15) (v := 59) X dX8_stops_15 (by decide) ?_
    refine ww_icmp_ne (pc := 17) (tgt := 33) X dX8_stops_17 (by decide) (fun c5 => ?_) (fun c5 => ?_)
    · refine ww_aload_n (pc := 33) X dX8_stops_33 0 rfl rfl ?_
      refine ww_iconst (pc := 34) (v := 1) X dX8_stops_34 (by decide) ?_
      refine ww_gVv (pc := 35) (rest := []) (gsN := [wX8 cI cZ cQ rM (f_X8_fails z1 1)]) (ci := 8) (gi := 0) (qi := 0) X (c_X8_fails l D cI cZ cQ rM z1 1) gX8_stops_X8_fails rfl hd_X8_fails [true] rfl (acons (ad8 _ _ _ _ _ _) rfl) rfl rfl rfl rfl rfl rfl ⟨rfl, rfl⟩ ⟨Nat.le_of_ble_eq_true rfl, Nat.le_of_ble_eq_true rfl⟩ (Nat.le_of_ble_eq_true rfl) ⟨Nat.zero_le _, Nat.zero_le _⟩ dX8_stops_35 ?_
      generalize hz6 : (f_X8_fails z1 1) = z6
      have h7 : f_X8_stops SM = z6 := by unfold f_X8_stops; try rw [hz1]; try unfold f_X8_stops_k1; try rw [if_pos c2, if_neg c5, hz6]; try unfold f_X8_stops_k2; first | done | rfl
      have hw8 := congrArg (fun u9 : St => fl [wX8 cI cZ cQ rM u9]) h7.symm
      exact ww_vret X hr hw8 dX8_stops_38
    · refine ww_aload_n (pc := 20) X dX8_stops_20 0 rfl rfl ?_
      refine ww_dup (pc := 21) X dX8_stops_21 rfl ?_
      refine ww_get (pc := 22) (ci := 8) (v := .int (z1.1 6)) (C := RX8) (T := TX8) (N := 27) X inX8_stops_8 0 rfl rfl 22 (by decide) (by decide +kernel) rfl dX8_stops_22 ?_
      refine ww_iconst (pc := 25) (v := 1) X dX8_stops_25 (by decide) ?_
      refine ww_iadd (pc := 26) X dX8_stops_26 ?_
      refine ww_put (pc := 27) (ci := 8) (v := .int ((z1.1 6) + 1)) (C := RX8) (T := TX8) (N := 27) (ws' := fl [wX8 cI cZ cQ rM (sI z1 6 ((z1.1 6) + 1))]) X inX8_stops_8 tyX8 tyX8_ok nmX8 0 rfl rfl 22 (by decide) (by decide +kernel) rfl rfl rfl (Nat.le_of_ble_eq_true rfl) (pt8a_6 _ _ _ _ _ _) dX8_stops_27 ?_
      refine ww_goto (pc := 30) (tgt := 38) X dX8_stops_30 (by decide) ?_
      have h9 : f_X8_stops SM = (sI z1 6 ((z1.1 6) + 1)) := by unfold f_X8_stops; try rw [hz1]; try unfold f_X8_stops_k1; try rw [if_pos c2, if_pos c5]; first | done | rfl
      have hw10 := congrArg (fun u9 : St => fl [wX8 cI cZ cQ rM u9]) h9.symm
      exact ww_vret X hr hw10 dX8_stops_38
def lb_X8_number_42_k1 (x1 : Int32) (x2 : Int32) (x3 : Int32) (rec : (St × Int32) → Int32 × St) (u : St × Int32) (z6 : St) : Int32 × St :=
  (u.2, z6)
def lb_X8_number_42_k2 (x1 : Int32) (x2 : Int32) (x3 : Int32) (rec : (St × Int32) → Int32 × St) (u : St × Int32) (z12 : St) : Int32 × St :=
  (u.2, z12)
def lb_X8_number_42 (x1 : Int32) (x2 : Int32) (x3 : Int32) (rec : (St × Int32) → Int32 × St) (u : St × Int32) : Int32 × St :=
  if (f_X8_in (f_X8_look u.1) 48 57) = 0 then
    if 4 < ((u.1.1 6) - x3) then
      lb_X8_number_42_k1 x1 x2 x3 rec u (f_X8_fails (sI u.1 6 x3) 2)
    else
      if (f_X8_in u.2 x1 x2) = 0 then
        lb_X8_number_42_k2 x1 x2 x3 rec u (f_X8_fails (sI u.1 6 x3) 2)
      else
        (u.2, u.1)
  else
    if 4 ≤ ((u.1.1 6) - x3) then
      rec ((sI u.1 6 ((u.1.1 6) + 1)), u.2)
    else
      rec ((sI u.1 6 ((u.1.1 6) + 1)), ((10 * u.2) + (f_X8_look u.1)) - 48)
def lp_X8_number_42 (x1 : Int32) (x2 : Int32) (x3 : Int32) : Nat → (St × Int32) → Int32 × St
  | 0, u => (0, u.1)
  | k + 1, u => lb_X8_number_42 x1 x2 x3 (lp_X8_number_42 x1 x2 x3 k) u
def f_X8_number_k2 (SM : St) (x1 : Int32) (x2 : Int32) (z1 : St) (z30 : St) : Int32 × St :=
  (0, z30)
def f_X8_number_k1 (SM : St) (x1 : Int32) (x2 : Int32) (z1 : St) : Int32 × St :=
  if (z1.1 7) = 0 then
    if (f_X8_in (f_X8_look z1) 48 57) = 0 then
      f_X8_number_k2 SM x1 x2 z1 (f_X8_fails z1 1)
    else
      lp_X8_number_42 x1 x2 (z1.1 6) 241 (z1, 0)
  else
    (0, z1)
def f_X8_number (SM : St) (x1 : Int32) (x2 : Int32) : Int32 × St :=
  f_X8_number_k1 SM x1 x2 (f_X8_skips SM)
theorem inX8_number_8 : ∀ w ∈ wsX80, w ∈ wsX8_number := by decide +kernel
theorem hd_X8_number : yX8_number.cls = RX8 ∧ yX8_number.cls ≠ "java/lang/invoke/MethodHandle" ∧ yX8_number.cls ≠ "java/lang/invoke/VarHandle" ∧ (parseMethodDescriptor yX8_number.desc).map (fun d => d.parameters.length) = some 2 := by decide +kernel
set_option maxHeartbeats 4000000 in
set_option maxRecDepth 100000 in
theorem c_X8_number (l : Launch) (D : va_G) (cI cZ cQ : ClassId) (rM : Nat → Nat) (SM : St) (x1 : Int32) (x2 : Int32) (okt : okT SM) : Ci l yX8_number wsX8_number { frames := 2, cells := 0, slots := 0, locals := 40 } D (tyL cI cZ cQ) [.ref (rM 0), .int x1, .int x2] (fl [wX8 cI cZ cQ rM SM]) ((f_X8_number SM x1 x2).1) (fl [wX8 cI cZ cQ rM ((f_X8_number SM x1 x2).2)]) := by
  refine ci_of (cc := cX8_number) (nL := 5) (ty := .int) (lv0 := [(0, .ref (rM 0)), (1, .int x1), (2, .int x2)]) (by decide) rfl (Nat.le_of_ble_eq_true rfl) rfl ?_
  intro p e s m args below meth c A X hr
  refine ww_aload_n (pc := 0) X dX8_number_0 0 rfl rfl ?_
  refine ww_gVv (pc := 1) (rest := []) (gsN := [wX8 cI cZ cQ rM (f_X8_skips SM)]) (ci := 8) (gi := 0) (qi := 0) X (c_X8_skips l D cI cZ cQ rM SM (by assumption)) gX8_number_X8_skips rfl hd_X8_skips [true] rfl (acons (ad8 _ _ _ _ _ _) rfl) rfl rfl rfl rfl rfl rfl ⟨rfl, rfl⟩ ⟨Nat.le_of_ble_eq_true rfl, Nat.le_of_ble_eq_true rfl⟩ (Nat.le_of_ble_eq_true rfl) ⟨Nat.zero_le _, Nat.zero_le _⟩ dX8_number_1 ?_
  generalize hz1 : (f_X8_skips SM) = z1
  have okz : okT z1 := by rw [← hz1]; exact (oT_skips okt).1
  refine ww_aload_n (pc := 4) X dX8_number_4 0 rfl rfl ?_
  refine ww_get (pc := 5) (ci := 8) (v := .int (z1.1 7)) (C := RX8) (T := TX8) (N := 27) X inX8_number_8 0 rfl rfl 23 (by decide) (by decide +kernel) rfl dX8_number_5 ?_
  refine ww_if_eq (pc := 8) (tgt := 13) X dX8_number_8 (by decide) (fun c2 => ?_) (fun c2 => ?_)
  · refine ww_aload_n (pc := 13) X dX8_number_13 0 rfl rfl ?_
    refine ww_gVi (pc := 14) (rest := []) (gsN := [wX8 cI cZ cQ rM z1]) (ci := 8) (gi := 0) (qi := 0) X (c_X8_look l D cI cZ cQ rM z1 okz.2.2.1 okz.2.1) gX8_number_X8_look rfl hd_X8_look [true] rfl rfl rfl rfl rfl rfl rfl rfl ⟨rfl, rfl⟩ ⟨Nat.le_of_ble_eq_true rfl, Nat.le_of_ble_eq_true rfl⟩ (Nat.le_of_ble_eq_true rfl) ⟨Nat.zero_le _, Nat.zero_le _⟩ dX8_number_14 ?_
    refine ww_bipush (pc := 17) (v := 48) X dX8_number_17 (by decide) ?_
    refine ww_bipush (pc := 19) (v := 57) X dX8_number_19 (by decide) ?_
    refine ww_gSi (pc := 21) (rest := []) (gsN := [wX8 cI cZ cQ rM z1]) X (c_X8_in l D cI cZ cQ (f_X8_look z1) 48 57) gX8_number_X8_in rfl hd_X8_in [false] rfl rfl rfl rfl ⟨rfl, rfl⟩ ⟨Nat.le_of_ble_eq_true rfl, Nat.le_of_ble_eq_true rfl⟩ (Nat.le_of_ble_eq_true rfl) ⟨Nat.zero_le _, Nat.zero_le _⟩ dX8_number_21 ?_
    refine ww_if_ne (pc := 24) (tgt := 34) X dX8_number_24 (by decide) (fun c3 => ?_) (fun c3 => ?_)
    · refine ww_aload_n (pc := 34) X dX8_number_34 0 rfl rfl ?_
      refine ww_get (pc := 35) (ci := 8) (v := .int (z1.1 6)) (C := RX8) (T := TX8) (N := 27) X inX8_number_8 0 rfl rfl 22 (by decide) (by decide +kernel) rfl dX8_number_35 ?_
      refine ww_istore_n (pc := 38) (lv' := [(3, .int (z1.1 6)), (0, .ref (rM 0)), (1, .int x1), (2, .int x2)]) X dX8_number_38 rfl (by decide) rfl ?_
      refine ww_iconst (pc := 39) (v := 0) X dX8_number_39 (by decide) ?_
      refine ww_istore (pc := 40) (lv' := [(4, .int 0), (3, .int (z1.1 6)), (0, .ref (rM 0)), (1, .int x1), (2, .int x2)]) X dX8_number_40 (by decide) rfl ?_
      have L42 : ∀ (k_42 : Nat) (u_42 : St × Int32), (okT u_42.1 ∧ 241 ≤ (u_42.1.1 6).toNatClampNeg + k_42) → f_X8_number SM x1 x2 = lp_X8_number_42 x1 x2 (z1.1 6) k_42 u_42 → WW p l e (headSpec wsX8_number { frames := 2, cells := 0, slots := 0, locals := 40 }).room s m args below meth c 5 D A 0 0 (RQi below args s D A ((f_X8_number SM x1 x2).1) (fl [wX8 cI cZ cQ rM ((f_X8_number SM x1 x2).2)])) (fl [wX8 cI cZ cQ rM u_42.1]) [(0, .ref (rM 0)), (1, .int x1), (2, .int x2), (3, .int (z1.1 6)), (4, .int u_42.2)] 42 [] := by
        intro k_42
        induction k_42 with
        | zero =>
          intro u_42 hi hf
          exact absurd hi.2 (by have := okT_b hi.1; omega)
        | succ k_42 ih =>
          intro u_42 hi hf
          refine ww_aload_n (pc := 42) X dX8_number_42 0 rfl rfl ?_
          refine ww_gVi (pc := 43) (rest := []) (gsN := [wX8 cI cZ cQ rM u_42.1]) (ci := 8) (gi := 0) (qi := 0) X (c_X8_look l D cI cZ cQ rM u_42.1 hi.1.2.2.1 hi.1.2.1) gX8_number_X8_look rfl hd_X8_look [true] rfl rfl rfl rfl rfl rfl rfl rfl ⟨rfl, rfl⟩ ⟨Nat.le_of_ble_eq_true rfl, Nat.le_of_ble_eq_true rfl⟩ (Nat.le_of_ble_eq_true rfl) ⟨Nat.zero_le _, Nat.zero_le _⟩ dX8_number_43 ?_
          refine ww_bipush (pc := 46) (v := 48) X dX8_number_46 (by decide) ?_
          refine ww_bipush (pc := 48) (v := 57) X dX8_number_48 (by decide) ?_
          refine ww_gSi (pc := 50) (rest := []) (gsN := [wX8 cI cZ cQ rM u_42.1]) X (c_X8_in l D cI cZ cQ (f_X8_look u_42.1) 48 57) gX8_number_X8_in rfl hd_X8_in [false] rfl rfl rfl rfl ⟨rfl, rfl⟩ ⟨Nat.le_of_ble_eq_true rfl, Nat.le_of_ble_eq_true rfl⟩ (Nat.le_of_ble_eq_true rfl) ⟨Nat.zero_le _, Nat.zero_le _⟩ dX8_number_50 ?_
          refine ww_if_eq (pc := 53) (tgt := 99) X dX8_number_53 (by decide) (fun c16 => ?_) (fun c16 => ?_)
          · refine ww_aload_n (pc := 99) X dX8_number_99 0 rfl rfl ?_
            refine ww_get (pc := 100) (ci := 8) (v := .int (u_42.1.1 6)) (C := RX8) (T := TX8) (N := 27) X inX8_number_8 0 rfl rfl 22 (by decide) (by decide +kernel) rfl dX8_number_100 ?_
            refine ww_iload_n (pc := 103) X dX8_number_103 3 rfl rfl ?_
            refine ww_isub (pc := 104) X dX8_number_104 ?_
            refine ww_iconst (pc := 105) (v := 4) X dX8_number_105 (by decide) ?_
            refine ww_icmp_gt (pc := 106) (tgt := 119) X dX8_number_106 (by decide) (fun c17 => ?_) (fun c17 => ?_)
            · refine ww_aload_n (pc := 119) X dX8_number_119 0 rfl rfl ?_
              refine ww_iload_n (pc := 120) X dX8_number_120 3 rfl rfl ?_
              refine ww_put (pc := 121) (ci := 8) (v := .int (z1.1 6)) (C := RX8) (T := TX8) (N := 27) (ws' := fl [wX8 cI cZ cQ rM (sI u_42.1 6 (z1.1 6))]) X inX8_number_8 tyX8 tyX8_ok nmX8 0 rfl rfl 22 (by decide) (by decide +kernel) rfl rfl rfl (Nat.le_of_ble_eq_true rfl) (pt8a_6 _ _ _ _ _ _) dX8_number_121 ?_
              refine ww_aload_n (pc := 124) X dX8_number_124 0 rfl rfl ?_
              refine ww_iconst (pc := 125) (v := 2) X dX8_number_125 (by decide) ?_
              refine ww_gVv (pc := 126) (rest := []) (gsN := [wX8 cI cZ cQ rM (f_X8_fails (sI u_42.1 6 (z1.1 6)) 2)]) (ci := 8) (gi := 0) (qi := 0) X (c_X8_fails l D cI cZ cQ rM (sI u_42.1 6 (z1.1 6)) 2) gX8_number_X8_fails rfl hd_X8_fails [true] rfl (acons (ad8 _ _ _ _ _ _) rfl) rfl rfl rfl rfl rfl rfl ⟨rfl, rfl⟩ ⟨Nat.le_of_ble_eq_true rfl, Nat.le_of_ble_eq_true rfl⟩ (Nat.le_of_ble_eq_true rfl) ⟨Nat.zero_le _, Nat.zero_le _⟩ dX8_number_126 ?_
              generalize hz18 : (f_X8_fails (sI u_42.1 6 (z1.1 6)) 2) = z18
              refine ww_iload (pc := 129) X dX8_number_129 4 rfl ?_
              have h19 : f_X8_number SM x1 x2 = (u_42.2, z18) := by rw [hf]; show lb_X8_number_42 x1 x2 (z1.1 6) (lp_X8_number_42 x1 x2 (z1.1 6) k_42) u_42 = _; unfold lb_X8_number_42; try rw [if_pos c16, if_pos c17, hz18]; try unfold lb_X8_number_42_k1; first | done | rfl
              have hw20 := congrArg (fun u9 : Int32 × St => fl [wX8 cI cZ cQ rM u9.2]) h19.symm
              exact ww_iret X hr rfl (congrArg (fun u9 : Int32 × St => u9.1) h19).symm hw20 dX8_number_131
            · refine ww_iload (pc := 109) X dX8_number_109 4 rfl ?_
              refine ww_iload_n (pc := 111) X dX8_number_111 1 rfl rfl ?_
              refine ww_iload_n (pc := 112) X dX8_number_112 2 rfl rfl ?_
              refine ww_gSi (pc := 113) (rest := []) (gsN := [wX8 cI cZ cQ rM u_42.1]) X (c_X8_in l D cI cZ cQ u_42.2 x1 x2) gX8_number_X8_in rfl hd_X8_in [false] rfl rfl rfl rfl ⟨rfl, rfl⟩ ⟨Nat.le_of_ble_eq_true rfl, Nat.le_of_ble_eq_true rfl⟩ (Nat.le_of_ble_eq_true rfl) ⟨Nat.zero_le _, Nat.zero_le _⟩ dX8_number_113 ?_
              refine ww_if_ne (pc := 116) (tgt := 129) X dX8_number_116 (by decide) (fun c21 => ?_) (fun c21 => ?_)
              · refine ww_iload (pc := 129) X dX8_number_129 4 rfl ?_
                have h22 : f_X8_number SM x1 x2 = (u_42.2, u_42.1) := by rw [hf]; show lb_X8_number_42 x1 x2 (z1.1 6) (lp_X8_number_42 x1 x2 (z1.1 6) k_42) u_42 = _; unfold lb_X8_number_42; try rw [if_pos c16, if_neg c17, if_neg c21]; first | done | rfl
                have hw23 := congrArg (fun u9 : Int32 × St => fl [wX8 cI cZ cQ rM u9.2]) h22.symm
                exact ww_iret X hr rfl (congrArg (fun u9 : Int32 × St => u9.1) h22).symm hw23 dX8_number_131
              · refine ww_aload_n (pc := 119) X dX8_number_119 0 rfl rfl ?_
                refine ww_iload_n (pc := 120) X dX8_number_120 3 rfl rfl ?_
                refine ww_put (pc := 121) (ci := 8) (v := .int (z1.1 6)) (C := RX8) (T := TX8) (N := 27) (ws' := fl [wX8 cI cZ cQ rM (sI u_42.1 6 (z1.1 6))]) X inX8_number_8 tyX8 tyX8_ok nmX8 0 rfl rfl 22 (by decide) (by decide +kernel) rfl rfl rfl (Nat.le_of_ble_eq_true rfl) (pt8a_6 _ _ _ _ _ _) dX8_number_121 ?_
                refine ww_aload_n (pc := 124) X dX8_number_124 0 rfl rfl ?_
                refine ww_iconst (pc := 125) (v := 2) X dX8_number_125 (by decide) ?_
                refine ww_gVv (pc := 126) (rest := []) (gsN := [wX8 cI cZ cQ rM (f_X8_fails (sI u_42.1 6 (z1.1 6)) 2)]) (ci := 8) (gi := 0) (qi := 0) X (c_X8_fails l D cI cZ cQ rM (sI u_42.1 6 (z1.1 6)) 2) gX8_number_X8_fails rfl hd_X8_fails [true] rfl (acons (ad8 _ _ _ _ _ _) rfl) rfl rfl rfl rfl rfl rfl ⟨rfl, rfl⟩ ⟨Nat.le_of_ble_eq_true rfl, Nat.le_of_ble_eq_true rfl⟩ (Nat.le_of_ble_eq_true rfl) ⟨Nat.zero_le _, Nat.zero_le _⟩ dX8_number_126 ?_
                generalize hz24 : (f_X8_fails (sI u_42.1 6 (z1.1 6)) 2) = z24
                refine ww_iload (pc := 129) X dX8_number_129 4 rfl ?_
                have h25 : f_X8_number SM x1 x2 = (u_42.2, z24) := by rw [hf]; show lb_X8_number_42 x1 x2 (z1.1 6) (lp_X8_number_42 x1 x2 (z1.1 6) k_42) u_42 = _; unfold lb_X8_number_42; try rw [if_pos c16, if_neg c17, if_pos c21, hz24]; try unfold lb_X8_number_42_k2; first | done | rfl
                have hw26 := congrArg (fun u9 : Int32 × St => fl [wX8 cI cZ cQ rM u9.2]) h25.symm
                exact ww_iret X hr rfl (congrArg (fun u9 : Int32 × St => u9.1) h25).symm hw26 dX8_number_131
          · refine ww_aload_n (pc := 56) X dX8_number_56 0 rfl rfl ?_
            refine ww_get (pc := 57) (ci := 8) (v := .int (u_42.1.1 6)) (C := RX8) (T := TX8) (N := 27) X inX8_number_8 0 rfl rfl 22 (by decide) (by decide +kernel) rfl dX8_number_57 ?_
            refine ww_iload_n (pc := 60) X dX8_number_60 3 rfl rfl ?_
            refine ww_isub (pc := 61) X dX8_number_61 ?_
            refine ww_iconst (pc := 62) (v := 4) X dX8_number_62 (by decide) ?_
            refine ww_icmp_ge (pc := 63) (tgt := 82) X dX8_number_63 (by decide) (fun c27 => ?_) (fun c27 => ?_)
            · refine ww_iload (pc := 82) X dX8_number_82 4 rfl ?_
              refine ww_istore (pc := 84) (lv' := [(4, .int u_42.2), (0, .ref (rM 0)), (1, .int x1), (2, .int x2), (3, .int (z1.1 6))]) X dX8_number_84 (by decide) rfl ?_
              refine ww_aload_n (pc := 86) X dX8_number_86 1 rfl rfl ?_
              refine ww_dup (pc := 87) X dX8_number_87 rfl ?_
              refine ww_get (pc := 88) (ci := 8) (v := .int (u_42.1.1 6)) (C := RX8) (T := TX8) (N := 27) X inX8_number_8 0 rfl rfl 22 (by decide) (by decide +kernel) rfl dX8_number_88 ?_
              refine ww_iconst (pc := 91) (v := 1) X dX8_number_91 (by decide) ?_
              refine ww_iadd (pc := 92) X dX8_number_92 ?_
              refine ww_put (pc := 93) (ci := 8) (v := .int ((u_42.1.1 6) + 1)) (C := RX8) (T := TX8) (N := 27) (ws' := fl [wX8 cI cZ cQ rM (sI u_42.1 6 ((u_42.1.1 6) + 1))]) X inX8_number_8 tyX8 tyX8_ok nmX8 0 rfl rfl 22 (by decide) (by decide +kernel) rfl rfl rfl (Nat.le_of_ble_eq_true rfl) (pt8a_6 _ _ _ _ _ _) dX8_number_93 ?_
              refine ww_goto (pc := 96) (tgt := 42) X dX8_number_96 (by decide) ?_
              refine ww_lsub [1, 2, 3, 4, 0] rfl ?_
              have h28 : f_X8_number SM x1 x2 = lp_X8_number_42 x1 x2 (z1.1 6) k_42 ((sI u_42.1 6 ((u_42.1.1 6) + 1)), u_42.2) := by rw [hf]; show lb_X8_number_42 x1 x2 (z1.1 6) (lp_X8_number_42 x1 x2 (z1.1 6) k_42) u_42 = _; unfold lb_X8_number_42; try rw [if_neg c16, if_pos c27]; first | done | rfl
              exact ih ((sI u_42.1 6 ((u_42.1.1 6) + 1)), u_42.2) (nm_step hi c16) h28
            · refine ww_bipush (pc := 66) (v := 10) X dX8_number_66 (by decide) ?_
              refine ww_iload (pc := 68) X dX8_number_68 4 rfl ?_
              refine ww_imul (pc := 70) X dX8_number_70 ?_
              refine ww_aload_n (pc := 71) X dX8_number_71 0 rfl rfl ?_
              refine ww_gVi (pc := 72) (rest := [.int (10 * u_42.2)]) (gsN := [wX8 cI cZ cQ rM u_42.1]) (ci := 8) (gi := 0) (qi := 0) X (c_X8_look l D cI cZ cQ rM u_42.1 hi.1.2.2.1 hi.1.2.1) gX8_number_X8_look rfl hd_X8_look [true] rfl rfl rfl rfl rfl rfl rfl rfl ⟨rfl, rfl⟩ ⟨Nat.le_of_ble_eq_true rfl, Nat.le_of_ble_eq_true rfl⟩ (Nat.le_of_ble_eq_true rfl) ⟨Nat.zero_le _, Nat.zero_le _⟩ dX8_number_72 ?_
              refine ww_iadd (pc := 75) X dX8_number_75 ?_
              refine ww_bipush (pc := 76) (v := 48) X dX8_number_76 (by decide) ?_
              refine ww_isub (pc := 78) X dX8_number_78 ?_
              refine ww_goto (pc := 79) (tgt := 84) X dX8_number_79 (by decide) ?_
              refine ww_istore (pc := 84) (lv' := [(4, .int (((10 * u_42.2) + (f_X8_look u_42.1)) - 48)), (0, .ref (rM 0)), (1, .int x1), (2, .int x2), (3, .int (z1.1 6))]) X dX8_number_84 (by decide) rfl ?_
              refine ww_aload_n (pc := 86) X dX8_number_86 1 rfl rfl ?_
              refine ww_dup (pc := 87) X dX8_number_87 rfl ?_
              refine ww_get (pc := 88) (ci := 8) (v := .int (u_42.1.1 6)) (C := RX8) (T := TX8) (N := 27) X inX8_number_8 0 rfl rfl 22 (by decide) (by decide +kernel) rfl dX8_number_88 ?_
              refine ww_iconst (pc := 91) (v := 1) X dX8_number_91 (by decide) ?_
              refine ww_iadd (pc := 92) X dX8_number_92 ?_
              refine ww_put (pc := 93) (ci := 8) (v := .int ((u_42.1.1 6) + 1)) (C := RX8) (T := TX8) (N := 27) (ws' := fl [wX8 cI cZ cQ rM (sI u_42.1 6 ((u_42.1.1 6) + 1))]) X inX8_number_8 tyX8 tyX8_ok nmX8 0 rfl rfl 22 (by decide) (by decide +kernel) rfl rfl rfl (Nat.le_of_ble_eq_true rfl) (pt8a_6 _ _ _ _ _ _) dX8_number_93 ?_
              refine ww_goto (pc := 96) (tgt := 42) X dX8_number_96 (by decide) ?_
              refine ww_lsub [1, 2, 3, 4, 0] rfl ?_
              have h29 : f_X8_number SM x1 x2 = lp_X8_number_42 x1 x2 (z1.1 6) k_42 ((sI u_42.1 6 ((u_42.1.1 6) + 1)), ((10 * u_42.2) + (f_X8_look u_42.1)) - 48) := by rw [hf]; show lb_X8_number_42 x1 x2 (z1.1 6) (lp_X8_number_42 x1 x2 (z1.1 6) k_42) u_42 = _; unfold lb_X8_number_42; try rw [if_neg c16, if_neg c27]; first | done | rfl
              exact ih ((sI u_42.1 6 ((u_42.1.1 6) + 1)), ((10 * u_42.2) + (f_X8_look u_42.1)) - 48) (nm_step hi c16) h29
      refine ww_lsub [2, 3, 4, 1, 0] rfl ?_
      exact L42 241 (z1, 0) ⟨okz, by omega⟩ (by unfold f_X8_number; try rw [hz1]; try unfold f_X8_number_k1; try rw [if_pos c2, if_neg c3]; first | done | rfl)
    · refine ww_aload_n (pc := 27) X dX8_number_27 0 rfl rfl ?_
      refine ww_iconst (pc := 28) (v := 1) X dX8_number_28 (by decide) ?_
      refine ww_gVv (pc := 29) (rest := []) (gsN := [wX8 cI cZ cQ rM (f_X8_fails z1 1)]) (ci := 8) (gi := 0) (qi := 0) X (c_X8_fails l D cI cZ cQ rM z1 1) gX8_number_X8_fails rfl hd_X8_fails [true] rfl (acons (ad8 _ _ _ _ _ _) rfl) rfl rfl rfl rfl rfl rfl ⟨rfl, rfl⟩ ⟨Nat.le_of_ble_eq_true rfl, Nat.le_of_ble_eq_true rfl⟩ (Nat.le_of_ble_eq_true rfl) ⟨Nat.zero_le _, Nat.zero_le _⟩ dX8_number_29 ?_
      generalize hz30 : (f_X8_fails z1 1) = z30
      refine ww_iconst (pc := 32) (v := 0) X dX8_number_32 (by decide) ?_
      have h31 : f_X8_number SM x1 x2 = (0, z30) := by unfold f_X8_number; try rw [hz1]; try unfold f_X8_number_k1; try rw [if_pos c2, if_pos c3, hz30]; try unfold f_X8_number_k2; first | done | rfl
      have hw32 := congrArg (fun u9 : Int32 × St => fl [wX8 cI cZ cQ rM u9.2]) h31.symm
      exact ww_iret X hr rfl (congrArg (fun u9 : Int32 × St => u9.1) h31).symm hw32 dX8_number_33
  · refine ww_iconst (pc := 11) (v := 0) X dX8_number_11 (by decide) ?_
    have h33 : f_X8_number SM x1 x2 = (0, z1) := by unfold f_X8_number; try rw [hz1]; try unfold f_X8_number_k1; try rw [if_neg c2]; first | done | rfl
    have hw34 := congrArg (fun u9 : Int32 × St => fl [wX8 cI cZ cQ rM u9.2]) h33.symm
    exact ww_iret X hr rfl (congrArg (fun u9 : Int32 × St => u9.1) h33).symm hw34 dX8_number_12
