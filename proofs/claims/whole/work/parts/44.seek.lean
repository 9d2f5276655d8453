def bd_X1_seek_30 (SL : St) (j2 : Nat) (j : Nat) (u : St) : St :=
  if (f_X1_fitsAll SL u (nI j2) (nI j)) = 0 then
    u
  else
    (sA (sI u 2 ((u.1 2) + 1)) 3 (upd (u.2 3) ((u.1 2 : Int32)).toNatClampNeg ((100 * (nI j2)) + (nI j))))
def it_X1_seek_30 (SL : St) (j2 : Nat) (u : St) : Nat → St
  | 0 => u
  | j + 1 => bd_X1_seek_30 SL j2 j (it_X1_seek_30 SL j2 u j)
def bd_X1_seek_20_k1 (SL : St) (j : Nat) (u : St) (z7 : St) : St :=
  z7
def bd_X1_seek_20 (SL : St) (j : Nat) (u : St) : St :=
  bd_X1_seek_20_k1 SL j u (it_X1_seek_30 SL j u 31)
def it_X1_seek_20 (SL : St) (u : St) : Nat → St
  | 0 => u
  | j + 1 => bd_X1_seek_20 SL j (it_X1_seek_20 SL u j)
def f_X1_seek_k2 (SL : St) (SN : St) (z2 : St) (z13 : St) : St :=
  (sI z13 3 1)
def f_X1_seek_k1 (SL : St) (SN : St) (z2 : St) : St :=
  f_X1_seek_k2 SL SN z2 (it_X1_seek_20 SL (sI z2 2 0) ((SL.1 2).toNatClampNeg))
def f_X1_seek (SL : St) (SN : St) : St :=
  if (SN.1 3) = 0 then
    f_X1_seek_k1 SL SN (f_X1_countWorths SL SN)
  else
    SN
theorem cw39 (S : St) (a b : Nat) (u : St × Int32) : ∀ j : Nat, (it_X1_countWorths_39 S a b u j).1.1 = u.1.1
  | 0 => rfl
  | j + 1 => cw39 S a b u j
theorem cw20s (S : St) (a : Nat) (u : St) (j : Nat) : it_X1_countWorths_20 S a u (j + 1) = bd_X1_countWorths_20 S a j (it_X1_countWorths_20 S a u j) := by rw [it_X1_countWorths_20]
theorem cw20 (S : St) (a : Nat) (u : St) : ∀ j : Nat, (it_X1_countWorths_20 S a u j).1 = u.1
  | 0 => rfl
  | j + 1 => by
    rw [cw20s]
    unfold bd_X1_countWorths_20 bd_X1_countWorths_20_k1
    rw [cw39]
    exact cw20 S a u j
theorem cw10 (S : St) (u : St) : ∀ j : Nat, (it_X1_countWorths_10 S u j).1 = u.1
  | 0 => rfl
  | j + 1 => (cw20 S j (it_X1_countWorths_10 S u j) _).trans (cw10 S u j)
theorem cw_i (S N : St) : (f_X1_countWorths S N).1 0 = N.1 0 := by
  unfold f_X1_countWorths f_X1_countWorths_k1
  split
  · rw [sI_ne (by decide), cw10]
  · rfl
theorem sk30b (S : St) (d j : Nat) (u : St) : (bd_X1_seek_30 S d j u).1 0 = u.1 0 ∧ ((bd_X1_seek_30 S d j u).1 2 = u.1 2 ∨ (bd_X1_seek_30 S d j u).1 2 = u.1 2 + 1) := by
  unfold bd_X1_seek_30
  split
  · exact ⟨rfl, Or.inl rfl⟩
  · exact ⟨sA_1.trans (sI_ne (by decide)), Or.inr (sA_1.trans sI_eq)⟩
theorem sk30s (S : St) (d : Nat) (u : St) (j : Nat) : it_X1_seek_30 S d u (j + 1) = bd_X1_seek_30 S d j (it_X1_seek_30 S d u j) := by rw [it_X1_seek_30]
theorem sk30c (S : St) (d : Nat) (u : St) : ∀ j : Nat, (it_X1_seek_30 S d u j).1 0 = u.1 0
  | 0 => rfl
  | j + 1 => by
    rw [sk30s, (sk30b S d j _).1]
    exact sk30c S d u j
theorem sk30n (S : St) (d : Nat) (u : St) (m : Nat) (hu : u.1 2 = nI m) : ∀ j : Nat, ∃ k : Nat, (it_X1_seek_30 S d u j).1 2 = nI k ∧ k ≤ m + j
  | 0 => ⟨m, hu, Nat.le_refl _⟩
  | j + 1 => by
    obtain ⟨k, h1, h2⟩ := sk30n S d u m hu j
    rw [sk30s]
    rcases (sk30b S d j (it_X1_seek_30 S d u j)).2 with h | h
    · exact ⟨k, h.trans h1, by omega⟩
    · exact ⟨k + 1, h.trans (by rw [h1, nI_1]), by omega⟩
theorem sk20s (S : St) (u : St) (j : Nat) : it_X1_seek_20 S u (j + 1) = it_X1_seek_30 S j (it_X1_seek_20 S u j) 31 := by
  rw [it_X1_seek_20]
  unfold bd_X1_seek_20 bd_X1_seek_20_k1
  exact Eq.refl _
theorem sk20c (S : St) (u : St) : ∀ j : Nat, (it_X1_seek_20 S u j).1 0 = u.1 0
  | 0 => rfl
  | j + 1 => by
    rw [sk20s, sk30c]
    exact sk20c S u j
theorem sk20n (S : St) (u : St) (hu : u.1 2 = 0) : ∀ j : Nat, ∃ k : Nat, (it_X1_seek_20 S u j).1 2 = nI k ∧ k ≤ 31 * j
  | 0 => ⟨0, hu, Nat.le_refl _⟩
  | j + 1 => by
    obtain ⟨k, h1, h2⟩ := sk20n S u hu j
    rw [sk20s]
    obtain ⟨k2, h3, h4⟩ := sk30n S j (it_X1_seek_20 S u j) k h1 31
    exact ⟨k2, h3, by omega⟩
theorem sk_post {S N z : St} (ok : okS S) (hs : N.1 3 = 0 ∨ (¬ N.1 2 < 0 ∧ N.1 2 ≤ 124)) (hz : f_X1_seek S N = z) : ¬ (z.1 2) < 0 ∧ z.1 2 ≤ 124 := by
  subst hz
  unfold f_X1_seek
  split
  · unfold f_X1_seek_k1 f_X1_seek_k2
    obtain ⟨k, h1, h2⟩ := sk20n S (sI (f_X1_countWorths S N) 2 0) sI_eq ((S.1 2).toNatClampNeg)
    have h4 := okS_d ok
    rw [sI_ne (by decide), h1]
    exact ⟨nI_pos (by omega), nI_le (b := 124) (by omega) (by decide)⟩
  · exact hs.resolve_left (by assumption)
theorem ss_in {S N z : St} {x : Int32} (ok : okS S) (hs : N.1 3 = 0 ∨ (¬ N.1 2 < 0 ∧ N.1 2 ≤ 124)) (hz : f_X1_seek S N = z) (h0 : ¬ x < 0) (h1 : x < z.1 2) : vp_in x 124 := by
  refine vin_lt (N := 124) h0 ?_ rfl
  have h := (sk_post ok hs hz).2
  rw [Int32.lt_iff_toInt_lt] at h1 ⊢
  rw [Int32.le_iff_toInt_le] at h
  omega
theorem inX1_seek_1 : ∀ w ∈ wsX10, w ∈ wsX1_seek := by decide +kernel
theorem inX1_seek_5 : ∀ w ∈ wsX50, w ∈ wsX1_seek := by decide +kernel
theorem hd_X1_seek : yX1_seek.cls = RX1 ∧ yX1_seek.cls ≠ "java/lang/invoke/MethodHandle" ∧ yX1_seek.cls ≠ "java/lang/invoke/VarHandle" ∧ (parseMethodDescriptor yX1_seek.desc).map (fun d => d.parameters.length) = some 1 := by decide +kernel
set_option maxHeartbeats 4000000 in
set_option maxRecDepth 100000 in
theorem c_X1_seek (l : Launch) (D : va_G) (cI cZ cQ : ClassId) (rL : Nat → Nat) (rN : Nat → Nat) (SL : St) (SN : St) (okL : okS SL) (okN : SN.1 0 ≤ 6) : Cv l yX1_seek wsX1_seek { frames := 4, cells := 0, slots := 0, locals := 95 } D (tyL cI cZ cQ) [.ref (rN 0), .ref (rL 0)] (fl [wX5 cI cZ cQ rL SL, wX1 cI cZ cQ rN SN]) (fl [wX5 cI cZ cQ rL SL, wX1 cI cZ cQ rN (f_X1_seek SL SN)]) := by
  refine cv_of (cc := cX1_seek) (nL := 4) (lv0 := [(0, .ref (rN 0)), (1, .ref (rL 0))]) (by decide) rfl (Nat.le_of_ble_eq_true rfl) rfl ?_
  intro p e s m args below meth c A X hr
  refine ww_aload_n (pc := 0) X dX1_seek_0 0 rfl rfl ?_
  refine ww_get (pc := 1) (ci := 1) (v := .int (SN.1 3)) (C := RX1) (T := TX1) (N := 9) X inX1_seek_1 7 rfl rfl 8 (by decide) (by decide +kernel) rfl dX1_seek_1 ?_
  refine ww_if_eq (pc := 4) (tgt := 8) X dX1_seek_4 (by decide) (fun c1 => ?_) (fun c1 => ?_)
  · refine ww_aload_n (pc := 8) X dX1_seek_8 0 rfl rfl ?_
    refine ww_aload_n (pc := 9) X dX1_seek_9 1 rfl rfl ?_
    refine ww_gVv (pc := 10) (rest := []) (gsN := [wX5 cI cZ cQ rL SL, wX1 cI cZ cQ rN (f_X1_countWorths SL SN)]) (ci := 1) (gi := 1) (qi := 0) X (c_X1_countWorths l D cI cZ cQ rL rN SL SN (by assumption)) gX1_seek_X1_countWorths rfl hd_X1_countWorths [true, true] rfl (acons rfl (acons (ad1 _ _ _ _ _ _) rfl)) rfl rfl rfl rfl rfl rfl ⟨rfl, rfl⟩ ⟨Nat.le_of_ble_eq_true rfl, Nat.le_of_ble_eq_true rfl⟩ (Nat.le_of_ble_eq_true rfl) ⟨Nat.zero_le _, Nat.zero_le _⟩ dX1_seek_10 ?_
    generalize hz2 : (f_X1_countWorths SL SN) = z2
    refine ww_aload_n (pc := 13) X dX1_seek_13 0 rfl rfl ?_
    refine ww_iconst (pc := 14) (v := 0) X dX1_seek_14 (by decide) ?_
    refine ww_put (pc := 15) (ci := 1) (v := .int 0) (C := RX1) (T := TX1) (N := 9) (ws' := fl [wX5 cI cZ cQ rL SL, wX1 cI cZ cQ rN (sI z2 2 0)]) X inX1_seek_1 tyX1 tyX1_ok nmX1 7 rfl rfl 7 (by decide) (by decide +kernel) rfl rfl rfl (Nat.le_of_ble_eq_true rfl) rfl dX1_seek_15 ?_
    have hz0 : ((sI z2 2 0)).1 0 ≤ 6 := by show z2.1 0 ≤ 6; rw [← hz2, cw_i]; exact okN
    refine ww_iconst (pc := 18) (v := 0) X dX1_seek_18 (by decide) ?_
    refine ww_istore_n (pc := 19) (lv' := [(2, .int 0), (0, .ref (rN 0)), (1, .ref (rL 0))]) X dX1_seek_19 rfl (by decide) rfl ?_
    have L20 : ∀ (k_20 j_20 : Nat), j_20 + k_20 = (SL.1 2).toNatClampNeg → WW p l e (headSpec wsX1_seek { frames := 4, cells := 0, slots := 0, locals := 95 }).room s m args below meth c 4 D A 0 0 (RQv below args s D A (fl [wX5 cI cZ cQ rL SL, wX1 cI cZ cQ rN (f_X1_seek SL SN)])) (fl [wX5 cI cZ cQ rL SL, wX1 cI cZ cQ rN (it_X1_seek_20 SL (sI z2 2 0) ((SL.1 2).toNatClampNeg))]) [(0, .ref (rN 0)), (1, .ref (rL 0)), (2, .int (nI ((SL.1 2).toNatClampNeg)))] 83 [] → WW p l e (headSpec wsX1_seek { frames := 4, cells := 0, slots := 0, locals := 95 }).room s m args below meth c 4 D A 0 0 (RQv below args s D A (fl [wX5 cI cZ cQ rL SL, wX1 cI cZ cQ rN (f_X1_seek SL SN)])) (fl [wX5 cI cZ cQ rL SL, wX1 cI cZ cQ rN (it_X1_seek_20 SL (sI z2 2 0) j_20)]) [(0, .ref (rN 0)), (1, .ref (rL 0)), (2, .int (nI j_20))] 20 [] := by
      intro k_20
      induction k_20 with
      | zero =>
        intro j_20 hj K
        have hjB : j_20 = (SL.1 2).toNatClampNeg := by omega
        subst hjB
        refine ww_iload_n (pc := 20) X dX1_seek_20 2 rfl rfl ?_
        refine ww_aload_n (pc := 21) X dX1_seek_21 1 rfl rfl ?_
        refine ww_get (pc := 22) (ci := 5) (v := .int (SL.1 2)) (C := RX5) (T := TX5) (N := 11) X inX1_seek_5 0 rfl rfl 2 (by decide) (by decide +kernel) rfl dX1_seek_22 ?_
        exact ww_icmp_ge (pc := 25) (tgt := 83) X dX1_seek_25 (by decide) (fun _ => K) (fun c9 => absurd (lp_ge0c (Nat.le_refl _) (cl_lt _)) c9)
      | succ k_20 ih =>
        intro j_20 hj K
        have hjB : j_20 < (SL.1 2).toNatClampNeg := by omega
        have h4_20 := okS_d okL
        have h02 : ((it_X1_seek_20 SL (sI z2 2 0) j_20)).1 0 ≤ 6 := by rw [sk20c]; exact hz0
        obtain ⟨m2, hm2, hm2b⟩ : ∃ k : Nat, ((it_X1_seek_20 SL (sI z2 2 0) j_20)).1 2 = nI k ∧ k ≤ 31 * j_20 := sk20n _ _ sI_eq _
        refine ww_iload_n (pc := 20) X dX1_seek_20 2 rfl rfl ?_
        refine ww_aload_n (pc := 21) X dX1_seek_21 1 rfl rfl ?_
        refine ww_get (pc := 22) (ci := 5) (v := .int (SL.1 2)) (C := RX5) (T := TX5) (N := 11) X inX1_seek_5 0 rfl rfl 2 (by decide) (by decide +kernel) rfl dX1_seek_22 ?_
        refine ww_icmp_ge (pc := 25) (tgt := 83) X dX1_seek_25 (by decide) (fun c9 => absurd c9 (lp_ge1c hjB)) (fun _ => ?_)
        refine ww_iconst (pc := 28) (v := 0) X dX1_seek_28 (by decide) ?_
        refine ww_istore_n (pc := 29) (lv' := [(3, .int 0), (0, .ref (rN 0)), (1, .ref (rL 0)), (2, .int (nI j_20))]) X dX1_seek_29 rfl (by decide) rfl ?_
        have L30 : ∀ (k_30 j_30 : Nat), j_30 + k_30 = 31 → WW p l e (headSpec wsX1_seek { frames := 4, cells := 0, slots := 0, locals := 95 }).room s m args below meth c 4 D A 0 0 (RQv below args s D A (fl [wX5 cI cZ cQ rL SL, wX1 cI cZ cQ rN (f_X1_seek SL SN)])) (fl [wX5 cI cZ cQ rL SL, wX1 cI cZ cQ rN (it_X1_seek_30 SL j_20 (it_X1_seek_20 SL (sI z2 2 0) j_20) 31)]) [(0, .ref (rN 0)), (1, .ref (rL 0)), (2, .int (nI j_20)), (3, .int (nI 31))] 77 [] → WW p l e (headSpec wsX1_seek { frames := 4, cells := 0, slots := 0, locals := 95 }).room s m args below meth c 4 D A 0 0 (RQv below args s D A (fl [wX5 cI cZ cQ rL SL, wX1 cI cZ cQ rN (f_X1_seek SL SN)])) (fl [wX5 cI cZ cQ rL SL, wX1 cI cZ cQ rN (it_X1_seek_30 SL j_20 (it_X1_seek_20 SL (sI z2 2 0) j_20) j_30)]) [(0, .ref (rN 0)), (1, .ref (rL 0)), (2, .int (nI j_20)), (3, .int (nI j_30))] 30 [] := by
          intro k_30
          induction k_30 with
          | zero =>
            intro j_30 hj K
            have hjB : j_30 = 31 := by omega
            subst hjB
            refine ww_iload_n (pc := 30) X dX1_seek_30 3 rfl rfl ?_
            refine ww_bipush (pc := 31) (v := 30) X dX1_seek_31 (by decide) ?_
            exact ww_icmp_gt (pc := 33) (tgt := 77) X dX1_seek_33 (by decide) (fun _ => K) (fun c9 => absurd (lp_gt0 rfl (Nat.le_refl _) (by decide)) c9)
          | succ k_30 ih =>
            intro j_30 hj K
            have hjB : j_30 < 31 := by omega
            have h03 : ((it_X1_seek_30 SL j_20 (it_X1_seek_20 SL (sI z2 2 0) j_20) j_30)).1 0 ≤ 6 := by rw [sk30c]; exact h02
            obtain ⟨m3, hm3, hm3b⟩ : ∃ k : Nat, ((it_X1_seek_30 SL j_20 (it_X1_seek_20 SL (sI z2 2 0) j_20) j_30)).1 2 = nI k ∧ k ≤ m2 + j_30 := sk30n _ _ _ _ hm2 _
            refine ww_iload_n (pc := 30) X dX1_seek_30 3 rfl rfl ?_
            refine ww_bipush (pc := 31) (v := 30) X dX1_seek_31 (by decide) ?_
            refine ww_icmp_gt (pc := 33) (tgt := 77) X dX1_seek_33 (by decide) (fun c9 => absurd c9 (lp_gt1 rfl hjB (by decide))) (fun _ => ?_)
            refine ww_aload_n (pc := 36) X dX1_seek_36 0 rfl rfl ?_
            refine ww_aload_n (pc := 37) X dX1_seek_37 1 rfl rfl ?_
            refine ww_iload_n (pc := 38) X dX1_seek_38 2 rfl rfl ?_
            refine ww_iload_n (pc := 39) X dX1_seek_39 3 rfl rfl ?_
            refine ww_gVi (pc := 40) (rest := []) (gsN := [wX5 cI cZ cQ rL SL, wX1 cI cZ cQ rN (it_X1_seek_30 SL j_20 (it_X1_seek_20 SL (sI z2 2 0) j_20) j_30)]) (ci := 1) (gi := 1) (qi := 0) X (c_X1_fitsAll l D cI cZ cQ rL rN SL (it_X1_seek_30 SL j_20 (it_X1_seek_20 SL (sI z2 2 0) j_20) j_30) (nI j_20) (nI j_30) (vn (m := j_20) rfl (by omega) (by decide)) h03) gX1_seek_X1_fitsAll rfl hd_X1_fitsAll [true, true] rfl rfl rfl rfl rfl rfl rfl rfl ⟨rfl, rfl⟩ ⟨Nat.le_of_ble_eq_true rfl, Nat.le_of_ble_eq_true rfl⟩ (Nat.le_of_ble_eq_true rfl) ⟨Nat.zero_le _, Nat.zero_le _⟩ dX1_seek_40 ?_
            refine ww_if_eq (pc := 43) (tgt := 71) X dX1_seek_43 (by decide) (fun c8 => ?_) (fun c8 => ?_)
            · refine ww_iinc (pc := 71) (v := (nI j_30) + 1) (lv' := [(3, .int ((nI j_30) + 1)), (0, .ref (rN 0)), (1, .ref (rL 0)), (2, .int (nI j_20))]) X dX1_seek_71 3 rfl rfl (by decide) rfl ?_
              refine ww_goto (pc := 74) (tgt := 30) X dX1_seek_74 (by decide) ?_
              have h9 : (it_X1_seek_30 SL j_20 (it_X1_seek_20 SL (sI z2 2 0) j_20) (j_30 + 1)) = (it_X1_seek_30 SL j_20 (it_X1_seek_20 SL (sI z2 2 0) j_20) j_30) := by
                show bd_X1_seek_30 SL j_20 j_30 (it_X1_seek_30 SL j_20 (it_X1_seek_20 SL (sI z2 2 0) j_20) j_30) = _; unfold bd_X1_seek_30; try rw [if_pos c8]; first | done | rfl
              refine ww_lsub [1, 2, 3, 0] rfl ?_
              exact ww_castI (fun u9 : St => fl [wX5 cI cZ cQ rL SL, wX1 cI cZ cQ rN u9]) (fun (u9 : St) (i9 : Int32) => ([(0, .ref (rN 0)), (1, .ref (rL 0)), (2, .int (nI j_20)), (3, .int i9)] : List (Nat × Value))) h9 (ih (j_30 + 1) (by omega) K)
            · refine ww_aload_n (pc := 46) X dX1_seek_46 0 rfl rfl ?_
              refine ww_get (pc := 47) (ci := 1) (v := .ref (rN 5)) (C := RX1) (T := TX1) (N := 9) X inX1_seek_1 7 rfl rfl 6 (by decide) (by decide +kernel) rfl dX1_seek_47 ?_
              refine ww_aload_n (pc := 50) X dX1_seek_50 0 rfl rfl ?_
              refine ww_get (pc := 51) (ci := 1) (v := .int ((it_X1_seek_30 SL j_20 (it_X1_seek_20 SL (sI z2 2 0) j_20) j_30).1 2)) (C := RX1) (T := TX1) (N := 9) X inX1_seek_1 7 rfl rfl 7 (by decide) (by decide +kernel) rfl dX1_seek_51 ?_
              refine ww_bipush (pc := 54) (v := 100) X dX1_seek_54 (by decide) ?_
              refine ww_iload_n (pc := 56) X dX1_seek_56 2 rfl rfl ?_
              refine ww_imul (pc := 57) X dX1_seek_57 ?_
              refine ww_iload_n (pc := 58) X dX1_seek_58 3 rfl rfl ?_
              refine ww_iadd (pc := 59) X dX1_seek_59 ?_
              refine ww_iast (pc := 60) (f := (it_X1_seek_30 SL j_20 (it_X1_seek_20 SL (sI z2 2 0) j_20) j_30).2 3) (ws' := fl [wX5 cI cZ cQ rL SL, wX1 cI cZ cQ rN (sA (it_X1_seek_30 SL j_20 (it_X1_seek_20 SL (sI z2 2 0) j_20) j_30) 3 (upd ((it_X1_seek_30 SL j_20 (it_X1_seek_20 SL (sI z2 2 0) j_20) j_30).2 3) (((it_X1_seek_30 SL j_20 (it_X1_seek_20 SL (sI z2 2 0) j_20) j_30).1 2 : Int32)).toNatClampNeg ((100 * (nI j_20)) + (nI j_30))))]) X 12 0 rfl rfl (vn (m := m3) hm3 (by omega) (by decide)) rfl dX1_seek_60 ?_
              refine ww_aload_n (pc := 61) X dX1_seek_61 0 rfl rfl ?_
              refine ww_dup (pc := 62) X dX1_seek_62 rfl ?_
              refine ww_get (pc := 63) (ci := 1) (v := .int ((it_X1_seek_30 SL j_20 (it_X1_seek_20 SL (sI z2 2 0) j_20) j_30).1 2)) (C := RX1) (T := TX1) (N := 9) X inX1_seek_1 7 rfl rfl 7 (by decide) (by decide +kernel) rfl dX1_seek_63 ?_
              refine ww_iconst (pc := 66) (v := 1) X dX1_seek_66 (by decide) ?_
              refine ww_iadd (pc := 67) X dX1_seek_67 ?_
              refine ww_put (pc := 68) (ci := 1) (v := .int (((it_X1_seek_30 SL j_20 (it_X1_seek_20 SL (sI z2 2 0) j_20) j_30).1 2) + 1)) (C := RX1) (T := TX1) (N := 9) (ws' := fl [wX5 cI cZ cQ rL SL, wX1 cI cZ cQ rN (sA (sI (it_X1_seek_30 SL j_20 (it_X1_seek_20 SL (sI z2 2 0) j_20) j_30) 2 (((it_X1_seek_30 SL j_20 (it_X1_seek_20 SL (sI z2 2 0) j_20) j_30).1 2) + 1)) 3 (upd ((it_X1_seek_30 SL j_20 (it_X1_seek_20 SL (sI z2 2 0) j_20) j_30).2 3) (((it_X1_seek_30 SL j_20 (it_X1_seek_20 SL (sI z2 2 0) j_20) j_30).1 2 : Int32)).toNatClampNeg ((100 * (nI j_20)) + (nI j_30))))]) X inX1_seek_1 tyX1 tyX1_ok nmX1 7 rfl rfl 7 (by decide) (by decide +kernel) rfl rfl rfl (Nat.le_of_ble_eq_true rfl) rfl dX1_seek_68 ?_
              refine ww_iinc (pc := 71) (v := (nI j_30) + 1) (lv' := [(3, .int ((nI j_30) + 1)), (0, .ref (rN 0)), (1, .ref (rL 0)), (2, .int (nI j_20))]) X dX1_seek_71 3 rfl rfl (by decide) rfl ?_
              refine ww_goto (pc := 74) (tgt := 30) X dX1_seek_74 (by decide) ?_
              have h10 : (it_X1_seek_30 SL j_20 (it_X1_seek_20 SL (sI z2 2 0) j_20) (j_30 + 1)) = (sA (sI (it_X1_seek_30 SL j_20 (it_X1_seek_20 SL (sI z2 2 0) j_20) j_30) 2 (((it_X1_seek_30 SL j_20 (it_X1_seek_20 SL (sI z2 2 0) j_20) j_30).1 2) + 1)) 3 (upd ((it_X1_seek_30 SL j_20 (it_X1_seek_20 SL (sI z2 2 0) j_20) j_30).2 3) (((it_X1_seek_30 SL j_20 (it_X1_seek_20 SL (sI z2 2 0) j_20) j_30).1 2 : Int32)).toNatClampNeg ((100 * (nI j_20)) + (nI j_30)))) := by
                show bd_X1_seek_30 SL j_20 j_30 (it_X1_seek_30 SL j_20 (it_X1_seek_20 SL (sI z2 2 0) j_20) j_30) = _; unfold bd_X1_seek_30; try rw [if_neg c8]; first | done | rfl
              refine ww_lsub [1, 2, 3, 0] rfl ?_
              exact ww_castI (fun u9 : St => fl [wX5 cI cZ cQ rL SL, wX1 cI cZ cQ rN u9]) (fun (u9 : St) (i9 : Int32) => ([(0, .ref (rN 0)), (1, .ref (rL 0)), (2, .int (nI j_20)), (3, .int i9)] : List (Nat × Value))) h10 (ih (j_30 + 1) (by omega) K)
        refine ww_lsub [1, 2, 3, 0] rfl ?_
        refine L30 31 0 (by omega) ?_
        generalize hz11 : ((it_X1_seek_30 SL j_20 (it_X1_seek_20 SL (sI z2 2 0) j_20) 31)) = z11
        refine ww_iinc (pc := 77) (v := (nI j_20) + 1) (lv' := [(2, .int ((nI j_20) + 1)), (0, .ref (rN 0)), (1, .ref (rL 0)), (3, .int (nI 31))]) X dX1_seek_77 2 rfl rfl (by decide) rfl ?_
        refine ww_goto (pc := 80) (tgt := 20) X dX1_seek_80 (by decide) ?_
        have h12 : (it_X1_seek_20 SL (sI z2 2 0) (j_20 + 1)) = z11 := by
          show bd_X1_seek_20 SL j_20 (it_X1_seek_20 SL (sI z2 2 0) j_20) = _; unfold bd_X1_seek_20; try rw [hz11]; try unfold bd_X1_seek_20_k1; first | done | rfl
        refine ww_lsub [1, 2, 0] rfl ?_
        exact ww_castI (fun u9 : St => fl [wX5 cI cZ cQ rL SL, wX1 cI cZ cQ rN u9]) (fun (u9 : St) (i9 : Int32) => ([(0, .ref (rN 0)), (1, .ref (rL 0)), (2, .int i9)] : List (Nat × Value))) h12 (ih (j_20 + 1) (by omega) K)
    refine ww_lsub [1, 2, 0] rfl ?_
    refine L20 ((SL.1 2).toNatClampNeg) 0 (by omega) ?_
    generalize hz13 : ((it_X1_seek_20 SL (sI z2 2 0) ((SL.1 2).toNatClampNeg))) = z13
    refine ww_aload_n (pc := 83) X dX1_seek_83 0 rfl rfl ?_
    refine ww_iconst (pc := 84) (v := 1) X dX1_seek_84 (by decide) ?_
    refine ww_put (pc := 85) (ci := 1) (v := .int 1) (C := RX1) (T := TX1) (N := 9) (ws' := fl [wX5 cI cZ cQ rL SL, wX1 cI cZ cQ rN (sI z13 3 1)]) X inX1_seek_1 tyX1 tyX1_ok nmX1 7 rfl rfl 8 (by decide) (by decide +kernel) rfl rfl rfl (Nat.le_of_ble_eq_true rfl) rfl dX1_seek_85 ?_
    have h14 : f_X1_seek SL SN = (sI z13 3 1) := by unfold f_X1_seek; try rw [if_pos c1, hz2]; try unfold f_X1_seek_k1; try rw [hz13]; try unfold f_X1_seek_k2; first | done | rfl
    have hw15 := congrArg (fun u9 : St => fl [wX5 cI cZ cQ rL SL, wX1 cI cZ cQ rN u9]) h14.symm
    exact ww_vret X hr hw15 dX1_seek_88
  · have h16 : f_X1_seek SL SN = SN := by unfold f_X1_seek; try rw [if_neg c1]; first | done | rfl
    have hw17 := congrArg (fun u9 : St => fl [wX5 cI cZ cQ rL SL, wX1 cI cZ cQ rN u9]) h16.symm
    exact ww_vret X hr hw17 dX1_seek_7
def f_X7_stays_k1 (ST : St) (SL : St) (SN : St) (x1 : Int32) (z1 : St) : Int32 × St :=
  if x1 = (-1) then
    (z1.1 2, z1)
  else
    if x1 < 0 then
      ((-1), z1)
    else
      if x1 < (z1.1 2) then
        ((z1.2 3) ((x1 : Int32)).toNatClampNeg, z1)
      else
        ((-1), z1)
def f_X7_stays (ST : St) (SL : St) (SN : St) (x1 : Int32) : Int32 × St :=
  f_X7_stays_k1 ST SL SN x1 (f_X1_seek SL SN)
theorem inX7_stays_1 : ∀ w ∈ wsX10, w ∈ wsX7_stays := by decide +kernel
theorem inX7_stays_7 : ∀ w ∈ wsX70, w ∈ wsX7_stays := by decide +kernel
theorem hd_X7_stays : yX7_stays.cls = RX7 ∧ yX7_stays.cls ≠ "java/lang/invoke/MethodHandle" ∧ yX7_stays.cls ≠ "java/lang/invoke/VarHandle" ∧ (parseMethodDescriptor yX7_stays.desc).map (fun d => d.parameters.length) = some 1 := by decide +kernel
set_option maxHeartbeats 4000000 in
set_option maxRecDepth 100000 in
theorem c_X7_stays (l : Launch) (D : va_G) (cI cZ cQ : ClassId) (g : Nat → Nat → Nat) (ST : St) (SL : St) (SN : St) (x1 : Int32) (okL : okS SL) (okN : SN.1 0 ≤ 6) (hs : SN.1 3 = 0 ∨ (¬ SN.1 2 < 0 ∧ SN.1 2 ≤ 124)) : Ci l yX7_stays wsX7_stays { frames := 5, cells := 0, slots := 0, locals := 118 } D (tyL cI cZ cQ) [.ref (g 0 0), .int x1] (fl [wX7 cI cZ cQ g ST, wX5 cI cZ cQ (g 2) SL, wX1 cI cZ cQ (g 7) SN]) ((f_X7_stays ST SL SN x1).1) (fl [wX7 cI cZ cQ g ST, wX5 cI cZ cQ (g 2) SL, wX1 cI cZ cQ (g 7) ((f_X7_stays ST SL SN x1).2)]) := by
  refine ci_of (cc := cX7_stays) (nL := 2) (ty := .int) (lv0 := [(0, .ref (g 0 0)), (1, .int x1)]) (by decide) rfl (Nat.le_of_ble_eq_true rfl) rfl ?_
  intro p e s m args below meth c A X hr
  refine ww_aload_n (pc := 0) X dX7_stays_0 0 rfl rfl ?_
  refine ww_get (pc := 1) (ci := 7) (v := .ref (g 7 0)) (C := RX7) (T := TX7) (N := 9) X inX7_stays_7 0 rfl rfl 6 (by decide) (by decide +kernel) rfl dX7_stays_1 ?_
  refine ww_aload_n (pc := 4) X dX7_stays_4 0 rfl rfl ?_
  refine ww_get (pc := 5) (ci := 7) (v := .ref (g 2 0)) (C := RX7) (T := TX7) (N := 9) X inX7_stays_7 0 rfl rfl 1 (by decide) (by decide +kernel) rfl dX7_stays_5 ?_
  refine ww_gVv (pc := 8) (rest := []) (gsN := [wX7 cI cZ cQ g ST, wX5 cI cZ cQ (g 2) SL, wX1 cI cZ cQ (g 7) (f_X1_seek SL SN)]) (ci := 1) (gi := 1) (qi := 0) X (c_X1_seek l D cI cZ cQ (g 2) (g 7) SL SN (by assumption) (by assumption)) gX7_stays_X1_seek rfl hd_X1_seek [false, true, true] rfl (acons rfl (acons (ad1 _ _ _ _ _ _) rfl)) rfl rfl rfl rfl rfl rfl ⟨rfl, rfl⟩ ⟨Nat.le_of_ble_eq_true rfl, Nat.le_of_ble_eq_true rfl⟩ (Nat.le_of_ble_eq_true rfl) ⟨Nat.zero_le _, Nat.zero_le _⟩ dX7_stays_8 ?_
  generalize hz1 : (f_X1_seek SL SN) = z1
  refine ww_iload_n (pc := 11) X dX7_stays_11 1 rfl rfl ?_
  refine ww_iconst (pc := 12) (v := (-1)) X dX7_stays_12 (by decide) ?_
  refine ww_icmp_ne (pc := 13) (tgt := 24) X dX7_stays_13 (by decide) (fun c2 => ?_) (fun c2 => ?_)
  · refine ww_iload_n (pc := 24) X dX7_stays_24 1 rfl rfl ?_
    refine ww_if_lt (pc := 25) (tgt := 39) X dX7_stays_25 (by decide) (fun c3 => ?_) (fun c3 => ?_)
    · refine ww_iconst (pc := 39) (v := (-1)) X dX7_stays_39 (by decide) ?_
      refine ww_goto (pc := 40) (tgt := 52) X dX7_stays_40 (by decide) ?_
      have h4 : f_X7_stays ST SL SN x1 = ((-1), z1) := by unfold f_X7_stays; try rw [hz1]; try unfold f_X7_stays_k1; try rw [if_neg c2, if_pos c3]; first | done | rfl
      have hw5 := congrArg (fun u9 : Int32 × St => fl [wX7 cI cZ cQ g ST, wX5 cI cZ cQ (g 2) SL, wX1 cI cZ cQ (g 7) u9.2]) h4.symm
      exact ww_iret X hr rfl (congrArg (fun u9 : Int32 × St => u9.1) h4).symm hw5 dX7_stays_52
    · refine ww_iload_n (pc := 28) X dX7_stays_28 1 rfl rfl ?_
      refine ww_aload_n (pc := 29) X dX7_stays_29 0 rfl rfl ?_
      refine ww_get (pc := 30) (ci := 7) (v := .ref (g 7 0)) (C := RX7) (T := TX7) (N := 9) X inX7_stays_7 0 rfl rfl 6 (by decide) (by decide +kernel) rfl dX7_stays_30 ?_
      refine ww_get (pc := 33) (ci := 1) (v := .int (z1.1 2)) (C := RX1) (T := TX1) (N := 9) X inX7_stays_1 8 rfl rfl 7 (by decide) (by decide +kernel) rfl dX7_stays_33 ?_
      refine ww_icmp_lt (pc := 36) (tgt := 43) X dX7_stays_36 (by decide) (fun c6 => ?_) (fun c6 => ?_)
      · refine ww_aload_n (pc := 43) X dX7_stays_43 0 rfl rfl ?_
        refine ww_get (pc := 44) (ci := 7) (v := .ref (g 7 0)) (C := RX7) (T := TX7) (N := 9) X inX7_stays_7 0 rfl rfl 6 (by decide) (by decide +kernel) rfl dX7_stays_44 ?_
        refine ww_get (pc := 47) (ci := 1) (v := .ref (g 7 5)) (C := RX1) (T := TX1) (N := 9) X inX7_stays_1 8 rfl rfl 6 (by decide) (by decide +kernel) rfl dX7_stays_47 ?_
        refine ww_iload_n (pc := 50) X dX7_stays_50 1 rfl rfl ?_
        refine ww_iald (pc := 51) (f := z1.2 3) X 13 0 rfl rfl (ss_in okL hs hz1 c3 c6) dX7_stays_51 ?_
        have h7 : f_X7_stays ST SL SN x1 = ((z1.2 3) ((x1 : Int32)).toNatClampNeg, z1) := by unfold f_X7_stays; try rw [hz1]; try unfold f_X7_stays_k1; try rw [if_neg c2, if_neg c3, if_pos c6]; first | done | rfl
        have hw8 := congrArg (fun u9 : Int32 × St => fl [wX7 cI cZ cQ g ST, wX5 cI cZ cQ (g 2) SL, wX1 cI cZ cQ (g 7) u9.2]) h7.symm
        exact ww_iret X hr rfl (congrArg (fun u9 : Int32 × St => u9.1) h7).symm hw8 dX7_stays_52
      · refine ww_iconst (pc := 39) (v := (-1)) X dX7_stays_39 (by decide) ?_
        refine ww_goto (pc := 40) (tgt := 52) X dX7_stays_40 (by decide) ?_
        have h9 : f_X7_stays ST SL SN x1 = ((-1), z1) := by unfold f_X7_stays; try rw [hz1]; try unfold f_X7_stays_k1; try rw [if_neg c2, if_neg c3, if_neg c6]; first | done | rfl
        have hw10 := congrArg (fun u9 : Int32 × St => fl [wX7 cI cZ cQ g ST, wX5 cI cZ cQ (g 2) SL, wX1 cI cZ cQ (g 7) u9.2]) h9.symm
        exact ww_iret X hr rfl (congrArg (fun u9 : Int32 × St => u9.1) h9).symm hw10 dX7_stays_52
  · refine ww_aload_n (pc := 16) X dX7_stays_16 0 rfl rfl ?_
    refine ww_get (pc := 17) (ci := 7) (v := .ref (g 7 0)) (C := RX7) (T := TX7) (N := 9) X inX7_stays_7 0 rfl rfl 6 (by decide) (by decide +kernel) rfl dX7_stays_17 ?_
    refine ww_get (pc := 20) (ci := 1) (v := .int (z1.1 2)) (C := RX1) (T := TX1) (N := 9) X inX7_stays_1 8 rfl rfl 7 (by decide) (by decide +kernel) rfl dX7_stays_20 ?_
    have h11 : f_X7_stays ST SL SN x1 = (z1.1 2, z1) := by unfold f_X7_stays; try rw [hz1]; try unfold f_X7_stays_k1; try rw [if_pos c2]; first | done | rfl
    have hw12 := congrArg (fun u9 : Int32 × St => fl [wX7 cI cZ cQ g ST, wX5 cI cZ cQ (g 2) SL, wX1 cI cZ cQ (g 7) u9.2]) h11.symm
    exact ww_iret X hr rfl (congrArg (fun u9 : Int32 × St => u9.1) h11).symm hw12 dX7_stays_23
def bd_X7_ask_23 (ST : St) (SL : St) (SN : St) (j : Nat) (u : Int32 × Int32) : Int32 × Int32 :=
  if u.2 ≤ (f_X1_greatestPart SN (nI j)) then
    (u.1, u.2)
  else
    ((nI j), f_X1_greatestPart SN (nI j))
def it_X7_ask_23 (ST : St) (SL : St) (SN : St) (u : Int32 × Int32) : Nat → Int32 × Int32
  | 0 => u
  | j + 1 => bd_X7_ask_23 ST SL SN j (it_X7_ask_23 ST SL SN u j)
def f_X7_ask_k2 (ST : St) (SL : St) (SN : St) (z1 : St) (z6 : Int32 × Int32) : Int32 × St :=
  (z6.1, z1)
def f_X7_ask_k1 (ST : St) (SL : St) (SN : St) (z1 : St) : Int32 × St :=
  f_X7_ask_k2 ST SL SN z1 (it_X7_ask_23 ST SL z1 ((-1), z1.1 2) ((SL.1 4).toNatClampNeg))
def f_X7_ask (ST : St) (SL : St) (SN : St) : Int32 × St :=
  f_X7_ask_k1 ST SL SN (f_X1_seek SL SN)
theorem inX7_ask_1 : ∀ w ∈ wsX10, w ∈ wsX7_ask := by decide +kernel
theorem inX7_ask_5 : ∀ w ∈ wsX50, w ∈ wsX7_ask := by decide +kernel
theorem inX7_ask_7 : ∀ w ∈ wsX70, w ∈ wsX7_ask := by decide +kernel
theorem hd_X7_ask : yX7_ask.cls = RX7 ∧ yX7_ask.cls ≠ "java/lang/invoke/MethodHandle" ∧ yX7_ask.cls ≠ "java/lang/invoke/VarHandle" ∧ (parseMethodDescriptor yX7_ask.desc).map (fun d => d.parameters.length) = some 0 := by decide +kernel
set_option maxHeartbeats 4000000 in
set_option maxRecDepth 100000 in
theorem c_X7_ask (l : Launch) (D : va_G) (cI cZ cQ : ClassId) (g : Nat → Nat → Nat) (ST : St) (SL : St) (SN : St) (okL : okS SL) (okN : SN.1 0 ≤ 6) (hs : SN.1 3 = 0 ∨ (¬ SN.1 2 < 0 ∧ SN.1 2 ≤ 124)) : Ci l yX7_ask wsX7_ask { frames := 5, cells := 0, slots := 0, locals := 118 } D (tyL cI cZ cQ) [.ref (g 0 0)] (fl [wX7 cI cZ cQ g ST, wX5 cI cZ cQ (g 2) SL, wX1 cI cZ cQ (g 7) SN]) ((f_X7_ask ST SL SN).1) (fl [wX7 cI cZ cQ g ST, wX5 cI cZ cQ (g 2) SL, wX1 cI cZ cQ (g 7) ((f_X7_ask ST SL SN).2)]) := by
  refine ci_of (cc := cX7_ask) (nL := 5) (ty := .int) (lv0 := [(0, .ref (g 0 0))]) (by decide) rfl (Nat.le_of_ble_eq_true rfl) rfl ?_
  intro p e s m args below meth c A X hr
  refine ww_aload_n (pc := 0) X dX7_ask_0 0 rfl rfl ?_
  refine ww_get (pc := 1) (ci := 7) (v := .ref (g 7 0)) (C := RX7) (T := TX7) (N := 9) X inX7_ask_7 0 rfl rfl 6 (by decide) (by decide +kernel) rfl dX7_ask_1 ?_
  refine ww_aload_n (pc := 4) X dX7_ask_4 0 rfl rfl ?_
  refine ww_get (pc := 5) (ci := 7) (v := .ref (g 2 0)) (C := RX7) (T := TX7) (N := 9) X inX7_ask_7 0 rfl rfl 1 (by decide) (by decide +kernel) rfl dX7_ask_5 ?_
  refine ww_gVv (pc := 8) (rest := []) (gsN := [wX7 cI cZ cQ g ST, wX5 cI cZ cQ (g 2) SL, wX1 cI cZ cQ (g 7) (f_X1_seek SL SN)]) (ci := 1) (gi := 1) (qi := 0) X (c_X1_seek l D cI cZ cQ (g 2) (g 7) SL SN (by assumption) (by assumption)) gX7_ask_X1_seek rfl hd_X1_seek [false, true, true] rfl (acons rfl (acons (ad1 _ _ _ _ _ _) rfl)) rfl rfl rfl rfl rfl rfl ⟨rfl, rfl⟩ ⟨Nat.le_of_ble_eq_true rfl, Nat.le_of_ble_eq_true rfl⟩ (Nat.le_of_ble_eq_true rfl) ⟨Nat.zero_le _, Nat.zero_le _⟩ dX7_ask_8 ?_
  generalize hz1 : (f_X1_seek SL SN) = z1
  have hg := sk_post okL hs hz1
  refine ww_iconst (pc := 11) (v := (-1)) X dX7_ask_11 (by decide) ?_
  refine ww_istore_n (pc := 12) (lv' := [(1, .int (-1)), (0, .ref (g 0 0))]) X dX7_ask_12 rfl (by decide) rfl ?_
  refine ww_aload_n (pc := 13) X dX7_ask_13 1 rfl rfl ?_
  refine ww_get (pc := 14) (ci := 7) (v := .ref (g 7 0)) (C := RX7) (T := TX7) (N := 9) X inX7_ask_7 0 rfl rfl 6 (by decide) (by decide +kernel) rfl dX7_ask_14 ?_
  refine ww_get (pc := 17) (ci := 1) (v := .int (z1.1 2)) (C := RX1) (T := TX1) (N := 9) X inX7_ask_1 8 rfl rfl 7 (by decide) (by decide +kernel) rfl dX7_ask_17 ?_
  refine ww_istore_n (pc := 20) (lv' := [(2, .int (z1.1 2)), (1, .int (-1)), (0, .ref (g 0 0))]) X dX7_ask_20 rfl (by decide) rfl ?_
  refine ww_iconst (pc := 21) (v := 0) X dX7_ask_21 (by decide) ?_
  refine ww_istore_n (pc := 22) (lv' := [(3, .int 0), (2, .int (z1.1 2)), (1, .int (-1)), (0, .ref (g 0 0))]) X dX7_ask_22 rfl (by decide) rfl ?_
  have L23 : ∀ (k_23 j_23 : Nat), j_23 + k_23 = (SL.1 4).toNatClampNeg → WW p l e (headSpec wsX7_ask { frames := 5, cells := 0, slots := 0, locals := 118 }).room s m args below meth c 5 D A 0 0 (RQi below args s D A ((f_X7_ask ST SL SN).1) (fl [wX7 cI cZ cQ g ST, wX5 cI cZ cQ (g 2) SL, wX1 cI cZ cQ (g 7) ((f_X7_ask ST SL SN).2)])) (fl [wX7 cI cZ cQ g ST, wX5 cI cZ cQ (g 2) SL, wX1 cI cZ cQ (g 7) z1]) [(0, .ref (g 0 0)), (1, .int ((it_X7_ask_23 ST SL z1 ((-1), z1.1 2) ((SL.1 4).toNatClampNeg)).1)), (2, .int ((it_X7_ask_23 ST SL z1 ((-1), z1.1 2) ((SL.1 4).toNatClampNeg)).2)), (3, .int (nI ((SL.1 4).toNatClampNeg)))] 61 [] → WW p l e (headSpec wsX7_ask { frames := 5, cells := 0, slots := 0, locals := 118 }).room s m args below meth c 5 D A 0 0 (RQi below args s D A ((f_X7_ask ST SL SN).1) (fl [wX7 cI cZ cQ g ST, wX5 cI cZ cQ (g 2) SL, wX1 cI cZ cQ (g 7) ((f_X7_ask ST SL SN).2)])) (fl [wX7 cI cZ cQ g ST, wX5 cI cZ cQ (g 2) SL, wX1 cI cZ cQ (g 7) z1]) [(0, .ref (g 0 0)), (1, .int ((it_X7_ask_23 ST SL z1 ((-1), z1.1 2) j_23).1)), (2, .int ((it_X7_ask_23 ST SL z1 ((-1), z1.1 2) j_23).2)), (3, .int (nI j_23))] 23 [] := by
    intro k_23
    induction k_23 with
    | zero =>
      intro j_23 hj K
      have hjB : j_23 = (SL.1 4).toNatClampNeg := by omega
      subst hjB
      refine ww_iload_n (pc := 23) X dX7_ask_23 3 rfl rfl ?_
      refine ww_aload_n (pc := 24) X dX7_ask_24 0 rfl rfl ?_
      refine ww_get (pc := 25) (ci := 7) (v := .ref (g 2 0)) (C := RX7) (T := TX7) (N := 9) X inX7_ask_7 0 rfl rfl 1 (by decide) (by decide +kernel) rfl dX7_ask_25 ?_
      refine ww_get (pc := 28) (ci := 5) (v := .int (SL.1 4)) (C := RX5) (T := TX5) (N := 11) X inX7_ask_5 1 rfl rfl 4 (by decide) (by decide +kernel) rfl dX7_ask_28 ?_
      exact ww_icmp_ge (pc := 31) (tgt := 61) X dX7_ask_31 (by decide) (fun _ => K) (fun c9 => absurd (lp_ge0c (Nat.le_refl _) (cl_lt _)) c9)
    | succ k_23 ih =>
      intro j_23 hj K
      have hjB : j_23 < (SL.1 4).toNatClampNeg := by omega
      have h6_23 := okS_g okL
      refine ww_iload_n (pc := 23) X dX7_ask_23 3 rfl rfl ?_
      refine ww_aload_n (pc := 24) X dX7_ask_24 0 rfl rfl ?_
      refine ww_get (pc := 25) (ci := 7) (v := .ref (g 2 0)) (C := RX7) (T := TX7) (N := 9) X inX7_ask_7 0 rfl rfl 1 (by decide) (by decide +kernel) rfl dX7_ask_25 ?_
      refine ww_get (pc := 28) (ci := 5) (v := .int (SL.1 4)) (C := RX5) (T := TX5) (N := 11) X inX7_ask_5 1 rfl rfl 4 (by decide) (by decide +kernel) rfl dX7_ask_28 ?_
      refine ww_icmp_ge (pc := 31) (tgt := 61) X dX7_ask_31 (by decide) (fun c9 => absurd c9 (lp_ge1c hjB)) (fun _ => ?_)
      refine ww_aload_n (pc := 34) X dX7_ask_34 0 rfl rfl ?_
      refine ww_get (pc := 35) (ci := 7) (v := .ref (g 7 0)) (C := RX7) (T := TX7) (N := 9) X inX7_ask_7 0 rfl rfl 6 (by decide) (by decide +kernel) rfl dX7_ask_35 ?_
      refine ww_iload_n (pc := 38) X dX7_ask_38 3 rfl rfl ?_
      refine ww_gVi (pc := 39) (rest := []) (gsN := [wX7 cI cZ cQ g ST, wX5 cI cZ cQ (g 2) SL, wX1 cI cZ cQ (g 7) z1]) (ci := 1) (gi := 0) (qi := 0) X (c_X1_greatestPart l D cI cZ cQ (g 7) z1 (nI j_23) hg.1 hg.2) gX7_ask_X1_greatestPart rfl hd_X1_greatestPart [false, false, true] rfl rfl rfl rfl rfl rfl rfl rfl ⟨rfl, rfl⟩ ⟨Nat.le_of_ble_eq_true rfl, Nat.le_of_ble_eq_true rfl⟩ (Nat.le_of_ble_eq_true rfl) ⟨Nat.zero_le _, Nat.zero_le _⟩ dX7_ask_39 ?_
      refine ww_istore (pc := 42) (lv' := [(4, .int (f_X1_greatestPart z1 (nI j_23))), (0, .ref (g 0 0)), (1, .int ((it_X7_ask_23 ST SL z1 ((-1), z1.1 2) j_23).1)), (2, .int ((it_X7_ask_23 ST SL z1 ((-1), z1.1 2) j_23).2)), (3, .int (nI j_23))]) X dX7_ask_42 (by decide) rfl ?_
      refine ww_iload (pc := 44) X dX7_ask_44 0 rfl ?_
      refine ww_iload_n (pc := 46) X dX7_ask_46 3 rfl rfl ?_
      refine ww_icmp_ge (pc := 47) (tgt := 55) X dX7_ask_47 (by decide) (fun c3 => ?_) (fun c3 => ?_)
      · refine ww_iinc (pc := 55) (v := (nI j_23) + 1) (lv' := [(3, .int ((nI j_23) + 1)), (4, .int (f_X1_greatestPart z1 (nI j_23))), (0, .ref (g 0 0)), (1, .int ((it_X7_ask_23 ST SL z1 ((-1), z1.1 2) j_23).1)), (2, .int ((it_X7_ask_23 ST SL z1 ((-1), z1.1 2) j_23).2))]) X dX7_ask_55 4 rfl rfl (by decide) rfl ?_
        refine ww_goto (pc := 58) (tgt := 23) X dX7_ask_58 (by decide) ?_
        have h4 : (it_X7_ask_23 ST SL z1 ((-1), z1.1 2) (j_23 + 1)) = ((it_X7_ask_23 ST SL z1 ((-1), z1.1 2) j_23).1, (it_X7_ask_23 ST SL z1 ((-1), z1.1 2) j_23).2) := by
          show bd_X7_ask_23 ST SL z1 j_23 (it_X7_ask_23 ST SL z1 ((-1), z1.1 2) j_23) = _; unfold bd_X7_ask_23; try rw [if_pos c3]; first | done | rfl
        refine ww_lsub [2, 3, 4, 0] rfl ?_
        exact ww_castI (fun u9 : Int32 × Int32 => fl [wX7 cI cZ cQ g ST, wX5 cI cZ cQ (g 2) SL, wX1 cI cZ cQ (g 7) z1]) (fun (u9 : Int32 × Int32) (i9 : Int32) => ([(0, .ref (g 0 0)), (1, .int u9.1), (2, .int u9.2), (3, .int i9)] : List (Nat × Value))) h4 (ih (j_23 + 1) (by omega) K)
      · refine ww_iload_n (pc := 50) X dX7_ask_50 4 rfl rfl ?_
        refine ww_istore_n (pc := 51) (lv' := [(1, .int (nI j_23)), (4, .int (f_X1_greatestPart z1 (nI j_23))), (0, .ref (g 0 0)), (2, .int ((it_X7_ask_23 ST SL z1 ((-1), z1.1 2) j_23).2)), (3, .int (nI j_23))]) X dX7_ask_51 rfl (by decide) rfl ?_
        refine ww_iload (pc := 52) X dX7_ask_52 1 rfl ?_
        refine ww_istore_n (pc := 54) (lv' := [(2, .int (f_X1_greatestPart z1 (nI j_23))), (1, .int (nI j_23)), (4, .int (f_X1_greatestPart z1 (nI j_23))), (0, .ref (g 0 0)), (3, .int (nI j_23))]) X dX7_ask_54 rfl (by decide) rfl ?_
        refine ww_iinc (pc := 55) (v := (nI j_23) + 1) (lv' := [(3, .int ((nI j_23) + 1)), (2, .int (f_X1_greatestPart z1 (nI j_23))), (1, .int (nI j_23)), (4, .int (f_X1_greatestPart z1 (nI j_23))), (0, .ref (g 0 0))]) X dX7_ask_55 4 rfl rfl (by decide) rfl ?_
        refine ww_goto (pc := 58) (tgt := 23) X dX7_ask_58 (by decide) ?_
        have h5 : (it_X7_ask_23 ST SL z1 ((-1), z1.1 2) (j_23 + 1)) = ((nI j_23), f_X1_greatestPart z1 (nI j_23)) := by
          show bd_X7_ask_23 ST SL z1 j_23 (it_X7_ask_23 ST SL z1 ((-1), z1.1 2) j_23) = _; unfold bd_X7_ask_23; try rw [if_neg c3]; first | done | rfl
        refine ww_lsub [4, 2, 1, 0] rfl ?_
        exact ww_castI (fun u9 : Int32 × Int32 => fl [wX7 cI cZ cQ g ST, wX5 cI cZ cQ (g 2) SL, wX1 cI cZ cQ (g 7) z1]) (fun (u9 : Int32 × Int32) (i9 : Int32) => ([(0, .ref (g 0 0)), (1, .int u9.1), (2, .int u9.2), (3, .int i9)] : List (Nat × Value))) h5 (ih (j_23 + 1) (by omega) K)
  refine ww_lsub [3, 2, 1, 0] rfl ?_
  refine L23 ((SL.1 4).toNatClampNeg) 0 (by omega) ?_
  generalize hz6 : ((it_X7_ask_23 ST SL z1 ((-1), z1.1 2) ((SL.1 4).toNatClampNeg))) = z6
  refine ww_iload_n (pc := 61) X dX7_ask_61 1 rfl rfl ?_
  have h7 : f_X7_ask ST SL SN = (z6.1, z1) := by unfold f_X7_ask; try rw [hz1]; try unfold f_X7_ask_k1; try rw [hz6]; try unfold f_X7_ask_k2; first | done | rfl
  have hw8 := congrArg (fun u9 : Int32 × St => fl [wX7 cI cZ cQ g ST, wX5 cI cZ cQ (g 2) SL, wX1 cI cZ cQ (g 7) u9.2]) h7.symm
  exact ww_iret X hr rfl (congrArg (fun u9 : Int32 × St => u9.1) h7).symm hw8 dX7_ask_62
