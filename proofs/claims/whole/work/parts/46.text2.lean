theorem okT_sA {S : St} {j : Nat} {F : Nat → Int32} (h : okT S) : okT (sA S j F) := ⟨h.1, h.2.1, h.2.2.1, h.2.2.2⟩
/-- a reader's step that goes on, or finds a fault -/
def mT (S S' : St) : Prop := kT S S' ∧ (S'.1 7 = 0 → S.1 7 = 0 ∧ (S.1 6).toNatClampNeg ≤ (S'.1 6).toNatClampNeg)
theorem mT_rf {S : St} (h : okT S) : mT S S := ⟨kT_rf h, fun e => ⟨e, Nat.le_refl _⟩⟩
theorem mT_t {S T U : St} (h : mT S T) (g : mT T U) : mT S U := ⟨kT_t h.1 g.1, fun e => ⟨(h.2 (g.2 e).1).1, Nat.le_trans (h.2 (g.2 e).1).2 (g.2 e).2⟩⟩
theorem m_inc {S : St} (h : okT S) (hl : S.1 6 < S.1 0) : mT S (sI S 6 ((S.1 6) + 1)) := ⟨kT_inc h hl, fun e => ⟨(sI_ne (by decide)).symm.trans e, by rw [(okT_inc h hl).2]; omega⟩⟩
theorem fl_ne {S : St} {x : Int32} (hx : ¬ x = 0) : ¬ (f_X8_fails S x).1 7 = 0 := by
  unfold f_X8_fails
  split
  · rw [sI_eq]; exact hx
  · rw [sI_eq]; assumption
theorem k_fails {S : St} (h : okT S) (x : Int32) : kT S (f_X8_fails S x) := by
  unfold f_X8_fails
  split <;> exact kT_7 h _
theorem m_fails {S : St} (h : okT S) {x : Int32} (hx : ¬ x = 0) : mT S (f_X8_fails S x) := ⟨k_fails h x, fun e => absurd e (fl_ne hx)⟩
theorem m_lps : ∀ (k : Nat) (S : St), okT S → mT S (lp_X8_skips_0 k S)
  | 0, S, h => mT_rf h
  | k + 1, S, h => by
    show mT S (lb_X8_skips_0 (lp_X8_skips_0 k) S)
    unfold lb_X8_skips_0
    repeat' split
    all_goals first | exact mT_rf h | exact mT_t (m_inc h (lk_lt (by assumption) (by decide))) (m_lps k _ (kT_inc h (lk_lt (by assumption) (by decide))).1)
theorem m_skips {S : St} (h : okT S) : mT S (f_X8_skips S) := m_lps 241 S h
theorem m_stops {S : St} (h : okT S) : mT S (f_X8_stops S) := by
  have h1 := m_skips h
  unfold f_X8_stops
  generalize f_X8_skips S = z at h1 ⊢
  unfold f_X8_stops_k1 f_X8_stops_k2
  split
  · split
    · exact mT_t h1 (m_inc h1.1.1 (lk_lt (by assumption) (by decide)))
    · exact mT_t h1 (m_fails h1.1.1 (by decide))
  · exact h1
theorem k_back {S : St} {x : Int32} (h : okT S) (h0 : ¬ x < 0) (h1 : x ≤ S.1 0) : kT S (sI S 6 x) := ⟨⟨h.1, h.2.1, by rw [sI_eq]; exact h0, by rw [sI_eq, sI_ne (by decide)]; exact h1⟩, rfl, fun _ a _ => sI_ne a⟩
theorem m_lpn (a b x : Int32) (h0 : ¬ x < 0) : ∀ (k : Nat) (u : St × Int32), okT u.1 → x ≤ u.1.1 0 → mT u.1 (lp_X8_number_42 a b x k u).2
  | 0, u, h, _ => mT_rf h
  | k + 1, u, h, h1 => by
    show mT u.1 (lb_X8_number_42 a b x (lp_X8_number_42 a b x k) u).2
    have hb : mT u.1 (f_X8_fails (sI u.1 6 x) 2) := ⟨kT_t (k_back h h0 h1) (k_fails (k_back h h0 h1).1 _), fun e => absurd e (fl_ne (by decide))⟩
    unfold lb_X8_number_42 lb_X8_number_42_k1 lb_X8_number_42_k2
    split
    · split
      · exact hb
      · split
        · exact hb
        · exact mT_rf h
    · rename_i hc
      have hi := m_inc h (dg_lt hc)
      split
      · exact mT_t hi (m_lpn a b x h0 k ((sI u.1 6 ((u.1.1 6) + 1)), u.2) hi.1.1 (by show x ≤ (sI u.1 6 _).1 0; rw [sI_ne (by decide)]; exact h1))
      · exact mT_t hi (m_lpn a b x h0 k ((sI u.1 6 ((u.1.1 6) + 1)), ((10 * u.2) + (f_X8_look u.1)) - 48) hi.1.1 (by show x ≤ (sI u.1 6 _).1 0; rw [sI_ne (by decide)]; exact h1))
theorem m_number {S : St} {a b : Int32} (h : okT S) : mT S (f_X8_number S a b).2 := by
  have h1 := m_skips h
  unfold f_X8_number
  generalize f_X8_skips S = z at h1 ⊢
  unfold f_X8_number_k1 f_X8_number_k2
  split
  · split
    · exact mT_t h1 (m_fails h1.1.1 (by decide))
    · exact mT_t h1 (m_lpn a b (z.1 6) h1.1.1.2.2.1 241 (z, 0) h1.1.1 h1.1.1.2.2.2)
  · exact h1
theorem m_opens {S : St} {a b : Int32} (h : okT S) (hl : S.1 6 < S.1 0) : mT S (f_X8_opens S a b).2 := by
  unfold f_X8_opens f_X8_opens_k1
  split
  · exact m_fails h (by decide)
  · exact m_inc h hl
/-- how many clauses of each kind the draft may have -/
def okC (S : St) : Prop := (¬ (S.2 5) ((2 : Int32)).toNatClampNeg < 0 ∧ (S.2 5) ((2 : Int32)).toNatClampNeg ≤ 4) ∧ (¬ (S.2 5) ((3 : Int32)).toNatClampNeg < 0 ∧ (S.2 5) ((3 : Int32)).toNatClampNeg ≤ 7) ∧ (¬ (S.2 5) ((4 : Int32)).toNatClampNeg < 0 ∧ (S.2 5) ((4 : Int32)).toNatClampNeg ≤ 6)
theorem rd_in {S : St} {z : Int32 × St} {i n : Nat} {N : Int32} (hz : f_X8_opens S ((S.2 5) i) N = z) (hc : ¬ z.1 = 0) (h0 : ¬ (S.2 5) i < 0) (h1 : (S.2 5) i ≤ N) (hN : N = nI n) : vp_in ((z.2.2 5) i) n := by
  subst hz
  unfold f_X8_opens f_X8_opens_k1 at hc ⊢
  split at hc
  · exact absurd rfl hc
  · rename_i h
    rw [if_neg h]
    exact vin_ne h0 h1 h hN
def f_X8_readsLaw_k8 (SM : St) (z11 : Int32 × St) (z15 : Int32 × St) (z16 : Int32 × St) (z17 : St) : St :=
  z17
def f_X8_readsLaw_k7 (SM : St) (z11 : Int32 × St) (z15 : Int32 × St) (z16 : Int32 × St) : St :=
  f_X8_readsLaw_k8 SM z11 z15 z16 (f_X8_stops (sA z16.2 5 (upd (z16.2.2 5) ((1 : Int32)).toNatClampNeg z16.1)))
def f_X8_readsLaw_k6 (SM : St) (z11 : Int32 × St) (z15 : Int32 × St) : St :=
  f_X8_readsLaw_k7 SM z11 z15 (f_X8_number (sA z15.2 5 (upd (z15.2.2 5) ((0 : Int32)).toNatClampNeg z15.1)) 1 60)
def f_X8_readsLaw_k5 (SM : St) (z11 : Int32 × St) : St :=
  if z11.1 = 0 then
    z11.2
  else
    f_X8_readsLaw_k6 SM z11 (f_X8_number z11.2 1 99)
def f_X8_readsLaw_k4 (SM : St) (z2 : Int32 × St) (z6 : Int32 × St) (z7 : Int32 × St) (z8 : St) : St :=
  z8
def f_X8_readsLaw_k3 (SM : St) (z2 : Int32 × St) (z6 : Int32 × St) (z7 : Int32 × St) : St :=
  f_X8_readsLaw_k4 SM z2 z6 z7 (f_X8_stops (sA z7.2 5 (upd (z7.2.2 5) ((1 : Int32)).toNatClampNeg z7.1)))
def f_X8_readsLaw_k2 (SM : St) (z2 : Int32 × St) (z6 : Int32 × St) : St :=
  f_X8_readsLaw_k3 SM z2 z6 (f_X8_number (sA z6.2 5 (upd (z6.2.2 5) ((0 : Int32)).toNatClampNeg z6.1)) 1 60)
def f_X8_readsLaw_k1 (SM : St) (z2 : Int32 × St) : St :=
  if z2.1 = 0 then
    z2.2
  else
    f_X8_readsLaw_k2 SM z2 (f_X8_number z2.2 1 99)
def f_X8_readsLaw (SM : St) : St :=
  if ((SM.2 5) ((0 : Int32)).toNatClampNeg) = 0 then
    f_X8_readsLaw_k5 SM (f_X8_opens SM 0 1)
  else
    f_X8_readsLaw_k1 SM (f_X8_opens SM 1 1)
theorem inX8_readsLaw_8 : ∀ w ∈ wsX80, w ∈ wsX8_readsLaw := by decide +kernel
theorem hd_X8_readsLaw : yX8_readsLaw.cls = RX8 ∧ yX8_readsLaw.cls ≠ "java/lang/invoke/MethodHandle" ∧ yX8_readsLaw.cls ≠ "java/lang/invoke/VarHandle" ∧ (parseMethodDescriptor yX8_readsLaw.desc).map (fun d => d.parameters.length) = some 0 := by decide +kernel
set_option maxHeartbeats 4000000 in
set_option maxRecDepth 100000 in
theorem c_X8_readsLaw (l : Launch) (D : va_G) (cI cZ cQ : ClassId) (rM : Nat → Nat) (SM : St) (okt : okT SM) (hl : SM.1 6 < SM.1 0) : Cv l yX8_readsLaw wsX8_readsLaw { frames := 3, cells := 0, slots := 0, locals := 64 } D (tyL cI cZ cQ) [.ref (rM 0)] (fl [wX8 cI cZ cQ rM SM]) (fl [wX8 cI cZ cQ rM (f_X8_readsLaw SM)]) := by
  refine cv_of (cc := cX8_readsLaw) (nL := 1) (lv0 := [(0, .ref (rM 0))]) (by decide) rfl (Nat.le_of_ble_eq_true rfl) rfl ?_
  intro p e s m args below meth c A X hr
  refine ww_aload_n (pc := 0) X dX8_readsLaw_0 0 rfl rfl ?_
  refine ww_aload_n (pc := 1) X dX8_readsLaw_1 0 rfl rfl ?_
  refine ww_get (pc := 2) (ci := 8) (v := .ref (rM 6)) (C := RX8) (T := TX8) (N := 27) X inX8_readsLaw_8 0 rfl rfl 7 (by decide) (by decide +kernel) rfl dX8_readsLaw_2 ?_
  refine ww_iconst (pc := 5) (v := 0) X dX8_readsLaw_5 (by decide) ?_
  refine ww_iald (pc := 6) (f := SM.2 5) X 6 0 rfl rfl (vl_in (by decide)) dX8_readsLaw_6 ?_
  refine ww_if_ne (pc := 7) (tgt := 14) X dX8_readsLaw_7 (by decide) (fun c1 => ?_) (fun c1 => ?_)
  · refine ww_iconst (pc := 14) (v := 1) X dX8_readsLaw_14 (by decide) ?_
    refine ww_iconst (pc := 15) (v := 1) X dX8_readsLaw_15 (by decide) ?_
    refine ww_gVi (pc := 16) (rest := []) (gsN := [wX8 cI cZ cQ rM ((f_X8_opens SM 1 1).2)]) (ci := 8) (gi := 0) (qi := 0) X (c_X8_opens l D cI cZ cQ rM SM 1 1) gX8_readsLaw_X8_opens rfl hd_X8_opens [true] rfl (acons (ad8 _ _ _ _ _ _) rfl) rfl rfl rfl rfl rfl rfl ⟨rfl, rfl⟩ ⟨Nat.le_of_ble_eq_true rfl, Nat.le_of_ble_eq_true rfl⟩ (Nat.le_of_ble_eq_true rfl) ⟨Nat.zero_le _, Nat.zero_le _⟩ dX8_readsLaw_16 ?_
    generalize hz2 : (f_X8_opens SM 1 1) = z2
    have ok1 : okT z2.2 := by rw [← hz2]; exact (m_opens okt hl).1.1
    refine ww_if_eq (pc := 19) (tgt := 52) X dX8_readsLaw_19 (by decide) (fun c3 => ?_) (fun c3 => ?_)
    · have h4 : f_X8_readsLaw SM = z2.2 := by unfold f_X8_readsLaw; try rw [if_neg c1, hz2]; try unfold f_X8_readsLaw_k1; try rw [if_pos c3]; first | done | rfl
      have hw5 := congrArg (fun u9 : St => fl [wX8 cI cZ cQ rM u9]) h4.symm
      exact ww_vret X hr hw5 dX8_readsLaw_52
    · refine ww_aload_n (pc := 22) X dX8_readsLaw_22 0 rfl rfl ?_
      refine ww_get (pc := 23) (ci := 8) (v := .ref (rM 6)) (C := RX8) (T := TX8) (N := 27) X inX8_readsLaw_8 0 rfl rfl 7 (by decide) (by decide +kernel) rfl dX8_readsLaw_23 ?_
      refine ww_iconst (pc := 26) (v := 0) X dX8_readsLaw_26 (by decide) ?_
      refine ww_aload_n (pc := 27) X dX8_readsLaw_27 0 rfl rfl ?_
      refine ww_iconst (pc := 28) (v := 1) X dX8_readsLaw_28 (by decide) ?_
      refine ww_bipush (pc := 29) (v := 99) X dX8_readsLaw_29 (by decide) ?_
      refine ww_gVi (pc := 31) (rest := [.int 0, .ref (rM 6)]) (gsN := [wX8 cI cZ cQ rM ((f_X8_number z2.2 1 99).2)]) (ci := 8) (gi := 0) (qi := 0) X (c_X8_number l D cI cZ cQ rM z2.2 1 99 (by assumption)) gX8_readsLaw_X8_number rfl hd_X8_number [true] rfl (acons (ad8 _ _ _ _ _ _) rfl) rfl rfl rfl rfl rfl rfl ⟨rfl, rfl⟩ ⟨Nat.le_of_ble_eq_true rfl, Nat.le_of_ble_eq_true rfl⟩ (Nat.le_of_ble_eq_true rfl) ⟨Nat.zero_le _, Nat.zero_le _⟩ dX8_readsLaw_31 ?_
      generalize hz6 : (f_X8_number z2.2 1 99) = z6
      have ok2 : okT z6.2 := by rw [← hz6]; exact (m_number ok1).1.1
      refine ww_iast (pc := 34) (f := z6.2.2 5) (ws' := fl [wX8 cI cZ cQ rM (sA z6.2 5 (upd (z6.2.2 5) ((0 : Int32)).toNatClampNeg z6.1))]) X 6 0 rfl rfl (vl_in (by decide)) (st8a_5 _ _ _ _ _ _) dX8_readsLaw_34 ?_
      refine ww_aload_n (pc := 35) X dX8_readsLaw_35 0 rfl rfl ?_
      refine ww_get (pc := 36) (ci := 8) (v := .ref (rM 6)) (C := RX8) (T := TX8) (N := 27) X inX8_readsLaw_8 0 rfl rfl 7 (by decide) (by decide +kernel) rfl dX8_readsLaw_36 ?_
      refine ww_iconst (pc := 39) (v := 1) X dX8_readsLaw_39 (by decide) ?_
      refine ww_aload_n (pc := 40) X dX8_readsLaw_40 0 rfl rfl ?_
      refine ww_iconst (pc := 41) (v := 1) X dX8_readsLaw_41 (by decide) ?_
      refine ww_bipush (pc := 42) (v := 60) X dX8_readsLaw_42 (by decide) ?_
      refine ww_gVi (pc := 44) (rest := [.int 1, .ref (rM 6)]) (gsN := [wX8 cI cZ cQ rM ((f_X8_number (sA z6.2 5 (upd (z6.2.2 5) ((0 : Int32)).toNatClampNeg z6.1)) 1 60).2)]) (ci := 8) (gi := 0) (qi := 0) X (c_X8_number l D cI cZ cQ rM (sA z6.2 5 (upd (z6.2.2 5) ((0 : Int32)).toNatClampNeg z6.1)) 1 60 (okT_sA ok2)) gX8_readsLaw_X8_number rfl hd_X8_number [true] rfl (acons (ad8 _ _ _ _ _ _) rfl) rfl rfl rfl rfl rfl rfl ⟨rfl, rfl⟩ ⟨Nat.le_of_ble_eq_true rfl, Nat.le_of_ble_eq_true rfl⟩ (Nat.le_of_ble_eq_true rfl) ⟨Nat.zero_le _, Nat.zero_le _⟩ dX8_readsLaw_44 ?_
      generalize hz7 : (f_X8_number (sA z6.2 5 (upd (z6.2.2 5) ((0 : Int32)).toNatClampNeg z6.1)) 1 60) = z7
      have ok3 : okT z7.2 := by rw [← hz7]; exact (m_number (okT_sA ok2)).1.1
      refine ww_iast (pc := 47) (f := z7.2.2 5) (ws' := fl [wX8 cI cZ cQ rM (sA z7.2 5 (upd (z7.2.2 5) ((1 : Int32)).toNatClampNeg z7.1))]) X 6 0 rfl rfl (vl_in (by decide)) (st8a_5 _ _ _ _ _ _) dX8_readsLaw_47 ?_
      refine ww_aload_n (pc := 48) X dX8_readsLaw_48 0 rfl rfl ?_
      refine ww_gVv (pc := 49) (rest := []) (gsN := [wX8 cI cZ cQ rM (f_X8_stops (sA z7.2 5 (upd (z7.2.2 5) ((1 : Int32)).toNatClampNeg z7.1)))]) (ci := 8) (gi := 0) (qi := 0) X (c_X8_stops l D cI cZ cQ rM (sA z7.2 5 (upd (z7.2.2 5) ((1 : Int32)).toNatClampNeg z7.1)) (okT_sA ok3)) gX8_readsLaw_X8_stops rfl hd_X8_stops [true] rfl (acons (ad8 _ _ _ _ _ _) rfl) rfl rfl rfl rfl rfl rfl ⟨rfl, rfl⟩ ⟨Nat.le_of_ble_eq_true rfl, Nat.le_of_ble_eq_true rfl⟩ (Nat.le_of_ble_eq_true rfl) ⟨Nat.zero_le _, Nat.zero_le _⟩ dX8_readsLaw_49 ?_
      generalize hz8 : (f_X8_stops (sA z7.2 5 (upd (z7.2.2 5) ((1 : Int32)).toNatClampNeg z7.1))) = z8
      have h9 : f_X8_readsLaw SM = z8 := by unfold f_X8_readsLaw; try rw [if_neg c1, hz2]; try unfold f_X8_readsLaw_k1; try rw [if_neg c3, hz6]; try unfold f_X8_readsLaw_k2; try rw [hz7]; try unfold f_X8_readsLaw_k3; try rw [hz8]; try unfold f_X8_readsLaw_k4; first | done | rfl
      have hw10 := congrArg (fun u9 : St => fl [wX8 cI cZ cQ rM u9]) h9.symm
      exact ww_vret X hr hw10 dX8_readsLaw_52
  · refine ww_iconst (pc := 10) (v := 0) X dX8_readsLaw_10 (by decide) ?_
    refine ww_goto (pc := 11) (tgt := 15) X dX8_readsLaw_11 (by decide) ?_
    refine ww_iconst (pc := 15) (v := 1) X dX8_readsLaw_15 (by decide) ?_
    refine ww_gVi (pc := 16) (rest := []) (gsN := [wX8 cI cZ cQ rM ((f_X8_opens SM 0 1).2)]) (ci := 8) (gi := 0) (qi := 0) X (c_X8_opens l D cI cZ cQ rM SM 0 1) gX8_readsLaw_X8_opens rfl hd_X8_opens [true] rfl (acons (ad8 _ _ _ _ _ _) rfl) rfl rfl rfl rfl rfl rfl ⟨rfl, rfl⟩ ⟨Nat.le_of_ble_eq_true rfl, Nat.le_of_ble_eq_true rfl⟩ (Nat.le_of_ble_eq_true rfl) ⟨Nat.zero_le _, Nat.zero_le _⟩ dX8_readsLaw_16 ?_
    generalize hz11 : (f_X8_opens SM 0 1) = z11
    have ok1 : okT z11.2 := by rw [← hz11]; exact (m_opens okt hl).1.1
    refine ww_if_eq (pc := 19) (tgt := 52) X dX8_readsLaw_19 (by decide) (fun c12 => ?_) (fun c12 => ?_)
    · have h13 : f_X8_readsLaw SM = z11.2 := by unfold f_X8_readsLaw; try rw [if_pos c1, hz11]; try unfold f_X8_readsLaw_k5; try rw [if_pos c12]; first | done | rfl
      have hw14 := congrArg (fun u9 : St => fl [wX8 cI cZ cQ rM u9]) h13.symm
      exact ww_vret X hr hw14 dX8_readsLaw_52
    · refine ww_aload_n (pc := 22) X dX8_readsLaw_22 0 rfl rfl ?_
      refine ww_get (pc := 23) (ci := 8) (v := .ref (rM 6)) (C := RX8) (T := TX8) (N := 27) X inX8_readsLaw_8 0 rfl rfl 7 (by decide) (by decide +kernel) rfl dX8_readsLaw_23 ?_
      refine ww_iconst (pc := 26) (v := 0) X dX8_readsLaw_26 (by decide) ?_
      refine ww_aload_n (pc := 27) X dX8_readsLaw_27 0 rfl rfl ?_
      refine ww_iconst (pc := 28) (v := 1) X dX8_readsLaw_28 (by decide) ?_
      refine ww_bipush (pc := 29) (v := 99) X dX8_readsLaw_29 (by decide) ?_
      refine ww_gVi (pc := 31) (rest := [.int 0, .ref (rM 6)]) (gsN := [wX8 cI cZ cQ rM ((f_X8_number z11.2 1 99).2)]) (ci := 8) (gi := 0) (qi := 0) X (c_X8_number l D cI cZ cQ rM z11.2 1 99 (by assumption)) gX8_readsLaw_X8_number rfl hd_X8_number [true] rfl (acons (ad8 _ _ _ _ _ _) rfl) rfl rfl rfl rfl rfl rfl ⟨rfl, rfl⟩ ⟨Nat.le_of_ble_eq_true rfl, Nat.le_of_ble_eq_true rfl⟩ (Nat.le_of_ble_eq_true rfl) ⟨Nat.zero_le _, Nat.zero_le _⟩ dX8_readsLaw_31 ?_
      generalize hz15 : (f_X8_number z11.2 1 99) = z15
      have ok2 : okT z15.2 := by rw [← hz15]; exact (m_number ok1).1.1
      refine ww_iast (pc := 34) (f := z15.2.2 5) (ws' := fl [wX8 cI cZ cQ rM (sA z15.2 5 (upd (z15.2.2 5) ((0 : Int32)).toNatClampNeg z15.1))]) X 6 0 rfl rfl (vl_in (by decide)) (st8a_5 _ _ _ _ _ _) dX8_readsLaw_34 ?_
      refine ww_aload_n (pc := 35) X dX8_readsLaw_35 0 rfl rfl ?_
      refine ww_get (pc := 36) (ci := 8) (v := .ref (rM 6)) (C := RX8) (T := TX8) (N := 27) X inX8_readsLaw_8 0 rfl rfl 7 (by decide) (by decide +kernel) rfl dX8_readsLaw_36 ?_
      refine ww_iconst (pc := 39) (v := 1) X dX8_readsLaw_39 (by decide) ?_
      refine ww_aload_n (pc := 40) X dX8_readsLaw_40 0 rfl rfl ?_
      refine ww_iconst (pc := 41) (v := 1) X dX8_readsLaw_41 (by decide) ?_
      refine ww_bipush (pc := 42) (v := 60) X dX8_readsLaw_42 (by decide) ?_
      refine ww_gVi (pc := 44) (rest := [.int 1, .ref (rM 6)]) (gsN := [wX8 cI cZ cQ rM ((f_X8_number (sA z15.2 5 (upd (z15.2.2 5) ((0 : Int32)).toNatClampNeg z15.1)) 1 60).2)]) (ci := 8) (gi := 0) (qi := 0) X (c_X8_number l D cI cZ cQ rM (sA z15.2 5 (upd (z15.2.2 5) ((0 : Int32)).toNatClampNeg z15.1)) 1 60 (okT_sA ok2)) gX8_readsLaw_X8_number rfl hd_X8_number [true] rfl (acons (ad8 _ _ _ _ _ _) rfl) rfl rfl rfl rfl rfl rfl ⟨rfl, rfl⟩ ⟨Nat.le_of_ble_eq_true rfl, Nat.le_of_ble_eq_true rfl⟩ (Nat.le_of_ble_eq_true rfl) ⟨Nat.zero_le _, Nat.zero_le _⟩ dX8_readsLaw_44 ?_
      generalize hz16 : (f_X8_number (sA z15.2 5 (upd (z15.2.2 5) ((0 : Int32)).toNatClampNeg z15.1)) 1 60) = z16
      have ok3 : okT z16.2 := by rw [← hz16]; exact (m_number (okT_sA ok2)).1.1
      refine ww_iast (pc := 47) (f := z16.2.2 5) (ws' := fl [wX8 cI cZ cQ rM (sA z16.2 5 (upd (z16.2.2 5) ((1 : Int32)).toNatClampNeg z16.1))]) X 6 0 rfl rfl (vl_in (by decide)) (st8a_5 _ _ _ _ _ _) dX8_readsLaw_47 ?_
      refine ww_aload_n (pc := 48) X dX8_readsLaw_48 0 rfl rfl ?_
      refine ww_gVv (pc := 49) (rest := []) (gsN := [wX8 cI cZ cQ rM (f_X8_stops (sA z16.2 5 (upd (z16.2.2 5) ((1 : Int32)).toNatClampNeg z16.1)))]) (ci := 8) (gi := 0) (qi := 0) X (c_X8_stops l D cI cZ cQ rM (sA z16.2 5 (upd (z16.2.2 5) ((1 : Int32)).toNatClampNeg z16.1)) (okT_sA ok3)) gX8_readsLaw_X8_stops rfl hd_X8_stops [true] rfl (acons (ad8 _ _ _ _ _ _) rfl) rfl rfl rfl rfl rfl rfl ⟨rfl, rfl⟩ ⟨Nat.le_of_ble_eq_true rfl, Nat.le_of_ble_eq_true rfl⟩ (Nat.le_of_ble_eq_true rfl) ⟨Nat.zero_le _, Nat.zero_le _⟩ dX8_readsLaw_49 ?_
      generalize hz17 : (f_X8_stops (sA z16.2 5 (upd (z16.2.2 5) ((1 : Int32)).toNatClampNeg z16.1))) = z17
      have h18 : f_X8_readsLaw SM = z17 := by unfold f_X8_readsLaw; try rw [if_pos c1, hz11]; try unfold f_X8_readsLaw_k5; try rw [if_neg c12, hz15]; try unfold f_X8_readsLaw_k6; try rw [hz16]; try unfold f_X8_readsLaw_k7; try rw [hz17]; try unfold f_X8_readsLaw_k8; first | done | rfl
      have hw19 := congrArg (fun u9 : St => fl [wX8 cI cZ cQ rM u9]) h18.symm
      exact ww_vret X hr hw19 dX8_readsLaw_52
def f_X8_readsDepth_k3 (SM : St) (z1 : Int32 × St) (z5 : Int32 × St) (z6 : St) : St :=
  (sA z6 5 (upd (z6.2 5) ((2 : Int32)).toNatClampNeg (((z6.2 5) ((2 : Int32)).toNatClampNeg) + 1)))
def f_X8_readsDepth_k2 (SM : St) (z1 : Int32 × St) (z5 : Int32 × St) : St :=
  f_X8_readsDepth_k3 SM z1 z5 (f_X8_stops (sA z5.2 6 (upd (z5.2.2 6) (((z1.2.2 5) ((2 : Int32)).toNatClampNeg : Int32)).toNatClampNeg z5.1)))
def f_X8_readsDepth_k1 (SM : St) (z1 : Int32 × St) : St :=
  if z1.1 = 0 then
    z1.2
  else
    f_X8_readsDepth_k2 SM z1 (f_X8_number z1.2 1 200)
def f_X8_readsDepth (SM : St) : St :=
  f_X8_readsDepth_k1 SM (f_X8_opens SM ((SM.2 5) ((2 : Int32)).toNatClampNeg) 4)
theorem inX8_readsDepth_8 : ∀ w ∈ wsX80, w ∈ wsX8_readsDepth := by decide +kernel
theorem hd_X8_readsDepth : yX8_readsDepth.cls = RX8 ∧ yX8_readsDepth.cls ≠ "java/lang/invoke/MethodHandle" ∧ yX8_readsDepth.cls ≠ "java/lang/invoke/VarHandle" ∧ (parseMethodDescriptor yX8_readsDepth.desc).map (fun d => d.parameters.length) = some 0 := by decide +kernel
set_option maxHeartbeats 4000000 in
set_option maxRecDepth 100000 in
theorem c_X8_readsDepth (l : Launch) (D : va_G) (cI cZ cQ : ClassId) (rM : Nat → Nat) (SM : St) (okt : okT SM) (hl : SM.1 6 < SM.1 0) (okc : okC SM) : Cv l yX8_readsDepth wsX8_readsDepth { frames := 3, cells := 0, slots := 0, locals := 64 } D (tyL cI cZ cQ) [.ref (rM 0)] (fl [wX8 cI cZ cQ rM SM]) (fl [wX8 cI cZ cQ rM (f_X8_readsDepth SM)]) := by
  refine cv_of (cc := cX8_readsDepth) (nL := 1) (lv0 := [(0, .ref (rM 0))]) (by decide) rfl (Nat.le_of_ble_eq_true rfl) rfl ?_
  intro p e s m args below meth c A X hr
  refine ww_aload_n (pc := 0) X dX8_readsDepth_0 0 rfl rfl ?_
  refine ww_aload_n (pc := 1) X dX8_readsDepth_1 0 rfl rfl ?_
  refine ww_get (pc := 2) (ci := 8) (v := .ref (rM 6)) (C := RX8) (T := TX8) (N := 27) X inX8_readsDepth_8 0 rfl rfl 7 (by decide) (by decide +kernel) rfl dX8_readsDepth_2 ?_
  refine ww_iconst (pc := 5) (v := 2) X dX8_readsDepth_5 (by decide) ?_
  refine ww_iald (pc := 6) (f := SM.2 5) X 6 0 rfl rfl (vl_in (by decide)) dX8_readsDepth_6 ?_
  refine ww_iconst (pc := 7) (v := 4) X dX8_readsDepth_7 (by decide) ?_
  refine ww_gVi (pc := 8) (rest := []) (gsN := [wX8 cI cZ cQ rM ((f_X8_opens SM ((SM.2 5) ((2 : Int32)).toNatClampNeg) 4).2)]) (ci := 8) (gi := 0) (qi := 0) X (c_X8_opens l D cI cZ cQ rM SM ((SM.2 5) ((2 : Int32)).toNatClampNeg) 4) gX8_readsDepth_X8_opens rfl hd_X8_opens [true] rfl (acons (ad8 _ _ _ _ _ _) rfl) rfl rfl rfl rfl rfl rfl ⟨rfl, rfl⟩ ⟨Nat.le_of_ble_eq_true rfl, Nat.le_of_ble_eq_true rfl⟩ (Nat.le_of_ble_eq_true rfl) ⟨Nat.zero_le _, Nat.zero_le _⟩ dX8_readsDepth_8 ?_
  generalize hz1 : (f_X8_opens SM ((SM.2 5) ((2 : Int32)).toNatClampNeg) 4) = z1
  have ok1 : okT z1.2 := by rw [← hz1]; exact (m_opens okt hl).1.1
  refine ww_if_eq (pc := 11) (tgt := 47) X dX8_readsDepth_11 (by decide) (fun c2 => ?_) (fun c2 => ?_)
  · have h3 : f_X8_readsDepth SM = z1.2 := by unfold f_X8_readsDepth; try rw [hz1]; try unfold f_X8_readsDepth_k1; try rw [if_pos c2]; first | done | rfl
    have hw4 := congrArg (fun u9 : St => fl [wX8 cI cZ cQ rM u9]) h3.symm
    exact ww_vret X hr hw4 dX8_readsDepth_47
  · have hi1 : vp_in ((z1.2.2 5) ((2 : Int32)).toNatClampNeg) 4 := rd_in hz1 c2 okc.1.1 okc.1.2 rfl
    refine ww_aload_n (pc := 14) X dX8_readsDepth_14 0 rfl rfl ?_
    refine ww_get (pc := 15) (ci := 8) (v := .ref (rM 7)) (C := RX8) (T := TX8) (N := 27) X inX8_readsDepth_8 0 rfl rfl 8 (by decide) (by decide +kernel) rfl dX8_readsDepth_15 ?_
    refine ww_aload_n (pc := 18) X dX8_readsDepth_18 0 rfl rfl ?_
    refine ww_get (pc := 19) (ci := 8) (v := .ref (rM 6)) (C := RX8) (T := TX8) (N := 27) X inX8_readsDepth_8 0 rfl rfl 7 (by decide) (by decide +kernel) rfl dX8_readsDepth_19 ?_
    refine ww_iconst (pc := 22) (v := 2) X dX8_readsDepth_22 (by decide) ?_
    refine ww_iald (pc := 23) (f := z1.2.2 5) X 6 0 rfl rfl (vl_in (by decide)) dX8_readsDepth_23 ?_
    refine ww_aload_n (pc := 24) X dX8_readsDepth_24 0 rfl rfl ?_
    refine ww_iconst (pc := 25) (v := 1) X dX8_readsDepth_25 (by decide) ?_
    refine ww_sipush (pc := 26) (v := 200) X dX8_readsDepth_26 (by decide) ?_
    refine ww_gVi (pc := 29) (rest := [.int ((z1.2.2 5) ((2 : Int32)).toNatClampNeg), .ref (rM 7)]) (gsN := [wX8 cI cZ cQ rM ((f_X8_number z1.2 1 200).2)]) (ci := 8) (gi := 0) (qi := 0) X (c_X8_number l D cI cZ cQ rM z1.2 1 200 (by assumption)) gX8_readsDepth_X8_number rfl hd_X8_number [true] rfl (acons (ad8 _ _ _ _ _ _) rfl) rfl rfl rfl rfl rfl rfl ⟨rfl, rfl⟩ ⟨Nat.le_of_ble_eq_true rfl, Nat.le_of_ble_eq_true rfl⟩ (Nat.le_of_ble_eq_true rfl) ⟨Nat.zero_le _, Nat.zero_le _⟩ dX8_readsDepth_29 ?_
    generalize hz5 : (f_X8_number z1.2 1 200) = z5
    have ok2 : okT z5.2 := by rw [← hz5]; exact (m_number ok1).1.1
    refine ww_iast (pc := 32) (f := z5.2.2 6) (ws' := fl [wX8 cI cZ cQ rM (sA z5.2 6 (upd (z5.2.2 6) (((z1.2.2 5) ((2 : Int32)).toNatClampNeg : Int32)).toNatClampNeg z5.1))]) X 7 0 rfl rfl hi1 (st8a_6 _ _ _ _ _ _) dX8_readsDepth_32 ?_
    refine ww_aload_n (pc := 33) X dX8_readsDepth_33 0 rfl rfl ?_
    refine ww_gVv (pc := 34) (rest := []) (gsN := [wX8 cI cZ cQ rM (f_X8_stops (sA z5.2 6 (upd (z5.2.2 6) (((z1.2.2 5) ((2 : Int32)).toNatClampNeg : Int32)).toNatClampNeg z5.1)))]) (ci := 8) (gi := 0) (qi := 0) X (c_X8_stops l D cI cZ cQ rM (sA z5.2 6 (upd (z5.2.2 6) (((z1.2.2 5) ((2 : Int32)).toNatClampNeg : Int32)).toNatClampNeg z5.1)) (okT_sA ok2)) gX8_readsDepth_X8_stops rfl hd_X8_stops [true] rfl (acons (ad8 _ _ _ _ _ _) rfl) rfl rfl rfl rfl rfl rfl ⟨rfl, rfl⟩ ⟨Nat.le_of_ble_eq_true rfl, Nat.le_of_ble_eq_true rfl⟩ (Nat.le_of_ble_eq_true rfl) ⟨Nat.zero_le _, Nat.zero_le _⟩ dX8_readsDepth_34 ?_
    generalize hz6 : (f_X8_stops (sA z5.2 6 (upd (z5.2.2 6) (((z1.2.2 5) ((2 : Int32)).toNatClampNeg : Int32)).toNatClampNeg z5.1))) = z6
    refine ww_aload_n (pc := 37) X dX8_readsDepth_37 0 rfl rfl ?_
    refine ww_get (pc := 38) (ci := 8) (v := .ref (rM 6)) (C := RX8) (T := TX8) (N := 27) X inX8_readsDepth_8 0 rfl rfl 7 (by decide) (by decide +kernel) rfl dX8_readsDepth_38 ?_
    refine ww_iconst (pc := 41) (v := 2) X dX8_readsDepth_41 (by decide) ?_
    refine ww_dup2_11 (pc := 42) X dX8_readsDepth_42 rfl rfl ?_
    refine ww_iald (pc := 43) (f := z6.2 5) X 6 0 rfl rfl (vl_in (by decide)) dX8_readsDepth_43 ?_
    refine ww_iconst (pc := 44) (v := 1) X dX8_readsDepth_44 (by decide) ?_
    refine ww_iadd (pc := 45) X dX8_readsDepth_45 ?_
    refine ww_iast (pc := 46) (f := z6.2 5) (ws' := fl [wX8 cI cZ cQ rM (sA z6 5 (upd (z6.2 5) ((2 : Int32)).toNatClampNeg (((z6.2 5) ((2 : Int32)).toNatClampNeg) + 1)))]) X 6 0 rfl rfl (vl_in (by decide)) (st8a_5 _ _ _ _ _ _) dX8_readsDepth_46 ?_
    have h7 : f_X8_readsDepth SM = (sA z6 5 (upd (z6.2 5) ((2 : Int32)).toNatClampNeg (((z6.2 5) ((2 : Int32)).toNatClampNeg) + 1))) := by unfold f_X8_readsDepth; try rw [hz1]; try unfold f_X8_readsDepth_k1; try rw [if_neg c2, hz5]; try unfold f_X8_readsDepth_k2; try rw [hz6]; try unfold f_X8_readsDepth_k3; first | done | rfl
    have hw8 := congrArg (fun u9 : St => fl [wX8 cI cZ cQ rM u9]) h7.symm
    exact ww_vret X hr hw8 dX8_readsDepth_47
def f_X8_readsPerson_k4 (SM : St) (z1 : Int32 × St) (z6 : Int32 × St) (z8 : Int32 × St) (z9 : St) : St :=
  (sA z9 5 (upd (z9.2 5) ((3 : Int32)).toNatClampNeg (((z9.2 5) ((3 : Int32)).toNatClampNeg) + 1)))
def f_X8_readsPerson_k3 (SM : St) (z1 : Int32 × St) (z6 : Int32 × St) (z8 : Int32 × St) : St :=
  f_X8_readsPerson_k4 SM z1 z6 z8 (f_X8_stops (sA z8.2 7 (upd (z8.2.2 7) (((2 * ((z6.2.2 5) ((3 : Int32)).toNatClampNeg)) + 1 : Int32)).toNatClampNeg z8.1)))
def f_X8_readsPerson_k2 (SM : St) (z1 : Int32 × St) (z6 : Int32 × St) : St :=
  f_X8_readsPerson_k3 SM z1 z6 (f_X8_number (sA z6.2 7 (upd (z6.2.2 7) ((2 * ((z1.2.2 5) ((3 : Int32)).toNatClampNeg) : Int32)).toNatClampNeg z6.1)) 1 150)
def f_X8_readsPerson_k1 (SM : St) (z1 : Int32 × St) : St :=
  if z1.1 = 0 then
    z1.2
  else
    f_X8_readsPerson_k2 SM z1 (f_X8_number z1.2 0 99)
def f_X8_readsPerson (SM : St) : St :=
  f_X8_readsPerson_k1 SM (f_X8_opens SM ((SM.2 5) ((3 : Int32)).toNatClampNeg) 7)
theorem inX8_readsPerson_8 : ∀ w ∈ wsX80, w ∈ wsX8_readsPerson := by decide +kernel
theorem hd_X8_readsPerson : yX8_readsPerson.cls = RX8 ∧ yX8_readsPerson.cls ≠ "java/lang/invoke/MethodHandle" ∧ yX8_readsPerson.cls ≠ "java/lang/invoke/VarHandle" ∧ (parseMethodDescriptor yX8_readsPerson.desc).map (fun d => d.parameters.length) = some 0 := by decide +kernel
set_option maxHeartbeats 4000000 in
set_option maxRecDepth 100000 in
theorem c_X8_readsPerson (l : Launch) (D : va_G) (cI cZ cQ : ClassId) (rM : Nat → Nat) (SM : St) (okt : okT SM) (hl : SM.1 6 < SM.1 0) (okc : okC SM) : Cv l yX8_readsPerson wsX8_readsPerson { frames := 3, cells := 0, slots := 0, locals := 64 } D (tyL cI cZ cQ) [.ref (rM 0)] (fl [wX8 cI cZ cQ rM SM]) (fl [wX8 cI cZ cQ rM (f_X8_readsPerson SM)]) := by
  refine cv_of (cc := cX8_readsPerson) (nL := 1) (lv0 := [(0, .ref (rM 0))]) (by decide) rfl (Nat.le_of_ble_eq_true rfl) rfl ?_
  intro p e s m args below meth c A X hr
  refine ww_aload_n (pc := 0) X dX8_readsPerson_0 0 rfl rfl ?_
  refine ww_aload_n (pc := 1) X dX8_readsPerson_1 0 rfl rfl ?_
  refine ww_get (pc := 2) (ci := 8) (v := .ref (rM 6)) (C := RX8) (T := TX8) (N := 27) X inX8_readsPerson_8 0 rfl rfl 7 (by decide) (by decide +kernel) rfl dX8_readsPerson_2 ?_
  refine ww_iconst (pc := 5) (v := 3) X dX8_readsPerson_5 (by decide) ?_
  refine ww_iald (pc := 6) (f := SM.2 5) X 6 0 rfl rfl (vl_in (by decide)) dX8_readsPerson_6 ?_
  refine ww_bipush (pc := 7) (v := 7) X dX8_readsPerson_7 (by decide) ?_
  refine ww_gVi (pc := 9) (rest := []) (gsN := [wX8 cI cZ cQ rM ((f_X8_opens SM ((SM.2 5) ((3 : Int32)).toNatClampNeg) 7).2)]) (ci := 8) (gi := 0) (qi := 0) X (c_X8_opens l D cI cZ cQ rM SM ((SM.2 5) ((3 : Int32)).toNatClampNeg) 7) gX8_readsPerson_X8_opens rfl hd_X8_opens [true] rfl (acons (ad8 _ _ _ _ _ _) rfl) rfl rfl rfl rfl rfl rfl ⟨rfl, rfl⟩ ⟨Nat.le_of_ble_eq_true rfl, Nat.le_of_ble_eq_true rfl⟩ (Nat.le_of_ble_eq_true rfl) ⟨Nat.zero_le _, Nat.zero_le _⟩ dX8_readsPerson_9 ?_
  generalize hz1 : (f_X8_opens SM ((SM.2 5) ((3 : Int32)).toNatClampNeg) 7) = z1
  have ok1 : okT z1.2 := by rw [← hz1]; exact (m_opens okt hl).1.1
  refine ww_if_eq (pc := 12) (tgt := 72) X dX8_readsPerson_12 (by decide) (fun c2 => ?_) (fun c2 => ?_)
  · have h3 : f_X8_readsPerson SM = z1.2 := by unfold f_X8_readsPerson; try rw [hz1]; try unfold f_X8_readsPerson_k1; try rw [if_pos c2]; first | done | rfl
    have hw4 := congrArg (fun u9 : St => fl [wX8 cI cZ cQ rM u9]) h3.symm
    exact ww_vret X hr hw4 dX8_readsPerson_72
  · have hi1 : vp_in ((z1.2.2 5) ((3 : Int32)).toNatClampNeg) 7 := rd_in hz1 c2 okc.2.1.1 okc.2.1.2 rfl
    refine ww_aload_n (pc := 15) X dX8_readsPerson_15 0 rfl rfl ?_
    refine ww_get (pc := 16) (ci := 8) (v := .ref (rM 8)) (C := RX8) (T := TX8) (N := 27) X inX8_readsPerson_8 0 rfl rfl 9 (by decide) (by decide +kernel) rfl dX8_readsPerson_16 ?_
    refine ww_iconst (pc := 19) (v := 2) X dX8_readsPerson_19 (by decide) ?_
    refine ww_aload_n (pc := 20) X dX8_readsPerson_20 0 rfl rfl ?_
    refine ww_get (pc := 21) (ci := 8) (v := .ref (rM 6)) (C := RX8) (T := TX8) (N := 27) X inX8_readsPerson_8 0 rfl rfl 7 (by decide) (by decide +kernel) rfl dX8_readsPerson_21 ?_
    refine ww_iconst (pc := 24) (v := 3) X dX8_readsPerson_24 (by decide) ?_
    refine ww_iald (pc := 25) (f := z1.2.2 5) X 6 0 rfl rfl (vl_in (by decide)) dX8_readsPerson_25 ?_
    have hb5 := clb (n := 7) hi1
    refine ww_imul (pc := 26) X dX8_readsPerson_26 ?_
    refine ww_aload_n (pc := 27) X dX8_readsPerson_27 0 rfl rfl ?_
    refine ww_iconst (pc := 28) (v := 0) X dX8_readsPerson_28 (by decide) ?_
    refine ww_bipush (pc := 29) (v := 99) X dX8_readsPerson_29 (by decide) ?_
    refine ww_gVi (pc := 31) (rest := [.int (2 * ((z1.2.2 5) ((3 : Int32)).toNatClampNeg)), .ref (rM 8)]) (gsN := [wX8 cI cZ cQ rM ((f_X8_number z1.2 0 99).2)]) (ci := 8) (gi := 0) (qi := 0) X (c_X8_number l D cI cZ cQ rM z1.2 0 99 (by assumption)) gX8_readsPerson_X8_number rfl hd_X8_number [true] rfl (acons (ad8 _ _ _ _ _ _) rfl) rfl rfl rfl rfl rfl rfl ⟨rfl, rfl⟩ ⟨Nat.le_of_ble_eq_true rfl, Nat.le_of_ble_eq_true rfl⟩ (Nat.le_of_ble_eq_true rfl) ⟨Nat.zero_le _, Nat.zero_le _⟩ dX8_readsPerson_31 ?_
    generalize hz6 : (f_X8_number z1.2 0 99) = z6
    have ok2 : okT z6.2 := by rw [← hz6]; exact (m_number ok1).1.1
    have hi2 : vp_in ((z6.2.2 5) ((3 : Int32)).toNatClampNeg) 7 := by rw [← hz6, (m_number ok1).1.2.1]; exact hi1
    refine ww_iast (pc := 34) (f := z6.2.2 7) (ws' := fl [wX8 cI cZ cQ rM (sA z6.2 7 (upd (z6.2.2 7) ((2 * ((z1.2.2 5) ((3 : Int32)).toNatClampNeg) : Int32)).toNatClampNeg z6.1))]) X 8 0 rfl rfl (vn (m := 2 * (((z1.2.2 5) ((3 : Int32)).toNatClampNeg : Int32).toNatClampNeg)) (nat_imul (a := 2) (b := ((z1.2.2 5) ((3 : Int32)).toNatClampNeg : Int32).toNatClampNeg) rfl (cl_of hi1)) (by omega) (by decide)) (st8a_7 _ _ _ _ _ _) dX8_readsPerson_34 ?_
    refine ww_aload_n (pc := 35) X dX8_readsPerson_35 0 rfl rfl ?_
    refine ww_get (pc := 36) (ci := 8) (v := .ref (rM 8)) (C := RX8) (T := TX8) (N := 27) X inX8_readsPerson_8 0 rfl rfl 9 (by decide) (by decide +kernel) rfl dX8_readsPerson_36 ?_
    refine ww_iconst (pc := 39) (v := 2) X dX8_readsPerson_39 (by decide) ?_
    refine ww_aload_n (pc := 40) X dX8_readsPerson_40 0 rfl rfl ?_
    refine ww_get (pc := 41) (ci := 8) (v := .ref (rM 6)) (C := RX8) (T := TX8) (N := 27) X inX8_readsPerson_8 0 rfl rfl 7 (by decide) (by decide +kernel) rfl dX8_readsPerson_41 ?_
    refine ww_iconst (pc := 44) (v := 3) X dX8_readsPerson_44 (by decide) ?_
    refine ww_iald (pc := 45) (f := z6.2.2 5) X 6 0 (ga8_5 _ _ _ _ _ (sA_ne (by decide))) rfl (vl_in (by decide)) dX8_readsPerson_45 ?_
    have hb7 := clb (n := 7) hi2
    refine ww_imul (pc := 46) X dX8_readsPerson_46 ?_
    refine ww_iconst (pc := 47) (v := 1) X dX8_readsPerson_47 (by decide) ?_
    refine ww_iadd (pc := 48) X dX8_readsPerson_48 ?_
    refine ww_aload_n (pc := 49) X dX8_readsPerson_49 0 rfl rfl ?_
    refine ww_iconst (pc := 50) (v := 1) X dX8_readsPerson_50 (by decide) ?_
    refine ww_sipush (pc := 51) (v := 150) X dX8_readsPerson_51 (by decide) ?_
    refine ww_gVi (pc := 54) (rest := [.int ((2 * ((z6.2.2 5) ((3 : Int32)).toNatClampNeg)) + 1), .ref (rM 8)]) (gsN := [wX8 cI cZ cQ rM ((f_X8_number (sA z6.2 7 (upd (z6.2.2 7) ((2 * ((z1.2.2 5) ((3 : Int32)).toNatClampNeg) : Int32)).toNatClampNeg z6.1)) 1 150).2)]) (ci := 8) (gi := 0) (qi := 0) X (c_X8_number l D cI cZ cQ rM (sA z6.2 7 (upd (z6.2.2 7) ((2 * ((z1.2.2 5) ((3 : Int32)).toNatClampNeg) : Int32)).toNatClampNeg z6.1)) 1 150 (okT_sA ok2)) gX8_readsPerson_X8_number rfl hd_X8_number [true] rfl (acons (ad8 _ _ _ _ _ _) rfl) rfl rfl rfl rfl rfl rfl ⟨rfl, rfl⟩ ⟨Nat.le_of_ble_eq_true rfl, Nat.le_of_ble_eq_true rfl⟩ (Nat.le_of_ble_eq_true rfl) ⟨Nat.zero_le _, Nat.zero_le _⟩ dX8_readsPerson_54 ?_
    generalize hz8 : (f_X8_number (sA z6.2 7 (upd (z6.2.2 7) ((2 * ((z1.2.2 5) ((3 : Int32)).toNatClampNeg) : Int32)).toNatClampNeg z6.1)) 1 150) = z8
    have ok3 : okT z8.2 := by rw [← hz8]; exact (m_number (okT_sA ok2)).1.1
    refine ww_iast (pc := 57) (f := z8.2.2 7) (ws' := fl [wX8 cI cZ cQ rM (sA z8.2 7 (upd (z8.2.2 7) (((2 * ((z6.2.2 5) ((3 : Int32)).toNatClampNeg)) + 1 : Int32)).toNatClampNeg z8.1))]) X 8 0 rfl rfl (vn (m := (2 * (((z6.2.2 5) ((3 : Int32)).toNatClampNeg : Int32).toNatClampNeg)) + 1) (nat_iadd (a := 2 * (((z6.2.2 5) ((3 : Int32)).toNatClampNeg : Int32).toNatClampNeg)) (b := 1) (nat_imul (a := 2) (b := ((z6.2.2 5) ((3 : Int32)).toNatClampNeg : Int32).toNatClampNeg) rfl (cl_of hi2)) rfl) (by omega) (by decide)) (st8a_7 _ _ _ _ _ _) dX8_readsPerson_57 ?_
    refine ww_aload_n (pc := 58) X dX8_readsPerson_58 0 rfl rfl ?_
    refine ww_gVv (pc := 59) (rest := []) (gsN := [wX8 cI cZ cQ rM (f_X8_stops (sA z8.2 7 (upd (z8.2.2 7) (((2 * ((z6.2.2 5) ((3 : Int32)).toNatClampNeg)) + 1 : Int32)).toNatClampNeg z8.1)))]) (ci := 8) (gi := 0) (qi := 0) X (c_X8_stops l D cI cZ cQ rM (sA z8.2 7 (upd (z8.2.2 7) (((2 * ((z6.2.2 5) ((3 : Int32)).toNatClampNeg)) + 1 : Int32)).toNatClampNeg z8.1)) (okT_sA ok3)) gX8_readsPerson_X8_stops rfl hd_X8_stops [true] rfl (acons (ad8 _ _ _ _ _ _) rfl) rfl rfl rfl rfl rfl rfl ⟨rfl, rfl⟩ ⟨Nat.le_of_ble_eq_true rfl, Nat.le_of_ble_eq_true rfl⟩ (Nat.le_of_ble_eq_true rfl) ⟨Nat.zero_le _, Nat.zero_le _⟩ dX8_readsPerson_59 ?_
    generalize hz9 : (f_X8_stops (sA z8.2 7 (upd (z8.2.2 7) (((2 * ((z6.2.2 5) ((3 : Int32)).toNatClampNeg)) + 1 : Int32)).toNatClampNeg z8.1))) = z9
    refine ww_aload_n (pc := 62) X dX8_readsPerson_62 0 rfl rfl ?_
    refine ww_get (pc := 63) (ci := 8) (v := .ref (rM 6)) (C := RX8) (T := TX8) (N := 27) X inX8_readsPerson_8 0 rfl rfl 7 (by decide) (by decide +kernel) rfl dX8_readsPerson_63 ?_
    refine ww_iconst (pc := 66) (v := 3) X dX8_readsPerson_66 (by decide) ?_
    refine ww_dup2_11 (pc := 67) X dX8_readsPerson_67 rfl rfl ?_
    refine ww_iald (pc := 68) (f := z9.2 5) X 6 0 rfl rfl (vl_in (by decide)) dX8_readsPerson_68 ?_
    refine ww_iconst (pc := 69) (v := 1) X dX8_readsPerson_69 (by decide) ?_
    refine ww_iadd (pc := 70) X dX8_readsPerson_70 ?_
    refine ww_iast (pc := 71) (f := z9.2 5) (ws' := fl [wX8 cI cZ cQ rM (sA z9 5 (upd (z9.2 5) ((3 : Int32)).toNatClampNeg (((z9.2 5) ((3 : Int32)).toNatClampNeg) + 1)))]) X 6 0 rfl rfl (vl_in (by decide)) (st8a_5 _ _ _ _ _ _) dX8_readsPerson_71 ?_
    have h10 : f_X8_readsPerson SM = (sA z9 5 (upd (z9.2 5) ((3 : Int32)).toNatClampNeg (((z9.2 5) ((3 : Int32)).toNatClampNeg) + 1))) := by unfold f_X8_readsPerson; try rw [hz1]; try unfold f_X8_readsPerson_k1; try rw [if_neg c2, hz6]; try unfold f_X8_readsPerson_k2; try rw [hz8]; try unfold f_X8_readsPerson_k3; try rw [hz9]; try unfold f_X8_readsPerson_k4; first | done | rfl
    have hw11 := congrArg (fun u9 : St => fl [wX8 cI cZ cQ rM u9]) h10.symm
    exact ww_vret X hr hw11 dX8_readsPerson_72
def f_X8_readsGood_k5 (SM : St) (z1 : Int32 × St) (z6 : Int32 × St) (z8 : Int32 × St) (z10 : Int32 × St) (z11 : St) : St :=
  (sA z11 5 (upd (z11.2 5) ((4 : Int32)).toNatClampNeg (((z11.2 5) ((4 : Int32)).toNatClampNeg) + 1)))
def f_X8_readsGood_k4 (SM : St) (z1 : Int32 × St) (z6 : Int32 × St) (z8 : Int32 × St) (z10 : Int32 × St) : St :=
  f_X8_readsGood_k5 SM z1 z6 z8 z10 (f_X8_stops (sA z10.2 8 (upd (z10.2.2 8) (((3 * ((z8.2.2 5) ((4 : Int32)).toNatClampNeg)) + 2 : Int32)).toNatClampNeg z10.1)))
def f_X8_readsGood_k3 (SM : St) (z1 : Int32 × St) (z6 : Int32 × St) (z8 : Int32 × St) : St :=
  f_X8_readsGood_k4 SM z1 z6 z8 (f_X8_number (sA z8.2 8 (upd (z8.2.2 8) (((3 * ((z6.2.2 5) ((4 : Int32)).toNatClampNeg)) + 1 : Int32)).toNatClampNeg z8.1)) 0 9999)
def f_X8_readsGood_k2 (SM : St) (z1 : Int32 × St) (z6 : Int32 × St) : St :=
  f_X8_readsGood_k3 SM z1 z6 (f_X8_number (sA z6.2 8 (upd (z6.2.2 8) ((3 * ((z1.2.2 5) ((4 : Int32)).toNatClampNeg) : Int32)).toNatClampNeg z6.1)) 0 100)
def f_X8_readsGood_k1 (SM : St) (z1 : Int32 × St) : St :=
  if z1.1 = 0 then
    z1.2
  else
    f_X8_readsGood_k2 SM z1 (f_X8_number z1.2 1 999)
def f_X8_readsGood (SM : St) : St :=
  f_X8_readsGood_k1 SM (f_X8_opens SM ((SM.2 5) ((4 : Int32)).toNatClampNeg) 6)
theorem inX8_readsGood_8 : ∀ w ∈ wsX80, w ∈ wsX8_readsGood := by decide +kernel
theorem hd_X8_readsGood : yX8_readsGood.cls = RX8 ∧ yX8_readsGood.cls ≠ "java/lang/invoke/MethodHandle" ∧ yX8_readsGood.cls ≠ "java/lang/invoke/VarHandle" ∧ (parseMethodDescriptor yX8_readsGood.desc).map (fun d => d.parameters.length) = some 0 := by decide +kernel
set_option maxHeartbeats 4000000 in
set_option maxRecDepth 100000 in
theorem c_X8_readsGood (l : Launch) (D : va_G) (cI cZ cQ : ClassId) (rM : Nat → Nat) (SM : St) (okt : okT SM) (hl : SM.1 6 < SM.1 0) (okc : okC SM) : Cv l yX8_readsGood wsX8_readsGood { frames := 3, cells := 0, slots := 0, locals := 64 } D (tyL cI cZ cQ) [.ref (rM 0)] (fl [wX8 cI cZ cQ rM SM]) (fl [wX8 cI cZ cQ rM (f_X8_readsGood SM)]) := by
  refine cv_of (cc := cX8_readsGood) (nL := 1) (lv0 := [(0, .ref (rM 0))]) (by decide) rfl (Nat.le_of_ble_eq_true rfl) rfl ?_
  intro p e s m args below meth c A X hr
  refine ww_aload_n (pc := 0) X dX8_readsGood_0 0 rfl rfl ?_
  refine ww_aload_n (pc := 1) X dX8_readsGood_1 0 rfl rfl ?_
  refine ww_get (pc := 2) (ci := 8) (v := .ref (rM 6)) (C := RX8) (T := TX8) (N := 27) X inX8_readsGood_8 0 rfl rfl 7 (by decide) (by decide +kernel) rfl dX8_readsGood_2 ?_
  refine ww_iconst (pc := 5) (v := 4) X dX8_readsGood_5 (by decide) ?_
  refine ww_iald (pc := 6) (f := SM.2 5) X 6 0 rfl rfl (vl_in (by decide)) dX8_readsGood_6 ?_
  refine ww_bipush (pc := 7) (v := 6) X dX8_readsGood_7 (by decide) ?_
  refine ww_gVi (pc := 9) (rest := []) (gsN := [wX8 cI cZ cQ rM ((f_X8_opens SM ((SM.2 5) ((4 : Int32)).toNatClampNeg) 6).2)]) (ci := 8) (gi := 0) (qi := 0) X (c_X8_opens l D cI cZ cQ rM SM ((SM.2 5) ((4 : Int32)).toNatClampNeg) 6) gX8_readsGood_X8_opens rfl hd_X8_opens [true] rfl (acons (ad8 _ _ _ _ _ _) rfl) rfl rfl rfl rfl rfl rfl ⟨rfl, rfl⟩ ⟨Nat.le_of_ble_eq_true rfl, Nat.le_of_ble_eq_true rfl⟩ (Nat.le_of_ble_eq_true rfl) ⟨Nat.zero_le _, Nat.zero_le _⟩ dX8_readsGood_9 ?_
  generalize hz1 : (f_X8_opens SM ((SM.2 5) ((4 : Int32)).toNatClampNeg) 6) = z1
  have ok1 : okT z1.2 := by rw [← hz1]; exact (m_opens okt hl).1.1
  refine ww_if_eq (pc := 12) (tgt := 95) X dX8_readsGood_12 (by decide) (fun c2 => ?_) (fun c2 => ?_)
  · have h3 : f_X8_readsGood SM = z1.2 := by unfold f_X8_readsGood; try rw [hz1]; try unfold f_X8_readsGood_k1; try rw [if_pos c2]; first | done | rfl
    have hw4 := congrArg (fun u9 : St => fl [wX8 cI cZ cQ rM u9]) h3.symm
    exact ww_vret X hr hw4 dX8_readsGood_95
  · have hi1 : vp_in ((z1.2.2 5) ((4 : Int32)).toNatClampNeg) 6 := rd_in hz1 c2 okc.2.2.1 okc.2.2.2 rfl
    refine ww_aload_n (pc := 15) X dX8_readsGood_15 0 rfl rfl ?_
    refine ww_get (pc := 16) (ci := 8) (v := .ref (rM 9)) (C := RX8) (T := TX8) (N := 27) X inX8_readsGood_8 0 rfl rfl 10 (by decide) (by decide +kernel) rfl dX8_readsGood_16 ?_
    refine ww_iconst (pc := 19) (v := 3) X dX8_readsGood_19 (by decide) ?_
    refine ww_aload_n (pc := 20) X dX8_readsGood_20 0 rfl rfl ?_
    refine ww_get (pc := 21) (ci := 8) (v := .ref (rM 6)) (C := RX8) (T := TX8) (N := 27) X inX8_readsGood_8 0 rfl rfl 7 (by decide) (by decide +kernel) rfl dX8_readsGood_21 ?_
    refine ww_iconst (pc := 24) (v := 4) X dX8_readsGood_24 (by decide) ?_
    refine ww_iald (pc := 25) (f := z1.2.2 5) X 6 0 rfl rfl (vl_in (by decide)) dX8_readsGood_25 ?_
    have hb5 := clb (n := 6) hi1
    refine ww_imul (pc := 26) X dX8_readsGood_26 ?_
    refine ww_aload_n (pc := 27) X dX8_readsGood_27 0 rfl rfl ?_
    refine ww_iconst (pc := 28) (v := 1) X dX8_readsGood_28 (by decide) ?_
    refine ww_sipush (pc := 29) (v := 999) X dX8_readsGood_29 (by decide) ?_
    refine ww_gVi (pc := 32) (rest := [.int (3 * ((z1.2.2 5) ((4 : Int32)).toNatClampNeg)), .ref (rM 9)]) (gsN := [wX8 cI cZ cQ rM ((f_X8_number z1.2 1 999).2)]) (ci := 8) (gi := 0) (qi := 0) X (c_X8_number l D cI cZ cQ rM z1.2 1 999 (by assumption)) gX8_readsGood_X8_number rfl hd_X8_number [true] rfl (acons (ad8 _ _ _ _ _ _) rfl) rfl rfl rfl rfl rfl rfl ⟨rfl, rfl⟩ ⟨Nat.le_of_ble_eq_true rfl, Nat.le_of_ble_eq_true rfl⟩ (Nat.le_of_ble_eq_true rfl) ⟨Nat.zero_le _, Nat.zero_le _⟩ dX8_readsGood_32 ?_
    generalize hz6 : (f_X8_number z1.2 1 999) = z6
    have ok2 : okT z6.2 := by rw [← hz6]; exact (m_number ok1).1.1
    have hi2 : vp_in ((z6.2.2 5) ((4 : Int32)).toNatClampNeg) 6 := by rw [← hz6, (m_number ok1).1.2.1]; exact hi1
    refine ww_iast (pc := 35) (f := z6.2.2 8) (ws' := fl [wX8 cI cZ cQ rM (sA z6.2 8 (upd (z6.2.2 8) ((3 * ((z1.2.2 5) ((4 : Int32)).toNatClampNeg) : Int32)).toNatClampNeg z6.1))]) X 9 0 rfl rfl (vn (m := 3 * (((z1.2.2 5) ((4 : Int32)).toNatClampNeg : Int32).toNatClampNeg)) (nat_imul (a := 3) (b := ((z1.2.2 5) ((4 : Int32)).toNatClampNeg : Int32).toNatClampNeg) rfl (cl_of hi1)) (by omega) (by decide)) (st8a_8 _ _ _ _ _ _) dX8_readsGood_35 ?_
    refine ww_aload_n (pc := 36) X dX8_readsGood_36 0 rfl rfl ?_
    refine ww_get (pc := 37) (ci := 8) (v := .ref (rM 9)) (C := RX8) (T := TX8) (N := 27) X inX8_readsGood_8 0 rfl rfl 10 (by decide) (by decide +kernel) rfl dX8_readsGood_37 ?_
    refine ww_iconst (pc := 40) (v := 3) X dX8_readsGood_40 (by decide) ?_
    refine ww_aload_n (pc := 41) X dX8_readsGood_41 0 rfl rfl ?_
    refine ww_get (pc := 42) (ci := 8) (v := .ref (rM 6)) (C := RX8) (T := TX8) (N := 27) X inX8_readsGood_8 0 rfl rfl 7 (by decide) (by decide +kernel) rfl dX8_readsGood_42 ?_
    refine ww_iconst (pc := 45) (v := 4) X dX8_readsGood_45 (by decide) ?_
    refine ww_iald (pc := 46) (f := z6.2.2 5) X 6 0 (ga8_5 _ _ _ _ _ (sA_ne (by decide))) rfl (vl_in (by decide)) dX8_readsGood_46 ?_
    have hb7 := clb (n := 6) hi2
    refine ww_imul (pc := 47) X dX8_readsGood_47 ?_
    refine ww_iconst (pc := 48) (v := 1) X dX8_readsGood_48 (by decide) ?_
    refine ww_iadd (pc := 49) X dX8_readsGood_49 ?_
    refine ww_aload_n (pc := 50) X dX8_readsGood_50 0 rfl rfl ?_
    refine ww_iconst (pc := 51) (v := 0) X dX8_readsGood_51 (by decide) ?_
    refine ww_bipush (pc := 52) (v := 100) X dX8_readsGood_52 (by decide) ?_
    refine ww_gVi (pc := 54) (rest := [.int ((3 * ((z6.2.2 5) ((4 : Int32)).toNatClampNeg)) + 1), .ref (rM 9)]) (gsN := [wX8 cI cZ cQ rM ((f_X8_number (sA z6.2 8 (upd (z6.2.2 8) ((3 * ((z1.2.2 5) ((4 : Int32)).toNatClampNeg) : Int32)).toNatClampNeg z6.1)) 0 100).2)]) (ci := 8) (gi := 0) (qi := 0) X (c_X8_number l D cI cZ cQ rM (sA z6.2 8 (upd (z6.2.2 8) ((3 * ((z1.2.2 5) ((4 : Int32)).toNatClampNeg) : Int32)).toNatClampNeg z6.1)) 0 100 (okT_sA ok2)) gX8_readsGood_X8_number rfl hd_X8_number [true] rfl (acons (ad8 _ _ _ _ _ _) rfl) rfl rfl rfl rfl rfl rfl ⟨rfl, rfl⟩ ⟨Nat.le_of_ble_eq_true rfl, Nat.le_of_ble_eq_true rfl⟩ (Nat.le_of_ble_eq_true rfl) ⟨Nat.zero_le _, Nat.zero_le _⟩ dX8_readsGood_54 ?_
    generalize hz8 : (f_X8_number (sA z6.2 8 (upd (z6.2.2 8) ((3 * ((z1.2.2 5) ((4 : Int32)).toNatClampNeg) : Int32)).toNatClampNeg z6.1)) 0 100) = z8
    have ok3 : okT z8.2 := by rw [← hz8]; exact (m_number (okT_sA ok2)).1.1
    have hi3 : vp_in ((z8.2.2 5) ((4 : Int32)).toNatClampNeg) 6 := by rw [← hz8, (m_number (okT_sA ok2)).1.2.1, sA_ne (by decide)]; exact hi2
    refine ww_iast (pc := 57) (f := z8.2.2 8) (ws' := fl [wX8 cI cZ cQ rM (sA z8.2 8 (upd (z8.2.2 8) (((3 * ((z6.2.2 5) ((4 : Int32)).toNatClampNeg)) + 1 : Int32)).toNatClampNeg z8.1))]) X 9 0 rfl rfl (vn (m := (3 * (((z6.2.2 5) ((4 : Int32)).toNatClampNeg : Int32).toNatClampNeg)) + 1) (nat_iadd (a := 3 * (((z6.2.2 5) ((4 : Int32)).toNatClampNeg : Int32).toNatClampNeg)) (b := 1) (nat_imul (a := 3) (b := ((z6.2.2 5) ((4 : Int32)).toNatClampNeg : Int32).toNatClampNeg) rfl (cl_of hi2)) rfl) (by omega) (by decide)) (st8a_8 _ _ _ _ _ _) dX8_readsGood_57 ?_
    refine ww_aload_n (pc := 58) X dX8_readsGood_58 0 rfl rfl ?_
    refine ww_get (pc := 59) (ci := 8) (v := .ref (rM 9)) (C := RX8) (T := TX8) (N := 27) X inX8_readsGood_8 0 rfl rfl 10 (by decide) (by decide +kernel) rfl dX8_readsGood_59 ?_
    refine ww_iconst (pc := 62) (v := 3) X dX8_readsGood_62 (by decide) ?_
    refine ww_aload_n (pc := 63) X dX8_readsGood_63 0 rfl rfl ?_
    refine ww_get (pc := 64) (ci := 8) (v := .ref (rM 6)) (C := RX8) (T := TX8) (N := 27) X inX8_readsGood_8 0 rfl rfl 7 (by decide) (by decide +kernel) rfl dX8_readsGood_64 ?_
    refine ww_iconst (pc := 67) (v := 4) X dX8_readsGood_67 (by decide) ?_
    refine ww_iald (pc := 68) (f := z8.2.2 5) X 6 0 (ga8_5 _ _ _ _ _ (sA_ne (by decide))) rfl (vl_in (by decide)) dX8_readsGood_68 ?_
    have hb9 := clb (n := 6) hi3
    refine ww_imul (pc := 69) X dX8_readsGood_69 ?_
    refine ww_iconst (pc := 70) (v := 2) X dX8_readsGood_70 (by decide) ?_
    refine ww_iadd (pc := 71) X dX8_readsGood_71 ?_
    refine ww_aload_n (pc := 72) X dX8_readsGood_72 0 rfl rfl ?_
    refine ww_iconst (pc := 73) (v := 0) X dX8_readsGood_73 (by decide) ?_
    refine ww_sipush (pc := 74) (v := 9999) X dX8_readsGood_74 (by decide) ?_
    refine ww_gVi (pc := 77) (rest := [.int ((3 * ((z8.2.2 5) ((4 : Int32)).toNatClampNeg)) + 2), .ref (rM 9)]) (gsN := [wX8 cI cZ cQ rM ((f_X8_number (sA z8.2 8 (upd (z8.2.2 8) (((3 * ((z6.2.2 5) ((4 : Int32)).toNatClampNeg)) + 1 : Int32)).toNatClampNeg z8.1)) 0 9999).2)]) (ci := 8) (gi := 0) (qi := 0) X (c_X8_number l D cI cZ cQ rM (sA z8.2 8 (upd (z8.2.2 8) (((3 * ((z6.2.2 5) ((4 : Int32)).toNatClampNeg)) + 1 : Int32)).toNatClampNeg z8.1)) 0 9999 (okT_sA ok3)) gX8_readsGood_X8_number rfl hd_X8_number [true] rfl (acons (ad8 _ _ _ _ _ _) rfl) rfl rfl rfl rfl rfl rfl ⟨rfl, rfl⟩ ⟨Nat.le_of_ble_eq_true rfl, Nat.le_of_ble_eq_true rfl⟩ (Nat.le_of_ble_eq_true rfl) ⟨Nat.zero_le _, Nat.zero_le _⟩ dX8_readsGood_77 ?_
    generalize hz10 : (f_X8_number (sA z8.2 8 (upd (z8.2.2 8) (((3 * ((z6.2.2 5) ((4 : Int32)).toNatClampNeg)) + 1 : Int32)).toNatClampNeg z8.1)) 0 9999) = z10
    have ok4 : okT z10.2 := by rw [← hz10]; exact (m_number (okT_sA ok3)).1.1
    refine ww_iast (pc := 80) (f := z10.2.2 8) (ws' := fl [wX8 cI cZ cQ rM (sA z10.2 8 (upd (z10.2.2 8) (((3 * ((z8.2.2 5) ((4 : Int32)).toNatClampNeg)) + 2 : Int32)).toNatClampNeg z10.1))]) X 9 0 rfl rfl (vn (m := (3 * (((z8.2.2 5) ((4 : Int32)).toNatClampNeg : Int32).toNatClampNeg)) + 2) (nat_iadd (a := 3 * (((z8.2.2 5) ((4 : Int32)).toNatClampNeg : Int32).toNatClampNeg)) (b := 2) (nat_imul (a := 3) (b := ((z8.2.2 5) ((4 : Int32)).toNatClampNeg : Int32).toNatClampNeg) rfl (cl_of hi3)) rfl) (by omega) (by decide)) (st8a_8 _ _ _ _ _ _) dX8_readsGood_80 ?_
    refine ww_aload_n (pc := 81) X dX8_readsGood_81 0 rfl rfl ?_
    refine ww_gVv (pc := 82) (rest := []) (gsN := [wX8 cI cZ cQ rM (f_X8_stops (sA z10.2 8 (upd (z10.2.2 8) (((3 * ((z8.2.2 5) ((4 : Int32)).toNatClampNeg)) + 2 : Int32)).toNatClampNeg z10.1)))]) (ci := 8) (gi := 0) (qi := 0) X (c_X8_stops l D cI cZ cQ rM (sA z10.2 8 (upd (z10.2.2 8) (((3 * ((z8.2.2 5) ((4 : Int32)).toNatClampNeg)) + 2 : Int32)).toNatClampNeg z10.1)) (okT_sA ok4)) gX8_readsGood_X8_stops rfl hd_X8_stops [true] rfl (acons (ad8 _ _ _ _ _ _) rfl) rfl rfl rfl rfl rfl rfl ⟨rfl, rfl⟩ ⟨Nat.le_of_ble_eq_true rfl, Nat.le_of_ble_eq_true rfl⟩ (Nat.le_of_ble_eq_true rfl) ⟨Nat.zero_le _, Nat.zero_le _⟩ dX8_readsGood_82 ?_
    generalize hz11 : (f_X8_stops (sA z10.2 8 (upd (z10.2.2 8) (((3 * ((z8.2.2 5) ((4 : Int32)).toNatClampNeg)) + 2 : Int32)).toNatClampNeg z10.1))) = z11
    refine ww_aload_n (pc := 85) X dX8_readsGood_85 0 rfl rfl ?_
    refine ww_get (pc := 86) (ci := 8) (v := .ref (rM 6)) (C := RX8) (T := TX8) (N := 27) X inX8_readsGood_8 0 rfl rfl 7 (by decide) (by decide +kernel) rfl dX8_readsGood_86 ?_
    refine ww_iconst (pc := 89) (v := 4) X dX8_readsGood_89 (by decide) ?_
    refine ww_dup2_11 (pc := 90) X dX8_readsGood_90 rfl rfl ?_
    refine ww_iald (pc := 91) (f := z11.2 5) X 6 0 rfl rfl (vl_in (by decide)) dX8_readsGood_91 ?_
    refine ww_iconst (pc := 92) (v := 1) X dX8_readsGood_92 (by decide) ?_
    refine ww_iadd (pc := 93) X dX8_readsGood_93 ?_
    refine ww_iast (pc := 94) (f := z11.2 5) (ws' := fl [wX8 cI cZ cQ rM (sA z11 5 (upd (z11.2 5) ((4 : Int32)).toNatClampNeg (((z11.2 5) ((4 : Int32)).toNatClampNeg) + 1)))]) X 6 0 rfl rfl (vl_in (by decide)) (st8a_5 _ _ _ _ _ _) dX8_readsGood_94 ?_
    have h12 : f_X8_readsGood SM = (sA z11 5 (upd (z11.2 5) ((4 : Int32)).toNatClampNeg (((z11.2 5) ((4 : Int32)).toNatClampNeg) + 1))) := by unfold f_X8_readsGood; try rw [hz1]; try unfold f_X8_readsGood_k1; try rw [if_neg c2, hz6]; try unfold f_X8_readsGood_k2; try rw [hz8]; try unfold f_X8_readsGood_k3; try rw [hz10]; try unfold f_X8_readsGood_k4; try rw [hz11]; try unfold f_X8_readsGood_k5; first | done | rfl
    have hw13 := congrArg (fun u9 : St => fl [wX8 cI cZ cQ rM u9]) h12.symm
    exact ww_vret X hr hw13 dX8_readsGood_95
