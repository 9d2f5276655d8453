theorem okA_e (S : St) : okA (f_X5_empty S) := by
  unfold f_X5_empty
  have e2 : ((sI (sI (sI (sI (sI S 0 0) 1 0) 2 0) 3 0) 4 0)).1 2 = 0 := by rw [sI_ne (by decide), sI_ne (by decide), sI_eq]
  have e3 : ((sI (sI (sI (sI (sI S 0 0) 1 0) 2 0) 3 0) 4 0)).1 3 = 0 := by rw [sI_ne (by decide), sI_eq]
  have e4 : ((sI (sI (sI (sI (sI S 0 0) 1 0) 2 0) 3 0) 4 0)).1 4 = 0 := sI_eq
  exact ⟨⟨by rw [e2]; decide, by rw [e3]; decide, by rw [e4]; decide⟩, by rw [e2]; decide, by rw [e3]; decide, by rw [e4]; decide⟩
def l0_X6_readClauses_2  (j : Nat) (u : St × St) : St × St :=
  (u.1, u.2)
def lb_X6_readClauses_2_k2 (rec : Nat → (St × St) → St × St) (j : Nat) (u : St × St) (z6 : St) (z8 : St × St) : St × St :=
  rec (j + 1) (z8.1, z8.2)
def lb_X6_readClauses_2_k1 (rec : Nat → (St × St) → St × St) (j : Nat) (u : St × St) (z6 : St) : St × St :=
  if (f_X6_here z6) = (-1) then
    (z6, u.2)
  else
    lb_X6_readClauses_2_k2 rec j u z6 (f_X6_readClause z6 u.2)
def lb_X6_readClauses_2  (rec : Nat → (St × St) → St × St) (j : Nat) (u : St × St) : St × St :=
  if (u.1.1 2) = 0 then
    lb_X6_readClauses_2_k1 rec j u (f_X6_skipBlanks u.1)
  else
    (u.1, u.2)
def lp_X6_readClauses_2  : Nat → Nat → (St × St) → St × St
  | 0, j, u => l0_X6_readClauses_2  j u
  | k + 1, j, u => lb_X6_readClauses_2  (lp_X6_readClauses_2  k) j u
def f_X6_readClauses (SX : St) (SD : St) : St × St :=
  lp_X6_readClauses_2  241 0 (SX, SD)
theorem rcs_lp : ∀ (k j : Nat) (u : St × St), ¬ u.1.1 1 < 0 → okA u.2 → xk u.1 (lp_X6_readClauses_2 k j u).1 ∧ okA (lp_X6_readClauses_2 k j u).2
  | 0, j, u, h, hA => ⟨xk_rf h, hA⟩
  | k + 1, j, u, h, hA => by
    show xk u.1 (lb_X6_readClauses_2 (lp_X6_readClauses_2 k) j u).1 ∧ okA (lb_X6_readClauses_2 (lp_X6_readClauses_2 k) j u).2
    unfold lb_X6_readClauses_2 lb_X6_readClauses_2_k1 lb_X6_readClauses_2_k2
    by_cases c : u.1.1 2 = 0
    · rw [if_pos c]
      have h1 := xk_skip h
      generalize f_X6_skipBlanks u.1 = z at h1 ⊢
      by_cases c2 : f_X6_here z = -1
      · rw [if_pos c2]; exact ⟨h1, hA⟩
      · rw [if_neg c2]
        have h2 := rc_ok h1.1 hA
        generalize f_X6_readClause z u.2 = q at h2 ⊢
        have h3 := rcs_lp k (j + 1) (q.1, q.2) h2.1.1 h2.2
        exact ⟨xk_t h1 (xk_t h2.1 h3.1), h3.2⟩
    · rw [if_neg c]; exact ⟨xk_rf h, hA⟩
theorem rcs_ok {SX SD : St} (h : ¬ SX.1 1 < 0) (hn : okA SD) : xk SX (f_X6_readClauses SX SD).1 ∧ okA (f_X6_readClauses SX SD).2 := rcs_lp 241 0 (SX, SD) h hn
theorem inX6_readClauses_6 : ∀ w ∈ wsX60, w ∈ wsX6_readClauses := by decide +kernel
theorem hd_X6_readClauses : yX6_readClauses.cls = RX6 ∧ yX6_readClauses.cls ≠ "java/lang/invoke/MethodHandle" ∧ yX6_readClauses.cls ≠ "java/lang/invoke/VarHandle" ∧ (parseMethodDescriptor yX6_readClauses.desc).map (fun d => d.parameters.length) = some 1 := by decide +kernel
set_option maxHeartbeats 4000000 in
set_option maxRecDepth 100000 in
theorem c_X6_readClauses (l : Launch) (D : va_G) (cI cZ cQ : ClassId) (tt : Nat → Nat) (ak av : Nat) (rX : Nat → Nat) (rD : Nat → Nat) (SX : St) (SD : St) (ok1 : ¬ (SX.1 1) < 0) (hA : okA SD) : CvZ (Zs tt ak av) l yX6_readClauses wsX6_readClauses { frames := 5, cells := 0, slots := 0, locals := 115 } D (tyL cI cZ cQ) [.ref (rX 0), .ref (rD 0)] (fl [wX6 cI cZ cQ rX SX, wX5 cI cZ cQ rD SD]) (fl [wX6 cI cZ cQ rX ((f_X6_readClauses SX SD).1), wX5 cI cZ cQ rD ((f_X6_readClauses SX SD).2)]) := by
  refine cvz_of (cc := cX6_readClauses) (nL := 3) (lv0 := [(0, .ref (rX 0)), (1, .ref (rD 0))]) (by decide) rfl (Nat.le_of_ble_eq_true rfl) rfl ?_
  intro p e s m args below meth c A X hr hZ
  refine ww_iconst (pc := 0) (v := 0) X dX6_readClauses_0 (by decide) ?_
  refine ww_istore_n (pc := 1) (lv' := [(2, .int 0), (0, .ref (rX 0)), (1, .ref (rD 0))]) X dX6_readClauses_1 rfl (by decide) rfl ?_
  have L2 : ∀ (k_2 j_2 : Nat) (u_2 : St × St), j_2 + k_2 = 241 → (¬ (u_2.1.1 1) < 0 ∧ okA u_2.2) → f_X6_readClauses SX SD = lp_X6_readClauses_2  k_2 j_2 u_2 → WW p l e (headSpec wsX6_readClauses { frames := 5, cells := 0, slots := 0, locals := 115 }).room s m args below meth c 3 D A 0 0 (RQv below args s D A (fl [wX6 cI cZ cQ rX ((f_X6_readClauses SX SD).1), wX5 cI cZ cQ rD ((f_X6_readClauses SX SD).2)])) (fl [wX6 cI cZ cQ rX u_2.1, wX5 cI cZ cQ rD u_2.2]) [(0, .ref (rX 0)), (1, .ref (rD 0)), (2, .int (nI j_2))] 2 [] := by
    intro k_2
    induction k_2 with
    | zero =>
      intro j_2 u_2 hj hi hf
      have hjB : j_2 = 241 := by omega
      subst hjB
      refine ww_iload_n (pc := 2) X dX6_readClauses_2 2 rfl rfl ?_
      refine ww_sipush (pc := 3) (v := 240) X dX6_readClauses_3 (by decide) ?_
      refine ww_icmp_gt (pc := 6) (tgt := 40) X dX6_readClauses_6 (by decide) (fun _ => ?_) (fun c9 => absurd (lp_gt0 rfl (Nat.le_refl _) (by decide)) c9)
      have h11 : f_X6_readClauses SX SD = (u_2.1, u_2.2) := by rw [hf]; show l0_X6_readClauses_2  241 u_2 = _; unfold l0_X6_readClauses_2; first | done | rfl
      have hw12 := congrArg (fun u9 : St × St => fl [wX6 cI cZ cQ rX u9.1, wX5 cI cZ cQ rD u9.2]) h11.symm
      exact ww_vret X hr hw12 dX6_readClauses_40
    | succ k_2 ih =>
      intro j_2 u_2 hj hi hf
      have hjB : j_2 < 241 := by omega
      refine ww_iload_n (pc := 2) X dX6_readClauses_2 2 rfl rfl ?_
      refine ww_sipush (pc := 3) (v := 240) X dX6_readClauses_3 (by decide) ?_
      refine ww_icmp_gt (pc := 6) (tgt := 40) X dX6_readClauses_6 (by decide) (fun c9 => absurd c9 (lp_gt1 rfl hjB (by decide))) (fun _ => ?_)
      refine ww_aload_n (pc := 9) X dX6_readClauses_9 0 rfl rfl ?_
      refine ww_get (pc := 10) (ci := 6) (v := .int (u_2.1.1 2)) (C := RX6) (T := TX6) (N := 6) X inX6_readClauses_6 0 rfl rfl 4 (by decide) (by decide +kernel) rfl dX6_readClauses_10 ?_
      refine ww_if_ne (pc := 13) (tgt := 40) X dX6_readClauses_13 (by decide) (fun c13 => ?_) (fun c13 => ?_)
      · have h14 : f_X6_readClauses SX SD = (u_2.1, u_2.2) := by rw [hf]; show lb_X6_readClauses_2  (lp_X6_readClauses_2  k_2) j_2 u_2 = _; unfold lb_X6_readClauses_2; try rw [if_neg c13]; first | done | rfl
        have hw15 := congrArg (fun u9 : St × St => fl [wX6 cI cZ cQ rX u9.1, wX5 cI cZ cQ rD u9.2]) h14.symm
        exact ww_vret X hr hw15 dX6_readClauses_40
      · refine ww_aload_n (pc := 16) X dX6_readClauses_16 0 rfl rfl ?_
        refine ww_gVv (pc := 17) (rest := []) (gsN := [wX6 cI cZ cQ rX (f_X6_skipBlanks u_2.1), wX5 cI cZ cQ rD u_2.2]) (ci := 6) (gi := 0) (qi := 0) X (c_X6_skipBlanks l D cI cZ cQ rX u_2.1 hi.1) gX6_readClauses_X6_skipBlanks rfl hd_X6_skipBlanks [true, false] rfl (acons (ad6 _ _ _ _ _ _) rfl) rfl rfl rfl rfl rfl rfl ⟨rfl, rfl⟩ ⟨Nat.le_of_ble_eq_true rfl, Nat.le_of_ble_eq_true rfl⟩ (Nat.le_of_ble_eq_true rfl) ⟨Nat.zero_le _, Nat.zero_le _⟩ dX6_readClauses_17 ?_
        generalize hz16 : (f_X6_skipBlanks u_2.1) = z16
        have okz : ¬ (z16.1 1) < 0 := by rw [← hz16]; exact (xk_skip hi.1).1
        refine ww_aload_n (pc := 20) X dX6_readClauses_20 0 rfl rfl ?_
        refine ww_gVi (pc := 21) (rest := []) (gsN := [wX6 cI cZ cQ rX z16, wX5 cI cZ cQ rD u_2.2]) (ci := 6) (gi := 0) (qi := 0) X (c_X6_here l D cI cZ cQ rX z16 okz) gX6_readClauses_X6_here rfl hd_X6_here [true, false] rfl rfl rfl rfl rfl rfl rfl rfl ⟨rfl, rfl⟩ ⟨Nat.le_of_ble_eq_true rfl, Nat.le_of_ble_eq_true rfl⟩ (Nat.le_of_ble_eq_true rfl) ⟨Nat.zero_le _, Nat.zero_le _⟩ dX6_readClauses_21 ?_
        refine ww_iconst (pc := 24) (v := (-1)) X dX6_readClauses_24 (by decide) ?_
        refine ww_icmp_ne (pc := 25) (tgt := 29) X dX6_readClauses_25 (by decide) (fun c17 => ?_) (fun c17 => ?_)
        · refine ww_aload_n (pc := 29) X dX6_readClauses_29 0 rfl rfl ?_
          refine ww_aload_n (pc := 30) X dX6_readClauses_30 1 rfl rfl ?_
          refine ww_zVv (pc := 31) (rest := []) (gsN := [wX6 cI cZ cQ rX ((f_X6_readClause z16 u_2.2).1), wX5 cI cZ cQ rD ((f_X6_readClause z16 u_2.2).2)]) (ci := 6) (gi := 0) (qi := 0) X (Zs_ok tt ak av) hZ (c_X6_readClause l D cI cZ cQ tt ak av rX rD z16 u_2.2 okz hi.2.1) gX6_readClauses_X6_readClause rfl hd_X6_readClause [true, true] rfl (acons (ad6 _ _ _ _ _ _) (acons (ad5 _ _ _ _ _ _) rfl)) rfl rfl rfl rfl rfl rfl ⟨rfl, rfl⟩ ⟨Nat.le_of_ble_eq_true rfl, Nat.le_of_ble_eq_true rfl⟩ (Nat.le_of_ble_eq_true rfl) ⟨Nat.zero_le _, Nat.zero_le _⟩ dX6_readClauses_31 ?_
          generalize hz18 : (f_X6_readClause z16 u_2.2) = z18
          refine ww_iinc (pc := 34) (v := (nI j_2) + 1) (lv' := [(2, .int ((nI j_2) + 1)), (0, .ref (rX 0)), (1, .ref (rD 0))]) X dX6_readClauses_34 2 rfl rfl (by decide) rfl ?_
          refine ww_goto (pc := 37) (tgt := 2) X dX6_readClauses_37 (by decide) ?_
          refine ww_lsub [1, 2, 0] rfl ?_
          have h19 : f_X6_readClauses SX SD = lp_X6_readClauses_2  k_2 (j_2 + 1) (z18.1, z18.2) := by rw [hf]; show lb_X6_readClauses_2  (lp_X6_readClauses_2  k_2) j_2 u_2 = _; unfold lb_X6_readClauses_2; try rw [if_pos c13, hz16]; try unfold lb_X6_readClauses_2_k1; try rw [if_neg c17, hz18]; try unfold lb_X6_readClauses_2_k2; first | done | rfl
          exact ww_cast rfl (congrArg (fun (i9 : Int32) => ([(0, .ref (rX 0)), (1, .ref (rD 0)), (2, .int i9)] : List (Nat × Value))) (nI_1 j_2).symm) (ih (j_2 + 1) (z18.1, z18.2) (by omega) (by rw [← hz18]; exact ⟨(rc_ok okz hi.2).1.1, (rc_ok okz hi.2).2⟩) h19)
        · have h20 : f_X6_readClauses SX SD = (z16, u_2.2) := by rw [hf]; show lb_X6_readClauses_2  (lp_X6_readClauses_2  k_2) j_2 u_2 = _; unfold lb_X6_readClauses_2; try rw [if_pos c13, hz16]; try unfold lb_X6_readClauses_2_k1; try rw [if_pos c17]; first | done | rfl
          have hw21 := congrArg (fun u9 : St × St => fl [wX6 cI cZ cQ rX u9.1, wX5 cI cZ cQ rD u9.2]) h20.symm
          exact ww_vret X hr hw21 dX6_readClauses_28
  refine ww_lsub [1, 2, 0] rfl ?_
  exact L2 241 0 (SX, SD) (by omega) ⟨ok1, hA⟩ (by unfold f_X6_readClauses; first | done | rfl)
def f_X6_readInto_k2 (SX : St) (SD : St) (z1 : St) (z2 : St × St) : St × St :=
  (z2.1, z2.2)
def f_X6_readInto_k1 (SX : St) (SD : St) (z1 : St) : St × St :=
  f_X6_readInto_k2 SX SD z1 (f_X6_readClauses (sI (sI (sI SX 1 0) 2 0) 3 (-1)) z1)
def f_X6_readInto (SX : St) (SD : St) : St × St :=
  f_X6_readInto_k1 SX SD (f_X5_empty SD)
theorem ri_ok (SX SD : St) : ¬ ((f_X6_readInto SX SD).1.1 1) < 0 ∧ ((f_X6_readInto SX SD).1.1 0) = SX.1 0 ∧ okA (f_X6_readInto SX SD).2 := by
  unfold f_X6_readInto f_X6_readInto_k1 f_X6_readInto_k2
  have h := rcs_ok (SX := (sI (sI (sI SX 1 0) 2 0) 3 (-1))) (by rw [sI_ne (by decide), sI_ne (by decide), sI_eq]; decide) (okA_e SD)
  have e0 : (sI (sI (sI SX 1 0) 2 0) 3 (-1)).1 0 = SX.1 0 := by rw [sI_ne (by decide), sI_ne (by decide), sI_ne (by decide)]
  generalize f_X6_readClauses (sI (sI (sI SX 1 0) 2 0) 3 (-1)) (f_X5_empty SD) = q at h ⊢
  exact ⟨h.1.1, h.1.2.2.trans e0, h.2⟩
theorem ri_A {SX SD : St} {z : St × St} (h : f_X6_readInto SX SD = z) : okA z.2 := by rw [← h]; exact (ri_ok SX SD).2.2
/-- the two shores change places -/
def sw1 (g : Nat → Nat → Nat) : Nat → Nat → Nat := fun i => if i = 2 then g 3 else g i
def sw (g : Nat → Nat → Nat) : Nat → Nat → Nat := fun i => if i = 2 then g 3 else if i = 3 then g 2 else g i
def gsw (g : Nat → Nat → Nat) (S : St) : Nat → Nat → Nat := if S.1 2 = 0 then sw g else g
theorem gsw_no {g : Nat → Nat → Nat} {S : St} (h : ¬ S.1 2 = 0) : gsw g S = g := if_neg h
theorem gsw_yes {g : Nat → Nat → Nat} {S : St} (h : S.1 2 = 0) : gsw g S = sw g := if_pos h
theorem inX6_readInto_6 : ∀ w ∈ wsX60, w ∈ wsX6_readInto := by decide +kernel
theorem hd_X6_readInto : yX6_readInto.cls = RX6 ∧ yX6_readInto.cls ≠ "java/lang/invoke/MethodHandle" ∧ yX6_readInto.cls ≠ "java/lang/invoke/VarHandle" ∧ (parseMethodDescriptor yX6_readInto.desc).map (fun d => d.parameters.length) = some 1 := by decide +kernel
set_option maxHeartbeats 4000000 in
set_option maxRecDepth 100000 in
theorem c_X6_readInto (l : Launch) (D : va_G) (cI cZ cQ : ClassId) (tt : Nat → Nat) (ak av : Nat) (rX : Nat → Nat) (rD : Nat → Nat) (SX : St) (SD : St) : CvZ (Zs tt ak av) l yX6_readInto wsX6_readInto { frames := 6, cells := 0, slots := 0, locals := 137 } D (tyL cI cZ cQ) [.ref (rX 0), .ref (rD 0)] (fl [wX6 cI cZ cQ rX SX, wX5 cI cZ cQ rD SD]) (fl [wX6 cI cZ cQ rX ((f_X6_readInto SX SD).1), wX5 cI cZ cQ rD ((f_X6_readInto SX SD).2)]) := by
  refine cvz_of (cc := cX6_readInto) (nL := 2) (lv0 := [(0, .ref (rX 0)), (1, .ref (rD 0))]) (by decide) rfl (Nat.le_of_ble_eq_true rfl) rfl ?_
  intro p e s m args below meth c A X hr hZ
  refine ww_aload_n (pc := 0) X dX6_readInto_0 0 rfl rfl ?_
  refine ww_iconst (pc := 1) (v := 0) X dX6_readInto_1 (by decide) ?_
  refine ww_put (pc := 2) (ci := 6) (v := .int 0) (C := RX6) (T := TX6) (N := 6) (ws' := fl [wX6 cI cZ cQ rX (sI SX 1 0), wX5 cI cZ cQ rD SD]) X inX6_readInto_6 tyX6 tyX6_ok nmX6 0 rfl rfl 3 (by decide) (by decide +kernel) rfl rfl rfl (Nat.le_of_ble_eq_true rfl) rfl dX6_readInto_2 ?_
  refine ww_aload_n (pc := 5) X dX6_readInto_5 0 rfl rfl ?_
  refine ww_iconst (pc := 6) (v := 0) X dX6_readInto_6 (by decide) ?_
  refine ww_put (pc := 7) (ci := 6) (v := .int 0) (C := RX6) (T := TX6) (N := 6) (ws' := fl [wX6 cI cZ cQ rX (sI (sI SX 1 0) 2 0), wX5 cI cZ cQ rD SD]) X inX6_readInto_6 tyX6 tyX6_ok nmX6 0 rfl rfl 4 (by decide) (by decide +kernel) rfl rfl rfl (Nat.le_of_ble_eq_true rfl) rfl dX6_readInto_7 ?_
  refine ww_aload_n (pc := 10) X dX6_readInto_10 0 rfl rfl ?_
  refine ww_iconst (pc := 11) (v := (-1)) X dX6_readInto_11 (by decide) ?_
  refine ww_put (pc := 12) (ci := 6) (v := .int (-1)) (C := RX6) (T := TX6) (N := 6) (ws' := fl [wX6 cI cZ cQ rX (sI (sI (sI SX 1 0) 2 0) 3 (-1)), wX5 cI cZ cQ rD SD]) X inX6_readInto_6 tyX6 tyX6_ok nmX6 0 rfl rfl 5 (by decide) (by decide +kernel) rfl rfl rfl (Nat.le_of_ble_eq_true rfl) rfl dX6_readInto_12 ?_
  refine ww_aload_n (pc := 15) X dX6_readInto_15 1 rfl rfl ?_
  refine ww_gVv (pc := 16) (rest := []) (gsN := [wX6 cI cZ cQ rX (sI (sI (sI SX 1 0) 2 0) 3 (-1)), wX5 cI cZ cQ rD (f_X5_empty SD)]) (ci := 5) (gi := 0) (qi := 0) X (c_X5_empty l D cI cZ cQ rD SD) gX6_readInto_X5_empty rfl hd_X5_empty [false, true] rfl (acons (ad5 _ _ _ _ _ _) rfl) rfl rfl rfl rfl rfl rfl ⟨rfl, rfl⟩ ⟨Nat.le_of_ble_eq_true rfl, Nat.le_of_ble_eq_true rfl⟩ (Nat.le_of_ble_eq_true rfl) ⟨Nat.zero_le _, Nat.zero_le _⟩ dX6_readInto_16 ?_
  generalize hz1 : (f_X5_empty SD) = z1
  refine ww_aload_n (pc := 19) X dX6_readInto_19 0 rfl rfl ?_
  refine ww_aload_n (pc := 20) X dX6_readInto_20 1 rfl rfl ?_
  refine ww_zVv (pc := 21) (rest := []) (gsN := [wX6 cI cZ cQ rX ((f_X6_readClauses (sI (sI (sI SX 1 0) 2 0) 3 (-1)) z1).1), wX5 cI cZ cQ rD ((f_X6_readClauses (sI (sI (sI SX 1 0) 2 0) 3 (-1)) z1).2)]) (ci := 6) (gi := 0) (qi := 0) X (Zs_ok tt ak av) hZ (c_X6_readClauses l D cI cZ cQ tt ak av rX rD (sI (sI (sI SX 1 0) 2 0) 3 (-1)) z1 (by rw [sI_ne (by decide), sI_ne (by decide), sI_eq]; decide) (by rw [← hz1]; exact okA_e _)) gX6_readInto_X6_readClauses rfl hd_X6_readClauses [true, true] rfl (acons (ad6 _ _ _ _ _ _) (acons (ad5 _ _ _ _ _ _) rfl)) rfl rfl rfl rfl rfl rfl ⟨rfl, rfl⟩ ⟨Nat.le_of_ble_eq_true rfl, Nat.le_of_ble_eq_true rfl⟩ (Nat.le_of_ble_eq_true rfl) ⟨Nat.zero_le _, Nat.zero_le _⟩ dX6_readInto_21 ?_
  generalize hz2 : (f_X6_readClauses (sI (sI (sI SX 1 0) 2 0) 3 (-1)) z1) = z2
  have h3 : f_X6_readInto SX SD = (z2.1, z2.2) := by unfold f_X6_readInto; try rw [hz1]; try unfold f_X6_readInto_k1; try rw [hz2]; try unfold f_X6_readInto_k2; first | done | rfl
  have hw4 := congrArg (fun u9 : St × St => fl [wX6 cI cZ cQ rX u9.1, wX5 cI cZ cQ rD u9.2]) h3.symm
  exact ww_vret X hr hw4 dX6_readInto_24
def f_X7_shore_k7 (ST : St) (SX : St) (SL : St) (SD : St) (SF : St) (SP : St) (SI : St) (SN : St) (SB : St) (z1 : St × St) (z2 : St) (z4 : St) (z5 : St) (z6 : St) (z7 : St) (z8 : St) : Int32 × St × St × St × St × St × St × St :=
  (z1.2.1 3, z2, z1.2, z4, z5, z6, z7, z8)
def f_X7_shore_k6 (ST : St) (SX : St) (SL : St) (SD : St) (SF : St) (SP : St) (SI : St) (SN : St) (SB : St) (z1 : St × St) (z2 : St) (z4 : St) (z5 : St) (z6 : St) (z7 : St) : Int32 × St × St × St × St × St × St × St :=
  f_X7_shore_k7 ST SX SL SD SF SP SI SN SB z1 z2 z4 z5 z6 z7 (f_X0_empty SB)
def f_X7_shore_k5 (ST : St) (SX : St) (SL : St) (SD : St) (SF : St) (SP : St) (SI : St) (SN : St) (SB : St) (z1 : St × St) (z2 : St) (z4 : St) (z5 : St) (z6 : St) : Int32 × St × St × St × St × St × St × St :=
  f_X7_shore_k6 ST SX SL SD SF SP SI SN SB z1 z2 z4 z5 z6 (f_X1_beginAnew SN)
def f_X7_shore_k4 (ST : St) (SX : St) (SL : St) (SD : St) (SF : St) (SP : St) (SI : St) (SN : St) (SB : St) (z1 : St × St) (z2 : St) (z4 : St) (z5 : St) : Int32 × St × St × St × St × St × St × St :=
  f_X7_shore_k5 ST SX SL SD SF SP SI SN SB z1 z2 z4 z5 (f_X2_forget SI)
def f_X7_shore_k3 (ST : St) (SX : St) (SL : St) (SD : St) (SF : St) (SP : St) (SI : St) (SN : St) (SB : St) (z1 : St × St) (z2 : St) (z4 : St) : Int32 × St × St × St × St × St × St × St :=
  f_X7_shore_k4 ST SX SL SD SF SP SI SN SB z1 z2 z4 (f_X4_forget SP)
def f_X7_shore_k2 (ST : St) (SX : St) (SL : St) (SD : St) (SF : St) (SP : St) (SI : St) (SN : St) (SB : St) (z1 : St × St) (z2 : St) : Int32 × St × St × St × St × St × St × St :=
  if (z2.1 2) = 0 then
    f_X7_shore_k3 ST SX SL SD SF SP SI SN SB z1 z2 (f_X3_begin z1.2 SF)
  else
    ((-10) - (z2.1 2), z2, z1.2, SF, SP, SI, SN, SB)
def f_X7_shore_k1 (ST : St) (SX : St) (SL : St) (SD : St) (SF : St) (SP : St) (SI : St) (SN : St) (SB : St) (z1 : St × St) : Int32 × St × St × St × St × St × St × St :=
  f_X7_shore_k2 ST SX SL SD SF SP SI SN SB z1 (f_X6_empty z1.1)
def f_X7_shore (ST : St) (SX : St) (SL : St) (SD : St) (SF : St) (SP : St) (SI : St) (SN : St) (SB : St) : Int32 × St × St × St × St × St × St × St :=
  f_X7_shore_k1 ST SX SL SD SF SP SI SN SB (f_X6_readInto SX SD)
theorem inX7_shore_5 : ∀ w ∈ wsX50, w ∈ wsX7_shore := by decide +kernel
theorem inX7_shore_6 : ∀ w ∈ wsX60, w ∈ wsX7_shore := by decide +kernel
theorem inX7_shore_7 : ∀ w ∈ wsX70, w ∈ wsX7_shore := by decide +kernel
theorem hd_X7_shore : yX7_shore.cls = RX7 ∧ yX7_shore.cls ≠ "java/lang/invoke/MethodHandle" ∧ yX7_shore.cls ≠ "java/lang/invoke/VarHandle" ∧ (parseMethodDescriptor yX7_shore.desc).map (fun d => d.parameters.length) = some 0 := by decide +kernel
set_option maxHeartbeats 4000000 in
set_option maxRecDepth 100000 in
theorem c_X7_shore (l : Launch) (D : va_G) (cI cZ cQ : ClassId) (tt : Nat → Nat) (ak av : Nat) (g : Nat → Nat → Nat) (ST : St) (SX : St) (SL : St) (SD : St) (SF : St) (SP : St) (SI : St) (SN : St) (SB : St) : CiZ (Zs tt ak av) l yX7_shore wsX7_shore { frames := 7, cells := 0, slots := 0, locals := 158 } D (tyL cI cZ cQ) [.ref (g 0 0)] (fl [wX7 cI cZ cQ g ST, wX6 cI cZ cQ (g 1) SX, wX5 cI cZ cQ (g 2) SL, wX5 cI cZ cQ (g 3) SD, wX3 cI cZ cQ (g 4) SF, wX4 cI cZ cQ (g 5) SP, wX2 cI cZ cQ (g 6) SI, wX1 cI cZ cQ (g 7) SN, wX0 cI cZ cQ (g 8) SB]) ((f_X7_shore ST SX SL SD SF SP SI SN SB).1) (fl [wX7 cI cZ cQ (gsw g ((f_X7_shore ST SX SL SD SF SP SI SN SB).2.1)) ST, wX6 cI cZ cQ (g 1) ((f_X7_shore ST SX SL SD SF SP SI SN SB).2.1), wX5 cI cZ cQ (g 2) SL, wX5 cI cZ cQ (g 3) ((f_X7_shore ST SX SL SD SF SP SI SN SB).2.2.1), wX3 cI cZ cQ (g 4) ((f_X7_shore ST SX SL SD SF SP SI SN SB).2.2.2.1), wX4 cI cZ cQ (g 5) ((f_X7_shore ST SX SL SD SF SP SI SN SB).2.2.2.2.1), wX2 cI cZ cQ (g 6) ((f_X7_shore ST SX SL SD SF SP SI SN SB).2.2.2.2.2.1), wX1 cI cZ cQ (g 7) ((f_X7_shore ST SX SL SD SF SP SI SN SB).2.2.2.2.2.2.1), wX0 cI cZ cQ (g 8) ((f_X7_shore ST SX SL SD SF SP SI SN SB).2.2.2.2.2.2.2)]) := by
  refine ciz_of (cc := cX7_shore) (nL := 2) (ty := .int) (lv0 := [(0, .ref (g 0 0))]) (by decide) rfl (Nat.le_of_ble_eq_true rfl) rfl ?_
  intro p e s m args below meth c A X hr hZ
  refine ww_aload_n (pc := 0) X dX7_shore_0 0 rfl rfl ?_
  refine ww_get (pc := 1) (ci := 7) (v := .ref (g 1 0)) (C := RX7) (T := TX7) (N := 9) X inX7_shore_7 0 rfl rfl 0 (by decide) (by decide +kernel) rfl dX7_shore_1 ?_
  refine ww_aload_n (pc := 4) X dX7_shore_4 0 rfl rfl ?_
  refine ww_get (pc := 5) (ci := 7) (v := .ref (g 3 0)) (C := RX7) (T := TX7) (N := 9) X inX7_shore_7 0 rfl rfl 2 (by decide) (by decide +kernel) rfl dX7_shore_5 ?_
  refine ww_zVv (pc := 8) (rest := []) (gsN := [wX7 cI cZ cQ g ST, wX6 cI cZ cQ (g 1) ((f_X6_readInto SX SD).1), wX5 cI cZ cQ (g 2) SL, wX5 cI cZ cQ (g 3) ((f_X6_readInto SX SD).2), wX3 cI cZ cQ (g 4) SF, wX4 cI cZ cQ (g 5) SP, wX2 cI cZ cQ (g 6) SI, wX1 cI cZ cQ (g 7) SN, wX0 cI cZ cQ (g 8) SB]) (ci := 6) (gi := 0) (qi := 0) X (Zs_ok tt ak av) hZ (c_X6_readInto l D cI cZ cQ tt ak av (g 1) (g 3) SX SD) gX7_shore_X6_readInto rfl hd_X6_readInto [false, true, false, true, false, false, false, false, false] rfl (acons (ad6 _ _ _ _ _ _) (acons (ad5 _ _ _ _ _ _) rfl)) rfl rfl rfl rfl rfl rfl ⟨rfl, rfl⟩ ⟨Nat.le_of_ble_eq_true rfl, Nat.le_of_ble_eq_true rfl⟩ (Nat.le_of_ble_eq_true rfl) ⟨Nat.zero_le _, Nat.zero_le _⟩ dX7_shore_8 ?_
  generalize hz1 : (f_X6_readInto SX SD) = z1
  have hA := ri_A hz1
  refine ww_aload_n (pc := 11) X dX7_shore_11 0 rfl rfl ?_
  refine ww_get (pc := 12) (ci := 7) (v := .ref (g 1 0)) (C := RX7) (T := TX7) (N := 9) X inX7_shore_7 0 rfl rfl 0 (by decide) (by decide +kernel) rfl dX7_shore_12 ?_
  refine ww_gVv (pc := 15) (rest := []) (gsN := [wX7 cI cZ cQ g ST, wX6 cI cZ cQ (g 1) (f_X6_empty z1.1), wX5 cI cZ cQ (g 2) SL, wX5 cI cZ cQ (g 3) z1.2, wX3 cI cZ cQ (g 4) SF, wX4 cI cZ cQ (g 5) SP, wX2 cI cZ cQ (g 6) SI, wX1 cI cZ cQ (g 7) SN, wX0 cI cZ cQ (g 8) SB]) (ci := 6) (gi := 0) (qi := 0) X (c_X6_empty l D cI cZ cQ (g 1) z1.1) gX7_shore_X6_empty rfl hd_X6_empty [false, true, false, false, false, false, false, false, false] rfl (acons (ad6 _ _ _ _ _ _) rfl) rfl rfl rfl rfl rfl rfl ⟨rfl, rfl⟩ ⟨Nat.le_of_ble_eq_true rfl, Nat.le_of_ble_eq_true rfl⟩ (Nat.le_of_ble_eq_true rfl) ⟨Nat.zero_le _, Nat.zero_le _⟩ dX7_shore_15 ?_
  generalize hz2 : (f_X6_empty z1.1) = z2
  refine ww_aload_n (pc := 18) X dX7_shore_18 0 rfl rfl ?_
  refine ww_get (pc := 19) (ci := 7) (v := .ref (g 1 0)) (C := RX7) (T := TX7) (N := 9) X inX7_shore_7 0 rfl rfl 0 (by decide) (by decide +kernel) rfl dX7_shore_19 ?_
  refine ww_get (pc := 22) (ci := 6) (v := .int (z2.1 2)) (C := RX6) (T := TX6) (N := 6) X inX7_shore_6 1 rfl rfl 4 (by decide) (by decide +kernel) rfl dX7_shore_22 ?_
  refine ww_if_eq (pc := 25) (tgt := 39) X dX7_shore_25 (by decide) (fun c3 => ?_) (fun c3 => ?_)
  · refine ww_aload_n (pc := 39) X dX7_shore_39 0 rfl rfl ?_
    refine ww_get (pc := 40) (ci := 7) (v := .ref (g 2 0)) (C := RX7) (T := TX7) (N := 9) X inX7_shore_7 0 rfl rfl 1 (by decide) (by decide +kernel) rfl dX7_shore_40 ?_
    refine ww_astore_n (pc := 43) (lv' := [(1, .ref (g 2 0)), (0, .ref (g 0 0))]) X dX7_shore_43 rfl (by decide) rfl ?_
    refine ww_aload_n (pc := 44) X dX7_shore_44 1 rfl rfl ?_
    refine ww_aload_n (pc := 45) X dX7_shore_45 1 rfl rfl ?_
    refine ww_get (pc := 46) (ci := 7) (v := .ref (g 3 0)) (C := RX7) (T := TX7) (N := 9) X inX7_shore_7 0 rfl rfl 2 (by decide) (by decide +kernel) rfl dX7_shore_46 ?_
    refine ww_put (pc := 49) (ci := 7) (v := .ref (g 3 0)) (C := RX7) (T := TX7) (N := 9) (ws' := fl [wX7 cI cZ cQ (sw1 g) ST, wX6 cI cZ cQ (g 1) z2, wX5 cI cZ cQ (g 2) SL, wX5 cI cZ cQ (g 3) z1.2, wX3 cI cZ cQ (g 4) SF, wX4 cI cZ cQ (g 5) SP, wX2 cI cZ cQ (g 6) SI, wX1 cI cZ cQ (g 7) SN, wX0 cI cZ cQ (g 8) SB]) X inX7_shore_7 tyX7 tyX7_ok nmX7 0 rfl rfl 1 (by decide) (by decide +kernel) rfl rfl rfl (Nat.le_of_ble_eq_true rfl) rfl dX7_shore_49 ?_
    refine ww_aload_n (pc := 52) X dX7_shore_52 1 rfl rfl ?_
    refine ww_aload_n (pc := 53) X dX7_shore_53 0 rfl rfl ?_
    refine ww_put (pc := 54) (ci := 7) (v := .ref (g 2 0)) (C := RX7) (T := TX7) (N := 9) (ws' := fl [wX7 cI cZ cQ (sw g) ST, wX6 cI cZ cQ (g 1) z2, wX5 cI cZ cQ (g 2) SL, wX5 cI cZ cQ (g 3) z1.2, wX3 cI cZ cQ (g 4) SF, wX4 cI cZ cQ (g 5) SP, wX2 cI cZ cQ (g 6) SI, wX1 cI cZ cQ (g 7) SN, wX0 cI cZ cQ (g 8) SB]) X inX7_shore_7 tyX7 tyX7_ok nmX7 0 rfl rfl 2 (by decide) (by decide +kernel) rfl rfl rfl (Nat.le_of_ble_eq_true rfl) rfl dX7_shore_54 ?_
    refine ww_aload_n (pc := 57) X dX7_shore_57 1 rfl rfl ?_
    refine ww_get (pc := 58) (ci := 7) (v := .ref (g 4 0)) (C := RX7) (T := TX7) (N := 9) X inX7_shore_7 0 rfl rfl 3 (by decide) (by decide +kernel) rfl dX7_shore_58 ?_
    refine ww_aload_n (pc := 61) X dX7_shore_61 1 rfl rfl ?_
    refine ww_get (pc := 62) (ci := 7) (v := .ref (g 3 0)) (C := RX7) (T := TX7) (N := 9) X inX7_shore_7 0 rfl rfl 1 (by decide) (by decide +kernel) rfl dX7_shore_62 ?_
    refine ww_gVv (pc := 65) (rest := []) (gsN := [wX7 cI cZ cQ (sw g) ST, wX6 cI cZ cQ (g 1) z2, wX5 cI cZ cQ (g 2) SL, wX5 cI cZ cQ (g 3) z1.2, wX3 cI cZ cQ (g 4) (f_X3_begin z1.2 SF), wX4 cI cZ cQ (g 5) SP, wX2 cI cZ cQ (g 6) SI, wX1 cI cZ cQ (g 7) SN, wX0 cI cZ cQ (g 8) SB]) (ci := 3) (gi := 1) (qi := 0) X (c_X3_begin l D cI cZ cQ (g 3) (g 4) z1.2 SF hA.2) gX7_shore_X3_begin rfl hd_X3_begin [false, false, false, true, true, false, false, false, false] rfl (acons rfl (acons (ad3 _ _ _ _ _ _) rfl)) rfl rfl rfl rfl rfl rfl ⟨rfl, rfl⟩ ⟨Nat.le_of_ble_eq_true rfl, Nat.le_of_ble_eq_true rfl⟩ (Nat.le_of_ble_eq_true rfl) ⟨Nat.zero_le _, Nat.zero_le _⟩ dX7_shore_65 ?_
    generalize hz4 : (f_X3_begin z1.2 SF) = z4
    refine ww_aload_n (pc := 68) X dX7_shore_68 1 rfl rfl ?_
    refine ww_get (pc := 69) (ci := 7) (v := .ref (g 5 0)) (C := RX7) (T := TX7) (N := 9) X inX7_shore_7 0 rfl rfl 4 (by decide) (by decide +kernel) rfl dX7_shore_69 ?_
    refine ww_gVv (pc := 72) (rest := []) (gsN := [wX7 cI cZ cQ (sw g) ST, wX6 cI cZ cQ (g 1) z2, wX5 cI cZ cQ (g 2) SL, wX5 cI cZ cQ (g 3) z1.2, wX3 cI cZ cQ (g 4) z4, wX4 cI cZ cQ (g 5) (f_X4_forget SP), wX2 cI cZ cQ (g 6) SI, wX1 cI cZ cQ (g 7) SN, wX0 cI cZ cQ (g 8) SB]) (ci := 4) (gi := 0) (qi := 0) X (c_X4_forget l D cI cZ cQ (g 5) SP) gX7_shore_X4_forget rfl hd_X4_forget [false, false, false, false, false, true, false, false, false] rfl (acons (ad4 _ _ _ _ _ _) rfl) rfl rfl rfl rfl rfl rfl ⟨rfl, rfl⟩ ⟨Nat.le_of_ble_eq_true rfl, Nat.le_of_ble_eq_true rfl⟩ (Nat.le_of_ble_eq_true rfl) ⟨Nat.zero_le _, Nat.zero_le _⟩ dX7_shore_72 ?_
    generalize hz5 : (f_X4_forget SP) = z5
    refine ww_aload_n (pc := 75) X dX7_shore_75 1 rfl rfl ?_
    refine ww_get (pc := 76) (ci := 7) (v := .ref (g 6 0)) (C := RX7) (T := TX7) (N := 9) X inX7_shore_7 0 rfl rfl 5 (by decide) (by decide +kernel) rfl dX7_shore_76 ?_
    refine ww_gVv (pc := 79) (rest := []) (gsN := [wX7 cI cZ cQ (sw g) ST, wX6 cI cZ cQ (g 1) z2, wX5 cI cZ cQ (g 2) SL, wX5 cI cZ cQ (g 3) z1.2, wX3 cI cZ cQ (g 4) z4, wX4 cI cZ cQ (g 5) z5, wX2 cI cZ cQ (g 6) (f_X2_forget SI), wX1 cI cZ cQ (g 7) SN, wX0 cI cZ cQ (g 8) SB]) (ci := 2) (gi := 0) (qi := 0) X (c_X2_forget l D cI cZ cQ (g 6) SI) gX7_shore_X2_forget rfl hd_X2_forget [false, false, false, false, false, false, true, false, false] rfl (acons (ad2 _ _ _ _ _ _) rfl) rfl rfl rfl rfl rfl rfl ⟨rfl, rfl⟩ ⟨Nat.le_of_ble_eq_true rfl, Nat.le_of_ble_eq_true rfl⟩ (Nat.le_of_ble_eq_true rfl) ⟨Nat.zero_le _, Nat.zero_le _⟩ dX7_shore_79 ?_
    generalize hz6 : (f_X2_forget SI) = z6
    refine ww_aload_n (pc := 82) X dX7_shore_82 1 rfl rfl ?_
    refine ww_get (pc := 83) (ci := 7) (v := .ref (g 7 0)) (C := RX7) (T := TX7) (N := 9) X inX7_shore_7 0 rfl rfl 6 (by decide) (by decide +kernel) rfl dX7_shore_83 ?_
    refine ww_gVv (pc := 86) (rest := []) (gsN := [wX7 cI cZ cQ (sw g) ST, wX6 cI cZ cQ (g 1) z2, wX5 cI cZ cQ (g 2) SL, wX5 cI cZ cQ (g 3) z1.2, wX3 cI cZ cQ (g 4) z4, wX4 cI cZ cQ (g 5) z5, wX2 cI cZ cQ (g 6) z6, wX1 cI cZ cQ (g 7) (f_X1_beginAnew SN), wX0 cI cZ cQ (g 8) SB]) (ci := 1) (gi := 0) (qi := 0) X (c_X1_beginAnew l D cI cZ cQ (g 7) SN) gX7_shore_X1_beginAnew rfl hd_X1_beginAnew [false, false, false, false, false, false, false, true, false] rfl (acons (ad1 _ _ _ _ _ _) rfl) rfl rfl rfl rfl rfl rfl ⟨rfl, rfl⟩ ⟨Nat.le_of_ble_eq_true rfl, Nat.le_of_ble_eq_true rfl⟩ (Nat.le_of_ble_eq_true rfl) ⟨Nat.zero_le _, Nat.zero_le _⟩ dX7_shore_86 ?_
    generalize hz7 : (f_X1_beginAnew SN) = z7
    refine ww_aload_n (pc := 89) X dX7_shore_89 1 rfl rfl ?_
    refine ww_get (pc := 90) (ci := 7) (v := .ref (g 8 0)) (C := RX7) (T := TX7) (N := 9) X inX7_shore_7 0 rfl rfl 7 (by decide) (by decide +kernel) rfl dX7_shore_90 ?_
    refine ww_gVv (pc := 93) (rest := []) (gsN := [wX7 cI cZ cQ (sw g) ST, wX6 cI cZ cQ (g 1) z2, wX5 cI cZ cQ (g 2) SL, wX5 cI cZ cQ (g 3) z1.2, wX3 cI cZ cQ (g 4) z4, wX4 cI cZ cQ (g 5) z5, wX2 cI cZ cQ (g 6) z6, wX1 cI cZ cQ (g 7) z7, wX0 cI cZ cQ (g 8) (f_X0_empty SB)]) (ci := 0) (gi := 0) (qi := 0) X (c_X0_empty l D cI cZ cQ (g 8) SB) gX7_shore_X0_empty rfl hd_X0_empty [false, false, false, false, false, false, false, false, true] rfl (acons (ad0 _ _ _ _ _ _) rfl) rfl rfl rfl rfl rfl rfl ⟨rfl, rfl⟩ ⟨Nat.le_of_ble_eq_true rfl, Nat.le_of_ble_eq_true rfl⟩ (Nat.le_of_ble_eq_true rfl) ⟨Nat.zero_le _, Nat.zero_le _⟩ dX7_shore_93 ?_
    generalize hz8 : (f_X0_empty SB) = z8
    refine ww_aload_n (pc := 96) X dX7_shore_96 1 rfl rfl ?_
    refine ww_get (pc := 97) (ci := 7) (v := .ref (g 3 0)) (C := RX7) (T := TX7) (N := 9) X inX7_shore_7 0 rfl rfl 1 (by decide) (by decide +kernel) rfl dX7_shore_97 ?_
    refine ww_get (pc := 100) (ci := 5) (v := .int (z1.2.1 3)) (C := RX5) (T := TX5) (N := 11) X inX7_shore_5 11 rfl rfl 3 (by decide) (by decide +kernel) rfl dX7_shore_100 ?_
    have h9 : f_X7_shore ST SX SL SD SF SP SI SN SB = (z1.2.1 3, z2, z1.2, z4, z5, z6, z7, z8) := by unfold f_X7_shore; try rw [hz1]; try unfold f_X7_shore_k1; try rw [hz2]; try unfold f_X7_shore_k2; try rw [if_pos c3, hz4]; try unfold f_X7_shore_k3; try rw [hz5]; try unfold f_X7_shore_k4; try rw [hz6]; try unfold f_X7_shore_k5; try rw [hz7]; try unfold f_X7_shore_k6; try rw [hz8]; try unfold f_X7_shore_k7; first | done | rfl
    have hw10g := congrArg (fun g9 : Nat → Nat → Nat => fl [wX7 cI cZ cQ g9 ST, wX6 cI cZ cQ (g 1) z2, wX5 cI cZ cQ (g 2) SL, wX5 cI cZ cQ (g 3) z1.2, wX3 cI cZ cQ (g 4) z4, wX4 cI cZ cQ (g 5) z5, wX2 cI cZ cQ (g 6) z6, wX1 cI cZ cQ (g 7) z7, wX0 cI cZ cQ (g 8) z8]) (gsw_yes (g := g) c3)
    have hw10 := congrArg (fun u9 : Int32 × St × St × St × St × St × St × St => fl [wX7 cI cZ cQ (gsw g (u9.2.1)) ST, wX6 cI cZ cQ (g 1) u9.2.1, wX5 cI cZ cQ (g 2) SL, wX5 cI cZ cQ (g 3) u9.2.2.1, wX3 cI cZ cQ (g 4) u9.2.2.2.1, wX4 cI cZ cQ (g 5) u9.2.2.2.2.1, wX2 cI cZ cQ (g 6) u9.2.2.2.2.2.1, wX1 cI cZ cQ (g 7) u9.2.2.2.2.2.2.1, wX0 cI cZ cQ (g 8) u9.2.2.2.2.2.2.2]) h9.symm
    exact ww_iret X hr rfl (congrArg (fun u9 : Int32 × St × St × St × St × St × St × St => u9.1) h9).symm (hw10g.symm.trans hw10) dX7_shore_103
  · refine ww_bipush (pc := 28) (v := (-10)) X dX7_shore_28 (by decide) ?_
    refine ww_aload_n (pc := 30) X dX7_shore_30 0 rfl rfl ?_
    refine ww_get (pc := 31) (ci := 7) (v := .ref (g 1 0)) (C := RX7) (T := TX7) (N := 9) X inX7_shore_7 0 rfl rfl 0 (by decide) (by decide +kernel) rfl dX7_shore_31 ?_
    refine ww_get (pc := 34) (ci := 6) (v := .int (z2.1 2)) (C := RX6) (T := TX6) (N := 6) X inX7_shore_6 1 rfl rfl 4 (by decide) (by decide +kernel) rfl dX7_shore_34 ?_
    refine ww_isub (pc := 37) X dX7_shore_37 ?_
    have h11 : f_X7_shore ST SX SL SD SF SP SI SN SB = ((-10) - (z2.1 2), z2, z1.2, SF, SP, SI, SN, SB) := by unfold f_X7_shore; try rw [hz1]; try unfold f_X7_shore_k1; try rw [hz2]; try unfold f_X7_shore_k2; try rw [if_neg c3]; first | done | rfl
    have hw12g := congrArg (fun g9 : Nat → Nat → Nat => fl [wX7 cI cZ cQ g9 ST, wX6 cI cZ cQ (g 1) z2, wX5 cI cZ cQ (g 2) SL, wX5 cI cZ cQ (g 3) z1.2, wX3 cI cZ cQ (g 4) SF, wX4 cI cZ cQ (g 5) SP, wX2 cI cZ cQ (g 6) SI, wX1 cI cZ cQ (g 7) SN, wX0 cI cZ cQ (g 8) SB]) (gsw_no (g := g) c3)
    have hw12 := congrArg (fun u9 : Int32 × St × St × St × St × St × St × St => fl [wX7 cI cZ cQ (gsw g (u9.2.1)) ST, wX6 cI cZ cQ (g 1) u9.2.1, wX5 cI cZ cQ (g 2) SL, wX5 cI cZ cQ (g 3) u9.2.2.1, wX3 cI cZ cQ (g 4) u9.2.2.2.1, wX4 cI cZ cQ (g 5) u9.2.2.2.2.1, wX2 cI cZ cQ (g 6) u9.2.2.2.2.2.1, wX1 cI cZ cQ (g 7) u9.2.2.2.2.2.2.1, wX0 cI cZ cQ (g 8) u9.2.2.2.2.2.2.2]) h11.symm
    exact ww_iret X hr rfl (congrArg (fun u9 : Int32 × St × St × St × St × St × St × St => u9.1) h11).symm (hw12g.symm.trans hw12) dX7_shore_38
