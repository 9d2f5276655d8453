def bd_X8_shore_12  (j : Nat) (u : St) : St :=
  (sA u 8 (upd (u.2 8) (((nI j) : Int32)).toNatClampNeg 0))
def it_X8_shore_12  (u : St) : Nat → St
  | 0 => u
  | j + 1 => bd_X8_shore_12  j (it_X8_shore_12  u j)
def bd_X8_shore_33  (j : Nat) (u : St) : St :=
  (sA u 7 (upd (u.2 7) (((nI j) : Int32)).toNatClampNeg 0))
def it_X8_shore_33  (u : St) : Nat → St
  | 0 => u
  | j + 1 => bd_X8_shore_33  j (it_X8_shore_33  u j)
def bd_X8_shore_54  (j : Nat) (u : St) : St :=
  (sA u 5 (upd (u.2 5) (((nI j) : Int32)).toNatClampNeg 0))
def it_X8_shore_54  (u : St) : Nat → St
  | 0 => u
  | j + 1 => bd_X8_shore_54  j (it_X8_shore_54  u j)
def bd_X8_shore_74  (j : Nat) (u : St) : St :=
  (sA u 6 (upd (u.2 6) (((nI j) : Int32)).toNatClampNeg 0))
def it_X8_shore_74  (u : St) : Nat → St
  | 0 => u
  | j + 1 => bd_X8_shore_74  j (it_X8_shore_74  u j)
def bd_X8_shore_191  (j : Nat) (u : St) : St :=
  (sA u 9 (upd (u.2 9) (((nI j) : Int32)).toNatClampNeg 0))
def it_X8_shore_191  (u : St) : Nat → St
  | 0 => u
  | j + 1 => bd_X8_shore_191  j (it_X8_shore_191  u j)
def bd_X8_shore_212  (j : Nat) (u : St) : St :=
  if ((u.2 3) ((2 * (nI j) : Int32)).toNatClampNeg) < ((u.2 3) (((2 * (nI j)) + 1 : Int32)).toNatClampNeg) then
    (sA u 9 (upd (upd (u.2 9) ((1 + (nI j) : Int32)).toNatClampNeg ((u.2 3) ((2 * (nI j) : Int32)).toNatClampNeg)) ((8 + (nI j) : Int32)).toNatClampNeg 0))
  else
    (sA u 9 (upd (upd (u.2 9) ((1 + (nI j) : Int32)).toNatClampNeg ((u.2 3) ((2 * (nI j) : Int32)).toNatClampNeg)) ((8 + (nI j) : Int32)).toNatClampNeg 1))
def it_X8_shore_212  (u : St) : Nat → St
  | 0 => u
  | j + 1 => bd_X8_shore_212  j (it_X8_shore_212  u j)
theorem pr_X8_shore_212  (u : St) : ∀ j : Nat, (it_X8_shore_212  u j).2 1 = u.2 1
  | 0 => rfl
  | j + 1 => by
    have ih := pr_X8_shore_212  u j
    show (bd_X8_shore_212  j (it_X8_shore_212  u j)).2 1 = _
    generalize it_X8_shore_212  u j = v at ih ⊢
    unfold bd_X8_shore_212
    first | exact ih | (repeat' split) <;> exact ih
def bd_X8_shore_281  (j : Nat) (u : St) : St :=
  (sA u 9 (upd (u.2 9) ((29 + (nI j) : Int32)).toNatClampNeg ((u.2 4) ((3 * (nI j) : Int32)).toNatClampNeg)))
def it_X8_shore_281  (u : St) : Nat → St
  | 0 => u
  | j + 1 => bd_X8_shore_281  j (it_X8_shore_281  u j)
theorem pr_X8_shore_281  (u : St) : ∀ j : Nat, (it_X8_shore_281  u j).2 1 = u.2 1
  | 0 => rfl
  | j + 1 => by
    have ih := pr_X8_shore_281  u j
    show (bd_X8_shore_281  j (it_X8_shore_281  u j)).2 1 = _
    generalize it_X8_shore_281  u j = v at ih ⊢
    unfold bd_X8_shore_281
    first | exact ih | (repeat' split) <;> exact ih
def f_X8_shore_k13 (SM : St) (z2 : St) (z4 : St) (z6 : St) (z8 : St) (z9 : St) (z10 : St) (z16 : St) (z17 : St) (z18 : St) (z19 : St) (z21 : St) (z26 : St) (z28 : St) : Int32 × St :=
  ((z28.2 1) ((3 : Int32)).toNatClampNeg, (sA (sI (sI (sI z28 2 0) 4 0) 5 0) 13 (upd (upd (z28.2 13) ((0 : Int32)).toNatClampNeg 0) ((1 : Int32)).toNatClampNeg 0)))
def f_X8_shore_k12 (SM : St) (z2 : St) (z4 : St) (z6 : St) (z8 : St) (z9 : St) (z10 : St) (z16 : St) (z17 : St) (z18 : St) (z19 : St) (z21 : St) (z26 : St) : Int32 × St :=
  f_X8_shore_k13 SM z2 z4 z6 z8 z9 z10 z16 z17 z18 z19 z21 z26 (it_X8_shore_281 z26 (((z26.2 1) ((4 : Int32)).toNatClampNeg).toNatClampNeg))
def f_X8_shore_k11 (SM : St) (z2 : St) (z4 : St) (z6 : St) (z8 : St) (z9 : St) (z10 : St) (z16 : St) (z17 : St) (z18 : St) (z19 : St) (z21 : St) : Int32 × St :=
  f_X8_shore_k12 SM z2 z4 z6 z8 z9 z10 z16 z17 z18 z19 z21 (it_X8_shore_212 z21 (((z21.2 1) ((3 : Int32)).toNatClampNeg).toNatClampNeg))
def f_X8_shore_k10 (SM : St) (z2 : St) (z4 : St) (z6 : St) (z8 : St) (z9 : St) (z10 : St) (z16 : St) (z17 : St) (z18 : St) (z19 : St) : Int32 × St :=
  f_X8_shore_k11 SM z2 z4 z6 z8 z9 z10 z16 z17 z18 z19 (it_X8_shore_191 z19 35)
def f_X8_shore_k9 (SM : St) (z2 : St) (z4 : St) (z6 : St) (z8 : St) (z9 : St) (z10 : St) (z16 : St) (z17 : St) (z18 : St) : Int32 × St :=
  f_X8_shore_k10 SM z2 z4 z6 z8 z9 z10 z16 z17 z18 (sA z18 4 (cpn (z18.2 8) (z18.2 4) 18))
def f_X8_shore_k8 (SM : St) (z2 : St) (z4 : St) (z6 : St) (z8 : St) (z9 : St) (z10 : St) (z16 : St) (z17 : St) : Int32 × St :=
  f_X8_shore_k9 SM z2 z4 z6 z8 z9 z10 z16 z17 (sA z17 3 (cpn (z17.2 7) (z17.2 3) 14))
def f_X8_shore_k7 (SM : St) (z2 : St) (z4 : St) (z6 : St) (z8 : St) (z9 : St) (z10 : St) (z16 : St) : Int32 × St :=
  f_X8_shore_k8 SM z2 z4 z6 z8 z9 z10 z16 (sA z16 2 (cpn (z16.2 6) (z16.2 2) 4))
def f_X8_shore_k6 (SM : St) (z2 : St) (z4 : St) (z6 : St) (z8 : St) (z9 : St) (z10 : St) : Int32 × St :=
  if (z10.1 7) = 0 then
    f_X8_shore_k7 SM z2 z4 z6 z8 z9 z10 (sA (sI (sI z10 0 0) 1 (-1)) 1 (cpn ((sI (sI z10 0 0) 1 (-1)).2 5) ((sI (sI z10 0 0) 1 (-1)).2 1) 5))
  else
    ((-10) - (z10.1 7), (sI (sI z10 0 0) 1 (z10.1 6)))
def f_X8_shore_k5 (SM : St) (z2 : St) (z4 : St) (z6 : St) (z8 : St) (z9 : St) : Int32 × St :=
  f_X8_shore_k6 SM z2 z4 z6 z8 z9 (f_X8_reads z9)
def f_X8_shore_k4 (SM : St) (z2 : St) (z4 : St) (z6 : St) (z8 : St) : Int32 × St :=
  f_X8_shore_k5 SM z2 z4 z6 z8 (f_X8_skips z8)
def f_X8_shore_k3 (SM : St) (z2 : St) (z4 : St) (z6 : St) : Int32 × St :=
  f_X8_shore_k4 SM z2 z4 z6 (it_X8_shore_74 z6 4)
def f_X8_shore_k2 (SM : St) (z2 : St) (z4 : St) : Int32 × St :=
  f_X8_shore_k3 SM z2 z4 (it_X8_shore_54 z4 5)
def f_X8_shore_k1 (SM : St) (z2 : St) : Int32 × St :=
  f_X8_shore_k2 SM z2 (it_X8_shore_33 z2 14)
def f_X8_shore (SM : St) : Int32 × St :=
  f_X8_shore_k1 SM (it_X8_shore_12 (sI (sI SM 6 0) 7 0) 18)
theorem z12 (u : St) : ∀ j : Nat, (it_X8_shore_12 u j).1 = u.1
  | 0 => rfl
  | j + 1 => z12 u j
theorem z33 (u : St) : ∀ j : Nat, (it_X8_shore_33 u j).1 = u.1
  | 0 => rfl
  | j + 1 => z33 u j
theorem z54 (u : St) : ∀ j : Nat, j < 2 ^ 31 → (it_X8_shore_54 u j).1 = u.1 ∧ ∀ i : Nat, i < j → ((it_X8_shore_54 u j).2 5) i = 0
  | 0, _ => ⟨rfl, fun i h => absurd h (Nat.not_lt_zero i)⟩
  | j + 1, hj => by
    obtain ⟨h1, h2⟩ := z54 u j (by omega)
    refine ⟨h1, fun i hi => ?_⟩
    show (bd_X8_shore_54 j (it_X8_shore_54 u j)).2 5 i = 0
    unfold bd_X8_shore_54
    rw [sA_eq, nI_clamp (by omega)]
    by_cases e : i = j
    · rw [e, pk_us]
    · rw [pk_un e]
      exact h2 i (by omega)
theorem z74 (u : St) : ∀ j : Nat, (it_X8_shore_74 u j).1 = u.1 ∧ (it_X8_shore_74 u j).2 5 = u.2 5
  | 0 => ⟨rfl, rfl⟩
  | j + 1 => by
    obtain ⟨h1, h2⟩ := z74 u j
    refine ⟨h1, ?_⟩
    show (bd_X8_shore_74 j (it_X8_shore_74 u j)).2 5 = _
    unfold bd_X8_shore_74
    rw [sA_ne (by decide)]
    exact h2
theorem sh_T {S a b c d : St} (n0 : ¬ (S.1 0) < 0) (n1 : S.1 0 ≤ 240) (h1 : it_X8_shore_12 (sI (sI S 6 0) 7 0) 18 = a) (h2 : it_X8_shore_33 a 14 = b) (h3 : it_X8_shore_54 b 5 = c) (h4 : it_X8_shore_74 c 4 = d) : okT d ∧ okC d := by
  obtain ⟨e1, e2⟩ := z74 c 4
  obtain ⟨e3, e4⟩ := z54 b 5 (by decide)
  rw [h4] at e1 e2
  rw [h3] at e3 e4
  have e5 := z33 a 14
  rw [h2] at e5
  have e6 := z12 (sI (sI S 6 0) 7 0) 18
  rw [h1] at e6
  have e : d.1 = (sI (sI S 6 0) 7 0).1 := e1.trans (e3.trans (e5.trans e6))
  have hz : ∀ i : Nat, i < 5 → (d.2 5) i = 0 := fun i hi => by rw [e2]; exact e4 i hi
  refine ⟨?_, ?_⟩
  · unfold okT
    rw [e, sI_ne (by decide), sI_ne (by decide), sI_ne (by decide), sI_eq]
    refine ⟨n0, n1, by decide, ?_⟩
    exact Int32.not_lt.mp n0
  · unfold okC
    rw [hz _ (by decide), hz _ (by decide), hz _ (by decide)]
    decide
theorem sh_s {S : St} (h : okT S ∧ okC S) : okR (f_X8_skips S) := by
  have m := m_skips h.1
  exact ⟨m.1.1, okC_q (fun i _ => by rw [m.1.2.1]) h.2⟩
theorem z191 (u : St) : ∀ j : Nat, (it_X8_shore_191 u j).2 1 = u.2 1
  | 0 => rfl
  | j + 1 => by
    show (bd_X8_shore_191 j (it_X8_shore_191 u j)).2 1 = _
    unfold bd_X8_shore_191
    rw [sA_ne (by decide)]
    exact z191 u j
theorem sh_M {q S1 z1 z2 z3 z4 z5 : St} (ok : okR q) (hS : S1.2 = q.2) (h1 : sA S1 1 (cpn (S1.2 5) (S1.2 1) 5) = z1) (h2 : sA z1 2 (cpn (z1.2 6) (z1.2 2) 4) = z2) (h3 : sA z2 3 (cpn (z2.2 7) (z2.2 3) 14) = z3) (h4 : sA z3 4 (cpn (z3.2 8) (z3.2 4) 18) = z4) (h5 : it_X8_shore_191 z4 35 = z5) : okM z5 := by
  have e : z5.2 1 = cpn (q.2 5) (q.2 1) 5 := by
    rw [← h5, z191, ← h4, sA_ne (by decide), ← h3, sA_ne (by decide), ← h2, sA_ne (by decide), ← h1, sA_eq, hS]
  unfold okM
  rw [e, cpn_lt (by decide), cpn_lt (by decide), cpn_lt (by decide)]
  exact ok.2
theorem inX8_shore_8 : ∀ w ∈ wsX80, w ∈ wsX8_shore := by decide +kernel
theorem hd_X8_shore : yX8_shore.cls = RX8 ∧ yX8_shore.cls ≠ "java/lang/invoke/MethodHandle" ∧ yX8_shore.cls ≠ "java/lang/invoke/VarHandle" ∧ (parseMethodDescriptor yX8_shore.desc).map (fun d => d.parameters.length) = some 0 := by decide +kernel
set_option maxHeartbeats 4000000 in
set_option maxRecDepth 100000 in
theorem c_X8_shore (l : Launch) (D : va_G) (cI cZ cQ : ClassId) (rM : Nat → Nat) (SM : St) (n0 : ¬ (SM.1 0) < 0) (n1 : SM.1 0 ≤ 240) : Ci l yX8_shore wsX8_shore { frames := 5, cells := 0, slots := 0, locals := 104 } D (tyL cI cZ cQ) [.ref (rM 0)] (fl [wX8 cI cZ cQ rM SM]) ((f_X8_shore SM).1) (fl [wX8 cI cZ cQ rM ((f_X8_shore SM).2)]) := by
  refine ci_of (cc := cX8_shore) (nL := 2) (ty := .int) (lv0 := [(0, .ref (rM 0))]) (by decide) rfl (Nat.le_of_ble_eq_true rfl) rfl ?_
  intro p e s m args below meth c A X hr
  refine ww_aload_n (pc := 0) X dX8_shore_0 0 rfl rfl ?_
  refine ww_iconst (pc := 1) (v := 0) X dX8_shore_1 (by decide) ?_
  refine ww_put (pc := 2) (ci := 8) (v := .int 0) (C := RX8) (T := TX8) (N := 27) (ws' := fl [wX8 cI cZ cQ rM (sI SM 6 0)]) X inX8_shore_8 tyX8 tyX8_ok nmX8 0 rfl rfl 22 (by decide) (by decide +kernel) rfl rfl rfl (Nat.le_of_ble_eq_true rfl) (pt8a_6 _ _ _ _ _ _) dX8_shore_2 ?_
  refine ww_aload_n (pc := 5) X dX8_shore_5 0 rfl rfl ?_
  refine ww_iconst (pc := 6) (v := 0) X dX8_shore_6 (by decide) ?_
  refine ww_put (pc := 7) (ci := 8) (v := .int 0) (C := RX8) (T := TX8) (N := 27) (ws' := fl [wX8 cI cZ cQ rM (sI (sI SM 6 0) 7 0)]) X inX8_shore_8 tyX8 tyX8_ok nmX8 0 rfl rfl 23 (by decide) (by decide +kernel) rfl rfl rfl (Nat.le_of_ble_eq_true rfl) (pt8a_7 _ _ _ _ _ _) dX8_shore_7 ?_
  refine ww_iconst (pc := 10) (v := 0) X dX8_shore_10 (by decide) ?_
  refine ww_istore_n (pc := 11) (lv' := [(1, .int 0), (0, .ref (rM 0))]) X dX8_shore_11 rfl (by decide) rfl ?_
  have L12 : ∀ (k_12 j_12 : Nat), j_12 + k_12 = 18 → WW p l e (headSpec wsX8_shore { frames := 5, cells := 0, slots := 0, locals := 104 }).room s m args below meth c 2 D A 0 0 (RQi below args s D A ((f_X8_shore SM).1) (fl [wX8 cI cZ cQ rM ((f_X8_shore SM).2)])) (fl [wX8 cI cZ cQ rM (it_X8_shore_12 (sI (sI SM 6 0) 7 0) 18)]) [(0, .ref (rM 0)), (1, .int (nI 18))] 31 [] → WW p l e (headSpec wsX8_shore { frames := 5, cells := 0, slots := 0, locals := 104 }).room s m args below meth c 2 D A 0 0 (RQi below args s D A ((f_X8_shore SM).1) (fl [wX8 cI cZ cQ rM ((f_X8_shore SM).2)])) (fl [wX8 cI cZ cQ rM (it_X8_shore_12 (sI (sI SM 6 0) 7 0) j_12)]) [(0, .ref (rM 0)), (1, .int (nI j_12))] 12 [] := by
    intro k_12
    induction k_12 with
    | zero =>
      intro j_12 hj K
      have hjB : j_12 = 18 := by omega
      subst hjB
      refine ww_iload_n (pc := 12) X dX8_shore_12 1 rfl rfl ?_
      refine ww_bipush (pc := 13) (v := 18) X dX8_shore_13 (by decide) ?_
      exact ww_icmp_ge (pc := 15) (tgt := 31) X dX8_shore_15 (by decide) (fun _ => K) (fun c9 => absurd (lp_ge0 rfl (Nat.le_refl _) (by decide)) c9)
    | succ k_12 ih =>
      intro j_12 hj K
      have hjB : j_12 < 18 := by omega
      refine ww_iload_n (pc := 12) X dX8_shore_12 1 rfl rfl ?_
      refine ww_bipush (pc := 13) (v := 18) X dX8_shore_13 (by decide) ?_
      refine ww_icmp_ge (pc := 15) (tgt := 31) X dX8_shore_15 (by decide) (fun c9 => absurd c9 (lp_ge1 rfl hjB (by decide))) (fun _ => ?_)
      refine ww_aload_n (pc := 18) X dX8_shore_18 0 rfl rfl ?_
      refine ww_get (pc := 19) (ci := 8) (v := .ref (rM 9)) (C := RX8) (T := TX8) (N := 27) X inX8_shore_8 0 rfl rfl 10 (by decide) (by decide +kernel) rfl dX8_shore_19 ?_
      refine ww_iload_n (pc := 22) X dX8_shore_22 1 rfl rfl ?_
      refine ww_iconst (pc := 23) (v := 0) X dX8_shore_23 (by decide) ?_
      refine ww_iast (pc := 24) (f := (it_X8_shore_12 (sI (sI SM 6 0) 7 0) j_12).2 8) (ws' := fl [wX8 cI cZ cQ rM (sA (it_X8_shore_12 (sI (sI SM 6 0) 7 0) j_12) 8 (upd ((it_X8_shore_12 (sI (sI SM 6 0) 7 0) j_12).2 8) (((nI j_12) : Int32)).toNatClampNeg 0))]) X 9 0 rfl rfl (vn (m := j_12) rfl (by omega) (by decide)) (st8a_8 _ _ _ _ _ _) dX8_shore_24 ?_
      refine ww_iinc (pc := 25) (v := (nI j_12) + 1) (lv' := [(1, .int ((nI j_12) + 1)), (0, .ref (rM 0))]) X dX8_shore_25 1 rfl rfl (by decide) rfl ?_
      refine ww_goto (pc := 28) (tgt := 12) X dX8_shore_28 (by decide) ?_
      have h1 : (it_X8_shore_12 (sI (sI SM 6 0) 7 0) (j_12 + 1)) = (sA (it_X8_shore_12 (sI (sI SM 6 0) 7 0) j_12) 8 (upd ((it_X8_shore_12 (sI (sI SM 6 0) 7 0) j_12).2 8) (((nI j_12) : Int32)).toNatClampNeg 0)) := by
        show bd_X8_shore_12  j_12 (it_X8_shore_12 (sI (sI SM 6 0) 7 0) j_12) = _; unfold bd_X8_shore_12; first | done | rfl
      refine ww_lsub [1, 0] rfl ?_
      exact ww_castI (fun u9 : St => fl [wX8 cI cZ cQ rM u9]) (fun (u9 : St) (i9 : Int32) => ([(0, .ref (rM 0)), (1, .int i9)] : List (Nat × Value))) h1 (ih (j_12 + 1) (by omega) K)
  refine ww_lsub [1, 0] rfl ?_
  refine L12 18 0 (by omega) ?_
  generalize hz2 : ((it_X8_shore_12 (sI (sI SM 6 0) 7 0) 18)) = z2
  refine ww_iconst (pc := 31) (v := 0) X dX8_shore_31 (by decide) ?_
  refine ww_istore_n (pc := 32) (lv' := [(1, .int 0), (0, .ref (rM 0))]) X dX8_shore_32 rfl (by decide) rfl ?_
  have L33 : ∀ (k_33 j_33 : Nat), j_33 + k_33 = 14 → WW p l e (headSpec wsX8_shore { frames := 5, cells := 0, slots := 0, locals := 104 }).room s m args below meth c 2 D A 0 0 (RQi below args s D A ((f_X8_shore SM).1) (fl [wX8 cI cZ cQ rM ((f_X8_shore SM).2)])) (fl [wX8 cI cZ cQ rM (it_X8_shore_33 z2 14)]) [(0, .ref (rM 0)), (1, .int (nI 14))] 52 [] → WW p l e (headSpec wsX8_shore { frames := 5, cells := 0, slots := 0, locals := 104 }).room s m args below meth c 2 D A 0 0 (RQi below args s D A ((f_X8_shore SM).1) (fl [wX8 cI cZ cQ rM ((f_X8_shore SM).2)])) (fl [wX8 cI cZ cQ rM (it_X8_shore_33 z2 j_33)]) [(0, .ref (rM 0)), (1, .int (nI j_33))] 33 [] := by
    intro k_33
    induction k_33 with
    | zero =>
      intro j_33 hj K
      have hjB : j_33 = 14 := by omega
      subst hjB
      refine ww_iload_n (pc := 33) X dX8_shore_33 1 rfl rfl ?_
      refine ww_bipush (pc := 34) (v := 14) X dX8_shore_34 (by decide) ?_
      exact ww_icmp_ge (pc := 36) (tgt := 52) X dX8_shore_36 (by decide) (fun _ => K) (fun c9 => absurd (lp_ge0 rfl (Nat.le_refl _) (by decide)) c9)
    | succ k_33 ih =>
      intro j_33 hj K
      have hjB : j_33 < 14 := by omega
      refine ww_iload_n (pc := 33) X dX8_shore_33 1 rfl rfl ?_
      refine ww_bipush (pc := 34) (v := 14) X dX8_shore_34 (by decide) ?_
      refine ww_icmp_ge (pc := 36) (tgt := 52) X dX8_shore_36 (by decide) (fun c9 => absurd c9 (lp_ge1 rfl hjB (by decide))) (fun _ => ?_)
      refine ww_aload_n (pc := 39) X dX8_shore_39 0 rfl rfl ?_
      refine ww_get (pc := 40) (ci := 8) (v := .ref (rM 8)) (C := RX8) (T := TX8) (N := 27) X inX8_shore_8 0 rfl rfl 9 (by decide) (by decide +kernel) rfl dX8_shore_40 ?_
      refine ww_iload_n (pc := 43) X dX8_shore_43 1 rfl rfl ?_
      refine ww_iconst (pc := 44) (v := 0) X dX8_shore_44 (by decide) ?_
      refine ww_iast (pc := 45) (f := (it_X8_shore_33 z2 j_33).2 7) (ws' := fl [wX8 cI cZ cQ rM (sA (it_X8_shore_33 z2 j_33) 7 (upd ((it_X8_shore_33 z2 j_33).2 7) (((nI j_33) : Int32)).toNatClampNeg 0))]) X 8 0 rfl rfl (vn (m := j_33) rfl (by omega) (by decide)) (st8a_7 _ _ _ _ _ _) dX8_shore_45 ?_
      refine ww_iinc (pc := 46) (v := (nI j_33) + 1) (lv' := [(1, .int ((nI j_33) + 1)), (0, .ref (rM 0))]) X dX8_shore_46 1 rfl rfl (by decide) rfl ?_
      refine ww_goto (pc := 49) (tgt := 33) X dX8_shore_49 (by decide) ?_
      have h3 : (it_X8_shore_33 z2 (j_33 + 1)) = (sA (it_X8_shore_33 z2 j_33) 7 (upd ((it_X8_shore_33 z2 j_33).2 7) (((nI j_33) : Int32)).toNatClampNeg 0)) := by
        show bd_X8_shore_33  j_33 (it_X8_shore_33 z2 j_33) = _; unfold bd_X8_shore_33; first | done | rfl
      refine ww_lsub [1, 0] rfl ?_
      exact ww_castI (fun u9 : St => fl [wX8 cI cZ cQ rM u9]) (fun (u9 : St) (i9 : Int32) => ([(0, .ref (rM 0)), (1, .int i9)] : List (Nat × Value))) h3 (ih (j_33 + 1) (by omega) K)
  refine ww_lsub [1, 0] rfl ?_
  refine L33 14 0 (by omega) ?_
  generalize hz4 : ((it_X8_shore_33 z2 14)) = z4
  refine ww_iconst (pc := 52) (v := 0) X dX8_shore_52 (by decide) ?_
  refine ww_istore_n (pc := 53) (lv' := [(1, .int 0), (0, .ref (rM 0))]) X dX8_shore_53 rfl (by decide) rfl ?_
  have L54 : ∀ (k_54 j_54 : Nat), j_54 + k_54 = 5 → WW p l e (headSpec wsX8_shore { frames := 5, cells := 0, slots := 0, locals := 104 }).room s m args below meth c 2 D A 0 0 (RQi below args s D A ((f_X8_shore SM).1) (fl [wX8 cI cZ cQ rM ((f_X8_shore SM).2)])) (fl [wX8 cI cZ cQ rM (it_X8_shore_54 z4 5)]) [(0, .ref (rM 0)), (1, .int (nI 5))] 72 [] → WW p l e (headSpec wsX8_shore { frames := 5, cells := 0, slots := 0, locals := 104 }).room s m args below meth c 2 D A 0 0 (RQi below args s D A ((f_X8_shore SM).1) (fl [wX8 cI cZ cQ rM ((f_X8_shore SM).2)])) (fl [wX8 cI cZ cQ rM (it_X8_shore_54 z4 j_54)]) [(0, .ref (rM 0)), (1, .int (nI j_54))] 54 [] := by
    intro k_54
    induction k_54 with
    | zero =>
      intro j_54 hj K
      have hjB : j_54 = 5 := by omega
      subst hjB
      refine ww_iload_n (pc := 54) X dX8_shore_54 1 rfl rfl ?_
      refine ww_iconst (pc := 55) (v := 5) X dX8_shore_55 (by decide) ?_
      exact ww_icmp_ge (pc := 56) (tgt := 72) X dX8_shore_56 (by decide) (fun _ => K) (fun c9 => absurd (lp_ge0 rfl (Nat.le_refl _) (by decide)) c9)
    | succ k_54 ih =>
      intro j_54 hj K
      have hjB : j_54 < 5 := by omega
      refine ww_iload_n (pc := 54) X dX8_shore_54 1 rfl rfl ?_
      refine ww_iconst (pc := 55) (v := 5) X dX8_shore_55 (by decide) ?_
      refine ww_icmp_ge (pc := 56) (tgt := 72) X dX8_shore_56 (by decide) (fun c9 => absurd c9 (lp_ge1 rfl hjB (by decide))) (fun _ => ?_)
      refine ww_aload_n (pc := 59) X dX8_shore_59 0 rfl rfl ?_
      refine ww_get (pc := 60) (ci := 8) (v := .ref (rM 6)) (C := RX8) (T := TX8) (N := 27) X inX8_shore_8 0 rfl rfl 7 (by decide) (by decide +kernel) rfl dX8_shore_60 ?_
      refine ww_iload_n (pc := 63) X dX8_shore_63 1 rfl rfl ?_
      refine ww_iconst (pc := 64) (v := 0) X dX8_shore_64 (by decide) ?_
      refine ww_iast (pc := 65) (f := (it_X8_shore_54 z4 j_54).2 5) (ws' := fl [wX8 cI cZ cQ rM (sA (it_X8_shore_54 z4 j_54) 5 (upd ((it_X8_shore_54 z4 j_54).2 5) (((nI j_54) : Int32)).toNatClampNeg 0))]) X 6 0 rfl rfl (vn (m := j_54) rfl (by omega) (by decide)) (st8a_5 _ _ _ _ _ _) dX8_shore_65 ?_
      refine ww_iinc (pc := 66) (v := (nI j_54) + 1) (lv' := [(1, .int ((nI j_54) + 1)), (0, .ref (rM 0))]) X dX8_shore_66 1 rfl rfl (by decide) rfl ?_
      refine ww_goto (pc := 69) (tgt := 54) X dX8_shore_69 (by decide) ?_
      have h5 : (it_X8_shore_54 z4 (j_54 + 1)) = (sA (it_X8_shore_54 z4 j_54) 5 (upd ((it_X8_shore_54 z4 j_54).2 5) (((nI j_54) : Int32)).toNatClampNeg 0)) := by
        show bd_X8_shore_54  j_54 (it_X8_shore_54 z4 j_54) = _; unfold bd_X8_shore_54; first | done | rfl
      refine ww_lsub [1, 0] rfl ?_
      exact ww_castI (fun u9 : St => fl [wX8 cI cZ cQ rM u9]) (fun (u9 : St) (i9 : Int32) => ([(0, .ref (rM 0)), (1, .int i9)] : List (Nat × Value))) h5 (ih (j_54 + 1) (by omega) K)
  refine ww_lsub [1, 0] rfl ?_
  refine L54 5 0 (by omega) ?_
  generalize hz6 : ((it_X8_shore_54 z4 5)) = z6
  refine ww_iconst (pc := 72) (v := 0) X dX8_shore_72 (by decide) ?_
  refine ww_istore_n (pc := 73) (lv' := [(1, .int 0), (0, .ref (rM 0))]) X dX8_shore_73 rfl (by decide) rfl ?_
  have L74 : ∀ (k_74 j_74 : Nat), j_74 + k_74 = 4 → WW p l e (headSpec wsX8_shore { frames := 5, cells := 0, slots := 0, locals := 104 }).room s m args below meth c 2 D A 0 0 (RQi below args s D A ((f_X8_shore SM).1) (fl [wX8 cI cZ cQ rM ((f_X8_shore SM).2)])) (fl [wX8 cI cZ cQ rM (it_X8_shore_74 z6 4)]) [(0, .ref (rM 0)), (1, .int (nI 4))] 92 [] → WW p l e (headSpec wsX8_shore { frames := 5, cells := 0, slots := 0, locals := 104 }).room s m args below meth c 2 D A 0 0 (RQi below args s D A ((f_X8_shore SM).1) (fl [wX8 cI cZ cQ rM ((f_X8_shore SM).2)])) (fl [wX8 cI cZ cQ rM (it_X8_shore_74 z6 j_74)]) [(0, .ref (rM 0)), (1, .int (nI j_74))] 74 [] := by
    intro k_74
    induction k_74 with
    | zero =>
      intro j_74 hj K
      have hjB : j_74 = 4 := by omega
      subst hjB
      refine ww_iload_n (pc := 74) X dX8_shore_74 1 rfl rfl ?_
      refine ww_iconst (pc := 75) (v := 4) X dX8_shore_75 (by decide) ?_
      exact ww_icmp_ge (pc := 76) (tgt := 92) X dX8_shore_76 (by decide) (fun _ => K) (fun c9 => absurd (lp_ge0 rfl (Nat.le_refl _) (by decide)) c9)
    | succ k_74 ih =>
      intro j_74 hj K
      have hjB : j_74 < 4 := by omega
      refine ww_iload_n (pc := 74) X dX8_shore_74 1 rfl rfl ?_
      refine ww_iconst (pc := 75) (v := 4) X dX8_shore_75 (by decide) ?_
      refine ww_icmp_ge (pc := 76) (tgt := 92) X dX8_shore_76 (by decide) (fun c9 => absurd c9 (lp_ge1 rfl hjB (by decide))) (fun _ => ?_)
      refine ww_aload_n (pc := 79) X dX8_shore_79 0 rfl rfl ?_
      refine ww_get (pc := 80) (ci := 8) (v := .ref (rM 7)) (C := RX8) (T := TX8) (N := 27) X inX8_shore_8 0 rfl rfl 8 (by decide) (by decide +kernel) rfl dX8_shore_80 ?_
      refine ww_iload_n (pc := 83) X dX8_shore_83 1 rfl rfl ?_
      refine ww_iconst (pc := 84) (v := 0) X dX8_shore_84 (by decide) ?_
      refine ww_iast (pc := 85) (f := (it_X8_shore_74 z6 j_74).2 6) (ws' := fl [wX8 cI cZ cQ rM (sA (it_X8_shore_74 z6 j_74) 6 (upd ((it_X8_shore_74 z6 j_74).2 6) (((nI j_74) : Int32)).toNatClampNeg 0))]) X 7 0 rfl rfl (vn (m := j_74) rfl (by omega) (by decide)) (st8a_6 _ _ _ _ _ _) dX8_shore_85 ?_
      refine ww_iinc (pc := 86) (v := (nI j_74) + 1) (lv' := [(1, .int ((nI j_74) + 1)), (0, .ref (rM 0))]) X dX8_shore_86 1 rfl rfl (by decide) rfl ?_
      refine ww_goto (pc := 89) (tgt := 74) X dX8_shore_89 (by decide) ?_
      have h7 : (it_X8_shore_74 z6 (j_74 + 1)) = (sA (it_X8_shore_74 z6 j_74) 6 (upd ((it_X8_shore_74 z6 j_74).2 6) (((nI j_74) : Int32)).toNatClampNeg 0)) := by
        show bd_X8_shore_74  j_74 (it_X8_shore_74 z6 j_74) = _; unfold bd_X8_shore_74; first | done | rfl
      refine ww_lsub [1, 0] rfl ?_
      exact ww_castI (fun u9 : St => fl [wX8 cI cZ cQ rM u9]) (fun (u9 : St) (i9 : Int32) => ([(0, .ref (rM 0)), (1, .int i9)] : List (Nat × Value))) h7 (ih (j_74 + 1) (by omega) K)
  refine ww_lsub [1, 0] rfl ?_
  refine L74 4 0 (by omega) ?_
  generalize hz8 : ((it_X8_shore_74 z6 4)) = z8
  have okz := sh_T n0 n1 hz2 hz4 hz6 hz8
  refine ww_aload_n (pc := 92) X dX8_shore_92 0 rfl rfl ?_
  refine ww_gVv (pc := 93) (rest := []) (gsN := [wX8 cI cZ cQ rM (f_X8_skips z8)]) (ci := 8) (gi := 0) (qi := 0) X (c_X8_skips l D cI cZ cQ rM z8 okz.1) gX8_shore_X8_skips rfl hd_X8_skips [true] rfl (acons (ad8 _ _ _ _ _ _) rfl) rfl rfl rfl rfl rfl rfl ⟨rfl, rfl⟩ ⟨Nat.le_of_ble_eq_true rfl, Nat.le_of_ble_eq_true rfl⟩ (Nat.le_of_ble_eq_true rfl) ⟨Nat.zero_le _, Nat.zero_le _⟩ dX8_shore_93 ?_
  generalize hz9 : (f_X8_skips z8) = z9
  have okr : okR z9 := by rw [← hz9]; exact sh_s okz
  refine ww_aload_n (pc := 96) X dX8_shore_96 0 rfl rfl ?_
  refine ww_gVv (pc := 97) (rest := []) (gsN := [wX8 cI cZ cQ rM (f_X8_reads z9)]) (ci := 8) (gi := 0) (qi := 0) X (c_X8_reads l D cI cZ cQ rM z9 okr.1 okr.2) gX8_shore_X8_reads rfl hd_X8_reads [true] rfl (acons (ad8 _ _ _ _ _ _) rfl) rfl rfl rfl rfl rfl rfl ⟨rfl, rfl⟩ ⟨Nat.le_of_ble_eq_true rfl, Nat.le_of_ble_eq_true rfl⟩ (Nat.le_of_ble_eq_true rfl) ⟨Nat.zero_le _, Nat.zero_le _⟩ dX8_shore_97 ?_
  generalize hz10 : (f_X8_reads z9) = z10
  have okq : okR z10 := by rw [← hz10]; exact rdR 242 _ okr
  refine ww_aload_n (pc := 100) X dX8_shore_100 0 rfl rfl ?_
  refine ww_iconst (pc := 101) (v := 0) X dX8_shore_101 (by decide) ?_
  refine ww_put (pc := 102) (ci := 8) (v := .int 0) (C := RX8) (T := TX8) (N := 27) (ws' := fl [wX8 cI cZ cQ rM (sI z10 0 0)]) X inX8_shore_8 tyX8 tyX8_ok nmX8 0 rfl rfl 1 (by decide) (by decide +kernel) rfl rfl rfl (Nat.le_of_ble_eq_true rfl) (pt8a_0 _ _ _ _ _ _) dX8_shore_102 ?_
  refine ww_aload_n (pc := 105) X dX8_shore_105 0 rfl rfl ?_
  refine ww_aload_n (pc := 106) X dX8_shore_106 0 rfl rfl ?_
  refine ww_get (pc := 107) (ci := 8) (v := .int (z10.1 7)) (C := RX8) (T := TX8) (N := 27) X inX8_shore_8 0 rfl rfl 23 (by decide) (by decide +kernel) (gv (sI_ne (by decide))) dX8_shore_107 ?_
  refine ww_if_ne (pc := 110) (tgt := 117) X dX8_shore_110 (by decide) (fun c11 => ?_) (fun c11 => ?_)
  · refine ww_aload_n (pc := 117) X dX8_shore_117 0 rfl rfl ?_
    refine ww_get (pc := 118) (ci := 8) (v := .int (z10.1 6)) (C := RX8) (T := TX8) (N := 27) X inX8_shore_8 0 rfl rfl 22 (by decide) (by decide +kernel) (gv (sI_ne (by decide))) dX8_shore_118 ?_
    refine ww_put (pc := 121) (ci := 8) (v := .int (z10.1 6)) (C := RX8) (T := TX8) (N := 27) (ws' := fl [wX8 cI cZ cQ rM (sI (sI z10 0 0) 1 (z10.1 6))]) X inX8_shore_8 tyX8 tyX8_ok nmX8 0 rfl rfl 2 (by decide) (by decide +kernel) rfl rfl rfl (Nat.le_of_ble_eq_true rfl) (pt8a_1 _ _ _ _ _ _) dX8_shore_121 ?_
    refine ww_aload_n (pc := 124) X dX8_shore_124 0 rfl rfl ?_
    refine ww_get (pc := 125) (ci := 8) (v := .int (z10.1 7)) (C := RX8) (T := TX8) (N := 27) X inX8_shore_8 0 rfl rfl 23 (by decide) (by decide +kernel) (gv ((sI_ne (by decide)).trans (sI_ne (by decide)))) dX8_shore_125 ?_
    refine ww_if_eq (pc := 128) (tgt := 139) X dX8_shore_128 (by decide) (fun c12 => absurd c12 c11) (fun _ => ?_)
    refine ww_bipush (pc := 131) (v := (-10)) X dX8_shore_131 (by decide) ?_
    refine ww_aload_n (pc := 133) X dX8_shore_133 0 rfl rfl ?_
    refine ww_get (pc := 134) (ci := 8) (v := .int (z10.1 7)) (C := RX8) (T := TX8) (N := 27) X inX8_shore_8 0 rfl rfl 23 (by decide) (by decide +kernel) (gv ((sI_ne (by decide)).trans (sI_ne (by decide)))) dX8_shore_134 ?_
    refine ww_isub (pc := 137) X dX8_shore_137 ?_
    have h13 : f_X8_shore SM = ((-10) - (z10.1 7), (sI (sI z10 0 0) 1 (z10.1 6))) := by unfold f_X8_shore; try rw [hz2]; try unfold f_X8_shore_k1; try rw [hz4]; try unfold f_X8_shore_k2; try rw [hz6]; try unfold f_X8_shore_k3; try rw [hz8]; try unfold f_X8_shore_k4; try rw [hz9]; try unfold f_X8_shore_k5; try rw [hz10]; try unfold f_X8_shore_k6; try rw [if_neg c11]; first | done | rfl
    have hw14 := congrArg (fun u9 : Int32 × St => fl [wX8 cI cZ cQ rM u9.2]) h13.symm
    exact ww_iret X hr rfl (congrArg (fun u9 : Int32 × St => u9.1) h13).symm hw14 dX8_shore_138
  · refine ww_iconst (pc := 113) (v := (-1)) X dX8_shore_113 (by decide) ?_
    refine ww_goto (pc := 114) (tgt := 121) X dX8_shore_114 (by decide) ?_
    refine ww_put (pc := 121) (ci := 8) (v := .int (-1)) (C := RX8) (T := TX8) (N := 27) (ws' := fl [wX8 cI cZ cQ rM (sI (sI z10 0 0) 1 (-1))]) X inX8_shore_8 tyX8 tyX8_ok nmX8 0 rfl rfl 2 (by decide) (by decide +kernel) rfl rfl rfl (Nat.le_of_ble_eq_true rfl) (pt8a_1 _ _ _ _ _ _) dX8_shore_121 ?_
    refine ww_aload_n (pc := 124) X dX8_shore_124 0 rfl rfl ?_
    refine ww_get (pc := 125) (ci := 8) (v := .int (z10.1 7)) (C := RX8) (T := TX8) (N := 27) X inX8_shore_8 0 rfl rfl 23 (by decide) (by decide +kernel) (gv ((sI_ne (by decide)).trans (sI_ne (by decide)))) dX8_shore_125 ?_
    refine ww_if_eq (pc := 128) (tgt := 139) X dX8_shore_128 (by decide) (fun _ => ?_) (fun c15 => absurd c11 c15)
    refine ww_aload_n (pc := 139) X dX8_shore_139 0 rfl rfl ?_
    refine ww_get (pc := 140) (ci := 8) (v := .ref (rM 6)) (C := RX8) (T := TX8) (N := 27) X inX8_shore_8 0 rfl rfl 7 (by decide) (by decide +kernel) rfl dX8_shore_140 ?_
    refine ww_aload_n (pc := 143) X dX8_shore_143 0 rfl rfl ?_
    refine ww_get (pc := 144) (ci := 8) (v := .ref (rM 2)) (C := RX8) (T := TX8) (N := 27) X inX8_shore_8 0 rfl rfl 3 (by decide) (by decide +kernel) rfl dX8_shore_144 ?_
    refine ww_iconst (pc := 147) (v := 5) X dX8_shore_147 (by decide) ?_
    refine ww_cSv (pc := 148) (rest := []) (wsN := fl [wX8 cI cZ cQ rM (sA (sI (sI z10 0 0) 1 (-1)) 1 (cpn ((sI (sI z10 0 0) 1 (-1)).2 5) ((sI (sI z10 0 0) 1 (-1)).2 1) 5))]) X (c_X8_copies l D cI cZ cQ (rM 6) (rM 2) 5 5 ((sI (sI z10 0 0) 1 (-1)).2 5) ((sI (sI z10 0 0) 1 (-1)).2 1) 5 (by decide) (by decide) (by decide)) gX8_shore_X8_copies rfl hd_X8_copies [6, 2] (cpC_5 _ _ _ _ _) (by decide) rfl (cpw_5 _ _ _ _ _ _) rfl ⟨rfl, rfl⟩ ⟨Nat.le_of_ble_eq_true rfl, Nat.le_of_ble_eq_true rfl⟩ (Nat.le_of_ble_eq_true rfl) ⟨Nat.zero_le _, Nat.zero_le _⟩ dX8_shore_148 ?_
    generalize hz16 : ((sA (sI (sI z10 0 0) 1 (-1)) 1 (cpn ((sI (sI z10 0 0) 1 (-1)).2 5) ((sI (sI z10 0 0) 1 (-1)).2 1) 5))) = z16
    refine ww_aload_n (pc := 151) X dX8_shore_151 0 rfl rfl ?_
    refine ww_get (pc := 152) (ci := 8) (v := .ref (rM 7)) (C := RX8) (T := TX8) (N := 27) X inX8_shore_8 0 rfl rfl 8 (by decide) (by decide +kernel) rfl dX8_shore_152 ?_
    refine ww_aload_n (pc := 155) X dX8_shore_155 0 rfl rfl ?_
    refine ww_get (pc := 156) (ci := 8) (v := .ref (rM 3)) (C := RX8) (T := TX8) (N := 27) X inX8_shore_8 0 rfl rfl 4 (by decide) (by decide +kernel) rfl dX8_shore_156 ?_
    refine ww_iconst (pc := 159) (v := 4) X dX8_shore_159 (by decide) ?_
    refine ww_cSv (pc := 160) (rest := []) (wsN := fl [wX8 cI cZ cQ rM (sA z16 2 (cpn (z16.2 6) (z16.2 2) 4))]) X (c_X8_copies l D cI cZ cQ (rM 7) (rM 3) 4 4 (z16.2 6) (z16.2 2) 4 (by decide) (by decide) (by decide)) gX8_shore_X8_copies rfl hd_X8_copies [7, 3] (cpC_6 _ _ _ _ _) (by decide) rfl (cpw_6 _ _ _ _ _ _) rfl ⟨rfl, rfl⟩ ⟨Nat.le_of_ble_eq_true rfl, Nat.le_of_ble_eq_true rfl⟩ (Nat.le_of_ble_eq_true rfl) ⟨Nat.zero_le _, Nat.zero_le _⟩ dX8_shore_160 ?_
    generalize hz17 : ((sA z16 2 (cpn (z16.2 6) (z16.2 2) 4))) = z17
    refine ww_aload_n (pc := 163) X dX8_shore_163 0 rfl rfl ?_
    refine ww_get (pc := 164) (ci := 8) (v := .ref (rM 8)) (C := RX8) (T := TX8) (N := 27) X inX8_shore_8 0 rfl rfl 9 (by decide) (by decide +kernel) rfl dX8_shore_164 ?_
    refine ww_aload_n (pc := 167) X dX8_shore_167 0 rfl rfl ?_
    refine ww_get (pc := 168) (ci := 8) (v := .ref (rM 4)) (C := RX8) (T := TX8) (N := 27) X inX8_shore_8 0 rfl rfl 5 (by decide) (by decide +kernel) rfl dX8_shore_168 ?_
    refine ww_bipush (pc := 171) (v := 14) X dX8_shore_171 (by decide) ?_
    refine ww_cSv (pc := 173) (rest := []) (wsN := fl [wX8 cI cZ cQ rM (sA z17 3 (cpn (z17.2 7) (z17.2 3) 14))]) X (c_X8_copies l D cI cZ cQ (rM 8) (rM 4) 14 14 (z17.2 7) (z17.2 3) 14 (by decide) (by decide) (by decide)) gX8_shore_X8_copies rfl hd_X8_copies [8, 4] (cpC_7 _ _ _ _ _) (by decide) rfl (cpw_7 _ _ _ _ _ _) rfl ⟨rfl, rfl⟩ ⟨Nat.le_of_ble_eq_true rfl, Nat.le_of_ble_eq_true rfl⟩ (Nat.le_of_ble_eq_true rfl) ⟨Nat.zero_le _, Nat.zero_le _⟩ dX8_shore_173 ?_
    generalize hz18 : ((sA z17 3 (cpn (z17.2 7) (z17.2 3) 14))) = z18
    refine ww_aload_n (pc := 176) X dX8_shore_176 0 rfl rfl ?_
    refine ww_get (pc := 177) (ci := 8) (v := .ref (rM 9)) (C := RX8) (T := TX8) (N := 27) X inX8_shore_8 0 rfl rfl 10 (by decide) (by decide +kernel) rfl dX8_shore_177 ?_
    refine ww_aload_n (pc := 180) X dX8_shore_180 0 rfl rfl ?_
    refine ww_get (pc := 181) (ci := 8) (v := .ref (rM 5)) (C := RX8) (T := TX8) (N := 27) X inX8_shore_8 0 rfl rfl 6 (by decide) (by decide +kernel) rfl dX8_shore_181 ?_
    refine ww_bipush (pc := 184) (v := 18) X dX8_shore_184 (by decide) ?_
    refine ww_cSv (pc := 186) (rest := []) (wsN := fl [wX8 cI cZ cQ rM (sA z18 4 (cpn (z18.2 8) (z18.2 4) 18))]) X (c_X8_copies l D cI cZ cQ (rM 9) (rM 5) 18 18 (z18.2 8) (z18.2 4) 18 (by decide) (by decide) (by decide)) gX8_shore_X8_copies rfl hd_X8_copies [9, 5] (cpC_8 _ _ _ _ _) (by decide) rfl (cpw_8 _ _ _ _ _ _) rfl ⟨rfl, rfl⟩ ⟨Nat.le_of_ble_eq_true rfl, Nat.le_of_ble_eq_true rfl⟩ (Nat.le_of_ble_eq_true rfl) ⟨Nat.zero_le _, Nat.zero_le _⟩ dX8_shore_186 ?_
    generalize hz19 : ((sA z18 4 (cpn (z18.2 8) (z18.2 4) 18))) = z19
    refine ww_iconst (pc := 189) (v := 0) X dX8_shore_189 (by decide) ?_
    refine ww_istore_n (pc := 190) (lv' := [(1, .int 0), (0, .ref (rM 0))]) X dX8_shore_190 rfl (by decide) rfl ?_
    have L191 : ∀ (k_191 j_191 : Nat), j_191 + k_191 = 35 → WW p l e (headSpec wsX8_shore { frames := 5, cells := 0, slots := 0, locals := 104 }).room s m args below meth c 2 D A 0 0 (RQi below args s D A ((f_X8_shore SM).1) (fl [wX8 cI cZ cQ rM ((f_X8_shore SM).2)])) (fl [wX8 cI cZ cQ rM (it_X8_shore_191 z19 35)]) [(0, .ref (rM 0)), (1, .int (nI 35))] 210 [] → WW p l e (headSpec wsX8_shore { frames := 5, cells := 0, slots := 0, locals := 104 }).room s m args below meth c 2 D A 0 0 (RQi below args s D A ((f_X8_shore SM).1) (fl [wX8 cI cZ cQ rM ((f_X8_shore SM).2)])) (fl [wX8 cI cZ cQ rM (it_X8_shore_191 z19 j_191)]) [(0, .ref (rM 0)), (1, .int (nI j_191))] 191 [] := by
      intro k_191
      induction k_191 with
      | zero =>
        intro j_191 hj K
        have hjB : j_191 = 35 := by omega
        subst hjB
        refine ww_iload_n (pc := 191) X dX8_shore_191 1 rfl rfl ?_
        refine ww_bipush (pc := 192) (v := 35) X dX8_shore_192 (by decide) ?_
        exact ww_icmp_ge (pc := 194) (tgt := 210) X dX8_shore_194 (by decide) (fun _ => K) (fun c9 => absurd (lp_ge0 rfl (Nat.le_refl _) (by decide)) c9)
      | succ k_191 ih =>
        intro j_191 hj K
        have hjB : j_191 < 35 := by omega
        refine ww_iload_n (pc := 191) X dX8_shore_191 1 rfl rfl ?_
        refine ww_bipush (pc := 192) (v := 35) X dX8_shore_192 (by decide) ?_
        refine ww_icmp_ge (pc := 194) (tgt := 210) X dX8_shore_194 (by decide) (fun c9 => absurd c9 (lp_ge1 rfl hjB (by decide))) (fun _ => ?_)
        refine ww_aload_n (pc := 197) X dX8_shore_197 0 rfl rfl ?_
        refine ww_get (pc := 198) (ci := 8) (v := .ref (rM 10)) (C := RX8) (T := TX8) (N := 27) X inX8_shore_8 0 rfl rfl 11 (by decide) (by decide +kernel) rfl dX8_shore_198 ?_
        refine ww_iload_n (pc := 201) X dX8_shore_201 1 rfl rfl ?_
        refine ww_iconst (pc := 202) (v := 0) X dX8_shore_202 (by decide) ?_
        refine ww_iast (pc := 203) (f := (it_X8_shore_191 z19 j_191).2 9) (ws' := fl [wX8 cI cZ cQ rM (sA (it_X8_shore_191 z19 j_191) 9 (upd ((it_X8_shore_191 z19 j_191).2 9) (((nI j_191) : Int32)).toNatClampNeg 0))]) X 10 0 rfl rfl (vn (m := j_191) rfl (by omega) (by decide)) (st8a_9 _ _ _ _ _ _) dX8_shore_203 ?_
        refine ww_iinc (pc := 204) (v := (nI j_191) + 1) (lv' := [(1, .int ((nI j_191) + 1)), (0, .ref (rM 0))]) X dX8_shore_204 1 rfl rfl (by decide) rfl ?_
        refine ww_goto (pc := 207) (tgt := 191) X dX8_shore_207 (by decide) ?_
        have h20 : (it_X8_shore_191 z19 (j_191 + 1)) = (sA (it_X8_shore_191 z19 j_191) 9 (upd ((it_X8_shore_191 z19 j_191).2 9) (((nI j_191) : Int32)).toNatClampNeg 0)) := by
          show bd_X8_shore_191  j_191 (it_X8_shore_191 z19 j_191) = _; unfold bd_X8_shore_191; first | done | rfl
        refine ww_lsub [1, 0] rfl ?_
        exact ww_castI (fun u9 : St => fl [wX8 cI cZ cQ rM u9]) (fun (u9 : St) (i9 : Int32) => ([(0, .ref (rM 0)), (1, .int i9)] : List (Nat × Value))) h20 (ih (j_191 + 1) (by omega) K)
    refine ww_lsub [1, 0] rfl ?_
    refine L191 35 0 (by omega) ?_
    generalize hz21 : ((it_X8_shore_191 z19 35)) = z21
    have okm := sh_M okq (by rfl) hz16 hz17 hz18 hz19 hz21
    refine ww_iconst (pc := 210) (v := 0) X dX8_shore_210 (by decide) ?_
    refine ww_istore_n (pc := 211) (lv' := [(1, .int 0), (0, .ref (rM 0))]) X dX8_shore_211 rfl (by decide) rfl ?_
    have L212 : ∀ (k_212 j_212 : Nat), j_212 + k_212 = ((z21.2 1) ((3 : Int32)).toNatClampNeg).toNatClampNeg → WW p l e (headSpec wsX8_shore { frames := 5, cells := 0, slots := 0, locals := 104 }).room s m args below meth c 2 D A 0 0 (RQi below args s D A ((f_X8_shore SM).1) (fl [wX8 cI cZ cQ rM ((f_X8_shore SM).2)])) (fl [wX8 cI cZ cQ rM (it_X8_shore_212 z21 (((z21.2 1) ((3 : Int32)).toNatClampNeg).toNatClampNeg))]) [(0, .ref (rM 0)), (1, .int (nI (((z21.2 1) ((3 : Int32)).toNatClampNeg).toNatClampNeg)))] 279 [] → WW p l e (headSpec wsX8_shore { frames := 5, cells := 0, slots := 0, locals := 104 }).room s m args below meth c 2 D A 0 0 (RQi below args s D A ((f_X8_shore SM).1) (fl [wX8 cI cZ cQ rM ((f_X8_shore SM).2)])) (fl [wX8 cI cZ cQ rM (it_X8_shore_212 z21 j_212)]) [(0, .ref (rM 0)), (1, .int (nI j_212))] 212 [] := by
      intro k_212
      induction k_212 with
      | zero =>
        intro j_212 hj K
        have hjB : j_212 = ((z21.2 1) ((3 : Int32)).toNatClampNeg).toNatClampNeg := by omega
        subst hjB
        refine ww_iload_n (pc := 212) X dX8_shore_212 1 rfl rfl ?_
        refine ww_aload_n (pc := 213) X dX8_shore_213 0 rfl rfl ?_
        refine ww_get (pc := 214) (ci := 8) (v := .ref (rM 2)) (C := RX8) (T := TX8) (N := 27) X inX8_shore_8 0 rfl rfl 3 (by decide) (by decide +kernel) rfl dX8_shore_214 ?_
        refine ww_iconst (pc := 217) (v := 3) X dX8_shore_217 (by decide) ?_
        refine ww_iald (pc := 218) (f := (it_X8_shore_212 z21 (((z21.2 1) ((3 : Int32)).toNatClampNeg).toNatClampNeg)).2 1) X 2 0 rfl rfl (vl_in (by decide)) dX8_shore_218 ?_
        exact ww_icmp_ge (pc := 219) (tgt := 279) X dX8_shore_219 (by decide) (fun _ => K) (fun c9 => absurd (lp_ge0e (congrFun (pr_X8_shore_212 z21 (((z21.2 1) ((3 : Int32)).toNatClampNeg).toNatClampNeg)) _) (Nat.le_refl _) (cl_lt _)) c9)
      | succ k_212 ih =>
        intro j_212 hj K
        have hjB : j_212 < ((z21.2 1) ((3 : Int32)).toNatClampNeg).toNatClampNeg := by omega
        have h7 : ((z21.2 1) ((3 : Int32)).toNatClampNeg).toNatClampNeg ≤ 7 := okM_p okm
        refine ww_iload_n (pc := 212) X dX8_shore_212 1 rfl rfl ?_
        refine ww_aload_n (pc := 213) X dX8_shore_213 0 rfl rfl ?_
        refine ww_get (pc := 214) (ci := 8) (v := .ref (rM 2)) (C := RX8) (T := TX8) (N := 27) X inX8_shore_8 0 rfl rfl 3 (by decide) (by decide +kernel) rfl dX8_shore_214 ?_
        refine ww_iconst (pc := 217) (v := 3) X dX8_shore_217 (by decide) ?_
        refine ww_iald (pc := 218) (f := (it_X8_shore_212 z21 j_212).2 1) X 2 0 rfl rfl (vl_in (by decide)) dX8_shore_218 ?_
        refine ww_icmp_ge (pc := 219) (tgt := 279) X dX8_shore_219 (by decide) (fun c9 => absurd c9 (lp_ge1e (congrFun (pr_X8_shore_212 z21 j_212) _) hjB)) (fun _ => ?_)
        refine ww_aload_n (pc := 222) X dX8_shore_222 0 rfl rfl ?_
        refine ww_get (pc := 223) (ci := 8) (v := .ref (rM 10)) (C := RX8) (T := TX8) (N := 27) X inX8_shore_8 0 rfl rfl 11 (by decide) (by decide +kernel) rfl dX8_shore_223 ?_
        refine ww_iconst (pc := 226) (v := 1) X dX8_shore_226 (by decide) ?_
        refine ww_iload_n (pc := 227) X dX8_shore_227 1 rfl rfl ?_
        refine ww_iadd (pc := 228) X dX8_shore_228 ?_
        refine ww_aload_n (pc := 229) X dX8_shore_229 0 rfl rfl ?_
        refine ww_get (pc := 230) (ci := 8) (v := .ref (rM 4)) (C := RX8) (T := TX8) (N := 27) X inX8_shore_8 0 rfl rfl 5 (by decide) (by decide +kernel) rfl dX8_shore_230 ?_
        refine ww_iconst (pc := 233) (v := 2) X dX8_shore_233 (by decide) ?_
        refine ww_iload_n (pc := 234) X dX8_shore_234 1 rfl rfl ?_
        refine ww_imul (pc := 235) X dX8_shore_235 ?_
        refine ww_iald (pc := 236) (f := (it_X8_shore_212 z21 j_212).2 3) X 4 0 rfl rfl (vn (m := 2 * j_212) (nat_imul (a := 2) (b := j_212) rfl rfl) (by omega) (by decide)) dX8_shore_236 ?_
        refine ww_iast (pc := 237) (f := (it_X8_shore_212 z21 j_212).2 9) (ws' := fl [wX8 cI cZ cQ rM (sA (it_X8_shore_212 z21 j_212) 9 (upd ((it_X8_shore_212 z21 j_212).2 9) ((1 + (nI j_212) : Int32)).toNatClampNeg (((it_X8_shore_212 z21 j_212).2 3) ((2 * (nI j_212) : Int32)).toNatClampNeg)))]) X 10 0 rfl rfl (vn (m := 1 + j_212) (nat_iadd (a := 1) (b := j_212) rfl rfl) (by omega) (by decide)) (st8a_9 _ _ _ _ _ _) dX8_shore_237 ?_
        refine ww_aload_n (pc := 238) X dX8_shore_238 0 rfl rfl ?_
        refine ww_get (pc := 239) (ci := 8) (v := .ref (rM 10)) (C := RX8) (T := TX8) (N := 27) X inX8_shore_8 0 rfl rfl 11 (by decide) (by decide +kernel) rfl dX8_shore_239 ?_
        refine ww_bipush (pc := 242) (v := 8) X dX8_shore_242 (by decide) ?_
        refine ww_iload_n (pc := 244) X dX8_shore_244 1 rfl rfl ?_
        refine ww_iadd (pc := 245) X dX8_shore_245 ?_
        refine ww_aload_n (pc := 246) X dX8_shore_246 0 rfl rfl ?_
        refine ww_get (pc := 247) (ci := 8) (v := .ref (rM 4)) (C := RX8) (T := TX8) (N := 27) X inX8_shore_8 0 rfl rfl 5 (by decide) (by decide +kernel) rfl dX8_shore_247 ?_
        refine ww_iconst (pc := 250) (v := 2) X dX8_shore_250 (by decide) ?_
        refine ww_iload_n (pc := 251) X dX8_shore_251 1 rfl rfl ?_
        refine ww_imul (pc := 252) X dX8_shore_252 ?_
        refine ww_iald (pc := 253) (f := (it_X8_shore_212 z21 j_212).2 3) X 4 0 (ga8_3 _ _ _ _ _ (sA_ne (by decide))) rfl (vn (m := 2 * j_212) (nat_imul (a := 2) (b := j_212) rfl rfl) (by omega) (by decide)) dX8_shore_253 ?_
        refine ww_aload_n (pc := 254) X dX8_shore_254 0 rfl rfl ?_
        refine ww_get (pc := 255) (ci := 8) (v := .ref (rM 4)) (C := RX8) (T := TX8) (N := 27) X inX8_shore_8 0 rfl rfl 5 (by decide) (by decide +kernel) rfl dX8_shore_255 ?_
        refine ww_iconst (pc := 258) (v := 2) X dX8_shore_258 (by decide) ?_
        refine ww_iload_n (pc := 259) X dX8_shore_259 1 rfl rfl ?_
        refine ww_imul (pc := 260) X dX8_shore_260 ?_
        refine ww_iconst (pc := 261) (v := 1) X dX8_shore_261 (by decide) ?_
        refine ww_iadd (pc := 262) X dX8_shore_262 ?_
        refine ww_iald (pc := 263) (f := (it_X8_shore_212 z21 j_212).2 3) X 4 0 (ga8_3 _ _ _ _ _ (sA_ne (by decide))) rfl (vn (m := (2 * j_212) + 1) (nat_iadd (a := 2 * j_212) (b := 1) (nat_imul (a := 2) (b := j_212) rfl rfl) rfl) (by omega) (by decide)) dX8_shore_263 ?_
        refine ww_icmp_lt (pc := 264) (tgt := 271) X dX8_shore_264 (by decide) (fun c23 => ?_) (fun c23 => ?_)
        · refine ww_iconst (pc := 271) (v := 0) X dX8_shore_271 (by decide) ?_
          refine ww_iast (pc := 272) (f := upd ((it_X8_shore_212 z21 j_212).2 9) ((1 + (nI j_212) : Int32)).toNatClampNeg (((it_X8_shore_212 z21 j_212).2 3) ((2 * (nI j_212) : Int32)).toNatClampNeg)) (ws' := fl [wX8 cI cZ cQ rM (sA (it_X8_shore_212 z21 j_212) 9 (upd (upd ((it_X8_shore_212 z21 j_212).2 9) ((1 + (nI j_212) : Int32)).toNatClampNeg (((it_X8_shore_212 z21 j_212).2 3) ((2 * (nI j_212) : Int32)).toNatClampNeg)) ((8 + (nI j_212) : Int32)).toNatClampNeg 0))]) X 10 0 (ga8_9 _ _ _ _ _ sA_eq) rfl (vn (m := 8 + j_212) (nat_iadd (a := 8) (b := j_212) rfl rfl) (by omega) (by decide)) (st8b_9 _ _ _ _ _ _ _) dX8_shore_272 ?_
          refine ww_iinc (pc := 273) (v := (nI j_212) + 1) (lv' := [(1, .int ((nI j_212) + 1)), (0, .ref (rM 0))]) X dX8_shore_273 1 rfl rfl (by decide) rfl ?_
          refine ww_goto (pc := 276) (tgt := 212) X dX8_shore_276 (by decide) ?_
          have h24 : (it_X8_shore_212 z21 (j_212 + 1)) = (sA (it_X8_shore_212 z21 j_212) 9 (upd (upd ((it_X8_shore_212 z21 j_212).2 9) ((1 + (nI j_212) : Int32)).toNatClampNeg (((it_X8_shore_212 z21 j_212).2 3) ((2 * (nI j_212) : Int32)).toNatClampNeg)) ((8 + (nI j_212) : Int32)).toNatClampNeg 0)) := by
            show bd_X8_shore_212  j_212 (it_X8_shore_212 z21 j_212) = _; unfold bd_X8_shore_212; try rw [if_pos c23]; first | done | rfl
          refine ww_lsub [1, 0] rfl ?_
          exact ww_castI (fun u9 : St => fl [wX8 cI cZ cQ rM u9]) (fun (u9 : St) (i9 : Int32) => ([(0, .ref (rM 0)), (1, .int i9)] : List (Nat × Value))) h24 (ih (j_212 + 1) (by omega) K)
        · refine ww_iconst (pc := 267) (v := 1) X dX8_shore_267 (by decide) ?_
          refine ww_goto (pc := 268) (tgt := 272) X dX8_shore_268 (by decide) ?_
          refine ww_iast (pc := 272) (f := upd ((it_X8_shore_212 z21 j_212).2 9) ((1 + (nI j_212) : Int32)).toNatClampNeg (((it_X8_shore_212 z21 j_212).2 3) ((2 * (nI j_212) : Int32)).toNatClampNeg)) (ws' := fl [wX8 cI cZ cQ rM (sA (it_X8_shore_212 z21 j_212) 9 (upd (upd ((it_X8_shore_212 z21 j_212).2 9) ((1 + (nI j_212) : Int32)).toNatClampNeg (((it_X8_shore_212 z21 j_212).2 3) ((2 * (nI j_212) : Int32)).toNatClampNeg)) ((8 + (nI j_212) : Int32)).toNatClampNeg 1))]) X 10 0 (ga8_9 _ _ _ _ _ sA_eq) rfl (vn (m := 8 + j_212) (nat_iadd (a := 8) (b := j_212) rfl rfl) (by omega) (by decide)) (st8b_9 _ _ _ _ _ _ _) dX8_shore_272 ?_
          refine ww_iinc (pc := 273) (v := (nI j_212) + 1) (lv' := [(1, .int ((nI j_212) + 1)), (0, .ref (rM 0))]) X dX8_shore_273 1 rfl rfl (by decide) rfl ?_
          refine ww_goto (pc := 276) (tgt := 212) X dX8_shore_276 (by decide) ?_
          have h25 : (it_X8_shore_212 z21 (j_212 + 1)) = (sA (it_X8_shore_212 z21 j_212) 9 (upd (upd ((it_X8_shore_212 z21 j_212).2 9) ((1 + (nI j_212) : Int32)).toNatClampNeg (((it_X8_shore_212 z21 j_212).2 3) ((2 * (nI j_212) : Int32)).toNatClampNeg)) ((8 + (nI j_212) : Int32)).toNatClampNeg 1)) := by
            show bd_X8_shore_212  j_212 (it_X8_shore_212 z21 j_212) = _; unfold bd_X8_shore_212; try rw [if_neg c23]; first | done | rfl
          refine ww_lsub [1, 0] rfl ?_
          exact ww_castI (fun u9 : St => fl [wX8 cI cZ cQ rM u9]) (fun (u9 : St) (i9 : Int32) => ([(0, .ref (rM 0)), (1, .int i9)] : List (Nat × Value))) h25 (ih (j_212 + 1) (by omega) K)
    refine ww_lsub [1, 0] rfl ?_
    refine L212 (((z21.2 1) ((3 : Int32)).toNatClampNeg).toNatClampNeg) 0 (by omega) ?_
    generalize hz26 : ((it_X8_shore_212 z21 (((z21.2 1) ((3 : Int32)).toNatClampNeg).toNatClampNeg))) = z26
    have okm2 : okM z26 := okM_of (by rw [← hz26]; exact pr_X8_shore_212 _ _) okm
    refine ww_iconst (pc := 279) (v := 0) X dX8_shore_279 (by decide) ?_
    refine ww_istore_n (pc := 280) (lv' := [(1, .int 0), (0, .ref (rM 0))]) X dX8_shore_280 rfl (by decide) rfl ?_
    have L281 : ∀ (k_281 j_281 : Nat), j_281 + k_281 = ((z26.2 1) ((4 : Int32)).toNatClampNeg).toNatClampNeg → WW p l e (headSpec wsX8_shore { frames := 5, cells := 0, slots := 0, locals := 104 }).room s m args below meth c 2 D A 0 0 (RQi below args s D A ((f_X8_shore SM).1) (fl [wX8 cI cZ cQ rM ((f_X8_shore SM).2)])) (fl [wX8 cI cZ cQ rM (it_X8_shore_281 z26 (((z26.2 1) ((4 : Int32)).toNatClampNeg).toNatClampNeg))]) [(0, .ref (rM 0)), (1, .int (nI (((z26.2 1) ((4 : Int32)).toNatClampNeg).toNatClampNeg)))] 314 [] → WW p l e (headSpec wsX8_shore { frames := 5, cells := 0, slots := 0, locals := 104 }).room s m args below meth c 2 D A 0 0 (RQi below args s D A ((f_X8_shore SM).1) (fl [wX8 cI cZ cQ rM ((f_X8_shore SM).2)])) (fl [wX8 cI cZ cQ rM (it_X8_shore_281 z26 j_281)]) [(0, .ref (rM 0)), (1, .int (nI j_281))] 281 [] := by
      intro k_281
      induction k_281 with
      | zero =>
        intro j_281 hj K
        have hjB : j_281 = ((z26.2 1) ((4 : Int32)).toNatClampNeg).toNatClampNeg := by omega
        subst hjB
        refine ww_iload_n (pc := 281) X dX8_shore_281 1 rfl rfl ?_
        refine ww_aload_n (pc := 282) X dX8_shore_282 0 rfl rfl ?_
        refine ww_get (pc := 283) (ci := 8) (v := .ref (rM 2)) (C := RX8) (T := TX8) (N := 27) X inX8_shore_8 0 rfl rfl 3 (by decide) (by decide +kernel) rfl dX8_shore_283 ?_
        refine ww_iconst (pc := 286) (v := 4) X dX8_shore_286 (by decide) ?_
        refine ww_iald (pc := 287) (f := (it_X8_shore_281 z26 (((z26.2 1) ((4 : Int32)).toNatClampNeg).toNatClampNeg)).2 1) X 2 0 rfl rfl (vl_in (by decide)) dX8_shore_287 ?_
        exact ww_icmp_ge (pc := 288) (tgt := 314) X dX8_shore_288 (by decide) (fun _ => K) (fun c9 => absurd (lp_ge0e (congrFun (pr_X8_shore_281 z26 (((z26.2 1) ((4 : Int32)).toNatClampNeg).toNatClampNeg)) _) (Nat.le_refl _) (cl_lt _)) c9)
      | succ k_281 ih =>
        intro j_281 hj K
        have hjB : j_281 < ((z26.2 1) ((4 : Int32)).toNatClampNeg).toNatClampNeg := by omega
        have h6 : ((z26.2 1) ((4 : Int32)).toNatClampNeg).toNatClampNeg ≤ 6 := okM_g okm2
        refine ww_iload_n (pc := 281) X dX8_shore_281 1 rfl rfl ?_
        refine ww_aload_n (pc := 282) X dX8_shore_282 0 rfl rfl ?_
        refine ww_get (pc := 283) (ci := 8) (v := .ref (rM 2)) (C := RX8) (T := TX8) (N := 27) X inX8_shore_8 0 rfl rfl 3 (by decide) (by decide +kernel) rfl dX8_shore_283 ?_
        refine ww_iconst (pc := 286) (v := 4) X dX8_shore_286 (by decide) ?_
        refine ww_iald (pc := 287) (f := (it_X8_shore_281 z26 j_281).2 1) X 2 0 rfl rfl (vl_in (by decide)) dX8_shore_287 ?_
        refine ww_icmp_ge (pc := 288) (tgt := 314) X dX8_shore_288 (by decide) (fun c9 => absurd c9 (lp_ge1e (congrFun (pr_X8_shore_281 z26 j_281) _) hjB)) (fun _ => ?_)
        refine ww_aload_n (pc := 291) X dX8_shore_291 0 rfl rfl ?_
        refine ww_get (pc := 292) (ci := 8) (v := .ref (rM 10)) (C := RX8) (T := TX8) (N := 27) X inX8_shore_8 0 rfl rfl 11 (by decide) (by decide +kernel) rfl dX8_shore_292 ?_
        refine ww_bipush (pc := 295) (v := 29) X dX8_shore_295 (by decide) ?_
        refine ww_iload_n (pc := 297) X dX8_shore_297 1 rfl rfl ?_
        refine ww_iadd (pc := 298) X dX8_shore_298 ?_
        refine ww_aload_n (pc := 299) X dX8_shore_299 0 rfl rfl ?_
        refine ww_get (pc := 300) (ci := 8) (v := .ref (rM 5)) (C := RX8) (T := TX8) (N := 27) X inX8_shore_8 0 rfl rfl 6 (by decide) (by decide +kernel) rfl dX8_shore_300 ?_
        refine ww_iconst (pc := 303) (v := 3) X dX8_shore_303 (by decide) ?_
        refine ww_iload_n (pc := 304) X dX8_shore_304 1 rfl rfl ?_
        refine ww_imul (pc := 305) X dX8_shore_305 ?_
        refine ww_iald (pc := 306) (f := (it_X8_shore_281 z26 j_281).2 4) X 5 0 rfl rfl (vn (m := 3 * j_281) (nat_imul (a := 3) (b := j_281) rfl rfl) (by omega) (by decide)) dX8_shore_306 ?_
        refine ww_iast (pc := 307) (f := (it_X8_shore_281 z26 j_281).2 9) (ws' := fl [wX8 cI cZ cQ rM (sA (it_X8_shore_281 z26 j_281) 9 (upd ((it_X8_shore_281 z26 j_281).2 9) ((29 + (nI j_281) : Int32)).toNatClampNeg (((it_X8_shore_281 z26 j_281).2 4) ((3 * (nI j_281) : Int32)).toNatClampNeg)))]) X 10 0 rfl rfl (vn (m := 29 + j_281) (nat_iadd (a := 29) (b := j_281) rfl rfl) (by omega) (by decide)) (st8a_9 _ _ _ _ _ _) dX8_shore_307 ?_
        refine ww_iinc (pc := 308) (v := (nI j_281) + 1) (lv' := [(1, .int ((nI j_281) + 1)), (0, .ref (rM 0))]) X dX8_shore_308 1 rfl rfl (by decide) rfl ?_
        refine ww_goto (pc := 311) (tgt := 281) X dX8_shore_311 (by decide) ?_
        have h27 : (it_X8_shore_281 z26 (j_281 + 1)) = (sA (it_X8_shore_281 z26 j_281) 9 (upd ((it_X8_shore_281 z26 j_281).2 9) ((29 + (nI j_281) : Int32)).toNatClampNeg (((it_X8_shore_281 z26 j_281).2 4) ((3 * (nI j_281) : Int32)).toNatClampNeg))) := by
          show bd_X8_shore_281  j_281 (it_X8_shore_281 z26 j_281) = _; unfold bd_X8_shore_281; first | done | rfl
        refine ww_lsub [1, 0] rfl ?_
        exact ww_castI (fun u9 : St => fl [wX8 cI cZ cQ rM u9]) (fun (u9 : St) (i9 : Int32) => ([(0, .ref (rM 0)), (1, .int i9)] : List (Nat × Value))) h27 (ih (j_281 + 1) (by omega) K)
    refine ww_lsub [1, 0] rfl ?_
    refine L281 (((z26.2 1) ((4 : Int32)).toNatClampNeg).toNatClampNeg) 0 (by omega) ?_
    generalize hz28 : ((it_X8_shore_281 z26 (((z26.2 1) ((4 : Int32)).toNatClampNeg).toNatClampNeg))) = z28
    refine ww_aload_n (pc := 314) X dX8_shore_314 0 rfl rfl ?_
    refine ww_iconst (pc := 315) (v := 0) X dX8_shore_315 (by decide) ?_
    refine ww_put (pc := 316) (ci := 8) (v := .int 0) (C := RX8) (T := TX8) (N := 27) (ws' := fl [wX8 cI cZ cQ rM (sI z28 2 0)]) X inX8_shore_8 tyX8 tyX8_ok nmX8 0 rfl rfl 13 (by decide) (by decide +kernel) rfl rfl rfl (Nat.le_of_ble_eq_true rfl) (pt8a_2 _ _ _ _ _ _) dX8_shore_316 ?_
    refine ww_aload_n (pc := 319) X dX8_shore_319 0 rfl rfl ?_
    refine ww_iconst (pc := 320) (v := 0) X dX8_shore_320 (by decide) ?_
    refine ww_put (pc := 321) (ci := 8) (v := .int 0) (C := RX8) (T := TX8) (N := 27) (ws' := fl [wX8 cI cZ cQ rM (sI (sI z28 2 0) 4 0)]) X inX8_shore_8 tyX8 tyX8_ok nmX8 0 rfl rfl 19 (by decide) (by decide +kernel) rfl rfl rfl (Nat.le_of_ble_eq_true rfl) (pt8a_4 _ _ _ _ _ _) dX8_shore_321 ?_
    refine ww_aload_n (pc := 324) X dX8_shore_324 0 rfl rfl ?_
    refine ww_iconst (pc := 325) (v := 0) X dX8_shore_325 (by decide) ?_
    refine ww_put (pc := 326) (ci := 8) (v := .int 0) (C := RX8) (T := TX8) (N := 27) (ws' := fl [wX8 cI cZ cQ rM (sI (sI (sI z28 2 0) 4 0) 5 0)]) X inX8_shore_8 tyX8 tyX8_ok nmX8 0 rfl rfl 21 (by decide) (by decide +kernel) rfl rfl rfl (Nat.le_of_ble_eq_true rfl) (pt8a_5 _ _ _ _ _ _) dX8_shore_326 ?_
    refine ww_aload_n (pc := 329) X dX8_shore_329 0 rfl rfl ?_
    refine ww_get (pc := 330) (ci := 8) (v := .ref (rM 14)) (C := RX8) (T := TX8) (N := 27) X inX8_shore_8 0 rfl rfl 16 (by decide) (by decide +kernel) rfl dX8_shore_330 ?_
    refine ww_iconst (pc := 333) (v := 0) X dX8_shore_333 (by decide) ?_
    refine ww_iconst (pc := 334) (v := 0) X dX8_shore_334 (by decide) ?_
    refine ww_zast (pc := 335) (f := z28.2 13) (ws' := fl [wX8 cI cZ cQ rM (sA (sI (sI (sI z28 2 0) 4 0) 5 0) 13 (upd (z28.2 13) ((0 : Int32)).toNatClampNeg 0))]) X 14 1 (ga8_13 _ _ _ _ _ (sI_2.trans (sI_2.trans sI_2))) rfl (vl_in (by decide)) rfl (st8a_13 _ _ _ _ _ _) dX8_shore_335 ?_
    refine ww_aload_n (pc := 336) X dX8_shore_336 0 rfl rfl ?_
    refine ww_get (pc := 337) (ci := 8) (v := .ref (rM 14)) (C := RX8) (T := TX8) (N := 27) X inX8_shore_8 0 rfl rfl 16 (by decide) (by decide +kernel) rfl dX8_shore_337 ?_
    refine ww_iconst (pc := 340) (v := 1) X dX8_shore_340 (by decide) ?_
    refine ww_iconst (pc := 341) (v := 0) X dX8_shore_341 (by decide) ?_
    refine ww_zast (pc := 342) (f := upd (z28.2 13) ((0 : Int32)).toNatClampNeg 0) (ws' := fl [wX8 cI cZ cQ rM (sA (sI (sI (sI z28 2 0) 4 0) 5 0) 13 (upd (upd (z28.2 13) ((0 : Int32)).toNatClampNeg 0) ((1 : Int32)).toNatClampNeg 0))]) X 14 1 (ga8_13 _ _ _ _ _ sA_eq) rfl (vl_in (by decide)) rfl (st8b_13 _ _ _ _ _ _ _) dX8_shore_342 ?_
    refine ww_aload_n (pc := 343) X dX8_shore_343 0 rfl rfl ?_
    refine ww_get (pc := 344) (ci := 8) (v := .ref (rM 2)) (C := RX8) (T := TX8) (N := 27) X inX8_shore_8 0 rfl rfl 3 (by decide) (by decide +kernel) rfl dX8_shore_344 ?_
    refine ww_iconst (pc := 347) (v := 3) X dX8_shore_347 (by decide) ?_
    refine ww_iald (pc := 348) (f := z28.2 1) X 2 0 (ga8_1 _ _ _ _ _ ((sA_ne (by decide)).trans (sI_2.trans (sI_2.trans sI_2)))) rfl (vl_in (by decide)) dX8_shore_348 ?_
    have h29 : f_X8_shore SM = ((z28.2 1) ((3 : Int32)).toNatClampNeg, (sA (sI (sI (sI z28 2 0) 4 0) 5 0) 13 (upd (upd (z28.2 13) ((0 : Int32)).toNatClampNeg 0) ((1 : Int32)).toNatClampNeg 0))) := by unfold f_X8_shore; try rw [hz2]; try unfold f_X8_shore_k1; try rw [hz4]; try unfold f_X8_shore_k2; try rw [hz6]; try unfold f_X8_shore_k3; try rw [hz8]; try unfold f_X8_shore_k4; try rw [hz9]; try unfold f_X8_shore_k5; try rw [hz10]; try unfold f_X8_shore_k6; try rw [if_pos c11, hz16]; try unfold f_X8_shore_k7; try rw [hz17]; try unfold f_X8_shore_k8; try rw [hz18]; try unfold f_X8_shore_k9; try rw [hz19]; try unfold f_X8_shore_k10; try rw [hz21]; try unfold f_X8_shore_k11; try rw [hz26]; try unfold f_X8_shore_k12; try rw [hz28]; try unfold f_X8_shore_k13; first | done | rfl
    have hw30 := congrArg (fun u9 : Int32 × St => fl [wX8 cI cZ cQ rM u9.2]) h29.symm
    exact ww_iret X hr rfl (congrArg (fun u9 : Int32 × St => u9.1) h29).symm hw30 dX8_shore_349
