def bd_X8_lays_16 (x1 : Int32) (j2 : Nat) (j : Nat) (u : St) : St :=
  (sA u 16 (upd (u.2 16) (((nI j) : Int32)).toNatClampNeg ((u.2 4) ((3 * (nI j) : Int32)).toNatClampNeg)))
def it_X8_lays_16 (x1 : Int32) (j2 : Nat) (u : St) : Nat → St
  | 0 => u
  | j + 1 => bd_X8_lays_16 x1 j2 j (it_X8_lays_16 x1 j2 u j)
theorem pr_X8_lays_16 (x1 : Int32) (j2 : Nat) (u : St) : ∀ j : Nat, (it_X8_lays_16 x1 j2 u j).2 1 = u.2 1
  | 0 => rfl
  | j + 1 => by
    have ih := pr_X8_lays_16 x1 j2 u j
    show (bd_X8_lays_16 x1 j2 j (it_X8_lays_16 x1 j2 u j)).2 1 = _
    generalize it_X8_lays_16 x1 j2 u j = v at ih ⊢
    unfold bd_X8_lays_16
    first | exact ih | (repeat' split) <;> exact ih
def bd_X8_lays_126 (x1 : Int32) (j2 : Nat) (j3 : Nat) (j : Nat) (u : St) : St :=
  (sA u 16 (upd (u.2 16) (((nI j) : Int32)).toNatClampNeg (f_X8_worthIn u (nI j) ((u.2 16) (((nI j) : Int32)).toNatClampNeg) ((u.2 2) (((nI j2) : Int32)).toNatClampNeg))))
def it_X8_lays_126 (x1 : Int32) (j2 : Nat) (j3 : Nat) (u : St) : Nat → St
  | 0 => u
  | j + 1 => bd_X8_lays_126 x1 j2 j3 j (it_X8_lays_126 x1 j2 j3 u j)
theorem pr_X8_lays_126 (x1 : Int32) (j2 : Nat) (j3 : Nat) (u : St) : ∀ j : Nat, (it_X8_lays_126 x1 j2 j3 u j).2 1 = u.2 1
  | 0 => rfl
  | j + 1 => by
    have ih := pr_X8_lays_126 x1 j2 j3 u j
    show (bd_X8_lays_126 x1 j2 j3 j (it_X8_lays_126 x1 j2 j3 u j)).2 1 = _
    generalize it_X8_lays_126 x1 j2 j3 u j = v at ih ⊢
    unfold bd_X8_lays_126
    first | exact ih | (repeat' split) <;> exact ih
def bd_X8_lays_84 (x1 : Int32) (j2 : Nat) (j3 : Nat) (j : Nat) (u : St) : St :=
  (sA u 18 (upd (u.2 18) (((6 * x1) + (nI j) : Int32)).toNatClampNeg ((u.2 16) (((nI j) : Int32)).toNatClampNeg)))
def it_X8_lays_84 (x1 : Int32) (j2 : Nat) (j3 : Nat) (u : St) : Nat → St
  | 0 => u
  | j + 1 => bd_X8_lays_84 x1 j2 j3 j (it_X8_lays_84 x1 j2 j3 u j)
theorem pr_X8_lays_84 (x1 : Int32) (j2 : Nat) (j3 : Nat) (u : St) : ∀ j : Nat, (it_X8_lays_84 x1 j2 j3 u j).2 1 = u.2 1
  | 0 => rfl
  | j + 1 => by
    have ih := pr_X8_lays_84 x1 j2 j3 u j
    show (bd_X8_lays_84 x1 j2 j3 j (it_X8_lays_84 x1 j2 j3 u j)).2 1 = _
    generalize it_X8_lays_84 x1 j2 j3 u j = v at ih ⊢
    unfold bd_X8_lays_84
    first | exact ih | (repeat' split) <;> exact ih
def bd_X8_lays_48_k1 (j2 : Nat) (j : Nat) (u : St × Int32) (z5 : St) : St × Int32 :=
  (z5, u.2)
def bd_X8_lays_48_k3 (j2 : Nat) (j : Nat) (u : St × Int32) (z7 : St) (z9 : St) : St × Int32 :=
  (z9, u.2 + 1)
def bd_X8_lays_48_k2 (j2 : Nat) (j : Nat) (u : St × Int32) (z7 : St) : St × Int32 :=
  bd_X8_lays_48_k3 j2 j u z7 (it_X8_lays_126 (u.2 + 1) j2 j z7 (((z7.2 1) ((4 : Int32)).toNatClampNeg).toNatClampNeg))
def bd_X8_lays_48 (j2 : Nat) (j : Nat) (u : St × Int32) : St × Int32 :=
  if (f_X8_isSo u.1 ((nI j) * ((u.1.2 2) (((nI j2) : Int32)).toNatClampNeg))) = 0 then
    bd_X8_lays_48_k1 j2 j u (it_X8_lays_126 u.2 j2 j u.1 (((u.1.2 1) ((4 : Int32)).toNatClampNeg).toNatClampNeg))
  else
    bd_X8_lays_48_k2 j2 j u (it_X8_lays_84 u.2 j2 j (sA u.1 17 (upd (u.1.2 17) ((u.2 : Int32)).toNatClampNeg ((100 * (nI j2)) + (nI j)))) (((u.1.2 1) ((4 : Int32)).toNatClampNeg).toNatClampNeg))
def it_X8_lays_48 (j2 : Nat) (u : St × Int32) : Nat → St × Int32
  | 0 => u
  | j + 1 => bd_X8_lays_48 j2 j (it_X8_lays_48 j2 u j)
def bd_X8_lays_4_k2 (j : Nat) (u : St × Int32) (z2 : St) (z19 : St × Int32) : St × Int32 :=
  (z19.1, z19.2)
def bd_X8_lays_4_k1 (j : Nat) (u : St × Int32) (z2 : St) : St × Int32 :=
  bd_X8_lays_4_k2 j u z2 (it_X8_lays_48 j (z2, u.2) 31)
def bd_X8_lays_4  (j : Nat) (u : St × Int32) : St × Int32 :=
  bd_X8_lays_4_k1 j u (it_X8_lays_16 u.2 j u.1 (((u.1.2 1) ((4 : Int32)).toNatClampNeg).toNatClampNeg))
def it_X8_lays_4  (u : St × Int32) : Nat → St × Int32
  | 0 => u
  | j + 1 => bd_X8_lays_4  j (it_X8_lays_4  u j)
def f_X8_lays_k1 (SM : St) (z33 : St × Int32) : Int32 × St :=
  (z33.2, z33.1)
def f_X8_lays (SM : St) : Int32 × St :=
  f_X8_lays_k1 SM (it_X8_lays_4 (SM, 0) (((SM.2 1) ((2 : Int32)).toNatClampNeg).toNatClampNeg))
/-- what a laying leaves as it was -/
def lo (S S' : St) : Prop := S'.1 = S.1 ∧ ∀ k : Nat, k ≠ 16 → k ≠ 17 → k ≠ 18 → S'.2 k = S.2 k
theorem lo_rf (S : St) : lo S S := ⟨rfl, fun _ _ _ _ => rfl⟩
theorem lo_t {S T U : St} (h : lo S T) (g : lo T U) : lo S U := ⟨g.1.trans h.1, fun k a b c => (g.2 k a b c).trans (h.2 k a b c)⟩
theorem lo1 {S S' : St} (h : lo S S') : S'.2 1 = S.2 1 := h.2 1 (by decide) (by decide) (by decide)
theorem lo_16 (S : St) (F : Nat → Int32) : lo S (sA S 16 F) := ⟨rfl, fun _ a _ _ => if_neg a⟩
theorem lo_17 (S : St) (F : Nat → Int32) : lo S (sA S 17 F) := ⟨rfl, fun _ _ a _ => if_neg a⟩
theorem lo_18 (S : St) (F : Nat → Int32) : lo S (sA S 18 F) := ⟨rfl, fun _ _ _ a => if_neg a⟩
theorem lo_f {S S' : St} (h : lo S S') (okf : okF S) : okF S' := by
  unfold okF
  rw [h.1, h.2 14 (by decide) (by decide) (by decide)]
  exact okf
theorem lo_r {S S' : St} (h : lo S S') (hr : ¬ (S.2 1) ((1 : Int32)).toNatClampNeg = 0) : ¬ (S'.2 1) ((1 : Int32)).toNatClampNeg = 0 := by
  rw [lo1 h]
  exact hr
theorem ly16 (x : Int32) (d : Nat) (u : St) : ∀ j : Nat, lo u (it_X8_lays_16 x d u j)
  | 0 => lo_rf u
  | j + 1 => lo_t (ly16 x d u j) (lo_16 _ _)
theorem ly126 (x : Int32) (d t : Nat) (u : St) : ∀ j : Nat, lo u (it_X8_lays_126 x d t u j)
  | 0 => lo_rf u
  | j + 1 => lo_t (ly126 x d t u j) (lo_16 _ _)
theorem ly84 (x : Int32) (d t : Nat) (u : St) : ∀ j : Nat, lo u (it_X8_lays_84 x d t u j)
  | 0 => lo_rf u
  | j + 1 => lo_t (ly84 x d t u j) (lo_18 _ _)
theorem ly48b (d j : Nat) (u : St × Int32) : lo u.1 (bd_X8_lays_48 d j u).1 ∧ ((bd_X8_lays_48 d j u).2 = u.2 ∨ (bd_X8_lays_48 d j u).2 = u.2 + 1) := by
  unfold bd_X8_lays_48
  split
  · exact ⟨ly126 _ _ _ _ _, Or.inl rfl⟩
  · unfold bd_X8_lays_48_k2 bd_X8_lays_48_k3
    exact ⟨lo_t (lo_17 _ _) (lo_t (ly84 _ _ _ _ _) (ly126 _ _ _ _ _)), Or.inr rfl⟩
theorem ly48 (d : Nat) (u : St × Int32) : ∀ j : Nat, lo u.1 (it_X8_lays_48 d u j).1
  | 0 => lo_rf _
  | j + 1 => lo_t (ly48 d u j) (ly48b d j _).1
theorem ly48n (d : Nat) (u : St × Int32) (m : Nat) (hu : u.2 = nI m) : ∀ j : Nat, ∃ k : Nat, (it_X8_lays_48 d u j).2 = nI k ∧ k ≤ m + j
  | 0 => ⟨m, hu, Nat.le_refl _⟩
  | j + 1 => by
    obtain ⟨k, h1, h2⟩ := ly48n d u m hu j
    rcases (ly48b d j (it_X8_lays_48 d u j)).2 with h | h
    · exact ⟨k, h.trans h1, by omega⟩
    · exact ⟨k + 1, h.trans (by rw [h1, nI_1]), by omega⟩
theorem ly48p (d : Nat) (z : St) (n : Int32) (m : Nat) (h : n = nI m) (j : Nat) : ∃ k : Nat, (it_X8_lays_48 d (z, n) j).2 = nI k ∧ k ≤ m + j := ly48n d (z, n) m h j
theorem pe_ {α β : Type} (p : α × β) : (p.1, p.2) = p := by cases p; rfl
theorem ly4e (j : Nat) (u : St × Int32) : bd_X8_lays_4 j u = it_X8_lays_48 j (it_X8_lays_16 u.2 j u.1 (((u.1.2 1) ((4 : Int32)).toNatClampNeg).toNatClampNeg), u.2) 31 := by
  unfold bd_X8_lays_4 bd_X8_lays_4_k1 bd_X8_lays_4_k2
  exact pe_ _
theorem ly4s (j : Nat) (u : St × Int32) : it_X8_lays_4 u (j + 1) = bd_X8_lays_4 j (it_X8_lays_4 u j) := by
  rw [it_X8_lays_4]
theorem ly4 (u : St × Int32) : ∀ j : Nat, lo u.1 (it_X8_lays_4 u j).1
  | 0 => lo_rf _
  | j + 1 => by
    rw [ly4s, ly4e]
    exact lo_t (ly4 u j) (lo_t (ly16 _ _ _ _) (ly48 j (it_X8_lays_16 (it_X8_lays_4 u j).2 j (it_X8_lays_4 u j).1 ((((it_X8_lays_4 u j).1.2 1) ((4 : Int32)).toNatClampNeg).toNatClampNeg), (it_X8_lays_4 u j).2) 31))
theorem ly4n (S : St) : ∀ j : Nat, ∃ k : Nat, (it_X8_lays_4 (S, 0) j).2 = nI k ∧ k ≤ 31 * j
  | 0 => ⟨0, rfl, Nat.le_refl _⟩
  | j + 1 => by
    obtain ⟨k, h1, h2⟩ := ly4n S j
    rw [ly4s, ly4e]
    obtain ⟨k2, h3, h4⟩ := ly48n j (it_X8_lays_16 (it_X8_lays_4 (S, 0) j).2 j (it_X8_lays_4 (S, 0) j).1 ((((it_X8_lays_4 (S, 0) j).1.2 1) ((4 : Int32)).toNatClampNeg).toNatClampNeg), (it_X8_lays_4 (S, 0) j).2) k h1 31
    exact ⟨k2, h3, by omega⟩
theorem pr_X8_lays_4 (u : St × Int32) (j : Nat) : (it_X8_lays_4 u j).1.2 1 = u.1.2 1 := lo1 (ly4 u j)
theorem ly_m {S : St} {z : Int32 × St} (ok : okM S) (hz : f_X8_lays S = z) : lo S z.2 ∧ ∃ k : Nat, z.1 = nI k ∧ k ≤ 124 := by
  subst hz
  obtain ⟨k, h1, h2⟩ := ly4n S (((S.2 1) ((2 : Int32)).toNatClampNeg).toNatClampNeg)
  have h4 := okM_d ok
  exact ⟨ly4 _ _, k, h1, by omega⟩
theorem ly_n {S : St} {z : Int32 × St} (ok : okM S) (hz : f_X8_lays S = z) : z.1.toNatClampNeg ≤ 124 := by
  obtain ⟨-, k, h1, h2⟩ := ly_m ok hz
  rw [h1, nI_clamp (by omega)]
  exact h2
theorem ly_ok {S : St} {z : Int32 × St} (ok : okM S) (hz : f_X8_lays S = z) : okM z.2 := okM_of (lo1 (ly_m ok hz).1) ok
theorem sy_in {S : St} {z : Int32 × St} {x : Int32} (ok : okM S) (hz : f_X8_lays S = z) (h : ¬ f_X8_in x 0 (z.1 - 1) = 0) : vp_in x 124 := by
  obtain ⟨-, k, h1, h2⟩ := ly_m ok hz
  unfold f_X8_in at h
  split at h
  · exact absurd rfl h
  · split at h
    · exact absurd rfl h
    · refine cnt_in (n := z.1) (N := 124) ⟨?_, ?_⟩ (by decide) (by assumption) (by assumption)
      · rw [h1]
        exact nI_pos (by omega)
      · rw [h1]
        exact nI_le h2 (by decide)
theorem inX8_lays_8 : ∀ w ∈ wsX80, w ∈ wsX8_lays := by decide +kernel
theorem hd_X8_lays : yX8_lays.cls = RX8 ∧ yX8_lays.cls ≠ "java/lang/invoke/MethodHandle" ∧ yX8_lays.cls ≠ "java/lang/invoke/VarHandle" ∧ (parseMethodDescriptor yX8_lays.desc).map (fun d => d.parameters.length) = some 0 := by decide +kernel
set_option maxHeartbeats 4000000 in
set_option maxRecDepth 100000 in
theorem c_X8_lays (l : Launch) (D : va_G) (cI cZ cQ : ClassId) (rM : Nat → Nat) (SM : St) (okm : okM SM) (okf : okF SM) (hr1 : 0 < ((SM.2 1) ((2 : Int32)).toNatClampNeg).toNatClampNeg → ¬ (SM.2 1) ((1 : Int32)).toNatClampNeg = 0) : Ci l yX8_lays wsX8_lays { frames := 2, cells := 0, slots := 0, locals := 49 } D (tyL cI cZ cQ) [.ref (rM 0)] (fl [wX8 cI cZ cQ rM SM]) ((f_X8_lays SM).1) (fl [wX8 cI cZ cQ rM ((f_X8_lays SM).2)]) := by
  refine ci_of (cc := cX8_lays) (nL := 5) (ty := .int) (lv0 := [(0, .ref (rM 0))]) (by decide) rfl (Nat.le_of_ble_eq_true rfl) rfl ?_
  intro p e s m args below meth c A X hr
  refine ww_iconst (pc := 0) (v := 0) X dX8_lays_0 (by decide) ?_
  refine ww_istore_n (pc := 1) (lv' := [(1, .int 0), (0, .ref (rM 0))]) X dX8_lays_1 rfl (by decide) rfl ?_
  refine ww_iconst (pc := 2) (v := 0) X dX8_lays_2 (by decide) ?_
  refine ww_istore_n (pc := 3) (lv' := [(2, .int 0), (1, .int 0), (0, .ref (rM 0))]) X dX8_lays_3 rfl (by decide) rfl ?_
  have L4 : ∀ (k_4 j_4 : Nat), j_4 + k_4 = ((SM.2 1) ((2 : Int32)).toNatClampNeg).toNatClampNeg → WW p l e (headSpec wsX8_lays { frames := 2, cells := 0, slots := 0, locals := 49 }).room s m args below meth c 5 D A 0 0 (RQi below args s D A ((f_X8_lays SM).1) (fl [wX8 cI cZ cQ rM ((f_X8_lays SM).2)])) (fl [wX8 cI cZ cQ rM ((it_X8_lays_4 (SM, 0) (((SM.2 1) ((2 : Int32)).toNatClampNeg).toNatClampNeg)).1)]) [(0, .ref (rM 0)), (1, .int ((it_X8_lays_4 (SM, 0) (((SM.2 1) ((2 : Int32)).toNatClampNeg).toNatClampNeg)).2)), (2, .int (nI (((SM.2 1) ((2 : Int32)).toNatClampNeg).toNatClampNeg)))] 181 [] → WW p l e (headSpec wsX8_lays { frames := 2, cells := 0, slots := 0, locals := 49 }).room s m args below meth c 5 D A 0 0 (RQi below args s D A ((f_X8_lays SM).1) (fl [wX8 cI cZ cQ rM ((f_X8_lays SM).2)])) (fl [wX8 cI cZ cQ rM ((it_X8_lays_4 (SM, 0) j_4).1)]) [(0, .ref (rM 0)), (1, .int ((it_X8_lays_4 (SM, 0) j_4).2)), (2, .int (nI j_4))] 4 [] := by
    intro k_4
    induction k_4 with
    | zero =>
      intro j_4 hj K
      have hjB : j_4 = ((SM.2 1) ((2 : Int32)).toNatClampNeg).toNatClampNeg := by omega
      subst hjB
      refine ww_iload_n (pc := 4) X dX8_lays_4 2 rfl rfl ?_
      refine ww_aload_n (pc := 5) X dX8_lays_5 0 rfl rfl ?_
      refine ww_get (pc := 6) (ci := 8) (v := .ref (rM 2)) (C := RX8) (T := TX8) (N := 27) X inX8_lays_8 0 rfl rfl 3 (by decide) (by decide +kernel) rfl dX8_lays_6 ?_
      refine ww_iconst (pc := 9) (v := 2) X dX8_lays_9 (by decide) ?_
      refine ww_iald (pc := 10) (f := (it_X8_lays_4 (SM, 0) (((SM.2 1) ((2 : Int32)).toNatClampNeg).toNatClampNeg)).1.2 1) X 2 0 rfl rfl (vl_in (by decide)) dX8_lays_10 ?_
      exact ww_icmp_ge (pc := 11) (tgt := 181) X dX8_lays_11 (by decide) (fun _ => K) (fun c9 => absurd (lp_ge0e (congrFun (pr_X8_lays_4 (SM, 0) (((SM.2 1) ((2 : Int32)).toNatClampNeg).toNatClampNeg)) _) (Nat.le_refl _) (cl_lt _)) c9)
    | succ k_4 ih =>
      intro j_4 hj K
      have hjB : j_4 < ((SM.2 1) ((2 : Int32)).toNatClampNeg).toNatClampNeg := by omega
      have h4_4 := okM_d okm
      have hL4 : lo SM ((it_X8_lays_4 (SM, 0) j_4)).1 := ly4 _ _
      obtain ⟨m4, hm4, hm4b⟩ := ly4n SM j_4
      refine ww_iload_n (pc := 4) X dX8_lays_4 2 rfl rfl ?_
      refine ww_aload_n (pc := 5) X dX8_lays_5 0 rfl rfl ?_
      refine ww_get (pc := 6) (ci := 8) (v := .ref (rM 2)) (C := RX8) (T := TX8) (N := 27) X inX8_lays_8 0 rfl rfl 3 (by decide) (by decide +kernel) rfl dX8_lays_6 ?_
      refine ww_iconst (pc := 9) (v := 2) X dX8_lays_9 (by decide) ?_
      refine ww_iald (pc := 10) (f := (it_X8_lays_4 (SM, 0) j_4).1.2 1) X 2 0 rfl rfl (vl_in (by decide)) dX8_lays_10 ?_
      refine ww_icmp_ge (pc := 11) (tgt := 181) X dX8_lays_11 (by decide) (fun c9 => absurd c9 (lp_ge1e (congrFun (pr_X8_lays_4 (SM, 0) j_4) _) hjB)) (fun _ => ?_)
      refine ww_iconst (pc := 14) (v := 0) X dX8_lays_14 (by decide) ?_
      refine ww_istore_n (pc := 15) (lv' := [(3, .int 0), (0, .ref (rM 0)), (1, .int ((it_X8_lays_4 (SM, 0) j_4).2)), (2, .int (nI j_4))]) X dX8_lays_15 rfl (by decide) rfl ?_
      have L16 : ∀ (k_16 j_16 : Nat), j_16 + k_16 = (((it_X8_lays_4 (SM, 0) j_4).1.2 1) ((4 : Int32)).toNatClampNeg).toNatClampNeg → WW p l e (headSpec wsX8_lays { frames := 2, cells := 0, slots := 0, locals := 49 }).room s m args below meth c 5 D A 0 0 (RQi below args s D A ((f_X8_lays SM).1) (fl [wX8 cI cZ cQ rM ((f_X8_lays SM).2)])) (fl [wX8 cI cZ cQ rM (it_X8_lays_16 ((it_X8_lays_4 (SM, 0) j_4).2) j_4 ((it_X8_lays_4 (SM, 0) j_4).1) ((((it_X8_lays_4 (SM, 0) j_4).1.2 1) ((4 : Int32)).toNatClampNeg).toNatClampNeg))]) [(0, .ref (rM 0)), (1, .int ((it_X8_lays_4 (SM, 0) j_4).2)), (2, .int (nI j_4)), (3, .int (nI ((((it_X8_lays_4 (SM, 0) j_4).1.2 1) ((4 : Int32)).toNatClampNeg).toNatClampNeg)))] 46 [] → WW p l e (headSpec wsX8_lays { frames := 2, cells := 0, slots := 0, locals := 49 }).room s m args below meth c 5 D A 0 0 (RQi below args s D A ((f_X8_lays SM).1) (fl [wX8 cI cZ cQ rM ((f_X8_lays SM).2)])) (fl [wX8 cI cZ cQ rM (it_X8_lays_16 ((it_X8_lays_4 (SM, 0) j_4).2) j_4 ((it_X8_lays_4 (SM, 0) j_4).1) j_16)]) [(0, .ref (rM 0)), (1, .int ((it_X8_lays_4 (SM, 0) j_4).2)), (2, .int (nI j_4)), (3, .int (nI j_16))] 16 [] := by
        intro k_16
        induction k_16 with
        | zero =>
          intro j_16 hj K
          have hjB : j_16 = (((it_X8_lays_4 (SM, 0) j_4).1.2 1) ((4 : Int32)).toNatClampNeg).toNatClampNeg := by omega
          subst hjB
          refine ww_iload_n (pc := 16) X dX8_lays_16 3 rfl rfl ?_
          refine ww_aload_n (pc := 17) X dX8_lays_17 0 rfl rfl ?_
          refine ww_get (pc := 18) (ci := 8) (v := .ref (rM 2)) (C := RX8) (T := TX8) (N := 27) X inX8_lays_8 0 rfl rfl 3 (by decide) (by decide +kernel) rfl dX8_lays_18 ?_
          refine ww_iconst (pc := 21) (v := 4) X dX8_lays_21 (by decide) ?_
          refine ww_iald (pc := 22) (f := (it_X8_lays_16 ((it_X8_lays_4 (SM, 0) j_4).2) j_4 ((it_X8_lays_4 (SM, 0) j_4).1) ((((it_X8_lays_4 (SM, 0) j_4).1.2 1) ((4 : Int32)).toNatClampNeg).toNatClampNeg)).2 1) X 2 0 rfl rfl (vl_in (by decide)) dX8_lays_22 ?_
          exact ww_icmp_ge (pc := 23) (tgt := 46) X dX8_lays_23 (by decide) (fun _ => K) (fun c9 => absurd (lp_ge0e (congrFun (pr_X8_lays_16 ((it_X8_lays_4 (SM, 0) j_4).2) j_4 ((it_X8_lays_4 (SM, 0) j_4).1) ((((it_X8_lays_4 (SM, 0) j_4).1.2 1) ((4 : Int32)).toNatClampNeg).toNatClampNeg)) _) (Nat.le_refl _) (cl_lt _)) c9)
        | succ k_16 ih =>
          intro j_16 hj K
          have hjB : j_16 < (((it_X8_lays_4 (SM, 0) j_4).1.2 1) ((4 : Int32)).toNatClampNeg).toNatClampNeg := by omega
          have h6 : (((it_X8_lays_4 (SM, 0) j_4).1.2 1) ((4 : Int32)).toNatClampNeg).toNatClampNeg ≤ 6 := okM_g (okM_of (lo1 hL4) okm)
          refine ww_iload_n (pc := 16) X dX8_lays_16 3 rfl rfl ?_
          refine ww_aload_n (pc := 17) X dX8_lays_17 0 rfl rfl ?_
          refine ww_get (pc := 18) (ci := 8) (v := .ref (rM 2)) (C := RX8) (T := TX8) (N := 27) X inX8_lays_8 0 rfl rfl 3 (by decide) (by decide +kernel) rfl dX8_lays_18 ?_
          refine ww_iconst (pc := 21) (v := 4) X dX8_lays_21 (by decide) ?_
          refine ww_iald (pc := 22) (f := (it_X8_lays_16 ((it_X8_lays_4 (SM, 0) j_4).2) j_4 ((it_X8_lays_4 (SM, 0) j_4).1) j_16).2 1) X 2 0 rfl rfl (vl_in (by decide)) dX8_lays_22 ?_
          refine ww_icmp_ge (pc := 23) (tgt := 46) X dX8_lays_23 (by decide) (fun c9 => absurd c9 (lp_ge1e (congrFun (pr_X8_lays_16 ((it_X8_lays_4 (SM, 0) j_4).2) j_4 ((it_X8_lays_4 (SM, 0) j_4).1) j_16) _) hjB)) (fun _ => ?_)
          refine ww_aload_n (pc := 26) X dX8_lays_26 0 rfl rfl ?_
          refine ww_get (pc := 27) (ci := 8) (v := .ref (rM 17)) (C := RX8) (T := TX8) (N := 27) X inX8_lays_8 0 rfl rfl 24 (by decide) (by decide +kernel) rfl dX8_lays_27 ?_
          refine ww_iload_n (pc := 30) X dX8_lays_30 3 rfl rfl ?_
          refine ww_aload_n (pc := 31) X dX8_lays_31 0 rfl rfl ?_
          refine ww_get (pc := 32) (ci := 8) (v := .ref (rM 5)) (C := RX8) (T := TX8) (N := 27) X inX8_lays_8 0 rfl rfl 6 (by decide) (by decide +kernel) rfl dX8_lays_32 ?_
          refine ww_iconst (pc := 35) (v := 3) X dX8_lays_35 (by decide) ?_
          refine ww_iload_n (pc := 36) X dX8_lays_36 3 rfl rfl ?_
          refine ww_imul (pc := 37) X dX8_lays_37 ?_
          refine ww_iald (pc := 38) (f := (it_X8_lays_16 ((it_X8_lays_4 (SM, 0) j_4).2) j_4 ((it_X8_lays_4 (SM, 0) j_4).1) j_16).2 4) X 5 0 rfl rfl (vn (m := 3 * j_16) (nat_imul (a := 3) (b := j_16) rfl rfl) (by omega) (by decide)) dX8_lays_38 ?_
          refine ww_iast (pc := 39) (f := (it_X8_lays_16 ((it_X8_lays_4 (SM, 0) j_4).2) j_4 ((it_X8_lays_4 (SM, 0) j_4).1) j_16).2 16) (ws' := fl [wX8 cI cZ cQ rM (sA (it_X8_lays_16 ((it_X8_lays_4 (SM, 0) j_4).2) j_4 ((it_X8_lays_4 (SM, 0) j_4).1) j_16) 16 (upd ((it_X8_lays_16 ((it_X8_lays_4 (SM, 0) j_4).2) j_4 ((it_X8_lays_4 (SM, 0) j_4).1) j_16).2 16) (((nI j_16) : Int32)).toNatClampNeg (((it_X8_lays_16 ((it_X8_lays_4 (SM, 0) j_4).2) j_4 ((it_X8_lays_4 (SM, 0) j_4).1) j_16).2 4) ((3 * (nI j_16) : Int32)).toNatClampNeg)))]) X 17 0 rfl rfl (vn (m := j_16) rfl (by omega) (by decide)) (st8a_16 _ _ _ _ _ _) dX8_lays_39 ?_
          refine ww_iinc (pc := 40) (v := (nI j_16) + 1) (lv' := [(3, .int ((nI j_16) + 1)), (0, .ref (rM 0)), (1, .int ((it_X8_lays_4 (SM, 0) j_4).2)), (2, .int (nI j_4))]) X dX8_lays_40 3 rfl rfl (by decide) rfl ?_
          refine ww_goto (pc := 43) (tgt := 16) X dX8_lays_43 (by decide) ?_
          have h20 : (it_X8_lays_16 ((it_X8_lays_4 (SM, 0) j_4).2) j_4 ((it_X8_lays_4 (SM, 0) j_4).1) (j_16 + 1)) = (sA (it_X8_lays_16 ((it_X8_lays_4 (SM, 0) j_4).2) j_4 ((it_X8_lays_4 (SM, 0) j_4).1) j_16) 16 (upd ((it_X8_lays_16 ((it_X8_lays_4 (SM, 0) j_4).2) j_4 ((it_X8_lays_4 (SM, 0) j_4).1) j_16).2 16) (((nI j_16) : Int32)).toNatClampNeg (((it_X8_lays_16 ((it_X8_lays_4 (SM, 0) j_4).2) j_4 ((it_X8_lays_4 (SM, 0) j_4).1) j_16).2 4) ((3 * (nI j_16) : Int32)).toNatClampNeg))) := by
            show bd_X8_lays_16 ((it_X8_lays_4 (SM, 0) j_4).2) j_4 j_16 (it_X8_lays_16 ((it_X8_lays_4 (SM, 0) j_4).2) j_4 ((it_X8_lays_4 (SM, 0) j_4).1) j_16) = _; unfold bd_X8_lays_16; first | done | rfl
          refine ww_lsub [1, 2, 3, 0] rfl ?_
          exact ww_castI (fun u9 : St => fl [wX8 cI cZ cQ rM u9]) (fun (u9 : St) (i9 : Int32) => ([(0, .ref (rM 0)), (1, .int ((it_X8_lays_4 (SM, 0) j_4).2)), (2, .int (nI j_4)), (3, .int i9)] : List (Nat × Value))) h20 (ih (j_16 + 1) (by omega) K)
      refine ww_lsub [1, 2, 3, 0] rfl ?_
      refine L16 ((((it_X8_lays_4 (SM, 0) j_4).1.2 1) ((4 : Int32)).toNatClampNeg).toNatClampNeg) 0 (by omega) ?_
      generalize hz21 : ((it_X8_lays_16 ((it_X8_lays_4 (SM, 0) j_4).2) j_4 ((it_X8_lays_4 (SM, 0) j_4).1) ((((it_X8_lays_4 (SM, 0) j_4).1.2 1) ((4 : Int32)).toNatClampNeg).toNatClampNeg))) = z21
      have hLz : lo SM z21 := by rw [← hz21]; exact lo_t hL4 (ly16 _ _ _ _)
      refine ww_iconst (pc := 46) (v := 0) X dX8_lays_46 (by decide) ?_
      refine ww_istore_n (pc := 47) (lv' := [(3, .int 0), (0, .ref (rM 0)), (1, .int ((it_X8_lays_4 (SM, 0) j_4).2)), (2, .int (nI j_4))]) X dX8_lays_47 rfl (by decide) rfl ?_
      have L48 : ∀ (k_48 j_48 : Nat), j_48 + k_48 = 31 → WW p l e (headSpec wsX8_lays { frames := 2, cells := 0, slots := 0, locals := 49 }).room s m args below meth c 5 D A 0 0 (RQi below args s D A ((f_X8_lays SM).1) (fl [wX8 cI cZ cQ rM ((f_X8_lays SM).2)])) (fl [wX8 cI cZ cQ rM ((it_X8_lays_48 j_4 (z21, (it_X8_lays_4 (SM, 0) j_4).2) 31).1)]) [(0, .ref (rM 0)), (1, .int ((it_X8_lays_48 j_4 (z21, (it_X8_lays_4 (SM, 0) j_4).2) 31).2)), (2, .int (nI j_4)), (3, .int (nI 31))] 175 [] → WW p l e (headSpec wsX8_lays { frames := 2, cells := 0, slots := 0, locals := 49 }).room s m args below meth c 5 D A 0 0 (RQi below args s D A ((f_X8_lays SM).1) (fl [wX8 cI cZ cQ rM ((f_X8_lays SM).2)])) (fl [wX8 cI cZ cQ rM ((it_X8_lays_48 j_4 (z21, (it_X8_lays_4 (SM, 0) j_4).2) j_48).1)]) [(0, .ref (rM 0)), (1, .int ((it_X8_lays_48 j_4 (z21, (it_X8_lays_4 (SM, 0) j_4).2) j_48).2)), (2, .int (nI j_4)), (3, .int (nI j_48))] 48 [] := by
        intro k_48
        induction k_48 with
        | zero =>
          intro j_48 hj K
          have hjB : j_48 = 31 := by omega
          subst hjB
          refine ww_iload_n (pc := 48) X dX8_lays_48 3 rfl rfl ?_
          refine ww_bipush (pc := 49) (v := 31) X dX8_lays_49 (by decide) ?_
          exact ww_icmp_ge (pc := 51) (tgt := 175) X dX8_lays_51 (by decide) (fun _ => K) (fun c9 => absurd (lp_ge0 rfl (Nat.le_refl _) (by decide)) c9)
        | succ k_48 ih =>
          intro j_48 hj K
          have hjB : j_48 < 31 := by omega
          have hL48 : lo SM ((it_X8_lays_48 j_4 (z21, (it_X8_lays_4 (SM, 0) j_4).2) j_48)).1 := lo_t hLz (ly48 _ _ _)
          obtain ⟨m8, hm8, hm8b⟩ : ∃ k : Nat, ((it_X8_lays_48 j_4 (z21, (it_X8_lays_4 (SM, 0) j_4).2) j_48)).2 = nI k ∧ k ≤ m4 + j_48 := ly48p j_4 _ _ _ hm4 j_48
          refine ww_iload_n (pc := 48) X dX8_lays_48 3 rfl rfl ?_
          refine ww_bipush (pc := 49) (v := 31) X dX8_lays_49 (by decide) ?_
          refine ww_icmp_ge (pc := 51) (tgt := 175) X dX8_lays_51 (by decide) (fun c9 => absurd c9 (lp_ge1 rfl hjB (by decide))) (fun _ => ?_)
          refine ww_aload_n (pc := 54) X dX8_lays_54 0 rfl rfl ?_
          refine ww_iload_n (pc := 55) X dX8_lays_55 3 rfl rfl ?_
          refine ww_aload_n (pc := 56) X dX8_lays_56 0 rfl rfl ?_
          refine ww_get (pc := 57) (ci := 8) (v := .ref (rM 3)) (C := RX8) (T := TX8) (N := 27) X inX8_lays_8 0 rfl rfl 4 (by decide) (by decide +kernel) rfl dX8_lays_57 ?_
          refine ww_iload_n (pc := 60) X dX8_lays_60 2 rfl rfl ?_
          refine ww_iald (pc := 61) (f := (it_X8_lays_48 j_4 (z21, (it_X8_lays_4 (SM, 0) j_4).2) j_48).1.2 2) X 3 0 rfl rfl (vn (m := j_4) rfl (by omega) (by decide)) dX8_lays_61 ?_
          refine ww_imul (pc := 62) X dX8_lays_62 ?_
          refine ww_gVi (pc := 63) (rest := []) (gsN := [wX8 cI cZ cQ rM ((it_X8_lays_48 j_4 (z21, (it_X8_lays_4 (SM, 0) j_4).2) j_48).1)]) (ci := 8) (gi := 0) (qi := 0) X (c_X8_isSo l D cI cZ cQ rM ((it_X8_lays_48 j_4 (z21, (it_X8_lays_4 (SM, 0) j_4).2) j_48).1) ((nI j_48) * (((it_X8_lays_48 j_4 (z21, (it_X8_lays_4 (SM, 0) j_4).2) j_48).1.2 2) (((nI j_4) : Int32)).toNatClampNeg)) (lo_f hL48 okf) (lo_r hL48 (hr1 (by omega)))) gX8_lays_X8_isSo rfl hd_X8_isSo [true] rfl rfl rfl rfl rfl rfl rfl rfl ⟨rfl, rfl⟩ ⟨Nat.le_of_ble_eq_true rfl, Nat.le_of_ble_eq_true rfl⟩ (Nat.le_of_ble_eq_true rfl) ⟨Nat.zero_le _, Nat.zero_le _⟩ dX8_lays_63 ?_
          refine ww_if_eq (pc := 66) (tgt := 123) X dX8_lays_66 (by decide) (fun c22 => ?_) (fun c22 => ?_)
          · refine ww_iconst (pc := 123) (v := 0) X dX8_lays_123 (by decide) ?_
            refine ww_istore (pc := 124) (lv' := [(4, .int 0), (0, .ref (rM 0)), (1, .int ((it_X8_lays_48 j_4 (z21, (it_X8_lays_4 (SM, 0) j_4).2) j_48).2)), (2, .int (nI j_4)), (3, .int (nI j_48))]) X dX8_lays_124 (by decide) rfl ?_
            have L126 : ∀ (k_126 j_126 : Nat), j_126 + k_126 = (((it_X8_lays_48 j_4 (z21, (it_X8_lays_4 (SM, 0) j_4).2) j_48).1.2 1) ((4 : Int32)).toNatClampNeg).toNatClampNeg → WW p l e (headSpec wsX8_lays { frames := 2, cells := 0, slots := 0, locals := 49 }).room s m args below meth c 5 D A 0 0 (RQi below args s D A ((f_X8_lays SM).1) (fl [wX8 cI cZ cQ rM ((f_X8_lays SM).2)])) (fl [wX8 cI cZ cQ rM (it_X8_lays_126 ((it_X8_lays_48 j_4 (z21, (it_X8_lays_4 (SM, 0) j_4).2) j_48).2) j_4 j_48 ((it_X8_lays_48 j_4 (z21, (it_X8_lays_4 (SM, 0) j_4).2) j_48).1) ((((it_X8_lays_48 j_4 (z21, (it_X8_lays_4 (SM, 0) j_4).2) j_48).1.2 1) ((4 : Int32)).toNatClampNeg).toNatClampNeg))]) [(0, .ref (rM 0)), (1, .int ((it_X8_lays_48 j_4 (z21, (it_X8_lays_4 (SM, 0) j_4).2) j_48).2)), (2, .int (nI j_4)), (3, .int (nI j_48)), (4, .int (nI ((((it_X8_lays_48 j_4 (z21, (it_X8_lays_4 (SM, 0) j_4).2) j_48).1.2 1) ((4 : Int32)).toNatClampNeg).toNatClampNeg)))] 169 [] → WW p l e (headSpec wsX8_lays { frames := 2, cells := 0, slots := 0, locals := 49 }).room s m args below meth c 5 D A 0 0 (RQi below args s D A ((f_X8_lays SM).1) (fl [wX8 cI cZ cQ rM ((f_X8_lays SM).2)])) (fl [wX8 cI cZ cQ rM (it_X8_lays_126 ((it_X8_lays_48 j_4 (z21, (it_X8_lays_4 (SM, 0) j_4).2) j_48).2) j_4 j_48 ((it_X8_lays_48 j_4 (z21, (it_X8_lays_4 (SM, 0) j_4).2) j_48).1) j_126)]) [(0, .ref (rM 0)), (1, .int ((it_X8_lays_48 j_4 (z21, (it_X8_lays_4 (SM, 0) j_4).2) j_48).2)), (2, .int (nI j_4)), (3, .int (nI j_48)), (4, .int (nI j_126))] 126 [] := by
              intro k_126
              induction k_126 with
              | zero =>
                intro j_126 hj K
                have hjB : j_126 = (((it_X8_lays_48 j_4 (z21, (it_X8_lays_4 (SM, 0) j_4).2) j_48).1.2 1) ((4 : Int32)).toNatClampNeg).toNatClampNeg := by omega
                subst hjB
                refine ww_iload (pc := 126) X dX8_lays_126 4 rfl ?_
                refine ww_aload_n (pc := 128) X dX8_lays_128 0 rfl rfl ?_
                refine ww_get (pc := 129) (ci := 8) (v := .ref (rM 2)) (C := RX8) (T := TX8) (N := 27) X inX8_lays_8 0 rfl rfl 3 (by decide) (by decide +kernel) rfl dX8_lays_129 ?_
                refine ww_iconst (pc := 132) (v := 4) X dX8_lays_132 (by decide) ?_
                refine ww_iald (pc := 133) (f := (it_X8_lays_126 ((it_X8_lays_48 j_4 (z21, (it_X8_lays_4 (SM, 0) j_4).2) j_48).2) j_4 j_48 ((it_X8_lays_48 j_4 (z21, (it_X8_lays_4 (SM, 0) j_4).2) j_48).1) ((((it_X8_lays_48 j_4 (z21, (it_X8_lays_4 (SM, 0) j_4).2) j_48).1.2 1) ((4 : Int32)).toNatClampNeg).toNatClampNeg)).2 1) X 2 0 rfl rfl (vl_in (by decide)) dX8_lays_133 ?_
                exact ww_icmp_ge (pc := 134) (tgt := 169) X dX8_lays_134 (by decide) (fun _ => K) (fun c9 => absurd (lp_ge0e (congrFun (pr_X8_lays_126 ((it_X8_lays_48 j_4 (z21, (it_X8_lays_4 (SM, 0) j_4).2) j_48).2) j_4 j_48 ((it_X8_lays_48 j_4 (z21, (it_X8_lays_4 (SM, 0) j_4).2) j_48).1) ((((it_X8_lays_48 j_4 (z21, (it_X8_lays_4 (SM, 0) j_4).2) j_48).1.2 1) ((4 : Int32)).toNatClampNeg).toNatClampNeg)) _) (Nat.le_refl _) (cl_lt _)) c9)
              | succ k_126 ih =>
                intro j_126 hj K
                have hjB : j_126 < (((it_X8_lays_48 j_4 (z21, (it_X8_lays_4 (SM, 0) j_4).2) j_48).1.2 1) ((4 : Int32)).toNatClampNeg).toNatClampNeg := by omega
                have h6 : (((it_X8_lays_48 j_4 (z21, (it_X8_lays_4 (SM, 0) j_4).2) j_48).1.2 1) ((4 : Int32)).toNatClampNeg).toNatClampNeg ≤ 6 := okM_g (okM_of (lo1 (by first | exact hLw | exact hL48)) okm)
                refine ww_iload (pc := 126) X dX8_lays_126 4 rfl ?_
                refine ww_aload_n (pc := 128) X dX8_lays_128 0 rfl rfl ?_
                refine ww_get (pc := 129) (ci := 8) (v := .ref (rM 2)) (C := RX8) (T := TX8) (N := 27) X inX8_lays_8 0 rfl rfl 3 (by decide) (by decide +kernel) rfl dX8_lays_129 ?_
                refine ww_iconst (pc := 132) (v := 4) X dX8_lays_132 (by decide) ?_
                refine ww_iald (pc := 133) (f := (it_X8_lays_126 ((it_X8_lays_48 j_4 (z21, (it_X8_lays_4 (SM, 0) j_4).2) j_48).2) j_4 j_48 ((it_X8_lays_48 j_4 (z21, (it_X8_lays_4 (SM, 0) j_4).2) j_48).1) j_126).2 1) X 2 0 rfl rfl (vl_in (by decide)) dX8_lays_133 ?_
                refine ww_icmp_ge (pc := 134) (tgt := 169) X dX8_lays_134 (by decide) (fun c9 => absurd c9 (lp_ge1e (congrFun (pr_X8_lays_126 ((it_X8_lays_48 j_4 (z21, (it_X8_lays_4 (SM, 0) j_4).2) j_48).2) j_4 j_48 ((it_X8_lays_48 j_4 (z21, (it_X8_lays_4 (SM, 0) j_4).2) j_48).1) j_126) _) hjB)) (fun _ => ?_)
                refine ww_aload_n (pc := 137) X dX8_lays_137 0 rfl rfl ?_
                refine ww_get (pc := 138) (ci := 8) (v := .ref (rM 17)) (C := RX8) (T := TX8) (N := 27) X inX8_lays_8 0 rfl rfl 24 (by decide) (by decide +kernel) rfl dX8_lays_138 ?_
                refine ww_iload (pc := 141) X dX8_lays_141 4 rfl ?_
                refine ww_aload_n (pc := 143) X dX8_lays_143 0 rfl rfl ?_
                refine ww_iload (pc := 144) X dX8_lays_144 4 rfl ?_
                refine ww_aload_n (pc := 146) X dX8_lays_146 0 rfl rfl ?_
                refine ww_get (pc := 147) (ci := 8) (v := .ref (rM 17)) (C := RX8) (T := TX8) (N := 27) X inX8_lays_8 0 rfl rfl 24 (by decide) (by decide +kernel) rfl dX8_lays_147 ?_
                refine ww_iload (pc := 150) X dX8_lays_150 4 rfl ?_
                refine ww_iald (pc := 152) (f := (it_X8_lays_126 ((it_X8_lays_48 j_4 (z21, (it_X8_lays_4 (SM, 0) j_4).2) j_48).2) j_4 j_48 ((it_X8_lays_48 j_4 (z21, (it_X8_lays_4 (SM, 0) j_4).2) j_48).1) j_126).2 16) X 17 0 rfl rfl (vn (m := j_126) rfl (by omega) (by decide)) dX8_lays_152 ?_
                refine ww_aload_n (pc := 153) X dX8_lays_153 0 rfl rfl ?_
                refine ww_get (pc := 154) (ci := 8) (v := .ref (rM 3)) (C := RX8) (T := TX8) (N := 27) X inX8_lays_8 0 rfl rfl 4 (by decide) (by decide +kernel) rfl dX8_lays_154 ?_
                refine ww_iload_n (pc := 157) X dX8_lays_157 2 rfl rfl ?_
                refine ww_iald (pc := 158) (f := (it_X8_lays_126 ((it_X8_lays_48 j_4 (z21, (it_X8_lays_4 (SM, 0) j_4).2) j_48).2) j_4 j_48 ((it_X8_lays_48 j_4 (z21, (it_X8_lays_4 (SM, 0) j_4).2) j_48).1) j_126).2 2) X 3 0 rfl rfl (vn (m := j_4) rfl (by omega) (by decide)) dX8_lays_158 ?_
                refine ww_gVi (pc := 159) (rest := [.int (nI j_126), .ref (rM 17)]) (gsN := [wX8 cI cZ cQ rM (it_X8_lays_126 ((it_X8_lays_48 j_4 (z21, (it_X8_lays_4 (SM, 0) j_4).2) j_48).2) j_4 j_48 ((it_X8_lays_48 j_4 (z21, (it_X8_lays_4 (SM, 0) j_4).2) j_48).1) j_126)]) (ci := 8) (gi := 0) (qi := 0) X (c_X8_worthIn l D cI cZ cQ rM (it_X8_lays_126 ((it_X8_lays_48 j_4 (z21, (it_X8_lays_4 (SM, 0) j_4).2) j_48).2) j_4 j_48 ((it_X8_lays_48 j_4 (z21, (it_X8_lays_4 (SM, 0) j_4).2) j_48).1) j_126) (nI j_126) (((it_X8_lays_126 ((it_X8_lays_48 j_4 (z21, (it_X8_lays_4 (SM, 0) j_4).2) j_48).2) j_4 j_48 ((it_X8_lays_48 j_4 (z21, (it_X8_lays_4 (SM, 0) j_4).2) j_48).1) j_126).2 16) (((nI j_126) : Int32)).toNatClampNeg) (((it_X8_lays_126 ((it_X8_lays_48 j_4 (z21, (it_X8_lays_4 (SM, 0) j_4).2) j_48).2) j_4 j_48 ((it_X8_lays_48 j_4 (z21, (it_X8_lays_4 (SM, 0) j_4).2) j_48).1) j_126).2 2) (((nI j_4) : Int32)).toNatClampNeg) (vn (m := j_126) rfl (by omega) (by decide))) gX8_lays_X8_worthIn rfl hd_X8_worthIn [true] rfl rfl rfl rfl rfl rfl rfl rfl ⟨rfl, rfl⟩ ⟨Nat.le_of_ble_eq_true rfl, Nat.le_of_ble_eq_true rfl⟩ (Nat.le_of_ble_eq_true rfl) ⟨Nat.zero_le _, Nat.zero_le _⟩ dX8_lays_159 ?_
                refine ww_iast (pc := 162) (f := (it_X8_lays_126 ((it_X8_lays_48 j_4 (z21, (it_X8_lays_4 (SM, 0) j_4).2) j_48).2) j_4 j_48 ((it_X8_lays_48 j_4 (z21, (it_X8_lays_4 (SM, 0) j_4).2) j_48).1) j_126).2 16) (ws' := fl [wX8 cI cZ cQ rM (sA (it_X8_lays_126 ((it_X8_lays_48 j_4 (z21, (it_X8_lays_4 (SM, 0) j_4).2) j_48).2) j_4 j_48 ((it_X8_lays_48 j_4 (z21, (it_X8_lays_4 (SM, 0) j_4).2) j_48).1) j_126) 16 (upd ((it_X8_lays_126 ((it_X8_lays_48 j_4 (z21, (it_X8_lays_4 (SM, 0) j_4).2) j_48).2) j_4 j_48 ((it_X8_lays_48 j_4 (z21, (it_X8_lays_4 (SM, 0) j_4).2) j_48).1) j_126).2 16) (((nI j_126) : Int32)).toNatClampNeg (f_X8_worthIn (it_X8_lays_126 ((it_X8_lays_48 j_4 (z21, (it_X8_lays_4 (SM, 0) j_4).2) j_48).2) j_4 j_48 ((it_X8_lays_48 j_4 (z21, (it_X8_lays_4 (SM, 0) j_4).2) j_48).1) j_126) (nI j_126) (((it_X8_lays_126 ((it_X8_lays_48 j_4 (z21, (it_X8_lays_4 (SM, 0) j_4).2) j_48).2) j_4 j_48 ((it_X8_lays_48 j_4 (z21, (it_X8_lays_4 (SM, 0) j_4).2) j_48).1) j_126).2 16) (((nI j_126) : Int32)).toNatClampNeg) (((it_X8_lays_126 ((it_X8_lays_48 j_4 (z21, (it_X8_lays_4 (SM, 0) j_4).2) j_48).2) j_4 j_48 ((it_X8_lays_48 j_4 (z21, (it_X8_lays_4 (SM, 0) j_4).2) j_48).1) j_126).2 2) (((nI j_4) : Int32)).toNatClampNeg))))]) X 17 0 rfl rfl (vn (m := j_126) rfl (by omega) (by decide)) (st8a_16 _ _ _ _ _ _) dX8_lays_162 ?_
                refine ww_iinc (pc := 163) (v := (nI j_126) + 1) (lv' := [(4, .int ((nI j_126) + 1)), (0, .ref (rM 0)), (1, .int ((it_X8_lays_48 j_4 (z21, (it_X8_lays_4 (SM, 0) j_4).2) j_48).2)), (2, .int (nI j_4)), (3, .int (nI j_48))]) X dX8_lays_163 4 rfl rfl (by decide) rfl ?_
                refine ww_goto (pc := 166) (tgt := 126) X dX8_lays_166 (by decide) ?_
                have h23 : (it_X8_lays_126 ((it_X8_lays_48 j_4 (z21, (it_X8_lays_4 (SM, 0) j_4).2) j_48).2) j_4 j_48 ((it_X8_lays_48 j_4 (z21, (it_X8_lays_4 (SM, 0) j_4).2) j_48).1) (j_126 + 1)) = (sA (it_X8_lays_126 ((it_X8_lays_48 j_4 (z21, (it_X8_lays_4 (SM, 0) j_4).2) j_48).2) j_4 j_48 ((it_X8_lays_48 j_4 (z21, (it_X8_lays_4 (SM, 0) j_4).2) j_48).1) j_126) 16 (upd ((it_X8_lays_126 ((it_X8_lays_48 j_4 (z21, (it_X8_lays_4 (SM, 0) j_4).2) j_48).2) j_4 j_48 ((it_X8_lays_48 j_4 (z21, (it_X8_lays_4 (SM, 0) j_4).2) j_48).1) j_126).2 16) (((nI j_126) : Int32)).toNatClampNeg (f_X8_worthIn (it_X8_lays_126 ((it_X8_lays_48 j_4 (z21, (it_X8_lays_4 (SM, 0) j_4).2) j_48).2) j_4 j_48 ((it_X8_lays_48 j_4 (z21, (it_X8_lays_4 (SM, 0) j_4).2) j_48).1) j_126) (nI j_126) (((it_X8_lays_126 ((it_X8_lays_48 j_4 (z21, (it_X8_lays_4 (SM, 0) j_4).2) j_48).2) j_4 j_48 ((it_X8_lays_48 j_4 (z21, (it_X8_lays_4 (SM, 0) j_4).2) j_48).1) j_126).2 16) (((nI j_126) : Int32)).toNatClampNeg) (((it_X8_lays_126 ((it_X8_lays_48 j_4 (z21, (it_X8_lays_4 (SM, 0) j_4).2) j_48).2) j_4 j_48 ((it_X8_lays_48 j_4 (z21, (it_X8_lays_4 (SM, 0) j_4).2) j_48).1) j_126).2 2) (((nI j_4) : Int32)).toNatClampNeg)))) := by
                  show bd_X8_lays_126 ((it_X8_lays_48 j_4 (z21, (it_X8_lays_4 (SM, 0) j_4).2) j_48).2) j_4 j_48 j_126 (it_X8_lays_126 ((it_X8_lays_48 j_4 (z21, (it_X8_lays_4 (SM, 0) j_4).2) j_48).2) j_4 j_48 ((it_X8_lays_48 j_4 (z21, (it_X8_lays_4 (SM, 0) j_4).2) j_48).1) j_126) = _; unfold bd_X8_lays_126; first | done | rfl
                refine ww_lsub [1, 2, 3, 4, 0] rfl ?_
                exact ww_castI (fun u9 : St => fl [wX8 cI cZ cQ rM u9]) (fun (u9 : St) (i9 : Int32) => ([(0, .ref (rM 0)), (1, .int ((it_X8_lays_48 j_4 (z21, (it_X8_lays_4 (SM, 0) j_4).2) j_48).2)), (2, .int (nI j_4)), (3, .int (nI j_48)), (4, .int i9)] : List (Nat × Value))) h23 (ih (j_126 + 1) (by omega) K)
            refine ww_lsub [1, 2, 3, 4, 0] rfl ?_
            refine L126 ((((it_X8_lays_48 j_4 (z21, (it_X8_lays_4 (SM, 0) j_4).2) j_48).1.2 1) ((4 : Int32)).toNatClampNeg).toNatClampNeg) 0 (by omega) ?_
            generalize hz24 : ((it_X8_lays_126 ((it_X8_lays_48 j_4 (z21, (it_X8_lays_4 (SM, 0) j_4).2) j_48).2) j_4 j_48 ((it_X8_lays_48 j_4 (z21, (it_X8_lays_4 (SM, 0) j_4).2) j_48).1) ((((it_X8_lays_48 j_4 (z21, (it_X8_lays_4 (SM, 0) j_4).2) j_48).1.2 1) ((4 : Int32)).toNatClampNeg).toNatClampNeg))) = z24
            refine ww_iinc (pc := 169) (v := (nI j_48) + 1) (lv' := [(3, .int ((nI j_48) + 1)), (0, .ref (rM 0)), (1, .int ((it_X8_lays_48 j_4 (z21, (it_X8_lays_4 (SM, 0) j_4).2) j_48).2)), (2, .int (nI j_4)), (4, .int (nI ((((it_X8_lays_48 j_4 (z21, (it_X8_lays_4 (SM, 0) j_4).2) j_48).1.2 1) ((4 : Int32)).toNatClampNeg).toNatClampNeg)))]) X dX8_lays_169 3 rfl rfl (by decide) rfl ?_
            refine ww_goto (pc := 172) (tgt := 48) X dX8_lays_172 (by decide) ?_
            have h25 : (it_X8_lays_48 j_4 (z21, (it_X8_lays_4 (SM, 0) j_4).2) (j_48 + 1)) = (z24, (it_X8_lays_48 j_4 (z21, (it_X8_lays_4 (SM, 0) j_4).2) j_48).2) := by
              show bd_X8_lays_48 j_4 j_48 (it_X8_lays_48 j_4 (z21, (it_X8_lays_4 (SM, 0) j_4).2) j_48) = _; unfold bd_X8_lays_48; try rw [if_pos c22, hz24]; try unfold bd_X8_lays_48_k1; first | done | rfl
            refine ww_lsub [1, 2, 3, 0] rfl ?_
            exact ww_castI (fun u9 : St × Int32 => fl [wX8 cI cZ cQ rM u9.1]) (fun (u9 : St × Int32) (i9 : Int32) => ([(0, .ref (rM 0)), (1, .int u9.2), (2, .int (nI j_4)), (3, .int i9)] : List (Nat × Value))) h25 (ih (j_48 + 1) (by omega) K)
          · refine ww_aload_n (pc := 69) X dX8_lays_69 0 rfl rfl ?_
            refine ww_get (pc := 70) (ci := 8) (v := .ref (rM 18)) (C := RX8) (T := TX8) (N := 27) X inX8_lays_8 0 rfl rfl 25 (by decide) (by decide +kernel) rfl dX8_lays_70 ?_
            refine ww_iload_n (pc := 73) X dX8_lays_73 1 rfl rfl ?_
            refine ww_bipush (pc := 74) (v := 100) X dX8_lays_74 (by decide) ?_
            refine ww_iload_n (pc := 76) X dX8_lays_76 2 rfl rfl ?_
            refine ww_imul (pc := 77) X dX8_lays_77 ?_
            refine ww_iload_n (pc := 78) X dX8_lays_78 3 rfl rfl ?_
            refine ww_iadd (pc := 79) X dX8_lays_79 ?_
            refine ww_iast (pc := 80) (f := (it_X8_lays_48 j_4 (z21, (it_X8_lays_4 (SM, 0) j_4).2) j_48).1.2 17) (ws' := fl [wX8 cI cZ cQ rM (sA (it_X8_lays_48 j_4 (z21, (it_X8_lays_4 (SM, 0) j_4).2) j_48).1 17 (upd ((it_X8_lays_48 j_4 (z21, (it_X8_lays_4 (SM, 0) j_4).2) j_48).1.2 17) (((it_X8_lays_48 j_4 (z21, (it_X8_lays_4 (SM, 0) j_4).2) j_48).2 : Int32)).toNatClampNeg ((100 * (nI j_4)) + (nI j_48))))]) X 18 0 rfl rfl (vn (m := m8) hm8 (by omega) (by decide)) (st8a_17 _ _ _ _ _ _) dX8_lays_80 ?_
            refine ww_iconst (pc := 81) (v := 0) X dX8_lays_81 (by decide) ?_
            refine ww_istore (pc := 82) (lv' := [(4, .int 0), (0, .ref (rM 0)), (1, .int ((it_X8_lays_48 j_4 (z21, (it_X8_lays_4 (SM, 0) j_4).2) j_48).2)), (2, .int (nI j_4)), (3, .int (nI j_48))]) X dX8_lays_82 (by decide) rfl ?_
            have L84 : ∀ (k_84 j_84 : Nat), j_84 + k_84 = (((it_X8_lays_48 j_4 (z21, (it_X8_lays_4 (SM, 0) j_4).2) j_48).1.2 1) ((4 : Int32)).toNatClampNeg).toNatClampNeg → WW p l e (headSpec wsX8_lays { frames := 2, cells := 0, slots := 0, locals := 49 }).room s m args below meth c 5 D A 0 0 (RQi below args s D A ((f_X8_lays SM).1) (fl [wX8 cI cZ cQ rM ((f_X8_lays SM).2)])) (fl [wX8 cI cZ cQ rM (it_X8_lays_84 ((it_X8_lays_48 j_4 (z21, (it_X8_lays_4 (SM, 0) j_4).2) j_48).2) j_4 j_48 (sA (it_X8_lays_48 j_4 (z21, (it_X8_lays_4 (SM, 0) j_4).2) j_48).1 17 (upd ((it_X8_lays_48 j_4 (z21, (it_X8_lays_4 (SM, 0) j_4).2) j_48).1.2 17) (((it_X8_lays_48 j_4 (z21, (it_X8_lays_4 (SM, 0) j_4).2) j_48).2 : Int32)).toNatClampNeg ((100 * (nI j_4)) + (nI j_48)))) ((((it_X8_lays_48 j_4 (z21, (it_X8_lays_4 (SM, 0) j_4).2) j_48).1.2 1) ((4 : Int32)).toNatClampNeg).toNatClampNeg))]) [(0, .ref (rM 0)), (1, .int ((it_X8_lays_48 j_4 (z21, (it_X8_lays_4 (SM, 0) j_4).2) j_48).2)), (2, .int (nI j_4)), (3, .int (nI j_48)), (4, .int (nI ((((it_X8_lays_48 j_4 (z21, (it_X8_lays_4 (SM, 0) j_4).2) j_48).1.2 1) ((4 : Int32)).toNatClampNeg).toNatClampNeg)))] 120 [] → WW p l e (headSpec wsX8_lays { frames := 2, cells := 0, slots := 0, locals := 49 }).room s m args below meth c 5 D A 0 0 (RQi below args s D A ((f_X8_lays SM).1) (fl [wX8 cI cZ cQ rM ((f_X8_lays SM).2)])) (fl [wX8 cI cZ cQ rM (it_X8_lays_84 ((it_X8_lays_48 j_4 (z21, (it_X8_lays_4 (SM, 0) j_4).2) j_48).2) j_4 j_48 (sA (it_X8_lays_48 j_4 (z21, (it_X8_lays_4 (SM, 0) j_4).2) j_48).1 17 (upd ((it_X8_lays_48 j_4 (z21, (it_X8_lays_4 (SM, 0) j_4).2) j_48).1.2 17) (((it_X8_lays_48 j_4 (z21, (it_X8_lays_4 (SM, 0) j_4).2) j_48).2 : Int32)).toNatClampNeg ((100 * (nI j_4)) + (nI j_48)))) j_84)]) [(0, .ref (rM 0)), (1, .int ((it_X8_lays_48 j_4 (z21, (it_X8_lays_4 (SM, 0) j_4).2) j_48).2)), (2, .int (nI j_4)), (3, .int (nI j_48)), (4, .int (nI j_84))] 84 [] := by
              intro k_84
              induction k_84 with
              | zero =>
                intro j_84 hj K
                have hjB : j_84 = (((it_X8_lays_48 j_4 (z21, (it_X8_lays_4 (SM, 0) j_4).2) j_48).1.2 1) ((4 : Int32)).toNatClampNeg).toNatClampNeg := by omega
                subst hjB
                refine ww_iload (pc := 84) X dX8_lays_84 4 rfl ?_
                refine ww_aload_n (pc := 86) X dX8_lays_86 0 rfl rfl ?_
                refine ww_get (pc := 87) (ci := 8) (v := .ref (rM 2)) (C := RX8) (T := TX8) (N := 27) X inX8_lays_8 0 rfl rfl 3 (by decide) (by decide +kernel) rfl dX8_lays_87 ?_
                refine ww_iconst (pc := 90) (v := 4) X dX8_lays_90 (by decide) ?_
                refine ww_iald (pc := 91) (f := (it_X8_lays_84 ((it_X8_lays_48 j_4 (z21, (it_X8_lays_4 (SM, 0) j_4).2) j_48).2) j_4 j_48 (sA (it_X8_lays_48 j_4 (z21, (it_X8_lays_4 (SM, 0) j_4).2) j_48).1 17 (upd ((it_X8_lays_48 j_4 (z21, (it_X8_lays_4 (SM, 0) j_4).2) j_48).1.2 17) (((it_X8_lays_48 j_4 (z21, (it_X8_lays_4 (SM, 0) j_4).2) j_48).2 : Int32)).toNatClampNeg ((100 * (nI j_4)) + (nI j_48)))) ((((it_X8_lays_48 j_4 (z21, (it_X8_lays_4 (SM, 0) j_4).2) j_48).1.2 1) ((4 : Int32)).toNatClampNeg).toNatClampNeg)).2 1) X 2 0 rfl rfl (vl_in (by decide)) dX8_lays_91 ?_
                exact ww_icmp_ge (pc := 92) (tgt := 120) X dX8_lays_92 (by decide) (fun _ => K) (fun c9 => absurd (lp_ge0e (congrFun ((pr_X8_lays_84 ((it_X8_lays_48 j_4 (z21, (it_X8_lays_4 (SM, 0) j_4).2) j_48).2) j_4 j_48 (sA (it_X8_lays_48 j_4 (z21, (it_X8_lays_4 (SM, 0) j_4).2) j_48).1 17 (upd ((it_X8_lays_48 j_4 (z21, (it_X8_lays_4 (SM, 0) j_4).2) j_48).1.2 17) (((it_X8_lays_48 j_4 (z21, (it_X8_lays_4 (SM, 0) j_4).2) j_48).2 : Int32)).toNatClampNeg ((100 * (nI j_4)) + (nI j_48)))) ((((it_X8_lays_48 j_4 (z21, (it_X8_lays_4 (SM, 0) j_4).2) j_48).1.2 1) ((4 : Int32)).toNatClampNeg).toNatClampNeg)).trans (sA_ne (by decide))) _) (Nat.le_refl _) (cl_lt _)) c9)
              | succ k_84 ih =>
                intro j_84 hj K
                have hjB : j_84 < (((it_X8_lays_48 j_4 (z21, (it_X8_lays_4 (SM, 0) j_4).2) j_48).1.2 1) ((4 : Int32)).toNatClampNeg).toNatClampNeg := by omega
                have h6 : (((it_X8_lays_48 j_4 (z21, (it_X8_lays_4 (SM, 0) j_4).2) j_48).1.2 1) ((4 : Int32)).toNatClampNeg).toNatClampNeg ≤ 6 := okM_g (okM_of (lo1 hL48) okm)
                refine ww_iload (pc := 84) X dX8_lays_84 4 rfl ?_
                refine ww_aload_n (pc := 86) X dX8_lays_86 0 rfl rfl ?_
                refine ww_get (pc := 87) (ci := 8) (v := .ref (rM 2)) (C := RX8) (T := TX8) (N := 27) X inX8_lays_8 0 rfl rfl 3 (by decide) (by decide +kernel) rfl dX8_lays_87 ?_
                refine ww_iconst (pc := 90) (v := 4) X dX8_lays_90 (by decide) ?_
                refine ww_iald (pc := 91) (f := (it_X8_lays_84 ((it_X8_lays_48 j_4 (z21, (it_X8_lays_4 (SM, 0) j_4).2) j_48).2) j_4 j_48 (sA (it_X8_lays_48 j_4 (z21, (it_X8_lays_4 (SM, 0) j_4).2) j_48).1 17 (upd ((it_X8_lays_48 j_4 (z21, (it_X8_lays_4 (SM, 0) j_4).2) j_48).1.2 17) (((it_X8_lays_48 j_4 (z21, (it_X8_lays_4 (SM, 0) j_4).2) j_48).2 : Int32)).toNatClampNeg ((100 * (nI j_4)) + (nI j_48)))) j_84).2 1) X 2 0 rfl rfl (vl_in (by decide)) dX8_lays_91 ?_
                refine ww_icmp_ge (pc := 92) (tgt := 120) X dX8_lays_92 (by decide) (fun c9 => absurd c9 (lp_ge1e (congrFun ((pr_X8_lays_84 ((it_X8_lays_48 j_4 (z21, (it_X8_lays_4 (SM, 0) j_4).2) j_48).2) j_4 j_48 (sA (it_X8_lays_48 j_4 (z21, (it_X8_lays_4 (SM, 0) j_4).2) j_48).1 17 (upd ((it_X8_lays_48 j_4 (z21, (it_X8_lays_4 (SM, 0) j_4).2) j_48).1.2 17) (((it_X8_lays_48 j_4 (z21, (it_X8_lays_4 (SM, 0) j_4).2) j_48).2 : Int32)).toNatClampNeg ((100 * (nI j_4)) + (nI j_48)))) j_84).trans (sA_ne (by decide))) _) hjB)) (fun _ => ?_)
                refine ww_aload_n (pc := 95) X dX8_lays_95 0 rfl rfl ?_
                refine ww_get (pc := 96) (ci := 8) (v := .ref (rM 19)) (C := RX8) (T := TX8) (N := 27) X inX8_lays_8 0 rfl rfl 26 (by decide) (by decide +kernel) rfl dX8_lays_96 ?_
                refine ww_bipush (pc := 99) (v := 6) X dX8_lays_99 (by decide) ?_
                refine ww_iload_n (pc := 101) X dX8_lays_101 1 rfl rfl ?_
                refine ww_imul (pc := 102) X dX8_lays_102 ?_
                refine ww_iload (pc := 103) X dX8_lays_103 4 rfl ?_
                refine ww_iadd (pc := 105) X dX8_lays_105 ?_
                refine ww_aload_n (pc := 106) X dX8_lays_106 0 rfl rfl ?_
                refine ww_get (pc := 107) (ci := 8) (v := .ref (rM 17)) (C := RX8) (T := TX8) (N := 27) X inX8_lays_8 0 rfl rfl 24 (by decide) (by decide +kernel) rfl dX8_lays_107 ?_
                refine ww_iload (pc := 110) X dX8_lays_110 4 rfl ?_
                refine ww_iald (pc := 112) (f := (it_X8_lays_84 ((it_X8_lays_48 j_4 (z21, (it_X8_lays_4 (SM, 0) j_4).2) j_48).2) j_4 j_48 (sA (it_X8_lays_48 j_4 (z21, (it_X8_lays_4 (SM, 0) j_4).2) j_48).1 17 (upd ((it_X8_lays_48 j_4 (z21, (it_X8_lays_4 (SM, 0) j_4).2) j_48).1.2 17) (((it_X8_lays_48 j_4 (z21, (it_X8_lays_4 (SM, 0) j_4).2) j_48).2 : Int32)).toNatClampNeg ((100 * (nI j_4)) + (nI j_48)))) j_84).2 16) X 17 0 rfl rfl (vn (m := j_84) rfl (by omega) (by decide)) dX8_lays_112 ?_
                refine ww_iast (pc := 113) (f := (it_X8_lays_84 ((it_X8_lays_48 j_4 (z21, (it_X8_lays_4 (SM, 0) j_4).2) j_48).2) j_4 j_48 (sA (it_X8_lays_48 j_4 (z21, (it_X8_lays_4 (SM, 0) j_4).2) j_48).1 17 (upd ((it_X8_lays_48 j_4 (z21, (it_X8_lays_4 (SM, 0) j_4).2) j_48).1.2 17) (((it_X8_lays_48 j_4 (z21, (it_X8_lays_4 (SM, 0) j_4).2) j_48).2 : Int32)).toNatClampNeg ((100 * (nI j_4)) + (nI j_48)))) j_84).2 18) (ws' := fl [wX8 cI cZ cQ rM (sA (it_X8_lays_84 ((it_X8_lays_48 j_4 (z21, (it_X8_lays_4 (SM, 0) j_4).2) j_48).2) j_4 j_48 (sA (it_X8_lays_48 j_4 (z21, (it_X8_lays_4 (SM, 0) j_4).2) j_48).1 17 (upd ((it_X8_lays_48 j_4 (z21, (it_X8_lays_4 (SM, 0) j_4).2) j_48).1.2 17) (((it_X8_lays_48 j_4 (z21, (it_X8_lays_4 (SM, 0) j_4).2) j_48).2 : Int32)).toNatClampNeg ((100 * (nI j_4)) + (nI j_48)))) j_84) 18 (upd ((it_X8_lays_84 ((it_X8_lays_48 j_4 (z21, (it_X8_lays_4 (SM, 0) j_4).2) j_48).2) j_4 j_48 (sA (it_X8_lays_48 j_4 (z21, (it_X8_lays_4 (SM, 0) j_4).2) j_48).1 17 (upd ((it_X8_lays_48 j_4 (z21, (it_X8_lays_4 (SM, 0) j_4).2) j_48).1.2 17) (((it_X8_lays_48 j_4 (z21, (it_X8_lays_4 (SM, 0) j_4).2) j_48).2 : Int32)).toNatClampNeg ((100 * (nI j_4)) + (nI j_48)))) j_84).2 18) (((6 * ((it_X8_lays_48 j_4 (z21, (it_X8_lays_4 (SM, 0) j_4).2) j_48).2)) + (nI j_84) : Int32)).toNatClampNeg (((it_X8_lays_84 ((it_X8_lays_48 j_4 (z21, (it_X8_lays_4 (SM, 0) j_4).2) j_48).2) j_4 j_48 (sA (it_X8_lays_48 j_4 (z21, (it_X8_lays_4 (SM, 0) j_4).2) j_48).1 17 (upd ((it_X8_lays_48 j_4 (z21, (it_X8_lays_4 (SM, 0) j_4).2) j_48).1.2 17) (((it_X8_lays_48 j_4 (z21, (it_X8_lays_4 (SM, 0) j_4).2) j_48).2 : Int32)).toNatClampNeg ((100 * (nI j_4)) + (nI j_48)))) j_84).2 16) (((nI j_84) : Int32)).toNatClampNeg)))]) X 19 0 rfl rfl (vn (m := 6 * m8 + j_84) (nat_iadd (a := 6 * m8) (b := j_84) (nat_imul (a := 6) (b := m8) rfl hm8) rfl) (by omega) (by decide)) (st8a_18 _ _ _ _ _ _) dX8_lays_113 ?_
                refine ww_iinc (pc := 114) (v := (nI j_84) + 1) (lv' := [(4, .int ((nI j_84) + 1)), (0, .ref (rM 0)), (1, .int ((it_X8_lays_48 j_4 (z21, (it_X8_lays_4 (SM, 0) j_4).2) j_48).2)), (2, .int (nI j_4)), (3, .int (nI j_48))]) X dX8_lays_114 4 rfl rfl (by decide) rfl ?_
                refine ww_goto (pc := 117) (tgt := 84) X dX8_lays_117 (by decide) ?_
                have h26 : (it_X8_lays_84 ((it_X8_lays_48 j_4 (z21, (it_X8_lays_4 (SM, 0) j_4).2) j_48).2) j_4 j_48 (sA (it_X8_lays_48 j_4 (z21, (it_X8_lays_4 (SM, 0) j_4).2) j_48).1 17 (upd ((it_X8_lays_48 j_4 (z21, (it_X8_lays_4 (SM, 0) j_4).2) j_48).1.2 17) (((it_X8_lays_48 j_4 (z21, (it_X8_lays_4 (SM, 0) j_4).2) j_48).2 : Int32)).toNatClampNeg ((100 * (nI j_4)) + (nI j_48)))) (j_84 + 1)) = (sA (it_X8_lays_84 ((it_X8_lays_48 j_4 (z21, (it_X8_lays_4 (SM, 0) j_4).2) j_48).2) j_4 j_48 (sA (it_X8_lays_48 j_4 (z21, (it_X8_lays_4 (SM, 0) j_4).2) j_48).1 17 (upd ((it_X8_lays_48 j_4 (z21, (it_X8_lays_4 (SM, 0) j_4).2) j_48).1.2 17) (((it_X8_lays_48 j_4 (z21, (it_X8_lays_4 (SM, 0) j_4).2) j_48).2 : Int32)).toNatClampNeg ((100 * (nI j_4)) + (nI j_48)))) j_84) 18 (upd ((it_X8_lays_84 ((it_X8_lays_48 j_4 (z21, (it_X8_lays_4 (SM, 0) j_4).2) j_48).2) j_4 j_48 (sA (it_X8_lays_48 j_4 (z21, (it_X8_lays_4 (SM, 0) j_4).2) j_48).1 17 (upd ((it_X8_lays_48 j_4 (z21, (it_X8_lays_4 (SM, 0) j_4).2) j_48).1.2 17) (((it_X8_lays_48 j_4 (z21, (it_X8_lays_4 (SM, 0) j_4).2) j_48).2 : Int32)).toNatClampNeg ((100 * (nI j_4)) + (nI j_48)))) j_84).2 18) (((6 * ((it_X8_lays_48 j_4 (z21, (it_X8_lays_4 (SM, 0) j_4).2) j_48).2)) + (nI j_84) : Int32)).toNatClampNeg (((it_X8_lays_84 ((it_X8_lays_48 j_4 (z21, (it_X8_lays_4 (SM, 0) j_4).2) j_48).2) j_4 j_48 (sA (it_X8_lays_48 j_4 (z21, (it_X8_lays_4 (SM, 0) j_4).2) j_48).1 17 (upd ((it_X8_lays_48 j_4 (z21, (it_X8_lays_4 (SM, 0) j_4).2) j_48).1.2 17) (((it_X8_lays_48 j_4 (z21, (it_X8_lays_4 (SM, 0) j_4).2) j_48).2 : Int32)).toNatClampNeg ((100 * (nI j_4)) + (nI j_48)))) j_84).2 16) (((nI j_84) : Int32)).toNatClampNeg))) := by
                  show bd_X8_lays_84 ((it_X8_lays_48 j_4 (z21, (it_X8_lays_4 (SM, 0) j_4).2) j_48).2) j_4 j_48 j_84 (it_X8_lays_84 ((it_X8_lays_48 j_4 (z21, (it_X8_lays_4 (SM, 0) j_4).2) j_48).2) j_4 j_48 (sA (it_X8_lays_48 j_4 (z21, (it_X8_lays_4 (SM, 0) j_4).2) j_48).1 17 (upd ((it_X8_lays_48 j_4 (z21, (it_X8_lays_4 (SM, 0) j_4).2) j_48).1.2 17) (((it_X8_lays_48 j_4 (z21, (it_X8_lays_4 (SM, 0) j_4).2) j_48).2 : Int32)).toNatClampNeg ((100 * (nI j_4)) + (nI j_48)))) j_84) = _; unfold bd_X8_lays_84; first | done | rfl
                refine ww_lsub [1, 2, 3, 4, 0] rfl ?_
                exact ww_castI (fun u9 : St => fl [wX8 cI cZ cQ rM u9]) (fun (u9 : St) (i9 : Int32) => ([(0, .ref (rM 0)), (1, .int ((it_X8_lays_48 j_4 (z21, (it_X8_lays_4 (SM, 0) j_4).2) j_48).2)), (2, .int (nI j_4)), (3, .int (nI j_48)), (4, .int i9)] : List (Nat × Value))) h26 (ih (j_84 + 1) (by omega) K)
            refine ww_lsub [1, 2, 3, 4, 0] rfl ?_
            refine L84 ((((it_X8_lays_48 j_4 (z21, (it_X8_lays_4 (SM, 0) j_4).2) j_48).1.2 1) ((4 : Int32)).toNatClampNeg).toNatClampNeg) 0 (by omega) ?_
            generalize hz27 : ((it_X8_lays_84 ((it_X8_lays_48 j_4 (z21, (it_X8_lays_4 (SM, 0) j_4).2) j_48).2) j_4 j_48 (sA (it_X8_lays_48 j_4 (z21, (it_X8_lays_4 (SM, 0) j_4).2) j_48).1 17 (upd ((it_X8_lays_48 j_4 (z21, (it_X8_lays_4 (SM, 0) j_4).2) j_48).1.2 17) (((it_X8_lays_48 j_4 (z21, (it_X8_lays_4 (SM, 0) j_4).2) j_48).2 : Int32)).toNatClampNeg ((100 * (nI j_4)) + (nI j_48)))) ((((it_X8_lays_48 j_4 (z21, (it_X8_lays_4 (SM, 0) j_4).2) j_48).1.2 1) ((4 : Int32)).toNatClampNeg).toNatClampNeg))) = z27
            have hLw : lo SM z27 := by rw [← hz27]; exact lo_t hL48 (lo_t (lo_17 _ _) (ly84 _ _ _ _ _))
            refine ww_iinc (pc := 120) (v := ((it_X8_lays_48 j_4 (z21, (it_X8_lays_4 (SM, 0) j_4).2) j_48).2) + 1) (lv' := [(1, .int (((it_X8_lays_48 j_4 (z21, (it_X8_lays_4 (SM, 0) j_4).2) j_48).2) + 1)), (0, .ref (rM 0)), (2, .int (nI j_4)), (3, .int (nI j_48)), (4, .int (nI ((((it_X8_lays_48 j_4 (z21, (it_X8_lays_4 (SM, 0) j_4).2) j_48).1.2 1) ((4 : Int32)).toNatClampNeg).toNatClampNeg)))]) X dX8_lays_120 1 rfl rfl (by decide) rfl ?_
            refine ww_iconst (pc := 123) (v := 0) X dX8_lays_123 (by decide) ?_
            refine ww_istore (pc := 124) (lv' := [(4, .int 0), (1, .int (((it_X8_lays_48 j_4 (z21, (it_X8_lays_4 (SM, 0) j_4).2) j_48).2) + 1)), (0, .ref (rM 0)), (2, .int (nI j_4)), (3, .int (nI j_48))]) X dX8_lays_124 (by decide) rfl ?_
            have L126 : ∀ (k_126 j_126 : Nat), j_126 + k_126 = ((z27.2 1) ((4 : Int32)).toNatClampNeg).toNatClampNeg → WW p l e (headSpec wsX8_lays { frames := 2, cells := 0, slots := 0, locals := 49 }).room s m args below meth c 5 D A 0 0 (RQi below args s D A ((f_X8_lays SM).1) (fl [wX8 cI cZ cQ rM ((f_X8_lays SM).2)])) (fl [wX8 cI cZ cQ rM (it_X8_lays_126 (((it_X8_lays_48 j_4 (z21, (it_X8_lays_4 (SM, 0) j_4).2) j_48).2) + 1) j_4 j_48 z27 (((z27.2 1) ((4 : Int32)).toNatClampNeg).toNatClampNeg))]) [(0, .ref (rM 0)), (1, .int (((it_X8_lays_48 j_4 (z21, (it_X8_lays_4 (SM, 0) j_4).2) j_48).2) + 1)), (2, .int (nI j_4)), (3, .int (nI j_48)), (4, .int (nI (((z27.2 1) ((4 : Int32)).toNatClampNeg).toNatClampNeg)))] 169 [] → WW p l e (headSpec wsX8_lays { frames := 2, cells := 0, slots := 0, locals := 49 }).room s m args below meth c 5 D A 0 0 (RQi below args s D A ((f_X8_lays SM).1) (fl [wX8 cI cZ cQ rM ((f_X8_lays SM).2)])) (fl [wX8 cI cZ cQ rM (it_X8_lays_126 (((it_X8_lays_48 j_4 (z21, (it_X8_lays_4 (SM, 0) j_4).2) j_48).2) + 1) j_4 j_48 z27 j_126)]) [(0, .ref (rM 0)), (1, .int (((it_X8_lays_48 j_4 (z21, (it_X8_lays_4 (SM, 0) j_4).2) j_48).2) + 1)), (2, .int (nI j_4)), (3, .int (nI j_48)), (4, .int (nI j_126))] 126 [] := by
              intro k_126
              induction k_126 with
              | zero =>
                intro j_126 hj K
                have hjB : j_126 = ((z27.2 1) ((4 : Int32)).toNatClampNeg).toNatClampNeg := by omega
                subst hjB
                refine ww_iload (pc := 126) X dX8_lays_126 4 rfl ?_
                refine ww_aload_n (pc := 128) X dX8_lays_128 0 rfl rfl ?_
                refine ww_get (pc := 129) (ci := 8) (v := .ref (rM 2)) (C := RX8) (T := TX8) (N := 27) X inX8_lays_8 0 rfl rfl 3 (by decide) (by decide +kernel) rfl dX8_lays_129 ?_
                refine ww_iconst (pc := 132) (v := 4) X dX8_lays_132 (by decide) ?_
                refine ww_iald (pc := 133) (f := (it_X8_lays_126 (((it_X8_lays_48 j_4 (z21, (it_X8_lays_4 (SM, 0) j_4).2) j_48).2) + 1) j_4 j_48 z27 (((z27.2 1) ((4 : Int32)).toNatClampNeg).toNatClampNeg)).2 1) X 2 0 rfl rfl (vl_in (by decide)) dX8_lays_133 ?_
                exact ww_icmp_ge (pc := 134) (tgt := 169) X dX8_lays_134 (by decide) (fun _ => K) (fun c9 => absurd (lp_ge0e (congrFun (pr_X8_lays_126 (((it_X8_lays_48 j_4 (z21, (it_X8_lays_4 (SM, 0) j_4).2) j_48).2) + 1) j_4 j_48 z27 (((z27.2 1) ((4 : Int32)).toNatClampNeg).toNatClampNeg)) _) (Nat.le_refl _) (cl_lt _)) c9)
              | succ k_126 ih =>
                intro j_126 hj K
                have hjB : j_126 < ((z27.2 1) ((4 : Int32)).toNatClampNeg).toNatClampNeg := by omega
                have h6 : ((z27.2 1) ((4 : Int32)).toNatClampNeg).toNatClampNeg ≤ 6 := okM_g (okM_of (lo1 (by first | exact hLw | exact hL48)) okm)
                refine ww_iload (pc := 126) X dX8_lays_126 4 rfl ?_
                refine ww_aload_n (pc := 128) X dX8_lays_128 0 rfl rfl ?_
                refine ww_get (pc := 129) (ci := 8) (v := .ref (rM 2)) (C := RX8) (T := TX8) (N := 27) X inX8_lays_8 0 rfl rfl 3 (by decide) (by decide +kernel) rfl dX8_lays_129 ?_
                refine ww_iconst (pc := 132) (v := 4) X dX8_lays_132 (by decide) ?_
                refine ww_iald (pc := 133) (f := (it_X8_lays_126 (((it_X8_lays_48 j_4 (z21, (it_X8_lays_4 (SM, 0) j_4).2) j_48).2) + 1) j_4 j_48 z27 j_126).2 1) X 2 0 rfl rfl (vl_in (by decide)) dX8_lays_133 ?_
                refine ww_icmp_ge (pc := 134) (tgt := 169) X dX8_lays_134 (by decide) (fun c9 => absurd c9 (lp_ge1e (congrFun (pr_X8_lays_126 (((it_X8_lays_48 j_4 (z21, (it_X8_lays_4 (SM, 0) j_4).2) j_48).2) + 1) j_4 j_48 z27 j_126) _) hjB)) (fun _ => ?_)
                refine ww_aload_n (pc := 137) X dX8_lays_137 0 rfl rfl ?_
                refine ww_get (pc := 138) (ci := 8) (v := .ref (rM 17)) (C := RX8) (T := TX8) (N := 27) X inX8_lays_8 0 rfl rfl 24 (by decide) (by decide +kernel) rfl dX8_lays_138 ?_
                refine ww_iload (pc := 141) X dX8_lays_141 4 rfl ?_
                refine ww_aload_n (pc := 143) X dX8_lays_143 0 rfl rfl ?_
                refine ww_iload (pc := 144) X dX8_lays_144 4 rfl ?_
                refine ww_aload_n (pc := 146) X dX8_lays_146 0 rfl rfl ?_
                refine ww_get (pc := 147) (ci := 8) (v := .ref (rM 17)) (C := RX8) (T := TX8) (N := 27) X inX8_lays_8 0 rfl rfl 24 (by decide) (by decide +kernel) rfl dX8_lays_147 ?_
                refine ww_iload (pc := 150) X dX8_lays_150 4 rfl ?_
                refine ww_iald (pc := 152) (f := (it_X8_lays_126 (((it_X8_lays_48 j_4 (z21, (it_X8_lays_4 (SM, 0) j_4).2) j_48).2) + 1) j_4 j_48 z27 j_126).2 16) X 17 0 rfl rfl (vn (m := j_126) rfl (by omega) (by decide)) dX8_lays_152 ?_
                refine ww_aload_n (pc := 153) X dX8_lays_153 0 rfl rfl ?_
                refine ww_get (pc := 154) (ci := 8) (v := .ref (rM 3)) (C := RX8) (T := TX8) (N := 27) X inX8_lays_8 0 rfl rfl 4 (by decide) (by decide +kernel) rfl dX8_lays_154 ?_
                refine ww_iload_n (pc := 157) X dX8_lays_157 2 rfl rfl ?_
                refine ww_iald (pc := 158) (f := (it_X8_lays_126 (((it_X8_lays_48 j_4 (z21, (it_X8_lays_4 (SM, 0) j_4).2) j_48).2) + 1) j_4 j_48 z27 j_126).2 2) X 3 0 rfl rfl (vn (m := j_4) rfl (by omega) (by decide)) dX8_lays_158 ?_
                refine ww_gVi (pc := 159) (rest := [.int (nI j_126), .ref (rM 17)]) (gsN := [wX8 cI cZ cQ rM (it_X8_lays_126 (((it_X8_lays_48 j_4 (z21, (it_X8_lays_4 (SM, 0) j_4).2) j_48).2) + 1) j_4 j_48 z27 j_126)]) (ci := 8) (gi := 0) (qi := 0) X (c_X8_worthIn l D cI cZ cQ rM (it_X8_lays_126 (((it_X8_lays_48 j_4 (z21, (it_X8_lays_4 (SM, 0) j_4).2) j_48).2) + 1) j_4 j_48 z27 j_126) (nI j_126) (((it_X8_lays_126 (((it_X8_lays_48 j_4 (z21, (it_X8_lays_4 (SM, 0) j_4).2) j_48).2) + 1) j_4 j_48 z27 j_126).2 16) (((nI j_126) : Int32)).toNatClampNeg) (((it_X8_lays_126 (((it_X8_lays_48 j_4 (z21, (it_X8_lays_4 (SM, 0) j_4).2) j_48).2) + 1) j_4 j_48 z27 j_126).2 2) (((nI j_4) : Int32)).toNatClampNeg) (vn (m := j_126) rfl (by omega) (by decide))) gX8_lays_X8_worthIn rfl hd_X8_worthIn [true] rfl rfl rfl rfl rfl rfl rfl rfl ⟨rfl, rfl⟩ ⟨Nat.le_of_ble_eq_true rfl, Nat.le_of_ble_eq_true rfl⟩ (Nat.le_of_ble_eq_true rfl) ⟨Nat.zero_le _, Nat.zero_le _⟩ dX8_lays_159 ?_
                refine ww_iast (pc := 162) (f := (it_X8_lays_126 (((it_X8_lays_48 j_4 (z21, (it_X8_lays_4 (SM, 0) j_4).2) j_48).2) + 1) j_4 j_48 z27 j_126).2 16) (ws' := fl [wX8 cI cZ cQ rM (sA (it_X8_lays_126 (((it_X8_lays_48 j_4 (z21, (it_X8_lays_4 (SM, 0) j_4).2) j_48).2) + 1) j_4 j_48 z27 j_126) 16 (upd ((it_X8_lays_126 (((it_X8_lays_48 j_4 (z21, (it_X8_lays_4 (SM, 0) j_4).2) j_48).2) + 1) j_4 j_48 z27 j_126).2 16) (((nI j_126) : Int32)).toNatClampNeg (f_X8_worthIn (it_X8_lays_126 (((it_X8_lays_48 j_4 (z21, (it_X8_lays_4 (SM, 0) j_4).2) j_48).2) + 1) j_4 j_48 z27 j_126) (nI j_126) (((it_X8_lays_126 (((it_X8_lays_48 j_4 (z21, (it_X8_lays_4 (SM, 0) j_4).2) j_48).2) + 1) j_4 j_48 z27 j_126).2 16) (((nI j_126) : Int32)).toNatClampNeg) (((it_X8_lays_126 (((it_X8_lays_48 j_4 (z21, (it_X8_lays_4 (SM, 0) j_4).2) j_48).2) + 1) j_4 j_48 z27 j_126).2 2) (((nI j_4) : Int32)).toNatClampNeg))))]) X 17 0 rfl rfl (vn (m := j_126) rfl (by omega) (by decide)) (st8a_16 _ _ _ _ _ _) dX8_lays_162 ?_
                refine ww_iinc (pc := 163) (v := (nI j_126) + 1) (lv' := [(4, .int ((nI j_126) + 1)), (0, .ref (rM 0)), (1, .int (((it_X8_lays_48 j_4 (z21, (it_X8_lays_4 (SM, 0) j_4).2) j_48).2) + 1)), (2, .int (nI j_4)), (3, .int (nI j_48))]) X dX8_lays_163 4 rfl rfl (by decide) rfl ?_
                refine ww_goto (pc := 166) (tgt := 126) X dX8_lays_166 (by decide) ?_
                have h28 : (it_X8_lays_126 (((it_X8_lays_48 j_4 (z21, (it_X8_lays_4 (SM, 0) j_4).2) j_48).2) + 1) j_4 j_48 z27 (j_126 + 1)) = (sA (it_X8_lays_126 (((it_X8_lays_48 j_4 (z21, (it_X8_lays_4 (SM, 0) j_4).2) j_48).2) + 1) j_4 j_48 z27 j_126) 16 (upd ((it_X8_lays_126 (((it_X8_lays_48 j_4 (z21, (it_X8_lays_4 (SM, 0) j_4).2) j_48).2) + 1) j_4 j_48 z27 j_126).2 16) (((nI j_126) : Int32)).toNatClampNeg (f_X8_worthIn (it_X8_lays_126 (((it_X8_lays_48 j_4 (z21, (it_X8_lays_4 (SM, 0) j_4).2) j_48).2) + 1) j_4 j_48 z27 j_126) (nI j_126) (((it_X8_lays_126 (((it_X8_lays_48 j_4 (z21, (it_X8_lays_4 (SM, 0) j_4).2) j_48).2) + 1) j_4 j_48 z27 j_126).2 16) (((nI j_126) : Int32)).toNatClampNeg) (((it_X8_lays_126 (((it_X8_lays_48 j_4 (z21, (it_X8_lays_4 (SM, 0) j_4).2) j_48).2) + 1) j_4 j_48 z27 j_126).2 2) (((nI j_4) : Int32)).toNatClampNeg)))) := by
                  show bd_X8_lays_126 (((it_X8_lays_48 j_4 (z21, (it_X8_lays_4 (SM, 0) j_4).2) j_48).2) + 1) j_4 j_48 j_126 (it_X8_lays_126 (((it_X8_lays_48 j_4 (z21, (it_X8_lays_4 (SM, 0) j_4).2) j_48).2) + 1) j_4 j_48 z27 j_126) = _; unfold bd_X8_lays_126; first | done | rfl
                refine ww_lsub [1, 2, 3, 4, 0] rfl ?_
                exact ww_castI (fun u9 : St => fl [wX8 cI cZ cQ rM u9]) (fun (u9 : St) (i9 : Int32) => ([(0, .ref (rM 0)), (1, .int (((it_X8_lays_48 j_4 (z21, (it_X8_lays_4 (SM, 0) j_4).2) j_48).2) + 1)), (2, .int (nI j_4)), (3, .int (nI j_48)), (4, .int i9)] : List (Nat × Value))) h28 (ih (j_126 + 1) (by omega) K)
            refine ww_lsub [2, 1, 3, 4, 0] rfl ?_
            refine L126 (((z27.2 1) ((4 : Int32)).toNatClampNeg).toNatClampNeg) 0 (by omega) ?_
            generalize hz29 : ((it_X8_lays_126 (((it_X8_lays_48 j_4 (z21, (it_X8_lays_4 (SM, 0) j_4).2) j_48).2) + 1) j_4 j_48 z27 (((z27.2 1) ((4 : Int32)).toNatClampNeg).toNatClampNeg))) = z29
            refine ww_iinc (pc := 169) (v := (nI j_48) + 1) (lv' := [(3, .int ((nI j_48) + 1)), (0, .ref (rM 0)), (1, .int (((it_X8_lays_48 j_4 (z21, (it_X8_lays_4 (SM, 0) j_4).2) j_48).2) + 1)), (2, .int (nI j_4)), (4, .int (nI (((z27.2 1) ((4 : Int32)).toNatClampNeg).toNatClampNeg)))]) X dX8_lays_169 3 rfl rfl (by decide) rfl ?_
            refine ww_goto (pc := 172) (tgt := 48) X dX8_lays_172 (by decide) ?_
            have h30 : (it_X8_lays_48 j_4 (z21, (it_X8_lays_4 (SM, 0) j_4).2) (j_48 + 1)) = (z29, ((it_X8_lays_48 j_4 (z21, (it_X8_lays_4 (SM, 0) j_4).2) j_48).2) + 1) := by
              show bd_X8_lays_48 j_4 j_48 (it_X8_lays_48 j_4 (z21, (it_X8_lays_4 (SM, 0) j_4).2) j_48) = _; unfold bd_X8_lays_48; try rw [if_neg c22, hz27]; try unfold bd_X8_lays_48_k2; try rw [hz29]; try unfold bd_X8_lays_48_k3; first | done | rfl
            refine ww_lsub [1, 2, 3, 0] rfl ?_
            exact ww_castI (fun u9 : St × Int32 => fl [wX8 cI cZ cQ rM u9.1]) (fun (u9 : St × Int32) (i9 : Int32) => ([(0, .ref (rM 0)), (1, .int u9.2), (2, .int (nI j_4)), (3, .int i9)] : List (Nat × Value))) h30 (ih (j_48 + 1) (by omega) K)
      refine ww_lsub [1, 2, 3, 0] rfl ?_
      refine L48 31 0 (by omega) ?_
      generalize hz31 : ((it_X8_lays_48 j_4 (z21, (it_X8_lays_4 (SM, 0) j_4).2) 31)) = z31
      refine ww_iinc (pc := 175) (v := (nI j_4) + 1) (lv' := [(2, .int ((nI j_4) + 1)), (0, .ref (rM 0)), (1, .int z31.2), (3, .int (nI 31))]) X dX8_lays_175 2 rfl rfl (by decide) rfl ?_
      refine ww_goto (pc := 178) (tgt := 4) X dX8_lays_178 (by decide) ?_
      have h32 : (it_X8_lays_4 (SM, 0) (j_4 + 1)) = (z31.1, z31.2) := by
        show bd_X8_lays_4  j_4 (it_X8_lays_4 (SM, 0) j_4) = _; unfold bd_X8_lays_4; try rw [hz21]; try unfold bd_X8_lays_4_k1; try rw [hz31]; try unfold bd_X8_lays_4_k2; first | done | rfl
      refine ww_lsub [1, 2, 0] rfl ?_
      exact ww_castI (fun u9 : St × Int32 => fl [wX8 cI cZ cQ rM u9.1]) (fun (u9 : St × Int32) (i9 : Int32) => ([(0, .ref (rM 0)), (1, .int u9.2), (2, .int i9)] : List (Nat × Value))) h32 (ih (j_4 + 1) (by omega) K)
  refine ww_lsub [2, 1, 0] rfl ?_
  refine L4 (((SM.2 1) ((2 : Int32)).toNatClampNeg).toNatClampNeg) 0 (by omega) ?_
  generalize hz33 : ((it_X8_lays_4 (SM, 0) (((SM.2 1) ((2 : Int32)).toNatClampNeg).toNatClampNeg))) = z33
  refine ww_iload_n (pc := 181) X dX8_lays_181 1 rfl rfl ?_
  have h34 : f_X8_lays SM = (z33.2, z33.1) := by unfold f_X8_lays; try rw [hz33]; try unfold f_X8_lays_k1; first | done | rfl
  have hw35 := congrArg (fun u9 : Int32 × St => fl [wX8 cI cZ cQ rM u9.2]) h34.symm
  exact ww_iret X hr rfl (congrArg (fun u9 : Int32 × St => u9.1) h34).symm hw35 dX8_lays_182
def f_X8_stays_k1 (SM : St) (x1 : Int32) (z1 : Int32 × St) : Int32 × St :=
  if x1 = (-1) then
    (z1.1, z1.2)
  else
    if (f_X8_in x1 0 (z1.1 - 1)) = 0 then
      ((-1), z1.2)
    else
      ((z1.2.2 17) ((x1 : Int32)).toNatClampNeg, z1.2)
def f_X8_stays (SM : St) (x1 : Int32) : Int32 × St :=
  f_X8_stays_k1 SM x1 (f_X8_lays SM)
theorem inX8_stays_8 : ∀ w ∈ wsX80, w ∈ wsX8_stays := by decide +kernel
theorem hd_X8_stays : yX8_stays.cls = RX8 ∧ yX8_stays.cls ≠ "java/lang/invoke/MethodHandle" ∧ yX8_stays.cls ≠ "java/lang/invoke/VarHandle" ∧ (parseMethodDescriptor yX8_stays.desc).map (fun d => d.parameters.length) = some 1 := by decide +kernel
set_option maxHeartbeats 4000000 in
set_option maxRecDepth 100000 in
theorem c_X8_stays (l : Launch) (D : va_G) (cI cZ cQ : ClassId) (rM : Nat → Nat) (SM : St) (x1 : Int32) (okm : okM SM) (okf : okF SM) (hr1 : 0 < ((SM.2 1) ((2 : Int32)).toNatClampNeg).toNatClampNeg → ¬ (SM.2 1) ((1 : Int32)).toNatClampNeg = 0) : Ci l yX8_stays wsX8_stays { frames := 3, cells := 0, slots := 0, locals := 73 } D (tyL cI cZ cQ) [.ref (rM 0), .int x1] (fl [wX8 cI cZ cQ rM SM]) ((f_X8_stays SM x1).1) (fl [wX8 cI cZ cQ rM ((f_X8_stays SM x1).2)]) := by
  refine ci_of (cc := cX8_stays) (nL := 3) (ty := .int) (lv0 := [(0, .ref (rM 0)), (1, .int x1)]) (by decide) rfl (Nat.le_of_ble_eq_true rfl) rfl ?_
  intro p e s m args below meth c A X hr
  refine ww_aload_n (pc := 0) X dX8_stays_0 0 rfl rfl ?_
  refine ww_gVi (pc := 1) (rest := []) (gsN := [wX8 cI cZ cQ rM ((f_X8_lays SM).2)]) (ci := 8) (gi := 0) (qi := 0) X (c_X8_lays l D cI cZ cQ rM SM (by assumption) (by assumption) (by assumption)) gX8_stays_X8_lays rfl hd_X8_lays [true] rfl (acons (ad8 _ _ _ _ _ _) rfl) rfl rfl rfl rfl rfl rfl ⟨rfl, rfl⟩ ⟨Nat.le_of_ble_eq_true rfl, Nat.le_of_ble_eq_true rfl⟩ (Nat.le_of_ble_eq_true rfl) ⟨Nat.zero_le _, Nat.zero_le _⟩ dX8_stays_1 ?_
  generalize hz1 : (f_X8_lays SM) = z1
  refine ww_istore_n (pc := 4) (lv' := [(2, .int z1.1), (0, .ref (rM 0)), (1, .int x1)]) X dX8_stays_4 rfl (by decide) rfl ?_
  refine ww_iload_n (pc := 5) X dX8_stays_5 2 rfl rfl ?_
  refine ww_iconst (pc := 6) (v := (-1)) X dX8_stays_6 (by decide) ?_
  refine ww_icmp_ne (pc := 7) (tgt := 14) X dX8_stays_7 (by decide) (fun c2 => ?_) (fun c2 => ?_)
  · refine ww_iload_n (pc := 14) X dX8_stays_14 2 rfl rfl ?_
    refine ww_iconst (pc := 15) (v := 0) X dX8_stays_15 (by decide) ?_
    refine ww_iload_n (pc := 16) X dX8_stays_16 0 rfl rfl ?_
    refine ww_iconst (pc := 17) (v := 1) X dX8_stays_17 (by decide) ?_
    refine ww_isub (pc := 18) X dX8_stays_18 ?_
    refine ww_gSi (pc := 19) (rest := []) (gsN := [wX8 cI cZ cQ rM z1.2]) X (c_X8_in l D cI cZ cQ x1 0 (z1.1 - 1)) gX8_stays_X8_in rfl hd_X8_in [false] rfl rfl rfl rfl ⟨rfl, rfl⟩ ⟨Nat.le_of_ble_eq_true rfl, Nat.le_of_ble_eq_true rfl⟩ (Nat.le_of_ble_eq_true rfl) ⟨Nat.zero_le _, Nat.zero_le _⟩ dX8_stays_19 ?_
    refine ww_if_eq (pc := 22) (tgt := 34) X dX8_stays_22 (by decide) (fun c3 => ?_) (fun c3 => ?_)
    · refine ww_iconst (pc := 34) (v := (-1)) X dX8_stays_34 (by decide) ?_
      have h4 : f_X8_stays SM x1 = ((-1), z1.2) := by unfold f_X8_stays; try rw [hz1]; try unfold f_X8_stays_k1; try rw [if_neg c2, if_pos c3]; first | done | rfl
      have hw5 := congrArg (fun u9 : Int32 × St => fl [wX8 cI cZ cQ rM u9.2]) h4.symm
      exact ww_iret X hr rfl (congrArg (fun u9 : Int32 × St => u9.1) h4).symm hw5 dX8_stays_35
    · refine ww_aload_n (pc := 25) X dX8_stays_25 1 rfl rfl ?_
      refine ww_get (pc := 26) (ci := 8) (v := .ref (rM 18)) (C := RX8) (T := TX8) (N := 27) X inX8_stays_8 0 rfl rfl 25 (by decide) (by decide +kernel) rfl dX8_stays_26 ?_
      refine ww_iload_n (pc := 29) X dX8_stays_29 2 rfl rfl ?_
      refine ww_iald (pc := 30) (f := z1.2.2 17) X 18 0 rfl rfl (sy_in okm hz1 c3) dX8_stays_30 ?_
      refine ww_goto (pc := 31) (tgt := 35) X dX8_stays_31 (by decide) ?_
      have h6 : f_X8_stays SM x1 = ((z1.2.2 17) ((x1 : Int32)).toNatClampNeg, z1.2) := by unfold f_X8_stays; try rw [hz1]; try unfold f_X8_stays_k1; try rw [if_neg c2, if_neg c3]; first | done | rfl
      have hw7 := congrArg (fun u9 : Int32 × St => fl [wX8 cI cZ cQ rM u9.2]) h6.symm
      exact ww_iret X hr rfl (congrArg (fun u9 : Int32 × St => u9.1) h6).symm hw7 dX8_stays_35
  · refine ww_iload_n (pc := 10) X dX8_stays_10 0 rfl rfl ?_
    refine ww_goto (pc := 11) (tgt := 35) X dX8_stays_11 (by decide) ?_
    have h8 : f_X8_stays SM x1 = (z1.1, z1.2) := by unfold f_X8_stays; try rw [hz1]; try unfold f_X8_stays_k1; try rw [if_pos c2]; first | done | rfl
    have hw9 := congrArg (fun u9 : Int32 × St => fl [wX8 cI cZ cQ rM u9.2]) h8.symm
    exact ww_iret X hr rfl (congrArg (fun u9 : Int32 × St => u9.1) h8).symm hw9 dX8_stays_35
def bd_X8_ask_41 (SM : St) (x1 : Int32) (x2 : Int32) (x3 : Int32) (j4 : Nat) (x5 : Int32) (j6 : Nat) (j : Nat) (u : Int32) : Int32 :=
  if ((SM.2 18) (((6 * (nI j)) + (nI j4) : Int32)).toNatClampNeg) = ((SM.2 18) (((6 * (nI j6)) + (nI j4) : Int32)).toNatClampNeg) then
    u + 1
  else
    u + 0
def it_X8_ask_41 (SM : St) (x1 : Int32) (x2 : Int32) (x3 : Int32) (j4 : Nat) (x5 : Int32) (j6 : Nat) (u : Int32) : Nat → Int32
  | 0 => u
  | j + 1 => bd_X8_ask_41 SM x1 x2 x3 j4 x5 j6 j (it_X8_ask_41 SM x1 x2 x3 j4 x5 j6 u j)
def bd_X8_ask_29_k1 (SM : St) (x1 : Int32) (x2 : Int32) (x3 : Int32) (j4 : Nat) (j : Nat) (u : Int32) (z6 : Int32) : Int32 :=
  if z6 ≤ u then
    u
  else
    z6
def bd_X8_ask_29 (SM : St) (x1 : Int32) (x2 : Int32) (x3 : Int32) (j4 : Nat) (j : Nat) (u : Int32) : Int32 :=
  bd_X8_ask_29_k1 SM x1 x2 x3 j4 j u (it_X8_ask_41 SM x1 x2 x3 j4 u j (0 : Int32) x1.toNatClampNeg)
def it_X8_ask_29 (SM : St) (x1 : Int32) (x2 : Int32) (x3 : Int32) (j4 : Nat) (u : Int32) : Nat → Int32
  | 0 => u
  | j + 1 => bd_X8_ask_29 SM x1 x2 x3 j4 j (it_X8_ask_29 SM x1 x2 x3 j4 u j)
def bd_X8_ask_12_k1 (SM : St) (x1 : Int32) (j : Nat) (u : Int32 × Int32) (z17 : Int32) : Int32 × Int32 :=
  if u.2 ≤ z17 then
    (u.1, u.2)
  else
    ((nI j), z17)
def bd_X8_ask_12 (SM : St) (x1 : Int32) (j : Nat) (u : Int32 × Int32) : Int32 × Int32 :=
  bd_X8_ask_12_k1 SM x1 j u (it_X8_ask_29 SM x1 u.1 u.2 j (0 : Int32) x1.toNatClampNeg)
def it_X8_ask_12 (SM : St) (x1 : Int32) (u : Int32 × Int32) : Nat → Int32 × Int32
  | 0 => u
  | j + 1 => bd_X8_ask_12 SM x1 j (it_X8_ask_12 SM x1 u j)
def f_X8_ask_k2 (SM : St) (z1 : Int32 × St) (z37 : Int32 × Int32) : Int32 × St :=
  (z37.1, z1.2)
def f_X8_ask_k1 (SM : St) (z1 : Int32 × St) : Int32 × St :=
  f_X8_ask_k2 SM z1 (it_X8_ask_12 z1.2 z1.1 ((-1), z1.1) (((z1.2.2 1) ((4 : Int32)).toNatClampNeg).toNatClampNeg))
def f_X8_ask (SM : St) : Int32 × St :=
  f_X8_ask_k1 SM (f_X8_lays SM)
theorem inX8_ask_8 : ∀ w ∈ wsX80, w ∈ wsX8_ask := by decide +kernel
theorem hd_X8_ask : yX8_ask.cls = RX8 ∧ yX8_ask.cls ≠ "java/lang/invoke/MethodHandle" ∧ yX8_ask.cls ≠ "java/lang/invoke/VarHandle" ∧ (parseMethodDescriptor yX8_ask.desc).map (fun d => d.parameters.length) = some 0 := by decide +kernel
set_option maxHeartbeats 4000000 in
set_option maxRecDepth 100000 in
theorem c_X8_ask (l : Launch) (D : va_G) (cI cZ cQ : ClassId) (rM : Nat → Nat) (SM : St) (okm : okM SM) (okf : okF SM) (hr1 : 0 < ((SM.2 1) ((2 : Int32)).toNatClampNeg).toNatClampNeg → ¬ (SM.2 1) ((1 : Int32)).toNatClampNeg = 0) : Ci l yX8_ask wsX8_ask { frames := 3, cells := 0, slots := 0, locals := 73 } D (tyL cI cZ cQ) [.ref (rM 0)] (fl [wX8 cI cZ cQ rM SM]) ((f_X8_ask SM).1) (fl [wX8 cI cZ cQ rM ((f_X8_ask SM).2)]) := by
  refine ci_of (cc := cX8_ask) (nL := 9) (ty := .int) (lv0 := [(0, .ref (rM 0))]) (by decide) rfl (Nat.le_of_ble_eq_true rfl) rfl ?_
  intro p e s m args below meth c A X hr
  refine ww_aload_n (pc := 0) X dX8_ask_0 0 rfl rfl ?_
  refine ww_gVi (pc := 1) (rest := []) (gsN := [wX8 cI cZ cQ rM ((f_X8_lays SM).2)]) (ci := 8) (gi := 0) (qi := 0) X (c_X8_lays l D cI cZ cQ rM SM (by assumption) (by assumption) (by assumption)) gX8_ask_X8_lays rfl hd_X8_lays [true] rfl (acons (ad8 _ _ _ _ _ _) rfl) rfl rfl rfl rfl rfl rfl ⟨rfl, rfl⟩ ⟨Nat.le_of_ble_eq_true rfl, Nat.le_of_ble_eq_true rfl⟩ (Nat.le_of_ble_eq_true rfl) ⟨Nat.zero_le _, Nat.zero_le _⟩ dX8_ask_1 ?_
  generalize hz1 : (f_X8_lays SM) = z1
  refine ww_istore_n (pc := 4) (lv' := [(1, .int z1.1), (0, .ref (rM 0))]) X dX8_ask_4 rfl (by decide) rfl ?_
  have hn124 := ly_n okm hz1
  have okz : okM z1.2 := ly_ok okm hz1
  have h6z := okM_g okz
  refine ww_iconst (pc := 5) (v := (-1)) X dX8_ask_5 (by decide) ?_
  refine ww_istore_n (pc := 6) (lv' := [(2, .int (-1)), (1, .int z1.1), (0, .ref (rM 0))]) X dX8_ask_6 rfl (by decide) rfl ?_
  refine ww_iload_n (pc := 7) X dX8_ask_7 1 rfl rfl ?_
  refine ww_istore_n (pc := 8) (lv' := [(3, .int z1.1), (2, .int (-1)), (1, .int z1.1), (0, .ref (rM 0))]) X dX8_ask_8 rfl (by decide) rfl ?_
  refine ww_iconst (pc := 9) (v := 0) X dX8_ask_9 (by decide) ?_
  refine ww_istore (pc := 10) (lv' := [(4, .int 0), (3, .int z1.1), (2, .int (-1)), (1, .int z1.1), (0, .ref (rM 0))]) X dX8_ask_10 (by decide) rfl ?_
  have L12 : ∀ (k_12 j_12 : Nat), j_12 + k_12 = ((z1.2.2 1) ((4 : Int32)).toNatClampNeg).toNatClampNeg → WW p l e (headSpec wsX8_ask { frames := 3, cells := 0, slots := 0, locals := 73 }).room s m args below meth c 9 D A 0 0 (RQi below args s D A ((f_X8_ask SM).1) (fl [wX8 cI cZ cQ rM ((f_X8_ask SM).2)])) (fl [wX8 cI cZ cQ rM z1.2]) [(0, .ref (rM 0)), (1, .int z1.1), (2, .int ((it_X8_ask_12 z1.2 z1.1 ((-1), z1.1) (((z1.2.2 1) ((4 : Int32)).toNatClampNeg).toNatClampNeg)).1)), (3, .int ((it_X8_ask_12 z1.2 z1.1 ((-1), z1.1) (((z1.2.2 1) ((4 : Int32)).toNatClampNeg).toNatClampNeg)).2)), (4, .int (nI (((z1.2.2 1) ((4 : Int32)).toNatClampNeg).toNatClampNeg)))] 146 [] → WW p l e (headSpec wsX8_ask { frames := 3, cells := 0, slots := 0, locals := 73 }).room s m args below meth c 9 D A 0 0 (RQi below args s D A ((f_X8_ask SM).1) (fl [wX8 cI cZ cQ rM ((f_X8_ask SM).2)])) (fl [wX8 cI cZ cQ rM z1.2]) [(0, .ref (rM 0)), (1, .int z1.1), (2, .int ((it_X8_ask_12 z1.2 z1.1 ((-1), z1.1) j_12).1)), (3, .int ((it_X8_ask_12 z1.2 z1.1 ((-1), z1.1) j_12).2)), (4, .int (nI j_12))] 12 [] := by
    intro k_12
    induction k_12 with
    | zero =>
      intro j_12 hj K
      have hjB : j_12 = ((z1.2.2 1) ((4 : Int32)).toNatClampNeg).toNatClampNeg := by omega
      subst hjB
      refine ww_iload (pc := 12) X dX8_ask_12 4 rfl ?_
      refine ww_aload_n (pc := 14) X dX8_ask_14 0 rfl rfl ?_
      refine ww_get (pc := 15) (ci := 8) (v := .ref (rM 2)) (C := RX8) (T := TX8) (N := 27) X inX8_ask_8 0 rfl rfl 3 (by decide) (by decide +kernel) rfl dX8_ask_15 ?_
      refine ww_iconst (pc := 18) (v := 4) X dX8_ask_18 (by decide) ?_
      refine ww_iald (pc := 19) (f := z1.2.2 1) X 2 0 rfl rfl (vl_in (by decide)) dX8_ask_19 ?_
      exact ww_icmp_ge (pc := 20) (tgt := 146) X dX8_ask_20 (by decide) (fun _ => K) (fun c9 => absurd (lp_ge0c (Nat.le_refl _) (cl_lt _)) c9)
    | succ k_12 ih =>
      intro j_12 hj K
      have hjB : j_12 < ((z1.2.2 1) ((4 : Int32)).toNatClampNeg).toNatClampNeg := by omega
      refine ww_iload (pc := 12) X dX8_ask_12 4 rfl ?_
      refine ww_aload_n (pc := 14) X dX8_ask_14 0 rfl rfl ?_
      refine ww_get (pc := 15) (ci := 8) (v := .ref (rM 2)) (C := RX8) (T := TX8) (N := 27) X inX8_ask_8 0 rfl rfl 3 (by decide) (by decide +kernel) rfl dX8_ask_15 ?_
      refine ww_iconst (pc := 18) (v := 4) X dX8_ask_18 (by decide) ?_
      refine ww_iald (pc := 19) (f := z1.2.2 1) X 2 0 rfl rfl (vl_in (by decide)) dX8_ask_19 ?_
      refine ww_icmp_ge (pc := 20) (tgt := 146) X dX8_ask_20 (by decide) (fun c9 => absurd c9 (lp_ge1c hjB)) (fun _ => ?_)
      refine ww_iconst (pc := 23) (v := 0) X dX8_ask_23 (by decide) ?_
      refine ww_istore (pc := 24) (lv' := [(5, .int 0), (0, .ref (rM 0)), (1, .int z1.1), (2, .int ((it_X8_ask_12 z1.2 z1.1 ((-1), z1.1) j_12).1)), (3, .int ((it_X8_ask_12 z1.2 z1.1 ((-1), z1.1) j_12).2)), (4, .int (nI j_12))]) X dX8_ask_24 (by decide) rfl ?_
      refine ww_iconst (pc := 26) (v := 0) X dX8_ask_26 (by decide) ?_
      refine ww_istore (pc := 27) (lv' := [(6, .int 0), (5, .int 0), (0, .ref (rM 0)), (1, .int z1.1), (2, .int ((it_X8_ask_12 z1.2 z1.1 ((-1), z1.1) j_12).1)), (3, .int ((it_X8_ask_12 z1.2 z1.1 ((-1), z1.1) j_12).2)), (4, .int (nI j_12))]) X dX8_ask_27 (by decide) rfl ?_
      have L29 : ∀ (k_29 j_29 : Nat), j_29 + k_29 = z1.1.toNatClampNeg → WW p l e (headSpec wsX8_ask { frames := 3, cells := 0, slots := 0, locals := 73 }).room s m args below meth c 9 D A 0 0 (RQi below args s D A ((f_X8_ask SM).1) (fl [wX8 cI cZ cQ rM ((f_X8_ask SM).2)])) (fl [wX8 cI cZ cQ rM z1.2]) [(0, .ref (rM 0)), (1, .int z1.1), (2, .int ((it_X8_ask_12 z1.2 z1.1 ((-1), z1.1) j_12).1)), (3, .int ((it_X8_ask_12 z1.2 z1.1 ((-1), z1.1) j_12).2)), (4, .int (nI j_12)), (5, .int (it_X8_ask_29 z1.2 z1.1 ((it_X8_ask_12 z1.2 z1.1 ((-1), z1.1) j_12).1) ((it_X8_ask_12 z1.2 z1.1 ((-1), z1.1) j_12).2) j_12 (0 : Int32) z1.1.toNatClampNeg)), (6, .int (nI z1.1.toNatClampNeg))] 114 [] → WW p l e (headSpec wsX8_ask { frames := 3, cells := 0, slots := 0, locals := 73 }).room s m args below meth c 9 D A 0 0 (RQi below args s D A ((f_X8_ask SM).1) (fl [wX8 cI cZ cQ rM ((f_X8_ask SM).2)])) (fl [wX8 cI cZ cQ rM z1.2]) [(0, .ref (rM 0)), (1, .int z1.1), (2, .int ((it_X8_ask_12 z1.2 z1.1 ((-1), z1.1) j_12).1)), (3, .int ((it_X8_ask_12 z1.2 z1.1 ((-1), z1.1) j_12).2)), (4, .int (nI j_12)), (5, .int (it_X8_ask_29 z1.2 z1.1 ((it_X8_ask_12 z1.2 z1.1 ((-1), z1.1) j_12).1) ((it_X8_ask_12 z1.2 z1.1 ((-1), z1.1) j_12).2) j_12 (0 : Int32) j_29)), (6, .int (nI j_29))] 29 [] := by
        intro k_29
        induction k_29 with
        | zero =>
          intro j_29 hj K
          have hjB : j_29 = z1.1.toNatClampNeg := by omega
          subst hjB
          refine ww_iload (pc := 29) X dX8_ask_29 6 rfl ?_
          refine ww_iload_n (pc := 31) X dX8_ask_31 1 rfl rfl ?_
          exact ww_icmp_ge (pc := 32) (tgt := 114) X dX8_ask_32 (by decide) (fun _ => K) (fun c9 => absurd (lp_ge0c (Nat.le_refl _) (cl_lt _)) c9)
        | succ k_29 ih =>
          intro j_29 hj K
          have hjB : j_29 < z1.1.toNatClampNeg := by omega
          refine ww_iload (pc := 29) X dX8_ask_29 6 rfl ?_
          refine ww_iload_n (pc := 31) X dX8_ask_31 1 rfl rfl ?_
          refine ww_icmp_ge (pc := 32) (tgt := 114) X dX8_ask_32 (by decide) (fun c9 => absurd c9 (lp_ge1c hjB)) (fun _ => ?_)
          refine ww_iconst (pc := 35) (v := 0) X dX8_ask_35 (by decide) ?_
          refine ww_istore (pc := 36) (lv' := [(7, .int 0), (0, .ref (rM 0)), (1, .int z1.1), (2, .int ((it_X8_ask_12 z1.2 z1.1 ((-1), z1.1) j_12).1)), (3, .int ((it_X8_ask_12 z1.2 z1.1 ((-1), z1.1) j_12).2)), (4, .int (nI j_12)), (5, .int (it_X8_ask_29 z1.2 z1.1 ((it_X8_ask_12 z1.2 z1.1 ((-1), z1.1) j_12).1) ((it_X8_ask_12 z1.2 z1.1 ((-1), z1.1) j_12).2) j_12 (0 : Int32) j_29)), (6, .int (nI j_29))]) X dX8_ask_36 (by decide) rfl ?_
          refine ww_iconst (pc := 38) (v := 0) X dX8_ask_38 (by decide) ?_
          refine ww_istore (pc := 39) (lv' := [(8, .int 0), (7, .int 0), (0, .ref (rM 0)), (1, .int z1.1), (2, .int ((it_X8_ask_12 z1.2 z1.1 ((-1), z1.1) j_12).1)), (3, .int ((it_X8_ask_12 z1.2 z1.1 ((-1), z1.1) j_12).2)), (4, .int (nI j_12)), (5, .int (it_X8_ask_29 z1.2 z1.1 ((it_X8_ask_12 z1.2 z1.1 ((-1), z1.1) j_12).1) ((it_X8_ask_12 z1.2 z1.1 ((-1), z1.1) j_12).2) j_12 (0 : Int32) j_29)), (6, .int (nI j_29))]) X dX8_ask_39 (by decide) rfl ?_
          have L41 : ∀ (k_41 j_41 : Nat), j_41 + k_41 = z1.1.toNatClampNeg → WW p l e (headSpec wsX8_ask { frames := 3, cells := 0, slots := 0, locals := 73 }).room s m args below meth c 9 D A 0 0 (RQi below args s D A ((f_X8_ask SM).1) (fl [wX8 cI cZ cQ rM ((f_X8_ask SM).2)])) (fl [wX8 cI cZ cQ rM z1.2]) [(0, .ref (rM 0)), (1, .int z1.1), (2, .int ((it_X8_ask_12 z1.2 z1.1 ((-1), z1.1) j_12).1)), (3, .int ((it_X8_ask_12 z1.2 z1.1 ((-1), z1.1) j_12).2)), (4, .int (nI j_12)), (5, .int (it_X8_ask_29 z1.2 z1.1 ((it_X8_ask_12 z1.2 z1.1 ((-1), z1.1) j_12).1) ((it_X8_ask_12 z1.2 z1.1 ((-1), z1.1) j_12).2) j_12 (0 : Int32) j_29)), (6, .int (nI j_29)), (7, .int (it_X8_ask_41 z1.2 z1.1 ((it_X8_ask_12 z1.2 z1.1 ((-1), z1.1) j_12).1) ((it_X8_ask_12 z1.2 z1.1 ((-1), z1.1) j_12).2) j_12 (it_X8_ask_29 z1.2 z1.1 ((it_X8_ask_12 z1.2 z1.1 ((-1), z1.1) j_12).1) ((it_X8_ask_12 z1.2 z1.1 ((-1), z1.1) j_12).2) j_12 (0 : Int32) j_29) j_29 (0 : Int32) z1.1.toNatClampNeg)), (8, .int (nI z1.1.toNatClampNeg))] 92 [] → WW p l e (headSpec wsX8_ask { frames := 3, cells := 0, slots := 0, locals := 73 }).room s m args below meth c 9 D A 0 0 (RQi below args s D A ((f_X8_ask SM).1) (fl [wX8 cI cZ cQ rM ((f_X8_ask SM).2)])) (fl [wX8 cI cZ cQ rM z1.2]) [(0, .ref (rM 0)), (1, .int z1.1), (2, .int ((it_X8_ask_12 z1.2 z1.1 ((-1), z1.1) j_12).1)), (3, .int ((it_X8_ask_12 z1.2 z1.1 ((-1), z1.1) j_12).2)), (4, .int (nI j_12)), (5, .int (it_X8_ask_29 z1.2 z1.1 ((it_X8_ask_12 z1.2 z1.1 ((-1), z1.1) j_12).1) ((it_X8_ask_12 z1.2 z1.1 ((-1), z1.1) j_12).2) j_12 (0 : Int32) j_29)), (6, .int (nI j_29)), (7, .int (it_X8_ask_41 z1.2 z1.1 ((it_X8_ask_12 z1.2 z1.1 ((-1), z1.1) j_12).1) ((it_X8_ask_12 z1.2 z1.1 ((-1), z1.1) j_12).2) j_12 (it_X8_ask_29 z1.2 z1.1 ((it_X8_ask_12 z1.2 z1.1 ((-1), z1.1) j_12).1) ((it_X8_ask_12 z1.2 z1.1 ((-1), z1.1) j_12).2) j_12 (0 : Int32) j_29) j_29 (0 : Int32) j_41)), (8, .int (nI j_41))] 41 [] := by
            intro k_41
            induction k_41 with
            | zero =>
              intro j_41 hj K
              have hjB : j_41 = z1.1.toNatClampNeg := by omega
              subst hjB
              refine ww_iload (pc := 41) X dX8_ask_41 8 rfl ?_
              refine ww_iload_n (pc := 43) X dX8_ask_43 1 rfl rfl ?_
              exact ww_icmp_ge (pc := 44) (tgt := 92) X dX8_ask_44 (by decide) (fun _ => K) (fun c9 => absurd (lp_ge0c (Nat.le_refl _) (cl_lt _)) c9)
            | succ k_41 ih =>
              intro j_41 hj K
              have hjB : j_41 < z1.1.toNatClampNeg := by omega
              refine ww_iload (pc := 41) X dX8_ask_41 8 rfl ?_
              refine ww_iload_n (pc := 43) X dX8_ask_43 1 rfl rfl ?_
              refine ww_icmp_ge (pc := 44) (tgt := 92) X dX8_ask_44 (by decide) (fun c9 => absurd c9 (lp_ge1c hjB)) (fun _ => ?_)
              refine ww_iload (pc := 47) X dX8_ask_47 7 rfl ?_
              refine ww_aload_n (pc := 49) X dX8_ask_49 0 rfl rfl ?_
              refine ww_get (pc := 50) (ci := 8) (v := .ref (rM 19)) (C := RX8) (T := TX8) (N := 27) X inX8_ask_8 0 rfl rfl 26 (by decide) (by decide +kernel) rfl dX8_ask_50 ?_
              refine ww_bipush (pc := 53) (v := 6) X dX8_ask_53 (by decide) ?_
              refine ww_iload (pc := 55) X dX8_ask_55 8 rfl ?_
              refine ww_imul (pc := 57) X dX8_ask_57 ?_
              refine ww_iload (pc := 58) X dX8_ask_58 4 rfl ?_
              refine ww_iadd (pc := 60) X dX8_ask_60 ?_
              refine ww_iald (pc := 61) (f := z1.2.2 18) X 19 0 rfl rfl (vn (m := (6 * j_41) + j_12) (nat_iadd (a := 6 * j_41) (b := j_12) (nat_imul (a := 6) (b := j_41) rfl rfl) rfl) (by omega) (by decide)) dX8_ask_61 ?_
              refine ww_aload_n (pc := 62) X dX8_ask_62 0 rfl rfl ?_
              refine ww_get (pc := 63) (ci := 8) (v := .ref (rM 19)) (C := RX8) (T := TX8) (N := 27) X inX8_ask_8 0 rfl rfl 26 (by decide) (by decide +kernel) rfl dX8_ask_63 ?_
              refine ww_bipush (pc := 66) (v := 6) X dX8_ask_66 (by decide) ?_
              refine ww_iload (pc := 68) X dX8_ask_68 6 rfl ?_
              refine ww_imul (pc := 70) X dX8_ask_70 ?_
              refine ww_iload (pc := 71) X dX8_ask_71 4 rfl ?_
              refine ww_iadd (pc := 73) X dX8_ask_73 ?_
              refine ww_iald (pc := 74) (f := z1.2.2 18) X 19 0 rfl rfl (vn (m := (6 * j_29) + j_12) (nat_iadd (a := 6 * j_29) (b := j_12) (nat_imul (a := 6) (b := j_29) rfl rfl) rfl) (by omega) (by decide)) dX8_ask_74 ?_
              refine ww_icmp_ne (pc := 75) (tgt := 82) X dX8_ask_75 (by decide) (fun c21 => ?_) (fun c21 => ?_)
              · refine ww_iconst (pc := 82) (v := 0) X dX8_ask_82 (by decide) ?_
                refine ww_iadd (pc := 83) X dX8_ask_83 ?_
                generalize hz22 : ((it_X8_ask_41 z1.2 z1.1 ((it_X8_ask_12 z1.2 z1.1 ((-1), z1.1) j_12).1) ((it_X8_ask_12 z1.2 z1.1 ((-1), z1.1) j_12).2) j_12 (it_X8_ask_29 z1.2 z1.1 ((it_X8_ask_12 z1.2 z1.1 ((-1), z1.1) j_12).1) ((it_X8_ask_12 z1.2 z1.1 ((-1), z1.1) j_12).2) j_12 (0 : Int32) j_29) j_29 (0 : Int32) j_41) + 0) = z22
                refine ww_istore (pc := 84) (lv' := [(7, .int z22), (0, .ref (rM 0)), (1, .int z1.1), (2, .int ((it_X8_ask_12 z1.2 z1.1 ((-1), z1.1) j_12).1)), (3, .int ((it_X8_ask_12 z1.2 z1.1 ((-1), z1.1) j_12).2)), (4, .int (nI j_12)), (5, .int (it_X8_ask_29 z1.2 z1.1 ((it_X8_ask_12 z1.2 z1.1 ((-1), z1.1) j_12).1) ((it_X8_ask_12 z1.2 z1.1 ((-1), z1.1) j_12).2) j_12 (0 : Int32) j_29)), (6, .int (nI j_29)), (8, .int (nI j_41))]) X dX8_ask_84 (by decide) rfl ?_
                refine ww_iinc (pc := 86) (v := (nI j_41) + 1) (lv' := [(8, .int ((nI j_41) + 1)), (7, .int z22), (0, .ref (rM 0)), (1, .int z1.1), (2, .int ((it_X8_ask_12 z1.2 z1.1 ((-1), z1.1) j_12).1)), (3, .int ((it_X8_ask_12 z1.2 z1.1 ((-1), z1.1) j_12).2)), (4, .int (nI j_12)), (5, .int (it_X8_ask_29 z1.2 z1.1 ((it_X8_ask_12 z1.2 z1.1 ((-1), z1.1) j_12).1) ((it_X8_ask_12 z1.2 z1.1 ((-1), z1.1) j_12).2) j_12 (0 : Int32) j_29)), (6, .int (nI j_29))]) X dX8_ask_86 8 rfl rfl (by decide) rfl ?_
                refine ww_goto (pc := 89) (tgt := 41) X dX8_ask_89 (by decide) ?_
                have h23 : (it_X8_ask_41 z1.2 z1.1 ((it_X8_ask_12 z1.2 z1.1 ((-1), z1.1) j_12).1) ((it_X8_ask_12 z1.2 z1.1 ((-1), z1.1) j_12).2) j_12 (it_X8_ask_29 z1.2 z1.1 ((it_X8_ask_12 z1.2 z1.1 ((-1), z1.1) j_12).1) ((it_X8_ask_12 z1.2 z1.1 ((-1), z1.1) j_12).2) j_12 (0 : Int32) j_29) j_29 (0 : Int32) (j_41 + 1)) = z22 := by
                  show bd_X8_ask_41 z1.2 z1.1 ((it_X8_ask_12 z1.2 z1.1 ((-1), z1.1) j_12).1) ((it_X8_ask_12 z1.2 z1.1 ((-1), z1.1) j_12).2) j_12 (it_X8_ask_29 z1.2 z1.1 ((it_X8_ask_12 z1.2 z1.1 ((-1), z1.1) j_12).1) ((it_X8_ask_12 z1.2 z1.1 ((-1), z1.1) j_12).2) j_12 (0 : Int32) j_29) j_29 j_41 (it_X8_ask_41 z1.2 z1.1 ((it_X8_ask_12 z1.2 z1.1 ((-1), z1.1) j_12).1) ((it_X8_ask_12 z1.2 z1.1 ((-1), z1.1) j_12).2) j_12 (it_X8_ask_29 z1.2 z1.1 ((it_X8_ask_12 z1.2 z1.1 ((-1), z1.1) j_12).1) ((it_X8_ask_12 z1.2 z1.1 ((-1), z1.1) j_12).2) j_12 (0 : Int32) j_29) j_29 (0 : Int32) j_41) = _; unfold bd_X8_ask_41; try rw [if_neg c21, hz22]; try unfold bd_X8_ask_41_k1; first | done | rfl
                refine ww_lsub [2, 3, 4, 5, 6, 7, 8, 1, 0] rfl ?_
                exact ww_castI (fun u9 : Int32 => fl [wX8 cI cZ cQ rM z1.2]) (fun (u9 : Int32) (i9 : Int32) => ([(0, .ref (rM 0)), (1, .int z1.1), (2, .int ((it_X8_ask_12 z1.2 z1.1 ((-1), z1.1) j_12).1)), (3, .int ((it_X8_ask_12 z1.2 z1.1 ((-1), z1.1) j_12).2)), (4, .int (nI j_12)), (5, .int (it_X8_ask_29 z1.2 z1.1 ((it_X8_ask_12 z1.2 z1.1 ((-1), z1.1) j_12).1) ((it_X8_ask_12 z1.2 z1.1 ((-1), z1.1) j_12).2) j_12 (0 : Int32) j_29)), (6, .int (nI j_29)), (7, .int u9), (8, .int i9)] : List (Nat × Value))) h23 (ih (j_41 + 1) (by omega) K)
              · refine ww_iconst (pc := 78) (v := 1) X dX8_ask_78 (by decide) ?_
                refine ww_goto (pc := 79) (tgt := 83) X dX8_ask_79 (by decide) ?_
                refine ww_iadd (pc := 83) X dX8_ask_83 ?_
                generalize hz24 : ((it_X8_ask_41 z1.2 z1.1 ((it_X8_ask_12 z1.2 z1.1 ((-1), z1.1) j_12).1) ((it_X8_ask_12 z1.2 z1.1 ((-1), z1.1) j_12).2) j_12 (it_X8_ask_29 z1.2 z1.1 ((it_X8_ask_12 z1.2 z1.1 ((-1), z1.1) j_12).1) ((it_X8_ask_12 z1.2 z1.1 ((-1), z1.1) j_12).2) j_12 (0 : Int32) j_29) j_29 (0 : Int32) j_41) + 1) = z24
                refine ww_istore (pc := 84) (lv' := [(7, .int z24), (0, .ref (rM 0)), (1, .int z1.1), (2, .int ((it_X8_ask_12 z1.2 z1.1 ((-1), z1.1) j_12).1)), (3, .int ((it_X8_ask_12 z1.2 z1.1 ((-1), z1.1) j_12).2)), (4, .int (nI j_12)), (5, .int (it_X8_ask_29 z1.2 z1.1 ((it_X8_ask_12 z1.2 z1.1 ((-1), z1.1) j_12).1) ((it_X8_ask_12 z1.2 z1.1 ((-1), z1.1) j_12).2) j_12 (0 : Int32) j_29)), (6, .int (nI j_29)), (8, .int (nI j_41))]) X dX8_ask_84 (by decide) rfl ?_
                refine ww_iinc (pc := 86) (v := (nI j_41) + 1) (lv' := [(8, .int ((nI j_41) + 1)), (7, .int z24), (0, .ref (rM 0)), (1, .int z1.1), (2, .int ((it_X8_ask_12 z1.2 z1.1 ((-1), z1.1) j_12).1)), (3, .int ((it_X8_ask_12 z1.2 z1.1 ((-1), z1.1) j_12).2)), (4, .int (nI j_12)), (5, .int (it_X8_ask_29 z1.2 z1.1 ((it_X8_ask_12 z1.2 z1.1 ((-1), z1.1) j_12).1) ((it_X8_ask_12 z1.2 z1.1 ((-1), z1.1) j_12).2) j_12 (0 : Int32) j_29)), (6, .int (nI j_29))]) X dX8_ask_86 8 rfl rfl (by decide) rfl ?_
                refine ww_goto (pc := 89) (tgt := 41) X dX8_ask_89 (by decide) ?_
                have h25 : (it_X8_ask_41 z1.2 z1.1 ((it_X8_ask_12 z1.2 z1.1 ((-1), z1.1) j_12).1) ((it_X8_ask_12 z1.2 z1.1 ((-1), z1.1) j_12).2) j_12 (it_X8_ask_29 z1.2 z1.1 ((it_X8_ask_12 z1.2 z1.1 ((-1), z1.1) j_12).1) ((it_X8_ask_12 z1.2 z1.1 ((-1), z1.1) j_12).2) j_12 (0 : Int32) j_29) j_29 (0 : Int32) (j_41 + 1)) = z24 := by
                  show bd_X8_ask_41 z1.2 z1.1 ((it_X8_ask_12 z1.2 z1.1 ((-1), z1.1) j_12).1) ((it_X8_ask_12 z1.2 z1.1 ((-1), z1.1) j_12).2) j_12 (it_X8_ask_29 z1.2 z1.1 ((it_X8_ask_12 z1.2 z1.1 ((-1), z1.1) j_12).1) ((it_X8_ask_12 z1.2 z1.1 ((-1), z1.1) j_12).2) j_12 (0 : Int32) j_29) j_29 j_41 (it_X8_ask_41 z1.2 z1.1 ((it_X8_ask_12 z1.2 z1.1 ((-1), z1.1) j_12).1) ((it_X8_ask_12 z1.2 z1.1 ((-1), z1.1) j_12).2) j_12 (it_X8_ask_29 z1.2 z1.1 ((it_X8_ask_12 z1.2 z1.1 ((-1), z1.1) j_12).1) ((it_X8_ask_12 z1.2 z1.1 ((-1), z1.1) j_12).2) j_12 (0 : Int32) j_29) j_29 (0 : Int32) j_41) = _; unfold bd_X8_ask_41; try rw [if_pos c21, hz24]; try unfold bd_X8_ask_41_k2; first | done | rfl
                refine ww_lsub [2, 3, 4, 5, 6, 7, 8, 1, 0] rfl ?_
                exact ww_castI (fun u9 : Int32 => fl [wX8 cI cZ cQ rM z1.2]) (fun (u9 : Int32) (i9 : Int32) => ([(0, .ref (rM 0)), (1, .int z1.1), (2, .int ((it_X8_ask_12 z1.2 z1.1 ((-1), z1.1) j_12).1)), (3, .int ((it_X8_ask_12 z1.2 z1.1 ((-1), z1.1) j_12).2)), (4, .int (nI j_12)), (5, .int (it_X8_ask_29 z1.2 z1.1 ((it_X8_ask_12 z1.2 z1.1 ((-1), z1.1) j_12).1) ((it_X8_ask_12 z1.2 z1.1 ((-1), z1.1) j_12).2) j_12 (0 : Int32) j_29)), (6, .int (nI j_29)), (7, .int u9), (8, .int i9)] : List (Nat × Value))) h25 (ih (j_41 + 1) (by omega) K)
          refine ww_lsub [2, 3, 4, 5, 6, 7, 8, 1, 0] rfl ?_
          refine L41 z1.1.toNatClampNeg 0 (by omega) ?_
          generalize hz26 : ((it_X8_ask_41 z1.2 z1.1 ((it_X8_ask_12 z1.2 z1.1 ((-1), z1.1) j_12).1) ((it_X8_ask_12 z1.2 z1.1 ((-1), z1.1) j_12).2) j_12 (it_X8_ask_29 z1.2 z1.1 ((it_X8_ask_12 z1.2 z1.1 ((-1), z1.1) j_12).1) ((it_X8_ask_12 z1.2 z1.1 ((-1), z1.1) j_12).2) j_12 (0 : Int32) j_29) j_29 (0 : Int32) z1.1.toNatClampNeg)) = z26
          refine ww_iload (pc := 92) X dX8_ask_92 7 rfl ?_
          refine ww_iload (pc := 94) X dX8_ask_94 5 rfl ?_
          refine ww_icmp_le (pc := 96) (tgt := 104) X dX8_ask_96 (by decide) (fun c27 => ?_) (fun c27 => ?_)
          · refine ww_iload (pc := 104) X dX8_ask_104 5 rfl ?_
            generalize hz28 : ((it_X8_ask_29 z1.2 z1.1 ((it_X8_ask_12 z1.2 z1.1 ((-1), z1.1) j_12).1) ((it_X8_ask_12 z1.2 z1.1 ((-1), z1.1) j_12).2) j_12 (0 : Int32) j_29)) = z28
            refine ww_istore (pc := 106) (lv' := [(5, .int z28), (0, .ref (rM 0)), (1, .int z1.1), (2, .int ((it_X8_ask_12 z1.2 z1.1 ((-1), z1.1) j_12).1)), (3, .int ((it_X8_ask_12 z1.2 z1.1 ((-1), z1.1) j_12).2)), (4, .int (nI j_12)), (6, .int (nI j_29)), (7, .int z26), (8, .int (nI z1.1.toNatClampNeg))]) X dX8_ask_106 (by decide) rfl ?_
            refine ww_iinc (pc := 108) (v := (nI j_29) + 1) (lv' := [(6, .int ((nI j_29) + 1)), (5, .int z28), (0, .ref (rM 0)), (1, .int z1.1), (2, .int ((it_X8_ask_12 z1.2 z1.1 ((-1), z1.1) j_12).1)), (3, .int ((it_X8_ask_12 z1.2 z1.1 ((-1), z1.1) j_12).2)), (4, .int (nI j_12)), (7, .int z26), (8, .int (nI z1.1.toNatClampNeg))]) X dX8_ask_108 6 rfl rfl (by decide) rfl ?_
            refine ww_goto (pc := 111) (tgt := 29) X dX8_ask_111 (by decide) ?_
            have h29 : (it_X8_ask_29 z1.2 z1.1 ((it_X8_ask_12 z1.2 z1.1 ((-1), z1.1) j_12).1) ((it_X8_ask_12 z1.2 z1.1 ((-1), z1.1) j_12).2) j_12 (0 : Int32) (j_29 + 1)) = z28 := by
              show bd_X8_ask_29 z1.2 z1.1 ((it_X8_ask_12 z1.2 z1.1 ((-1), z1.1) j_12).1) ((it_X8_ask_12 z1.2 z1.1 ((-1), z1.1) j_12).2) j_12 j_29 (it_X8_ask_29 z1.2 z1.1 ((it_X8_ask_12 z1.2 z1.1 ((-1), z1.1) j_12).1) ((it_X8_ask_12 z1.2 z1.1 ((-1), z1.1) j_12).2) j_12 (0 : Int32) j_29) = _; unfold bd_X8_ask_29; try rw [hz26]; try unfold bd_X8_ask_29_k1; try rw [if_pos c27, hz28]; try unfold bd_X8_ask_29_k2; first | done | rfl
            refine ww_lsub [2, 3, 4, 5, 6, 1, 0] rfl ?_
            exact ww_castI (fun u9 : Int32 => fl [wX8 cI cZ cQ rM z1.2]) (fun (u9 : Int32) (i9 : Int32) => ([(0, .ref (rM 0)), (1, .int z1.1), (2, .int ((it_X8_ask_12 z1.2 z1.1 ((-1), z1.1) j_12).1)), (3, .int ((it_X8_ask_12 z1.2 z1.1 ((-1), z1.1) j_12).2)), (4, .int (nI j_12)), (5, .int u9), (6, .int i9)] : List (Nat × Value))) h29 (ih (j_29 + 1) (by omega) K)
          · refine ww_iload (pc := 99) X dX8_ask_99 7 rfl ?_
            refine ww_goto (pc := 101) (tgt := 106) X dX8_ask_101 (by decide) ?_
            refine ww_istore (pc := 106) (lv' := [(5, .int z26), (0, .ref (rM 0)), (1, .int z1.1), (2, .int ((it_X8_ask_12 z1.2 z1.1 ((-1), z1.1) j_12).1)), (3, .int ((it_X8_ask_12 z1.2 z1.1 ((-1), z1.1) j_12).2)), (4, .int (nI j_12)), (6, .int (nI j_29)), (7, .int z26), (8, .int (nI z1.1.toNatClampNeg))]) X dX8_ask_106 (by decide) rfl ?_
            refine ww_iinc (pc := 108) (v := (nI j_29) + 1) (lv' := [(6, .int ((nI j_29) + 1)), (5, .int z26), (0, .ref (rM 0)), (1, .int z1.1), (2, .int ((it_X8_ask_12 z1.2 z1.1 ((-1), z1.1) j_12).1)), (3, .int ((it_X8_ask_12 z1.2 z1.1 ((-1), z1.1) j_12).2)), (4, .int (nI j_12)), (7, .int z26), (8, .int (nI z1.1.toNatClampNeg))]) X dX8_ask_108 6 rfl rfl (by decide) rfl ?_
            refine ww_goto (pc := 111) (tgt := 29) X dX8_ask_111 (by decide) ?_
            have h30 : (it_X8_ask_29 z1.2 z1.1 ((it_X8_ask_12 z1.2 z1.1 ((-1), z1.1) j_12).1) ((it_X8_ask_12 z1.2 z1.1 ((-1), z1.1) j_12).2) j_12 (0 : Int32) (j_29 + 1)) = z26 := by
              show bd_X8_ask_29 z1.2 z1.1 ((it_X8_ask_12 z1.2 z1.1 ((-1), z1.1) j_12).1) ((it_X8_ask_12 z1.2 z1.1 ((-1), z1.1) j_12).2) j_12 j_29 (it_X8_ask_29 z1.2 z1.1 ((it_X8_ask_12 z1.2 z1.1 ((-1), z1.1) j_12).1) ((it_X8_ask_12 z1.2 z1.1 ((-1), z1.1) j_12).2) j_12 (0 : Int32) j_29) = _; unfold bd_X8_ask_29; try rw [hz26]; try unfold bd_X8_ask_29_k1; try rw [if_neg c27]; first | done | rfl
            refine ww_lsub [2, 3, 4, 5, 6, 1, 0] rfl ?_
            exact ww_castI (fun u9 : Int32 => fl [wX8 cI cZ cQ rM z1.2]) (fun (u9 : Int32) (i9 : Int32) => ([(0, .ref (rM 0)), (1, .int z1.1), (2, .int ((it_X8_ask_12 z1.2 z1.1 ((-1), z1.1) j_12).1)), (3, .int ((it_X8_ask_12 z1.2 z1.1 ((-1), z1.1) j_12).2)), (4, .int (nI j_12)), (5, .int u9), (6, .int i9)] : List (Nat × Value))) h30 (ih (j_29 + 1) (by omega) K)
      refine ww_lsub [2, 3, 4, 5, 6, 1, 0] rfl ?_
      refine L29 z1.1.toNatClampNeg 0 (by omega) ?_
      generalize hz31 : ((it_X8_ask_29 z1.2 z1.1 ((it_X8_ask_12 z1.2 z1.1 ((-1), z1.1) j_12).1) ((it_X8_ask_12 z1.2 z1.1 ((-1), z1.1) j_12).2) j_12 (0 : Int32) z1.1.toNatClampNeg)) = z31
      refine ww_iload (pc := 114) X dX8_ask_114 5 rfl ?_
      refine ww_iload_n (pc := 116) X dX8_ask_116 3 rfl rfl ?_
      refine ww_icmp_ge (pc := 117) (tgt := 125) X dX8_ask_117 (by decide) (fun c32 => ?_) (fun c32 => ?_)
      · refine ww_iload_n (pc := 125) X dX8_ask_125 2 rfl rfl ?_
        refine ww_istore_n (pc := 126) (lv' := [(2, .int ((it_X8_ask_12 z1.2 z1.1 ((-1), z1.1) j_12).1)), (0, .ref (rM 0)), (1, .int z1.1), (3, .int ((it_X8_ask_12 z1.2 z1.1 ((-1), z1.1) j_12).2)), (4, .int (nI j_12)), (5, .int z31), (6, .int (nI z1.1.toNatClampNeg))]) X dX8_ask_126 rfl (by decide) rfl ?_
        refine ww_iload (pc := 127) X dX8_ask_127 5 rfl ?_
        refine ww_iload_n (pc := 129) X dX8_ask_129 3 rfl rfl ?_
        refine ww_icmp_ge (pc := 130) (tgt := 138) X dX8_ask_130 (by decide) (fun _ => ?_) (fun c33 => absurd c32 c33)
        refine ww_iload_n (pc := 138) X dX8_ask_138 3 rfl rfl ?_
        refine ww_istore_n (pc := 139) (lv' := [(3, .int ((it_X8_ask_12 z1.2 z1.1 ((-1), z1.1) j_12).2)), (2, .int ((it_X8_ask_12 z1.2 z1.1 ((-1), z1.1) j_12).1)), (0, .ref (rM 0)), (1, .int z1.1), (4, .int (nI j_12)), (5, .int z31), (6, .int (nI z1.1.toNatClampNeg))]) X dX8_ask_139 rfl (by decide) rfl ?_
        refine ww_iinc (pc := 140) (v := (nI j_12) + 1) (lv' := [(4, .int ((nI j_12) + 1)), (3, .int ((it_X8_ask_12 z1.2 z1.1 ((-1), z1.1) j_12).2)), (2, .int ((it_X8_ask_12 z1.2 z1.1 ((-1), z1.1) j_12).1)), (0, .ref (rM 0)), (1, .int z1.1), (5, .int z31), (6, .int (nI z1.1.toNatClampNeg))]) X dX8_ask_140 4 rfl rfl (by decide) rfl ?_
        refine ww_goto (pc := 143) (tgt := 12) X dX8_ask_143 (by decide) ?_
        have h34 : (it_X8_ask_12 z1.2 z1.1 ((-1), z1.1) (j_12 + 1)) = ((it_X8_ask_12 z1.2 z1.1 ((-1), z1.1) j_12).1, (it_X8_ask_12 z1.2 z1.1 ((-1), z1.1) j_12).2) := by
          show bd_X8_ask_12 z1.2 z1.1 j_12 (it_X8_ask_12 z1.2 z1.1 ((-1), z1.1) j_12) = _; unfold bd_X8_ask_12; try rw [hz31]; try unfold bd_X8_ask_12_k1; try rw [if_pos c32]; first | done | rfl
        refine ww_lsub [3, 4, 2, 1, 0] rfl ?_
        exact ww_castI (fun u9 : Int32 × Int32 => fl [wX8 cI cZ cQ rM z1.2]) (fun (u9 : Int32 × Int32) (i9 : Int32) => ([(0, .ref (rM 0)), (1, .int z1.1), (2, .int u9.1), (3, .int u9.2), (4, .int i9)] : List (Nat × Value))) h34 (ih (j_12 + 1) (by omega) K)
      · refine ww_iload (pc := 120) X dX8_ask_120 4 rfl ?_
        refine ww_goto (pc := 122) (tgt := 126) X dX8_ask_122 (by decide) ?_
        refine ww_istore_n (pc := 126) (lv' := [(2, .int (nI j_12)), (0, .ref (rM 0)), (1, .int z1.1), (3, .int ((it_X8_ask_12 z1.2 z1.1 ((-1), z1.1) j_12).2)), (4, .int (nI j_12)), (5, .int z31), (6, .int (nI z1.1.toNatClampNeg))]) X dX8_ask_126 rfl (by decide) rfl ?_
        refine ww_iload (pc := 127) X dX8_ask_127 5 rfl ?_
        refine ww_iload_n (pc := 129) X dX8_ask_129 3 rfl rfl ?_
        refine ww_icmp_ge (pc := 130) (tgt := 138) X dX8_ask_130 (by decide) (fun c35 => absurd c35 c32) (fun _ => ?_)
        refine ww_iload (pc := 133) X dX8_ask_133 5 rfl ?_
        refine ww_goto (pc := 135) (tgt := 139) X dX8_ask_135 (by decide) ?_
        refine ww_istore_n (pc := 139) (lv' := [(3, .int z31), (2, .int (nI j_12)), (0, .ref (rM 0)), (1, .int z1.1), (4, .int (nI j_12)), (5, .int z31), (6, .int (nI z1.1.toNatClampNeg))]) X dX8_ask_139 rfl (by decide) rfl ?_
        refine ww_iinc (pc := 140) (v := (nI j_12) + 1) (lv' := [(4, .int ((nI j_12) + 1)), (3, .int z31), (2, .int (nI j_12)), (0, .ref (rM 0)), (1, .int z1.1), (5, .int z31), (6, .int (nI z1.1.toNatClampNeg))]) X dX8_ask_140 4 rfl rfl (by decide) rfl ?_
        refine ww_goto (pc := 143) (tgt := 12) X dX8_ask_143 (by decide) ?_
        have h36 : (it_X8_ask_12 z1.2 z1.1 ((-1), z1.1) (j_12 + 1)) = ((nI j_12), z31) := by
          show bd_X8_ask_12 z1.2 z1.1 j_12 (it_X8_ask_12 z1.2 z1.1 ((-1), z1.1) j_12) = _; unfold bd_X8_ask_12; try rw [hz31]; try unfold bd_X8_ask_12_k1; try rw [if_neg c32]; first | done | rfl
        refine ww_lsub [3, 4, 2, 1, 0] rfl ?_
        exact ww_castI (fun u9 : Int32 × Int32 => fl [wX8 cI cZ cQ rM z1.2]) (fun (u9 : Int32 × Int32) (i9 : Int32) => ([(0, .ref (rM 0)), (1, .int z1.1), (2, .int u9.1), (3, .int u9.2), (4, .int i9)] : List (Nat × Value))) h36 (ih (j_12 + 1) (by omega) K)
  refine ww_lsub [4, 3, 2, 1, 0] rfl ?_
  refine L12 (((z1.2.2 1) ((4 : Int32)).toNatClampNeg).toNatClampNeg) 0 (by omega) ?_
  generalize hz37 : ((it_X8_ask_12 z1.2 z1.1 ((-1), z1.1) (((z1.2.2 1) ((4 : Int32)).toNatClampNeg).toNatClampNeg))) = z37
  refine ww_iload_n (pc := 146) X dX8_ask_146 2 rfl rfl ?_
  have h38 : f_X8_ask SM = (z37.1, z1.2) := by unfold f_X8_ask; try rw [hz1]; try unfold f_X8_ask_k1; try rw [hz37]; try unfold f_X8_ask_k2; first | done | rfl
  have hw39 := congrArg (fun u9 : Int32 × St => fl [wX8 cI cZ cQ rM u9.2]) h38.symm
  exact ww_iret X hr rfl (congrArg (fun u9 : Int32 × St => u9.1) h38).symm hw39 dX8_ask_147
