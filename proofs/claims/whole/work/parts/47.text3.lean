def okR (S : St) : Prop := okT S ∧ okC S
def prog (S S' : St) : Prop := okR S' ∧ (S'.1 7 = 0 → (S.1 6).toNatClampNeg < (S'.1 6).toNatClampNeg)
def qT (S S' : St) : Prop := okT S' ∧ (S'.1 7 = 0 → S.1 7 = 0 ∧ (S.1 6).toNatClampNeg ≤ (S'.1 6).toNatClampNeg) ∧ ∀ i : Nat, 2 ≤ i → (S'.2 5) i = (S.2 5) i
theorem q_t {S T U : St} (h : qT S T) (g : qT T U) : qT S U := ⟨g.1, fun e => ⟨(h.2.1 (g.2.1 e).1).1, Nat.le_trans (h.2.1 (g.2.1 e).1).2 (g.2.1 e).2⟩, fun i hi => (g.2.2 i hi).trans (h.2.2 i hi)⟩
theorem q_m {S S' : St} (h : mT S S') : qT S S' := ⟨h.1.1, h.2, fun i _ => by rw [h.1.2.1]⟩
theorem q_sA {S : St} {j : Nat} {F : Nat → Int32} (hj : 5 ≠ j) (h : okT S) : qT S (sA S j F) := ⟨okT_sA h, fun e => ⟨e, Nat.le_refl _⟩, fun i _ => by rw [sA_ne hj]⟩
theorem q_5 {S : St} {k : Nat} {v : Int32} (hk : k < 2) (h : okT S) : qT S (sA S 5 (upd (S.2 5) k v)) := ⟨okT_sA h, fun e => ⟨e, Nat.le_refl _⟩, fun i hi => by rw [sA_eq]; exact pk_un (by omega)⟩
theorem okC_q {S S' : St} (h : ∀ i : Nat, 2 ≤ i → (S'.2 5) i = (S.2 5) i) (c : okC S) : okC S' := by
  unfold okC
  rw [h _ (by decide), h _ (by decide), h _ (by decide)]
  exact c
theorem pg_fail {S : St} (h : okR S) : prog S (f_X8_fails S 1) := ⟨⟨(k_fails h.1 1).1, okC_q (fun i _ => by rw [(k_fails h.1 1).2.1]) h.2⟩, fun e => absurd e (fl_ne (by decide))⟩
theorem pg_full {S : St} {a b : Int32} (h : okR S) (e : a = b) : prog S (f_X8_opens S a b).2 := by
  unfold f_X8_opens f_X8_opens_k1
  rw [if_pos e]
  exact ⟨⟨(k_fails h.1 3).1, okC_q (fun i _ => by rw [(k_fails h.1 3).2.1]) h.2⟩, fun e => absurd e (fl_ne (by decide))⟩
theorem op_z {S : St} {a b : Int32} (e : ¬ a = b) : f_X8_opens S a b = (1, sI S 6 ((S.1 6) + 1)) := by
  unfold f_X8_opens
  rw [if_neg e]
theorem pg_q {S S' : St} (h : okR S) (hl : S.1 6 < S.1 0) (q : qT (sI S 6 ((S.1 6) + 1)) S') : prog S S' := ⟨⟨q.1, okC_q (fun i hi => q.2.2 i hi) h.2⟩, fun e => by have := (q.2.1 e).2; rw [(okT_inc h.1 hl).2] at this; omega⟩
theorem pg_c {S S' : St} {n m : Nat} {N : Int32} (h : okR S) (hl : S.1 6 < S.1 0) (q : qT (sI S 6 ((S.1 6) + 1)) S') (hn : 2 ≤ n) (hN : N = nI m) (hm : m < 1000) (c0 : ¬ (S.2 5) n < 0) (c1 : (S.2 5) n ≤ N) (c2 : ¬ (S.2 5) n = N) : ¬ ((S'.2 5) n + 1) < 0 ∧ ((S'.2 5) n + 1) ≤ N := by
  rw [show (S'.2 5) n = (S.2 5) n from q.2.2 n hn]
  obtain ⟨j, hj, e⟩ := vp_in_of (vin_ne c0 c1 c2 hN) (by omega)
  rw [e, nI_1, hN]
  exact ⟨nI_pos (by omega), nI_le (by omega) (by omega)⟩
theorem pg_u {S S' : St} {n : Nat} (h : okR S) (hl : S.1 6 < S.1 0) (q : qT (sI S 6 ((S.1 6) + 1)) S') (c : okC (sA S' 5 (upd (S'.2 5) n (((S'.2 5) n) + 1)))) : prog S (sA S' 5 (upd (S'.2 5) n (((S'.2 5) n) + 1))) := ⟨⟨okT_sA q.1, c⟩, fun e => by have := (q.2.1 e).2; rw [(okT_inc h.1 hl).2] at this; exact (by omega : (S.1 6).toNatClampNeg < (S'.1 6).toNatClampNeg)⟩
theorem oc2 {S : St} {v : Int32} (h : okC S) (a : ¬ v < 0) (b : v ≤ 4) : okC (sA S 5 (upd (S.2 5) ((2 : Int32)).toNatClampNeg v)) := by
  unfold okC
  rw [sA_eq, pk_us, pk_un (by decide), pk_un (by decide)]
  exact ⟨⟨a, b⟩, h.2⟩
theorem oc3 {S : St} {v : Int32} (h : okC S) (a : ¬ v < 0) (b : v ≤ 7) : okC (sA S 5 (upd (S.2 5) ((3 : Int32)).toNatClampNeg v)) := by
  unfold okC
  rw [sA_eq, pk_us, pk_un (by decide), pk_un (by decide)]
  exact ⟨h.1, ⟨a, b⟩, h.2.2⟩
theorem oc4 {S : St} {v : Int32} (h : okC S) (a : ¬ v < 0) (b : v ≤ 6) : okC (sA S 5 (upd (S.2 5) ((4 : Int32)).toNatClampNeg v)) := by
  unfold okC
  rw [sA_eq, pk_us, pk_un (by decide), pk_un (by decide)]
  exact ⟨h.1, h.2.1, ⟨a, b⟩⟩
theorem pg_law {S : St} (h : okR S) (hl : S.1 6 < S.1 0) : prog S (f_X8_readsLaw S) := by
  unfold f_X8_readsLaw
  split
  · unfold f_X8_readsLaw_k5
    rw [op_z (by decide), if_neg (show ¬ ((1 : Int32) = 0) by decide)]
    unfold f_X8_readsLaw_k6 f_X8_readsLaw_k7 f_X8_readsLaw_k8
    have o1 := (okT_inc h.1 hl).1
    have n1 := q_m (m_number (a := 1) (b := 99) o1)
    have s1 := q_5 (k := ((0 : Int32)).toNatClampNeg) (v := (f_X8_number (sI S 6 ((S.1 6) + 1)) 1 99).1) (by decide) n1.1
    have n2 := q_m (m_number (a := 1) (b := 60) s1.1)
    have s2 := q_5 (k := ((1 : Int32)).toNatClampNeg) (v := (f_X8_number (sA (f_X8_number (sI S 6 ((S.1 6) + 1)) 1 99).2 5 (upd ((f_X8_number (sI S 6 ((S.1 6) + 1)) 1 99).2.2 5) ((0 : Int32)).toNatClampNeg (f_X8_number (sI S 6 ((S.1 6) + 1)) 1 99).1)) 1 60).1) (by decide) n2.1
    exact pg_q h hl (q_t n1 (q_t s1 (q_t n2 (q_t s2 (q_m (m_stops s2.1))))))
  · unfold f_X8_readsLaw_k1
    rw [if_pos (show (f_X8_opens S 1 1).1 = 0 by unfold f_X8_opens f_X8_opens_k1; rw [if_pos rfl])]
    exact pg_full h rfl
theorem q_rf {S : St} (h : okT S) : qT S S := ⟨h, fun e => ⟨e, Nat.le_refl _⟩, fun _ _ => rfl⟩
theorem qn {T S : St} {a b : Int32} (q : qT T S) : qT T (f_X8_number S a b).2 := q_t q (q_m (m_number q.1))
theorem qs {T S : St} {j : Nat} {F : Nat → Int32} (hj : 5 ≠ j) (q : qT T S) : qT T (sA S j F) := q_t q (q_sA hj q.1)
theorem qst {T S : St} (q : qT T S) : qT T (f_X8_stops S) := q_t q (q_m (m_stops q.1))
theorem pg_w2 {S S' : St} (h : okR S) (hl : S.1 6 < S.1 0) (q : qT (sI S 6 ((S.1 6) + 1)) S') (e : ¬ (S.2 5) ((2 : Int32)).toNatClampNeg = 4) : prog S (sA S' 5 (upd (S'.2 5) ((2 : Int32)).toNatClampNeg (((S'.2 5) ((2 : Int32)).toNatClampNeg) + 1))) := by
  have c := pg_c h hl q (n := ((2 : Int32)).toNatClampNeg) (by decide) (m := 4) rfl (by decide) h.2.1.1 h.2.1.2 e
  exact pg_u h hl q (oc2 (okC_q (fun i hi => q.2.2 i hi) h.2) c.1 c.2)
theorem pg_w3 {S S' : St} (h : okR S) (hl : S.1 6 < S.1 0) (q : qT (sI S 6 ((S.1 6) + 1)) S') (e : ¬ (S.2 5) ((3 : Int32)).toNatClampNeg = 7) : prog S (sA S' 5 (upd (S'.2 5) ((3 : Int32)).toNatClampNeg (((S'.2 5) ((3 : Int32)).toNatClampNeg) + 1))) := by
  have c := pg_c h hl q (n := ((3 : Int32)).toNatClampNeg) (by decide) (m := 7) rfl (by decide) h.2.2.1.1 h.2.2.1.2 e
  exact pg_u h hl q (oc3 (okC_q (fun i hi => q.2.2 i hi) h.2) c.1 c.2)
theorem pg_w4 {S S' : St} (h : okR S) (hl : S.1 6 < S.1 0) (q : qT (sI S 6 ((S.1 6) + 1)) S') (e : ¬ (S.2 5) ((4 : Int32)).toNatClampNeg = 6) : prog S (sA S' 5 (upd (S'.2 5) ((4 : Int32)).toNatClampNeg (((S'.2 5) ((4 : Int32)).toNatClampNeg) + 1))) := by
  have c := pg_c h hl q (n := ((4 : Int32)).toNatClampNeg) (by decide) (m := 6) rfl (by decide) h.2.2.2.1 h.2.2.2.2 e
  exact pg_u h hl q (oc4 (okC_q (fun i hi => q.2.2 i hi) h.2) c.1 c.2)
theorem pg_depth {S : St} (h : okR S) (hl : S.1 6 < S.1 0) : prog S (f_X8_readsDepth S) := by
  unfold f_X8_readsDepth f_X8_readsDepth_k1
  by_cases e : (S.2 5) ((2 : Int32)).toNatClampNeg = 4
  · rw [if_pos (show (f_X8_opens S ((S.2 5) ((2 : Int32)).toNatClampNeg) 4).1 = 0 by unfold f_X8_opens f_X8_opens_k1; rw [if_pos e])]
    exact pg_full h e
  · rw [op_z e, if_neg (show ¬ ((1 : Int32) = 0) by decide)]
    unfold f_X8_readsDepth_k2 f_X8_readsDepth_k3
    have o1 := (okT_inc h.1 hl).1
    exact pg_w2 h hl (qst (qs (by decide) (qn (q_rf o1)))) e
theorem pg_person {S : St} (h : okR S) (hl : S.1 6 < S.1 0) : prog S (f_X8_readsPerson S) := by
  unfold f_X8_readsPerson f_X8_readsPerson_k1
  by_cases e : (S.2 5) ((3 : Int32)).toNatClampNeg = 7
  · rw [if_pos (show (f_X8_opens S ((S.2 5) ((3 : Int32)).toNatClampNeg) 7).1 = 0 by unfold f_X8_opens f_X8_opens_k1; rw [if_pos e])]
    exact pg_full h e
  · rw [op_z e, if_neg (show ¬ ((1 : Int32) = 0) by decide)]
    unfold f_X8_readsPerson_k2 f_X8_readsPerson_k3 f_X8_readsPerson_k4
    have o1 := (okT_inc h.1 hl).1
    exact pg_w3 h hl (qst (qs (by decide) (qn (qs (by decide) (qn (q_rf o1)))))) e
theorem pg_good {S : St} (h : okR S) (hl : S.1 6 < S.1 0) : prog S (f_X8_readsGood S) := by
  unfold f_X8_readsGood f_X8_readsGood_k1
  by_cases e : (S.2 5) ((4 : Int32)).toNatClampNeg = 6
  · rw [if_pos (show (f_X8_opens S ((S.2 5) ((4 : Int32)).toNatClampNeg) 6).1 = 0 by unfold f_X8_opens f_X8_opens_k1; rw [if_pos e])]
    exact pg_full h e
  · rw [op_z e, if_neg (show ¬ ((1 : Int32) = 0) by decide)]
    unfold f_X8_readsGood_k2 f_X8_readsGood_k3 f_X8_readsGood_k4 f_X8_readsGood_k5
    have o1 := (okT_inc h.1 hl).1
    exact pg_w4 h hl (qst (qs (by decide) (qn (qs (by decide) (qn (qs (by decide) (qn (q_rf o1)))))))) e
theorem pg_X8_readsLaw {S : St} (h : okR S) (hl : S.1 6 < S.1 0) : prog S (f_X8_readsLaw S) := pg_law h hl
theorem pg_X8_readsDepth {S : St} (h : okR S) (hl : S.1 6 < S.1 0) : prog S (f_X8_readsDepth S) := pg_depth h hl
theorem pg_X8_readsPerson {S : St} (h : okR S) (hl : S.1 6 < S.1 0) : prog S (f_X8_readsPerson S) := pg_person h hl
theorem pg_X8_readsGood {S : St} (h : okR S) (hl : S.1 6 < S.1 0) : prog S (f_X8_readsGood S) := pg_good h hl
theorem pg_X8_fails {S : St} (h : okR S) (_ : S.1 6 < S.1 0) : prog S (f_X8_fails S 1) := pg_fail h
theorem rd_step {U z z' : St} {k : Nat} (hi : (okT U ∧ okC U) ∧ ((U.1 7 = 0 → 242 ≤ (U.1 6).toNatClampNeg + (k + 1)) ∧ 1 ≤ k + 1)) (c0 : U.1 7 = 0) (hq : prog U z) (hz : f_X8_skips z = z') : (okT z' ∧ okC z') ∧ ((z'.1 7 = 0 → 242 ≤ (z'.1 6).toNatClampNeg + k) ∧ 1 ≤ k) := by
  subst hz
  have m := m_skips hq.1.1
  have hb := okT_b hi.1.1
  have hu := hi.2.1 c0
  refine ⟨⟨m.1.1, okC_q (fun i _ => by rw [m.1.2.1]) hq.1.2⟩, fun e => ?_, by omega⟩
  have h1 := m.2 e
  have h2 := hq.2 h1.1
  omega
def lb_X8_reads_0_k12 (rec : (St) → St) (u : St) (z22 : St) (z23 : St) : St :=
  rec z23
def lb_X8_reads_0_k11 (rec : (St) → St) (u : St) (z22 : St) : St :=
  lb_X8_reads_0_k12 rec u z22 (f_X8_skips z22)
def lb_X8_reads_0_k10 (rec : (St) → St) (u : St) (z20 : St) (z21 : St) : St :=
  rec z21
def lb_X8_reads_0_k9 (rec : (St) → St) (u : St) (z20 : St) : St :=
  lb_X8_reads_0_k10 rec u z20 (f_X8_skips z20)
def lb_X8_reads_0_k8 (rec : (St) → St) (u : St) (z18 : St) (z19 : St) : St :=
  rec z19
def lb_X8_reads_0_k7 (rec : (St) → St) (u : St) (z18 : St) : St :=
  lb_X8_reads_0_k8 rec u z18 (f_X8_skips z18)
def lb_X8_reads_0_k6 (rec : (St) → St) (u : St) (z16 : St) (z17 : St) : St :=
  rec z17
def lb_X8_reads_0_k5 (rec : (St) → St) (u : St) (z16 : St) : St :=
  lb_X8_reads_0_k6 rec u z16 (f_X8_skips z16)
def lb_X8_reads_0_k4 (rec : (St) → St) (u : St) (z14 : St) (z15 : St) : St :=
  rec z15
def lb_X8_reads_0_k3 (rec : (St) → St) (u : St) (z14 : St) : St :=
  lb_X8_reads_0_k4 rec u z14 (f_X8_skips z14)
def lb_X8_reads_0_k2 (rec : (St) → St) (u : St) (z12 : St) (z13 : St) : St :=
  rec z13
def lb_X8_reads_0_k1 (rec : (St) → St) (u : St) (z12 : St) : St :=
  lb_X8_reads_0_k2 rec u z12 (f_X8_skips z12)
def lb_X8_reads_0  (rec : (St) → St) (u : St) : St :=
  if (u.1 7) = 0 then
    if (f_X8_look u) = (-1) then
      u
    else
      if (f_X8_look u) = 115 then
        lb_X8_reads_0_k11 rec u (f_X8_readsLaw u)
      else
        if ((u.2 5) ((0 : Int32)).toNatClampNeg) = 0 then
          lb_X8_reads_0_k9 rec u (f_X8_fails u 1)
        else
          if (f_X8_look u) = 100 then
            lb_X8_reads_0_k7 rec u (f_X8_readsDepth u)
          else
            if (f_X8_look u) = 112 then
              lb_X8_reads_0_k5 rec u (f_X8_readsPerson u)
            else
              if (f_X8_look u) = 103 then
                lb_X8_reads_0_k3 rec u (f_X8_readsGood u)
              else
                lb_X8_reads_0_k1 rec u (f_X8_fails u 1)
  else
    u
def lp_X8_reads_0  : Nat → (St) → St
  | 0, u => u
  | k + 1, u => lb_X8_reads_0  (lp_X8_reads_0  k) u
def f_X8_reads (SM : St) : St :=
  lp_X8_reads_0  242 SM
theorem inX8_reads_8 : ∀ w ∈ wsX80, w ∈ wsX8_reads := by decide +kernel
theorem hd_X8_reads : yX8_reads.cls = RX8 ∧ yX8_reads.cls ≠ "java/lang/invoke/MethodHandle" ∧ yX8_reads.cls ≠ "java/lang/invoke/VarHandle" ∧ (parseMethodDescriptor yX8_reads.desc).map (fun d => d.parameters.length) = some 0 := by decide +kernel
set_option maxHeartbeats 4000000 in
set_option maxRecDepth 100000 in
theorem c_X8_reads (l : Launch) (D : va_G) (cI cZ cQ : ClassId) (rM : Nat → Nat) (SM : St) (okt : okT SM) (okc : okC SM) : Cv l yX8_reads wsX8_reads { frames := 4, cells := 0, slots := 0, locals := 84 } D (tyL cI cZ cQ) [.ref (rM 0)] (fl [wX8 cI cZ cQ rM SM]) (fl [wX8 cI cZ cQ rM (f_X8_reads SM)]) := by
  refine cv_of (cc := cX8_reads) (nL := 1) (lv0 := [(0, .ref (rM 0))]) (by decide) rfl (Nat.le_of_ble_eq_true rfl) rfl ?_
  intro p e s m args below meth c A X hr
  have L0 : ∀ (k_0 : Nat) (u_0 : St), ((okT u_0 ∧ okC u_0) ∧ ((u_0.1 7 = 0 → 242 ≤ (u_0.1 6).toNatClampNeg + k_0) ∧ 1 ≤ k_0)) → f_X8_reads SM = lp_X8_reads_0  k_0 u_0 → WW p l e (headSpec wsX8_reads { frames := 4, cells := 0, slots := 0, locals := 84 }).room s m args below meth c 1 D A 0 0 (RQv below args s D A (fl [wX8 cI cZ cQ rM (f_X8_reads SM)])) (fl [wX8 cI cZ cQ rM u_0]) [(0, .ref (rM 0))] 0 [] := by
    intro k_0
    induction k_0 with
    | zero =>
      intro u_0 hi hf
      exact absurd hi.2.2 (by omega)
    | succ k_0 ih =>
      intro u_0 hi hf
      refine ww_aload_n (pc := 0) X dX8_reads_0 0 rfl rfl ?_
      refine ww_get (pc := 1) (ci := 8) (v := .int (u_0.1 7)) (C := RX8) (T := TX8) (N := 27) X inX8_reads_8 0 rfl rfl 23 (by decide) (by decide +kernel) rfl dX8_reads_1 ?_
      refine ww_if_ne (pc := 4) (tgt := 108) X dX8_reads_4 (by decide) (fun c24 => ?_) (fun c24 => ?_)
      · have h25 : f_X8_reads SM = u_0 := by rw [hf]; show lb_X8_reads_0  (lp_X8_reads_0  k_0) u_0 = _; unfold lb_X8_reads_0; try rw [if_neg c24]; first | done | rfl
        have hw26 := congrArg (fun u9 : St => fl [wX8 cI cZ cQ rM u9]) h25.symm
        exact ww_vret X hr hw26 dX8_reads_108
      · refine ww_aload_n (pc := 7) X dX8_reads_7 0 rfl rfl ?_
        refine ww_gVi (pc := 8) (rest := []) (gsN := [wX8 cI cZ cQ rM u_0]) (ci := 8) (gi := 0) (qi := 0) X (c_X8_look l D cI cZ cQ rM u_0 hi.1.1.2.2.1 hi.1.1.2.1) gX8_reads_X8_look rfl hd_X8_look [true] rfl rfl rfl rfl rfl rfl rfl rfl ⟨rfl, rfl⟩ ⟨Nat.le_of_ble_eq_true rfl, Nat.le_of_ble_eq_true rfl⟩ (Nat.le_of_ble_eq_true rfl) ⟨Nat.zero_le _, Nat.zero_le _⟩ dX8_reads_8 ?_
        refine ww_iconst (pc := 11) (v := (-1)) X dX8_reads_11 (by decide) ?_
        refine ww_icmp_eq (pc := 12) (tgt := 108) X dX8_reads_12 (by decide) (fun c27 => ?_) (fun c27 => ?_)
        · have h28 : f_X8_reads SM = u_0 := by rw [hf]; show lb_X8_reads_0  (lp_X8_reads_0  k_0) u_0 = _; unfold lb_X8_reads_0; try rw [if_pos c24, if_pos c27]; first | done | rfl
          have hw29 := congrArg (fun u9 : St => fl [wX8 cI cZ cQ rM u9]) h28.symm
          exact ww_vret X hr hw29 dX8_reads_108
        · have hlu : u_0.1 6 < u_0.1 0 := lk_lt rfl c27
          refine ww_aload_n (pc := 15) X dX8_reads_15 0 rfl rfl ?_
          refine ww_gVi (pc := 16) (rest := []) (gsN := [wX8 cI cZ cQ rM u_0]) (ci := 8) (gi := 0) (qi := 0) X (c_X8_look l D cI cZ cQ rM u_0 hi.1.1.2.2.1 hi.1.1.2.1) gX8_reads_X8_look rfl hd_X8_look [true] rfl rfl rfl rfl rfl rfl rfl rfl ⟨rfl, rfl⟩ ⟨Nat.le_of_ble_eq_true rfl, Nat.le_of_ble_eq_true rfl⟩ (Nat.le_of_ble_eq_true rfl) ⟨Nat.zero_le _, Nat.zero_le _⟩ dX8_reads_16 ?_
          refine ww_bipush (pc := 19) (v := 115) X dX8_reads_19 (by decide) ?_
          refine ww_icmp_ne (pc := 21) (tgt := 31) X dX8_reads_21 (by decide) (fun c30 => ?_) (fun c30 => ?_)
          · refine ww_aload_n (pc := 31) X dX8_reads_31 0 rfl rfl ?_
            refine ww_get (pc := 32) (ci := 8) (v := .ref (rM 6)) (C := RX8) (T := TX8) (N := 27) X inX8_reads_8 0 rfl rfl 7 (by decide) (by decide +kernel) rfl dX8_reads_32 ?_
            refine ww_iconst (pc := 35) (v := 0) X dX8_reads_35 (by decide) ?_
            refine ww_iald (pc := 36) (f := u_0.2 5) X 6 0 rfl rfl (vl_in (by decide)) dX8_reads_36 ?_
            refine ww_if_ne (pc := 37) (tgt := 48) X dX8_reads_37 (by decide) (fun c31 => ?_) (fun c31 => ?_)
            · refine ww_aload_n (pc := 48) X dX8_reads_48 0 rfl rfl ?_
              refine ww_gVi (pc := 49) (rest := []) (gsN := [wX8 cI cZ cQ rM u_0]) (ci := 8) (gi := 0) (qi := 0) X (c_X8_look l D cI cZ cQ rM u_0 hi.1.1.2.2.1 hi.1.1.2.1) gX8_reads_X8_look rfl hd_X8_look [true] rfl rfl rfl rfl rfl rfl rfl rfl ⟨rfl, rfl⟩ ⟨Nat.le_of_ble_eq_true rfl, Nat.le_of_ble_eq_true rfl⟩ (Nat.le_of_ble_eq_true rfl) ⟨Nat.zero_le _, Nat.zero_le _⟩ dX8_reads_49 ?_
              refine ww_bipush (pc := 52) (v := 100) X dX8_reads_52 (by decide) ?_
              refine ww_icmp_ne (pc := 54) (tgt := 64) X dX8_reads_54 (by decide) (fun c32 => ?_) (fun c32 => ?_)
              · refine ww_aload_n (pc := 64) X dX8_reads_64 0 rfl rfl ?_
                refine ww_gVi (pc := 65) (rest := []) (gsN := [wX8 cI cZ cQ rM u_0]) (ci := 8) (gi := 0) (qi := 0) X (c_X8_look l D cI cZ cQ rM u_0 hi.1.1.2.2.1 hi.1.1.2.1) gX8_reads_X8_look rfl hd_X8_look [true] rfl rfl rfl rfl rfl rfl rfl rfl ⟨rfl, rfl⟩ ⟨Nat.le_of_ble_eq_true rfl, Nat.le_of_ble_eq_true rfl⟩ (Nat.le_of_ble_eq_true rfl) ⟨Nat.zero_le _, Nat.zero_le _⟩ dX8_reads_65 ?_
                refine ww_bipush (pc := 68) (v := 112) X dX8_reads_68 (by decide) ?_
                refine ww_icmp_ne (pc := 70) (tgt := 80) X dX8_reads_70 (by decide) (fun c33 => ?_) (fun c33 => ?_)
                · refine ww_aload_n (pc := 80) X dX8_reads_80 0 rfl rfl ?_
                  refine ww_gVi (pc := 81) (rest := []) (gsN := [wX8 cI cZ cQ rM u_0]) (ci := 8) (gi := 0) (qi := 0) X (c_X8_look l D cI cZ cQ rM u_0 hi.1.1.2.2.1 hi.1.1.2.1) gX8_reads_X8_look rfl hd_X8_look [true] rfl rfl rfl rfl rfl rfl rfl rfl ⟨rfl, rfl⟩ ⟨Nat.le_of_ble_eq_true rfl, Nat.le_of_ble_eq_true rfl⟩ (Nat.le_of_ble_eq_true rfl) ⟨Nat.zero_le _, Nat.zero_le _⟩ dX8_reads_81 ?_
                  refine ww_bipush (pc := 84) (v := 103) X dX8_reads_84 (by decide) ?_
                  refine ww_icmp_ne (pc := 86) (tgt := 96) X dX8_reads_86 (by decide) (fun c34 => ?_) (fun c34 => ?_)
                  · refine ww_aload_n (pc := 96) X dX8_reads_96 0 rfl rfl ?_
                    refine ww_iconst (pc := 97) (v := 1) X dX8_reads_97 (by decide) ?_
                    refine ww_gVv (pc := 98) (rest := []) (gsN := [wX8 cI cZ cQ rM (f_X8_fails u_0 1)]) (ci := 8) (gi := 0) (qi := 0) X (c_X8_fails l D cI cZ cQ rM u_0 1) gX8_reads_X8_fails rfl hd_X8_fails [true] rfl (acons (ad8 _ _ _ _ _ _) rfl) rfl rfl rfl rfl rfl rfl ⟨rfl, rfl⟩ ⟨Nat.le_of_ble_eq_true rfl, Nat.le_of_ble_eq_true rfl⟩ (Nat.le_of_ble_eq_true rfl) ⟨Nat.zero_le _, Nat.zero_le _⟩ dX8_reads_98 ?_
                    generalize hz35 : (f_X8_fails u_0 1) = z35
                    have hq : prog u_0 z35 := by rw [← hz35]; exact pg_X8_fails hi.1 hlu
                    refine ww_aload_n (pc := 101) X dX8_reads_101 0 rfl rfl ?_
                    refine ww_gVv (pc := 102) (rest := []) (gsN := [wX8 cI cZ cQ rM (f_X8_skips z35)]) (ci := 8) (gi := 0) (qi := 0) X (c_X8_skips l D cI cZ cQ rM z35 hq.1.1) gX8_reads_X8_skips rfl hd_X8_skips [true] rfl (acons (ad8 _ _ _ _ _ _) rfl) rfl rfl rfl rfl rfl rfl ⟨rfl, rfl⟩ ⟨Nat.le_of_ble_eq_true rfl, Nat.le_of_ble_eq_true rfl⟩ (Nat.le_of_ble_eq_true rfl) ⟨Nat.zero_le _, Nat.zero_le _⟩ dX8_reads_102 ?_
                    generalize hz36 : (f_X8_skips z35) = z36
                    refine ww_goto (pc := 105) (tgt := 0) X dX8_reads_105 (by decide) ?_
                    refine ww_lsub [0] rfl ?_
                    have h37 : f_X8_reads SM = lp_X8_reads_0  k_0 z36 := by rw [hf]; show lb_X8_reads_0  (lp_X8_reads_0  k_0) u_0 = _; unfold lb_X8_reads_0; try rw [if_pos c24, if_neg c27, if_neg c30, if_neg c31, if_neg c32, if_neg c33, if_neg c34, hz35]; try unfold lb_X8_reads_0_k1; try rw [hz36]; try unfold lb_X8_reads_0_k2; first | done | rfl
                    exact ih z36 (rd_step hi c24 hq hz36) h37
                  · refine ww_aload_n (pc := 89) X dX8_reads_89 0 rfl rfl ?_
                    refine ww_gVv (pc := 90) (rest := []) (gsN := [wX8 cI cZ cQ rM (f_X8_readsGood u_0)]) (ci := 8) (gi := 0) (qi := 0) X (c_X8_readsGood l D cI cZ cQ rM u_0 hi.1.1 hlu hi.1.2) gX8_reads_X8_readsGood rfl hd_X8_readsGood [true] rfl (acons (ad8 _ _ _ _ _ _) rfl) rfl rfl rfl rfl rfl rfl ⟨rfl, rfl⟩ ⟨Nat.le_of_ble_eq_true rfl, Nat.le_of_ble_eq_true rfl⟩ (Nat.le_of_ble_eq_true rfl) ⟨Nat.zero_le _, Nat.zero_le _⟩ dX8_reads_90 ?_
                    generalize hz38 : (f_X8_readsGood u_0) = z38
                    refine ww_goto (pc := 93) (tgt := 101) X dX8_reads_93 (by decide) ?_
                    have hq : prog u_0 z38 := by rw [← hz38]; exact pg_X8_readsGood hi.1 hlu
                    refine ww_aload_n (pc := 101) X dX8_reads_101 0 rfl rfl ?_
                    refine ww_gVv (pc := 102) (rest := []) (gsN := [wX8 cI cZ cQ rM (f_X8_skips z38)]) (ci := 8) (gi := 0) (qi := 0) X (c_X8_skips l D cI cZ cQ rM z38 hq.1.1) gX8_reads_X8_skips rfl hd_X8_skips [true] rfl (acons (ad8 _ _ _ _ _ _) rfl) rfl rfl rfl rfl rfl rfl ⟨rfl, rfl⟩ ⟨Nat.le_of_ble_eq_true rfl, Nat.le_of_ble_eq_true rfl⟩ (Nat.le_of_ble_eq_true rfl) ⟨Nat.zero_le _, Nat.zero_le _⟩ dX8_reads_102 ?_
                    generalize hz39 : (f_X8_skips z38) = z39
                    refine ww_goto (pc := 105) (tgt := 0) X dX8_reads_105 (by decide) ?_
                    refine ww_lsub [0] rfl ?_
                    have h40 : f_X8_reads SM = lp_X8_reads_0  k_0 z39 := by rw [hf]; show lb_X8_reads_0  (lp_X8_reads_0  k_0) u_0 = _; unfold lb_X8_reads_0; try rw [if_pos c24, if_neg c27, if_neg c30, if_neg c31, if_neg c32, if_neg c33, if_pos c34, hz38]; try unfold lb_X8_reads_0_k3; try rw [hz39]; try unfold lb_X8_reads_0_k4; first | done | rfl
                    exact ih z39 (rd_step hi c24 hq hz39) h40
                · refine ww_aload_n (pc := 73) X dX8_reads_73 0 rfl rfl ?_
                  refine ww_gVv (pc := 74) (rest := []) (gsN := [wX8 cI cZ cQ rM (f_X8_readsPerson u_0)]) (ci := 8) (gi := 0) (qi := 0) X (c_X8_readsPerson l D cI cZ cQ rM u_0 hi.1.1 hlu hi.1.2) gX8_reads_X8_readsPerson rfl hd_X8_readsPerson [true] rfl (acons (ad8 _ _ _ _ _ _) rfl) rfl rfl rfl rfl rfl rfl ⟨rfl, rfl⟩ ⟨Nat.le_of_ble_eq_true rfl, Nat.le_of_ble_eq_true rfl⟩ (Nat.le_of_ble_eq_true rfl) ⟨Nat.zero_le _, Nat.zero_le _⟩ dX8_reads_74 ?_
                  generalize hz41 : (f_X8_readsPerson u_0) = z41
                  refine ww_goto (pc := 77) (tgt := 101) X dX8_reads_77 (by decide) ?_
                  have hq : prog u_0 z41 := by rw [← hz41]; exact pg_X8_readsPerson hi.1 hlu
                  refine ww_aload_n (pc := 101) X dX8_reads_101 0 rfl rfl ?_
                  refine ww_gVv (pc := 102) (rest := []) (gsN := [wX8 cI cZ cQ rM (f_X8_skips z41)]) (ci := 8) (gi := 0) (qi := 0) X (c_X8_skips l D cI cZ cQ rM z41 hq.1.1) gX8_reads_X8_skips rfl hd_X8_skips [true] rfl (acons (ad8 _ _ _ _ _ _) rfl) rfl rfl rfl rfl rfl rfl ⟨rfl, rfl⟩ ⟨Nat.le_of_ble_eq_true rfl, Nat.le_of_ble_eq_true rfl⟩ (Nat.le_of_ble_eq_true rfl) ⟨Nat.zero_le _, Nat.zero_le _⟩ dX8_reads_102 ?_
                  generalize hz42 : (f_X8_skips z41) = z42
                  refine ww_goto (pc := 105) (tgt := 0) X dX8_reads_105 (by decide) ?_
                  refine ww_lsub [0] rfl ?_
                  have h43 : f_X8_reads SM = lp_X8_reads_0  k_0 z42 := by rw [hf]; show lb_X8_reads_0  (lp_X8_reads_0  k_0) u_0 = _; unfold lb_X8_reads_0; try rw [if_pos c24, if_neg c27, if_neg c30, if_neg c31, if_neg c32, if_pos c33, hz41]; try unfold lb_X8_reads_0_k5; try rw [hz42]; try unfold lb_X8_reads_0_k6; first | done | rfl
                  exact ih z42 (rd_step hi c24 hq hz42) h43
              · refine ww_aload_n (pc := 57) X dX8_reads_57 0 rfl rfl ?_
                refine ww_gVv (pc := 58) (rest := []) (gsN := [wX8 cI cZ cQ rM (f_X8_readsDepth u_0)]) (ci := 8) (gi := 0) (qi := 0) X (c_X8_readsDepth l D cI cZ cQ rM u_0 hi.1.1 hlu hi.1.2) gX8_reads_X8_readsDepth rfl hd_X8_readsDepth [true] rfl (acons (ad8 _ _ _ _ _ _) rfl) rfl rfl rfl rfl rfl rfl ⟨rfl, rfl⟩ ⟨Nat.le_of_ble_eq_true rfl, Nat.le_of_ble_eq_true rfl⟩ (Nat.le_of_ble_eq_true rfl) ⟨Nat.zero_le _, Nat.zero_le _⟩ dX8_reads_58 ?_
                generalize hz44 : (f_X8_readsDepth u_0) = z44
                refine ww_goto (pc := 61) (tgt := 101) X dX8_reads_61 (by decide) ?_
                have hq : prog u_0 z44 := by rw [← hz44]; exact pg_X8_readsDepth hi.1 hlu
                refine ww_aload_n (pc := 101) X dX8_reads_101 0 rfl rfl ?_
                refine ww_gVv (pc := 102) (rest := []) (gsN := [wX8 cI cZ cQ rM (f_X8_skips z44)]) (ci := 8) (gi := 0) (qi := 0) X (c_X8_skips l D cI cZ cQ rM z44 hq.1.1) gX8_reads_X8_skips rfl hd_X8_skips [true] rfl (acons (ad8 _ _ _ _ _ _) rfl) rfl rfl rfl rfl rfl rfl ⟨rfl, rfl⟩ ⟨Nat.le_of_ble_eq_true rfl, Nat.le_of_ble_eq_true rfl⟩ (Nat.le_of_ble_eq_true rfl) ⟨Nat.zero_le _, Nat.zero_le _⟩ dX8_reads_102 ?_
                generalize hz45 : (f_X8_skips z44) = z45
                refine ww_goto (pc := 105) (tgt := 0) X dX8_reads_105 (by decide) ?_
                refine ww_lsub [0] rfl ?_
                have h46 : f_X8_reads SM = lp_X8_reads_0  k_0 z45 := by rw [hf]; show lb_X8_reads_0  (lp_X8_reads_0  k_0) u_0 = _; unfold lb_X8_reads_0; try rw [if_pos c24, if_neg c27, if_neg c30, if_neg c31, if_pos c32, hz44]; try unfold lb_X8_reads_0_k7; try rw [hz45]; try unfold lb_X8_reads_0_k8; first | done | rfl
                exact ih z45 (rd_step hi c24 hq hz45) h46
            · refine ww_aload_n (pc := 40) X dX8_reads_40 0 rfl rfl ?_
              refine ww_iconst (pc := 41) (v := 1) X dX8_reads_41 (by decide) ?_
              refine ww_gVv (pc := 42) (rest := []) (gsN := [wX8 cI cZ cQ rM (f_X8_fails u_0 1)]) (ci := 8) (gi := 0) (qi := 0) X (c_X8_fails l D cI cZ cQ rM u_0 1) gX8_reads_X8_fails rfl hd_X8_fails [true] rfl (acons (ad8 _ _ _ _ _ _) rfl) rfl rfl rfl rfl rfl rfl ⟨rfl, rfl⟩ ⟨Nat.le_of_ble_eq_true rfl, Nat.le_of_ble_eq_true rfl⟩ (Nat.le_of_ble_eq_true rfl) ⟨Nat.zero_le _, Nat.zero_le _⟩ dX8_reads_42 ?_
              generalize hz47 : (f_X8_fails u_0 1) = z47
              refine ww_goto (pc := 45) (tgt := 101) X dX8_reads_45 (by decide) ?_
              have hq : prog u_0 z47 := by rw [← hz47]; exact pg_X8_fails hi.1 hlu
              refine ww_aload_n (pc := 101) X dX8_reads_101 0 rfl rfl ?_
              refine ww_gVv (pc := 102) (rest := []) (gsN := [wX8 cI cZ cQ rM (f_X8_skips z47)]) (ci := 8) (gi := 0) (qi := 0) X (c_X8_skips l D cI cZ cQ rM z47 hq.1.1) gX8_reads_X8_skips rfl hd_X8_skips [true] rfl (acons (ad8 _ _ _ _ _ _) rfl) rfl rfl rfl rfl rfl rfl ⟨rfl, rfl⟩ ⟨Nat.le_of_ble_eq_true rfl, Nat.le_of_ble_eq_true rfl⟩ (Nat.le_of_ble_eq_true rfl) ⟨Nat.zero_le _, Nat.zero_le _⟩ dX8_reads_102 ?_
              generalize hz48 : (f_X8_skips z47) = z48
              refine ww_goto (pc := 105) (tgt := 0) X dX8_reads_105 (by decide) ?_
              refine ww_lsub [0] rfl ?_
              have h49 : f_X8_reads SM = lp_X8_reads_0  k_0 z48 := by rw [hf]; show lb_X8_reads_0  (lp_X8_reads_0  k_0) u_0 = _; unfold lb_X8_reads_0; try rw [if_pos c24, if_neg c27, if_neg c30, if_pos c31, hz47]; try unfold lb_X8_reads_0_k9; try rw [hz48]; try unfold lb_X8_reads_0_k10; first | done | rfl
              exact ih z48 (rd_step hi c24 hq hz48) h49
          · refine ww_aload_n (pc := 24) X dX8_reads_24 0 rfl rfl ?_
            refine ww_gVv (pc := 25) (rest := []) (gsN := [wX8 cI cZ cQ rM (f_X8_readsLaw u_0)]) (ci := 8) (gi := 0) (qi := 0) X (c_X8_readsLaw l D cI cZ cQ rM u_0 hi.1.1 hlu) gX8_reads_X8_readsLaw rfl hd_X8_readsLaw [true] rfl (acons (ad8 _ _ _ _ _ _) rfl) rfl rfl rfl rfl rfl rfl ⟨rfl, rfl⟩ ⟨Nat.le_of_ble_eq_true rfl, Nat.le_of_ble_eq_true rfl⟩ (Nat.le_of_ble_eq_true rfl) ⟨Nat.zero_le _, Nat.zero_le _⟩ dX8_reads_25 ?_
            generalize hz50 : (f_X8_readsLaw u_0) = z50
            refine ww_goto (pc := 28) (tgt := 101) X dX8_reads_28 (by decide) ?_
            have hq : prog u_0 z50 := by rw [← hz50]; exact pg_X8_readsLaw hi.1 hlu
            refine ww_aload_n (pc := 101) X dX8_reads_101 0 rfl rfl ?_
            refine ww_gVv (pc := 102) (rest := []) (gsN := [wX8 cI cZ cQ rM (f_X8_skips z50)]) (ci := 8) (gi := 0) (qi := 0) X (c_X8_skips l D cI cZ cQ rM z50 hq.1.1) gX8_reads_X8_skips rfl hd_X8_skips [true] rfl (acons (ad8 _ _ _ _ _ _) rfl) rfl rfl rfl rfl rfl rfl ⟨rfl, rfl⟩ ⟨Nat.le_of_ble_eq_true rfl, Nat.le_of_ble_eq_true rfl⟩ (Nat.le_of_ble_eq_true rfl) ⟨Nat.zero_le _, Nat.zero_le _⟩ dX8_reads_102 ?_
            generalize hz51 : (f_X8_skips z50) = z51
            refine ww_goto (pc := 105) (tgt := 0) X dX8_reads_105 (by decide) ?_
            refine ww_lsub [0] rfl ?_
            have h52 : f_X8_reads SM = lp_X8_reads_0  k_0 z51 := by rw [hf]; show lb_X8_reads_0  (lp_X8_reads_0  k_0) u_0 = _; unfold lb_X8_reads_0; try rw [if_pos c24, if_neg c27, if_pos c30, hz50]; try unfold lb_X8_reads_0_k11; try rw [hz51]; try unfold lb_X8_reads_0_k12; first | done | rfl
            exact ih z51 (rd_step hi c24 hq hz51) h52
  refine ww_lsub [0] rfl ?_
  exact L0 242 SM ⟨⟨okt, okc⟩, fun _ => by omega, by omega⟩ (by unfold f_X8_reads; first | done | rfl)
