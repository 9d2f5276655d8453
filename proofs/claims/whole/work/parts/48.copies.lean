def cpn (f g : Nat → Int32) : Nat → (Nat → Int32)
  | 0 => g
  | j + 1 => upd (cpn f g j) j (f j)
theorem cpn_lt {f g : Nat → Int32} : ∀ {n i : Nat}, i < n → cpn f g n i = f i
  | 0, i, h => absurd h (Nat.not_lt_zero i)
  | n + 1, i, h => by
    show upd (cpn f g n) n (f n) i = f i
    by_cases e : i = n
    · rw [e, pk_us]
    · rw [pk_un e]
      exact cpn_lt (by omega)
theorem hd_X8_copies : yX8_copies.cls = RX8 ∧ yX8_copies.cls ≠ "java/lang/invoke/MethodHandle" ∧ yX8_copies.cls ≠ "java/lang/invoke/VarHandle" ∧ (parseMethodDescriptor yX8_copies.desc).map (fun d => d.parameters.length) = some 3 := by decide +kernel
set_option maxHeartbeats 4000000 in
set_option maxRecDepth 100000 in
theorem c_X8_copies (l : Launch) (D : va_G) (cI cZ cQ : ClassId) (a b na nb : Nat) (f g : Nat → Int32) (n : Nat) (ha : n ≤ na) (hb : n ≤ nb) (hn : na < 2 ^ 31 ∧ nb < 2 ^ 31) : Cv l yX8_copies wsX8_copies { frames := 0, cells := 0, slots := 0, locals := 0 } D (tyL cI cZ cQ) [.ref a, .ref b, .int (nI n)] [(a, .inl (cI, na, .inl f)), (b, .inl (cI, nb, .inl g))] [(a, .inl (cI, na, .inl f)), (b, .inl (cI, nb, .inl (cpn f g n)))] := by
  refine cv_of (cc := cX8_copies) (nL := 4) (lv0 := [(0, .ref a), (1, .ref b), (2, .int (nI n))]) (by decide) rfl (Nat.le_of_ble_eq_true rfl) rfl ?_
  intro p e s m args below meth c A X hr
  refine ww_iconst (pc := 0) (v := 0) X dX8_copies_0 (by decide) ?_
  refine ww_istore_n (pc := 1) (lv' := [(3, .int (nI 0)), (0, .ref a), (1, .ref b), (2, .int (nI n))]) X dX8_copies_1 rfl (by decide) rfl ?_
  have L2 : ∀ (k j : Nat), j + k = n → WW p l e (headSpec wsX8_copies { frames := 0, cells := 0, slots := 0, locals := 0 }).room s m args below meth c 4 D A 0 0 (RQv below args s D A [(a, .inl (cI, na, .inl f)), (b, .inl (cI, nb, .inl (cpn f g n)))]) [(a, .inl (cI, na, .inl f)), (b, .inl (cI, nb, .inl (cpn f g j)))] [(3, .int (nI j)), (0, .ref a), (1, .ref b), (2, .int (nI n))] 2 [] := by
    intro k
    induction k with
    | zero =>
      intro j hj
      have hjB : j = n := by omega
      subst hjB
      refine ww_iload_n (pc := 2) X dX8_copies_2 0 rfl rfl ?_
      refine ww_iload_n (pc := 3) X dX8_copies_3 3 rfl rfl ?_
      refine ww_icmp_ge (pc := 4) (tgt := 19) X dX8_copies_4 (by decide) (fun _ => ?_) (fun c9 => absurd (lp_ge0 rfl (Nat.le_refl _) (by omega)) c9)
      exact ww_vret X hr rfl dX8_copies_19
    | succ k ih =>
      intro j hj
      have hjB : j < n := by omega
      have hcl : (nI j).toNatClampNeg = j := nI_clamp (by omega)
      refine ww_iload_n (pc := 2) X dX8_copies_2 0 rfl rfl ?_
      refine ww_iload_n (pc := 3) X dX8_copies_3 3 rfl rfl ?_
      refine ww_icmp_ge (pc := 4) (tgt := 19) X dX8_copies_4 (by decide) (fun c9 => absurd c9 (lp_ge1 rfl hjB (by omega))) (fun _ => ?_)
      refine ww_aload_n (pc := 7) X dX8_copies_7 2 rfl rfl ?_
      refine ww_iload_n (pc := 8) X dX8_copies_8 0 rfl rfl ?_
      refine ww_aload_n (pc := 9) X dX8_copies_9 1 rfl rfl ?_
      refine ww_iload_n (pc := 10) X dX8_copies_10 0 rfl rfl ?_
      refine ww_iald (pc := 11) (f := f) X 0 0 rfl rfl (vp_in_nI (by omega) hn.1) dX8_copies_11 ?_
      refine ww_iast (pc := 12) (f := cpn f g j) (ws' := [(a, .inl (cI, na, .inl f)), (b, .inl (cI, nb, .inl (cpn f g (j + 1))))]) X 1 0 rfl rfl (vp_in_nI (by omega) hn.2) (by rw [hcl]; rfl) dX8_copies_12 ?_
      refine ww_iinc (pc := 13) (v := nI (j + 1)) (lv' := [(3, .int (nI (j + 1))), (0, .ref a), (1, .ref b), (2, .int (nI n))]) X dX8_copies_13 0 rfl (nI_1 j) (by decide) rfl ?_
      refine ww_goto (pc := 16) (tgt := 2) X dX8_copies_16 (by decide) ?_
      exact ih (j + 1) (by omega)
  exact L2 n 0 (by omega)
theorem cpC_5 (cI cZ cQ : ClassId) (r : Nat → Nat) (S : St) : [6, 2].map (fun i => (fl [wX8 cI cZ cQ r S])[i]?) = ([(r 6, .inl (cI, 5, .inl (S.2 5))), (r 2, .inl (cI, 5, .inl (S.2 1)))] : va_W).map some := rfl
theorem cpw_5 (cI cZ cQ : ClassId) (r : Nat → Nat) (S : St) (F : Nat → Int32) : wput (fl [wX8 cI cZ cQ r S]) [6, 2] [(r 6, .inl (cI, 5, .inl (S.2 5))), (r 2, .inl (cI, 5, .inl F))] = fl [wX8 cI cZ cQ r (sA S 1 F)] := rfl
theorem cpC_6 (cI cZ cQ : ClassId) (r : Nat → Nat) (S : St) : [7, 3].map (fun i => (fl [wX8 cI cZ cQ r S])[i]?) = ([(r 7, .inl (cI, 4, .inl (S.2 6))), (r 3, .inl (cI, 4, .inl (S.2 2)))] : va_W).map some := rfl
theorem cpw_6 (cI cZ cQ : ClassId) (r : Nat → Nat) (S : St) (F : Nat → Int32) : wput (fl [wX8 cI cZ cQ r S]) [7, 3] [(r 7, .inl (cI, 4, .inl (S.2 6))), (r 3, .inl (cI, 4, .inl F))] = fl [wX8 cI cZ cQ r (sA S 2 F)] := rfl
theorem cpC_7 (cI cZ cQ : ClassId) (r : Nat → Nat) (S : St) : [8, 4].map (fun i => (fl [wX8 cI cZ cQ r S])[i]?) = ([(r 8, .inl (cI, 14, .inl (S.2 7))), (r 4, .inl (cI, 14, .inl (S.2 3)))] : va_W).map some := rfl
theorem cpw_7 (cI cZ cQ : ClassId) (r : Nat → Nat) (S : St) (F : Nat → Int32) : wput (fl [wX8 cI cZ cQ r S]) [8, 4] [(r 8, .inl (cI, 14, .inl (S.2 7))), (r 4, .inl (cI, 14, .inl F))] = fl [wX8 cI cZ cQ r (sA S 3 F)] := rfl
theorem cpC_8 (cI cZ cQ : ClassId) (r : Nat → Nat) (S : St) : [9, 5].map (fun i => (fl [wX8 cI cZ cQ r S])[i]?) = ([(r 9, .inl (cI, 18, .inl (S.2 8))), (r 5, .inl (cI, 18, .inl (S.2 4)))] : va_W).map some := rfl
theorem cpw_8 (cI cZ cQ : ClassId) (r : Nat → Nat) (S : St) (F : Nat → Int32) : wput (fl [wX8 cI cZ cQ r S]) [9, 5] [(r 9, .inl (cI, 18, .inl (S.2 8))), (r 5, .inl (cI, 18, .inl F))] = fl [wX8 cI cZ cQ r (sA S 4 F)] := rfl
theorem rdR : ∀ (k : Nat) (S : St), okR S → okR (lp_X8_reads_0 k S)
  | 0, S, h => h
  | k + 1, S, h => by
    have key : ∀ z : St, prog S z → okR (lp_X8_reads_0 k (f_X8_skips z)) := fun z hq => by
      have m := m_skips hq.1.1
      exact rdR k _ ⟨m.1.1, okC_q (fun i _ => by rw [m.1.2.1]) hq.1.2⟩
    show okR (lb_X8_reads_0 (lp_X8_reads_0 k) S)
    unfold lb_X8_reads_0
    split
    · split
      · exact h
      · have hl : S.1 6 < S.1 0 := lk_lt rfl (by assumption)
        split
        · exact key _ (pg_law h hl)
        · split
          · exact key _ (pg_fail h)
          · split
            · exact key _ (pg_depth h hl)
            · split
              · exact key _ (pg_person h hl)
              · split
                · exact key _ (pg_good h hl)
                · exact key _ (pg_fail h)
    · exact h
