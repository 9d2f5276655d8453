def tb (k j : Nat) : Int32 := (([[1, 1, 1, 0, 1, 1, 0, 0], [99, 60, 200, 99, 150, 999, 100, 9999], [2, 1, 2, 3], [0, 2, 3, 5]] : List (List Int32)).getD k []).getD j 0
def wbt (j : Nat) : Int32 := ([115, 100, 112, 103] : List Int32).getD j 0
def Zt (nm : String) (n k t : Nat) (A : Nat → Prop) (U : State) (H : Heap) : Prop := va_Z "ThreeBelow$ShoreText" nm "[I" (.ref t) A U H ∧ va_T .int t n (fun j => .int (tb k j)) A U H
/-- the reader's tables and its words' text, as the start has them -/
def Zs (tt : Nat → Nat) (ak av : Nat) (A : Nat → Prop) (U : State) (H : Heap) : Prop :=
  (Zt "LEAST" 8 0 (tt 0) A U H ∧ Zt "GREATEST" 8 1 (tt 1) A U H ∧ Zt "NUMBERS_OF_WORD" 4 2 (tt 2) A U H ∧ Zt "FIRST_BOUND_OF_WORD" 4 3 (tt 3) A U H) ∧ vk_R RX6 50 "sdpg" ak U ∧ (va_O "java/lang/String" ak A U H ∧ va_OF "java/lang/String" "coder" "B" (.int 0) ak A U H ∧ va_OF "java/lang/String" "value" "[B" (.ref av) ak A U H ∧ va_T .byte av 4 (fun j => .int (wbt j)) A U H) ∧ va_Z "java/lang/String" "COMPACT_STRINGS" "Z" (.int 1) A U H
theorem Zt_mv {nm : String} {n k t : Nat} {A : Nat → Prop} {u U : State} {H : Heap} (hv : u.vm.Alike U.vm) (h : Zt nm n k t A u H) : Zt nm n k t A U H := ⟨va_Z.moved hv h.1, va_T.moved hv h.2⟩
theorem Zt_kp {nm : String} {n k t : Nat} {A : Nat → Prop} {U : State} {H H1 : Heap} (h : Zt nm n k t A U H) (hq : ∀ a : Nat, a < H.size → ¬ A a → H1[a]? = H[a]?) : Zt nm n k t A U H1 := ⟨va_Z.kept h.1 hq, va_T.kept h.2 hq⟩
theorem Zt_nr {nm : String} {n k t : Nat} {A B : Nat → Prop} {U : State} {H : Heap} (h : Zt nm n k t A U H) (hq : ∀ q, B q → A q) : Zt nm n k t B U H := ⟨va_Z.narrow h.1 hq, va_T.narrow h.2 hq⟩
theorem Zs_ok (tt : Nat → Nat) (ak av : Nat) : ZOK (Zs tt ak av) := by
  refine ⟨fun A u U H hW h => ?_, fun A u U H hv h => ?_, fun A U H H1 h hq => ?_, fun A B U H h hq => ?_⟩
  · obtain ⟨⟨a, b, c, d⟩, r, ⟨o1, o2, o3, o4⟩, z⟩ := h
    have hv := hW.alike
    exact ⟨⟨Zt_mv hv a, Zt_mv hv b, Zt_mv hv c, Zt_mv hv d⟩, vk_R.warm hW r, ⟨va_O.moved hv o1, va_OF.moved hv o2, va_OF.moved hv o3, va_T.moved hv o4⟩, va_Z.moved hv z⟩
  · obtain ⟨⟨a, b, c, d⟩, r, ⟨o1, o2, o3, o4⟩, z⟩ := h
    have hl : u.vm.Alike U.vm := by rw [hv]; exact Vm.Alike.refl u.vm
    exact ⟨⟨Zt_mv hl a, Zt_mv hl b, Zt_mv hl c, Zt_mv hl d⟩, vk_R.same hv r, ⟨va_O.moved hl o1, va_OF.moved hl o2, va_OF.moved hl o3, va_T.moved hl o4⟩, va_Z.moved hl z⟩
  · obtain ⟨⟨a, b, c, d⟩, r, ⟨o1, o2, o3, o4⟩, z⟩ := h
    exact ⟨⟨Zt_kp a hq, Zt_kp b hq, Zt_kp c hq, Zt_kp d hq⟩, r, ⟨va_O.kept o1 hq, va_OF.kept o2 hq, va_OF.kept o3 hq, va_T.kept o4 hq⟩, va_Z.kept z hq⟩
  · obtain ⟨⟨a, b, c, d⟩, r, ⟨o1, o2, o3, o4⟩, z⟩ := h
    exact ⟨⟨Zt_nr a hq, Zt_nr b hq, Zt_nr c hq, Zt_nr d hq⟩, r, ⟨va_O.narrow o1 hq, va_OF.narrow o2 hq, va_OF.narrow o3 hq, va_T.narrow o4 hq⟩, va_Z.narrow z hq⟩
theorem Zs_Z0 {tt : Nat → Nat} {ak av : Nat} {A : Nat → Prop} {U : State} {H : Heap} (h : Zs tt ak av A U H) : va_Z "ThreeBelow$ShoreText" "LEAST" "[I" (.ref (tt 0)) A U H := h.1.1.1
theorem Zs_T0 {tt : Nat → Nat} {ak av : Nat} {A : Nat → Prop} {U : State} {H : Heap} (h : Zs tt ak av A U H) : va_T .int (tt 0) 8 (fun j => .int (tb 0 j)) A U H := h.1.1.2
theorem Zs_Z1 {tt : Nat → Nat} {ak av : Nat} {A : Nat → Prop} {U : State} {H : Heap} (h : Zs tt ak av A U H) : va_Z "ThreeBelow$ShoreText" "GREATEST" "[I" (.ref (tt 1)) A U H := h.1.2.1.1
theorem Zs_T1 {tt : Nat → Nat} {ak av : Nat} {A : Nat → Prop} {U : State} {H : Heap} (h : Zs tt ak av A U H) : va_T .int (tt 1) 8 (fun j => .int (tb 1 j)) A U H := h.1.2.1.2
theorem Zs_Z2 {tt : Nat → Nat} {ak av : Nat} {A : Nat → Prop} {U : State} {H : Heap} (h : Zs tt ak av A U H) : va_Z "ThreeBelow$ShoreText" "NUMBERS_OF_WORD" "[I" (.ref (tt 2)) A U H := h.1.2.2.1.1
theorem Zs_T2 {tt : Nat → Nat} {ak av : Nat} {A : Nat → Prop} {U : State} {H : Heap} (h : Zs tt ak av A U H) : va_T .int (tt 2) 4 (fun j => .int (tb 2 j)) A U H := h.1.2.2.1.2
theorem Zs_Z3 {tt : Nat → Nat} {ak av : Nat} {A : Nat → Prop} {U : State} {H : Heap} (h : Zs tt ak av A U H) : va_Z "ThreeBelow$ShoreText" "FIRST_BOUND_OF_WORD" "[I" (.ref (tt 3)) A U H := h.1.2.2.2.1
theorem Zs_T3 {tt : Nat → Nat} {ak av : Nat} {A : Nat → Prop} {U : State} {H : Heap} (h : Zs tt ak av A U H) : va_T .int (tt 3) 4 (fun j => .int (tb 3 j)) A U H := h.1.2.2.2.2
theorem rn_step {S : St} (h : ¬ S.1 1 < 0) (c : ¬ f_X6_isFigure S (f_X6_here S) = 0) : ¬ ((sI S 1 ((S.1 1) + 1)).1 1) < 0 := by
  rw [sI_eq]
  refine (inc_cl h (hr_lt rfl (fun e => c ?_)).2).2.1
  rw [e]
  unfold f_X6_isFigure
  rfl
def l0_X6_readNumber_15_k4 (x1 : Int32) (x2 : Int32) (x3 : Int32) (j : Nat) (u : St × Int32) (z17 : St) : St :=
  z17
def l0_X6_readNumber_15_k1 (x1 : Int32) (x2 : Int32) (x3 : Int32) (j : Nat) (u : St × Int32) (z4 : St) : St :=
  z4
def l0_X6_readNumber_15_k2 (x1 : Int32) (x2 : Int32) (x3 : Int32) (j : Nat) (u : St × Int32) (z8 : St) : St :=
  z8
def l0_X6_readNumber_15_k3 (x1 : Int32) (x2 : Int32) (x3 : Int32) (j : Nat) (u : St × Int32) (z14 : St) : St :=
  z14
def l0_X6_readNumber_15 (x1 : Int32) (x2 : Int32) (x3 : Int32) (j : Nat) (u : St × Int32) : St :=
  if (u.1.1 1) = x3 then
    l0_X6_readNumber_15_k4 x1 x2 x3 j u (f_X6_blame u.1 1 (u.1.1 1))
  else
    if 4 < ((u.1.1 1) - x3) then
      l0_X6_readNumber_15_k1 x1 x2 x3 j u (f_X6_blame u.1 2 x3)
    else
      if u.2 < (tb 0 ((x2 : Int32)).toNatClampNeg) then
        l0_X6_readNumber_15_k2 x1 x2 x3 j u (f_X6_blame u.1 2 x3)
      else
        if u.2 ≤ (tb 1 ((x2 : Int32)).toNatClampNeg) then
          (sA u.1 1 (upd (u.1.2 1) ((x1 : Int32)).toNatClampNeg u.2))
        else
          l0_X6_readNumber_15_k3 x1 x2 x3 j u (f_X6_blame u.1 2 x3)
def lb_X6_readNumber_15_k4 (x1 : Int32) (x2 : Int32) (x3 : Int32) (rec : Nat → (St × Int32) → St) (j : Nat) (u : St × Int32) (z36 : St) : St :=
  z36
def lb_X6_readNumber_15_k1 (x1 : Int32) (x2 : Int32) (x3 : Int32) (rec : Nat → (St × Int32) → St) (j : Nat) (u : St × Int32) (z23 : St) : St :=
  z23
def lb_X6_readNumber_15_k2 (x1 : Int32) (x2 : Int32) (x3 : Int32) (rec : Nat → (St × Int32) → St) (j : Nat) (u : St × Int32) (z27 : St) : St :=
  z27
def lb_X6_readNumber_15_k3 (x1 : Int32) (x2 : Int32) (x3 : Int32) (rec : Nat → (St × Int32) → St) (j : Nat) (u : St × Int32) (z33 : St) : St :=
  z33
def lb_X6_readNumber_15 (x1 : Int32) (x2 : Int32) (x3 : Int32) (rec : Nat → (St × Int32) → St) (j : Nat) (u : St × Int32) : St :=
  if (f_X6_isFigure u.1 (f_X6_here u.1)) = 0 then
    if (u.1.1 1) = x3 then
      lb_X6_readNumber_15_k4 x1 x2 x3 rec j u (f_X6_blame u.1 1 (u.1.1 1))
    else
      if 4 < ((u.1.1 1) - x3) then
        lb_X6_readNumber_15_k1 x1 x2 x3 rec j u (f_X6_blame u.1 2 x3)
      else
        if u.2 < (tb 0 ((x2 : Int32)).toNatClampNeg) then
          lb_X6_readNumber_15_k2 x1 x2 x3 rec j u (f_X6_blame u.1 2 x3)
        else
          if u.2 ≤ (tb 1 ((x2 : Int32)).toNatClampNeg) then
            (sA u.1 1 (upd (u.1.2 1) ((x1 : Int32)).toNatClampNeg u.2))
          else
            lb_X6_readNumber_15_k3 x1 x2 x3 rec j u (f_X6_blame u.1 2 x3)
  else
    if 4 ≤ (nI j) then
      rec (j + 1) ((sI u.1 1 ((u.1.1 1) + 1)), u.2)
    else
      rec (j + 1) ((sI u.1 1 ((u.1.1 1) + 1)), ((u.2 * 10) + (f_X6_here u.1)) - 48)
def lp_X6_readNumber_15 (x1 : Int32) (x2 : Int32) (x3 : Int32) : Nat → Nat → (St × Int32) → St
  | 0, j, u => l0_X6_readNumber_15 x1 x2 x3 j u
  | k + 1, j, u => lb_X6_readNumber_15 x1 x2 x3 (lp_X6_readNumber_15 x1 x2 x3 k) j u
def f_X6_readNumber_k1 (SX : St) (x1 : Int32) (x2 : Int32) (z1 : St) : St :=
  lp_X6_readNumber_15 x1 x2 (z1.1 1) 241 0 (z1, 0)
def f_X6_readNumber (SX : St) (x1 : Int32) (x2 : Int32) : St :=
  f_X6_readNumber_k1 SX x1 x2 (f_X6_skipBlanks SX)
theorem inX6_readNumber_6 : ∀ w ∈ wsX60, w ∈ wsX6_readNumber := by decide +kernel
theorem hd_X6_readNumber : yX6_readNumber.cls = RX6 ∧ yX6_readNumber.cls ≠ "java/lang/invoke/MethodHandle" ∧ yX6_readNumber.cls ≠ "java/lang/invoke/VarHandle" ∧ (parseMethodDescriptor yX6_readNumber.desc).map (fun d => d.parameters.length) = some 2 := by decide +kernel
set_option maxHeartbeats 4000000 in
set_option maxRecDepth 100000 in
theorem c_X6_readNumber (l : Launch) (D : va_G) (cI cZ cQ : ClassId) (tt : Nat → Nat) (ak av : Nat) (rX : Nat → Nat) (SX : St) (x1 : Int32) (x2 : Int32) (ok1 : ¬ (SX.1 1) < 0) (hp : vp_in x1 3) (hbd : vp_in x2 8) : CvZ (Zs tt ak av) l yX6_readNumber wsX6_readNumber { frames := 2, cells := 0, slots := 0, locals := 41 } D (tyL cI cZ cQ) [.ref (rX 0), .int x1, .int x2] (fl [wX6 cI cZ cQ rX SX]) (fl [wX6 cI cZ cQ rX (f_X6_readNumber SX x1 x2)]) := by
  refine cvz_of (cc := cX6_readNumber) (nL := 6) (lv0 := [(0, .ref (rX 0)), (1, .int x1), (2, .int x2)]) (by decide) rfl (Nat.le_of_ble_eq_true rfl) rfl ?_
  intro p e s m args below meth c A X hr hZ
  refine ww_aload_n (pc := 0) X dX6_readNumber_0 0 rfl rfl ?_
  refine ww_gVv (pc := 1) (rest := []) (gsN := [wX6 cI cZ cQ rX (f_X6_skipBlanks SX)]) (ci := 6) (gi := 0) (qi := 0) X (c_X6_skipBlanks l D cI cZ cQ rX SX (by assumption)) gX6_readNumber_X6_skipBlanks rfl hd_X6_skipBlanks [true] rfl (acons (ad6 _ _ _ _ _ _) rfl) rfl rfl rfl rfl rfl rfl ⟨rfl, rfl⟩ ⟨Nat.le_of_ble_eq_true rfl, Nat.le_of_ble_eq_true rfl⟩ (Nat.le_of_ble_eq_true rfl) ⟨Nat.zero_le _, Nat.zero_le _⟩ dX6_readNumber_1 ?_
  generalize hz1 : (f_X6_skipBlanks SX) = z1
  have okz : ¬ (z1.1 1) < 0 := by rw [← hz1]; exact (xk_skip ok1).1
  refine ww_aload_n (pc := 4) X dX6_readNumber_4 0 rfl rfl ?_
  refine ww_get (pc := 5) (ci := 6) (v := .int (z1.1 1)) (C := RX6) (T := TX6) (N := 6) X inX6_readNumber_6 0 rfl rfl 3 (by decide) (by decide +kernel) rfl dX6_readNumber_5 ?_
  refine ww_istore_n (pc := 8) (lv' := [(3, .int (z1.1 1)), (0, .ref (rX 0)), (1, .int x1), (2, .int x2)]) X dX6_readNumber_8 rfl (by decide) rfl ?_
  refine ww_iconst (pc := 9) (v := 0) X dX6_readNumber_9 (by decide) ?_
  refine ww_istore (pc := 10) (lv' := [(4, .int 0), (3, .int (z1.1 1)), (0, .ref (rX 0)), (1, .int x1), (2, .int x2)]) X dX6_readNumber_10 (by decide) rfl ?_
  refine ww_iconst (pc := 12) (v := 0) X dX6_readNumber_12 (by decide) ?_
  refine ww_istore (pc := 13) (lv' := [(5, .int 0), (4, .int 0), (3, .int (z1.1 1)), (0, .ref (rX 0)), (1, .int x1), (2, .int x2)]) X dX6_readNumber_13 (by decide) rfl ?_
  have L15 : ∀ (k_15 j_15 : Nat) (u_15 : St × Int32), j_15 + k_15 = 241 → (¬ (u_15.1.1 1) < 0) → f_X6_readNumber SX x1 x2 = lp_X6_readNumber_15 x1 x2 (z1.1 1) k_15 j_15 u_15 → WW p l e (headSpec wsX6_readNumber { frames := 2, cells := 0, slots := 0, locals := 41 }).room s m args below meth c 6 D A 0 0 (RQv below args s D A (fl [wX6 cI cZ cQ rX (f_X6_readNumber SX x1 x2)])) (fl [wX6 cI cZ cQ rX u_15.1]) [(0, .ref (rX 0)), (1, .int x1), (2, .int x2), (3, .int (z1.1 1)), (4, .int u_15.2), (5, .int (nI j_15))] 15 [] := by
    intro k_15
    induction k_15 with
    | zero =>
      intro j_15 u_15 hj hi hf
      have hjB : j_15 = 241 := by omega
      subst hjB
      refine ww_iload (pc := 15) X dX6_readNumber_15 5 rfl ?_
      refine ww_sipush (pc := 17) (v := 240) X dX6_readNumber_17 (by decide) ?_
      refine ww_icmp_gt (pc := 20) (tgt := 71) X dX6_readNumber_20 (by decide) (fun _ => ?_) (fun c9 => absurd (lp_gt0 rfl (Nat.le_refl _) (by decide)) c9)
      refine ww_aload_n (pc := 71) X dX6_readNumber_71 0 rfl rfl ?_
      refine ww_get (pc := 72) (ci := 6) (v := .int (u_15.1.1 1)) (C := RX6) (T := TX6) (N := 6) X inX6_readNumber_6 0 rfl rfl 3 (by decide) (by decide +kernel) rfl dX6_readNumber_72 ?_
      refine ww_iload_n (pc := 75) X dX6_readNumber_75 3 rfl rfl ?_
      refine ww_icmp_ne (pc := 76) (tgt := 91) X dX6_readNumber_76 (by decide) (fun c40 => ?_) (fun c40 => ?_)
      · refine ww_aload_n (pc := 91) X dX6_readNumber_91 0 rfl rfl ?_
        refine ww_get (pc := 92) (ci := 6) (v := .int (u_15.1.1 1)) (C := RX6) (T := TX6) (N := 6) X inX6_readNumber_6 0 rfl rfl 3 (by decide) (by decide +kernel) rfl dX6_readNumber_92 ?_
        refine ww_iload_n (pc := 95) X dX6_readNumber_95 3 rfl rfl ?_
        refine ww_isub (pc := 96) X dX6_readNumber_96 ?_
        refine ww_iconst (pc := 97) (v := 4) X dX6_readNumber_97 (by decide) ?_
        refine ww_icmp_gt (pc := 98) (tgt := 121) X dX6_readNumber_98 (by decide) (fun c41 => ?_) (fun c41 => ?_)
        · refine ww_aload_n (pc := 121) X dX6_readNumber_121 0 rfl rfl ?_
          refine ww_iconst (pc := 122) (v := 2) X dX6_readNumber_122 (by decide) ?_
          refine ww_iload_n (pc := 123) X dX6_readNumber_123 3 rfl rfl ?_
          refine ww_gVv (pc := 124) (rest := []) (gsN := [wX6 cI cZ cQ rX (f_X6_blame u_15.1 2 (z1.1 1))]) (ci := 6) (gi := 0) (qi := 0) X (c_X6_blame l D cI cZ cQ rX u_15.1 2 (z1.1 1)) gX6_readNumber_X6_blame rfl hd_X6_blame [true] rfl (acons (ad6 _ _ _ _ _ _) rfl) rfl rfl rfl rfl rfl rfl ⟨rfl, rfl⟩ ⟨Nat.le_of_ble_eq_true rfl, Nat.le_of_ble_eq_true rfl⟩ (Nat.le_of_ble_eq_true rfl) ⟨Nat.zero_le _, Nat.zero_le _⟩ dX6_readNumber_124 ?_
          generalize hz42 : (f_X6_blame u_15.1 2 (z1.1 1)) = z42
          refine ww_goto (pc := 127) (tgt := 138) X dX6_readNumber_127 (by decide) ?_
          have h43 : f_X6_readNumber SX x1 x2 = z42 := by rw [hf]; show l0_X6_readNumber_15 x1 x2 (z1.1 1) 241 u_15 = _; unfold l0_X6_readNumber_15; try rw [if_neg c40, if_pos c41, hz42]; try unfold l0_X6_readNumber_15_k1; first | done | rfl
          have hw44 := congrArg (fun u9 : St => fl [wX6 cI cZ cQ rX u9]) h43.symm
          exact ww_vret X hr hw44 dX6_readNumber_138
        · refine ww_iload (pc := 101) X dX6_readNumber_101 4 rfl ?_
          refine ww_gets (pc := 103) (v := .ref (tt 0)) X (Zs_Z0 hZ) (by decide +kernel) dX6_readNumber_103 ?_
          refine ww_iload_n (pc := 106) X dX6_readNumber_106 2 rfl rfl ?_
          refine ww_ti (pc := 107) (f := tb 0) X (Zs_T0 hZ) hbd dX6_readNumber_107 ?_
          refine ww_icmp_lt (pc := 108) (tgt := 121) X dX6_readNumber_108 (by decide) (fun c45 => ?_) (fun c45 => ?_)
          · refine ww_aload_n (pc := 121) X dX6_readNumber_121 0 rfl rfl ?_
            refine ww_iconst (pc := 122) (v := 2) X dX6_readNumber_122 (by decide) ?_
            refine ww_iload_n (pc := 123) X dX6_readNumber_123 3 rfl rfl ?_
            refine ww_gVv (pc := 124) (rest := []) (gsN := [wX6 cI cZ cQ rX (f_X6_blame u_15.1 2 (z1.1 1))]) (ci := 6) (gi := 0) (qi := 0) X (c_X6_blame l D cI cZ cQ rX u_15.1 2 (z1.1 1)) gX6_readNumber_X6_blame rfl hd_X6_blame [true] rfl (acons (ad6 _ _ _ _ _ _) rfl) rfl rfl rfl rfl rfl rfl ⟨rfl, rfl⟩ ⟨Nat.le_of_ble_eq_true rfl, Nat.le_of_ble_eq_true rfl⟩ (Nat.le_of_ble_eq_true rfl) ⟨Nat.zero_le _, Nat.zero_le _⟩ dX6_readNumber_124 ?_
            generalize hz46 : (f_X6_blame u_15.1 2 (z1.1 1)) = z46
            refine ww_goto (pc := 127) (tgt := 138) X dX6_readNumber_127 (by decide) ?_
            have h47 : f_X6_readNumber SX x1 x2 = z46 := by rw [hf]; show l0_X6_readNumber_15 x1 x2 (z1.1 1) 241 u_15 = _; unfold l0_X6_readNumber_15; try rw [if_neg c40, if_neg c41, if_pos c45, hz46]; try unfold l0_X6_readNumber_15_k2; first | done | rfl
            have hw48 := congrArg (fun u9 : St => fl [wX6 cI cZ cQ rX u9]) h47.symm
            exact ww_vret X hr hw48 dX6_readNumber_138
          · refine ww_iload (pc := 111) X dX6_readNumber_111 4 rfl ?_
            refine ww_gets (pc := 113) (v := .ref (tt 1)) X (Zs_Z1 hZ) (by decide +kernel) dX6_readNumber_113 ?_
            refine ww_iload_n (pc := 116) X dX6_readNumber_116 2 rfl rfl ?_
            refine ww_ti (pc := 117) (f := tb 1) X (Zs_T1 hZ) hbd dX6_readNumber_117 ?_
            refine ww_icmp_le (pc := 118) (tgt := 130) X dX6_readNumber_118 (by decide) (fun c49 => ?_) (fun c49 => ?_)
            · refine ww_aload_n (pc := 130) X dX6_readNumber_130 0 rfl rfl ?_
              refine ww_get (pc := 131) (ci := 6) (v := .ref (rX 2)) (C := RX6) (T := TX6) (N := 6) X inX6_readNumber_6 0 rfl rfl 1 (by decide) (by decide +kernel) rfl dX6_readNumber_131 ?_
              refine ww_iload_n (pc := 134) X dX6_readNumber_134 1 rfl rfl ?_
              refine ww_iload (pc := 135) X dX6_readNumber_135 4 rfl ?_
              refine ww_iast (pc := 137) (f := u_15.1.2 1) (ws' := fl [wX6 cI cZ cQ rX (sA u_15.1 1 (upd (u_15.1.2 1) ((x1 : Int32)).toNatClampNeg u_15.2))]) X 2 0 rfl rfl hp rfl dX6_readNumber_137 ?_
              have h50 : f_X6_readNumber SX x1 x2 = (sA u_15.1 1 (upd (u_15.1.2 1) ((x1 : Int32)).toNatClampNeg u_15.2)) := by rw [hf]; show l0_X6_readNumber_15 x1 x2 (z1.1 1) 241 u_15 = _; unfold l0_X6_readNumber_15; try rw [if_neg c40, if_neg c41, if_neg c45, if_pos c49]; first | done | rfl
              have hw51 := congrArg (fun u9 : St => fl [wX6 cI cZ cQ rX u9]) h50.symm
              exact ww_vret X hr hw51 dX6_readNumber_138
            · refine ww_aload_n (pc := 121) X dX6_readNumber_121 0 rfl rfl ?_
              refine ww_iconst (pc := 122) (v := 2) X dX6_readNumber_122 (by decide) ?_
              refine ww_iload_n (pc := 123) X dX6_readNumber_123 3 rfl rfl ?_
              refine ww_gVv (pc := 124) (rest := []) (gsN := [wX6 cI cZ cQ rX (f_X6_blame u_15.1 2 (z1.1 1))]) (ci := 6) (gi := 0) (qi := 0) X (c_X6_blame l D cI cZ cQ rX u_15.1 2 (z1.1 1)) gX6_readNumber_X6_blame rfl hd_X6_blame [true] rfl (acons (ad6 _ _ _ _ _ _) rfl) rfl rfl rfl rfl rfl rfl ⟨rfl, rfl⟩ ⟨Nat.le_of_ble_eq_true rfl, Nat.le_of_ble_eq_true rfl⟩ (Nat.le_of_ble_eq_true rfl) ⟨Nat.zero_le _, Nat.zero_le _⟩ dX6_readNumber_124 ?_
              generalize hz52 : (f_X6_blame u_15.1 2 (z1.1 1)) = z52
              refine ww_goto (pc := 127) (tgt := 138) X dX6_readNumber_127 (by decide) ?_
              have h53 : f_X6_readNumber SX x1 x2 = z52 := by rw [hf]; show l0_X6_readNumber_15 x1 x2 (z1.1 1) 241 u_15 = _; unfold l0_X6_readNumber_15; try rw [if_neg c40, if_neg c41, if_neg c45, if_neg c49, hz52]; try unfold l0_X6_readNumber_15_k3; first | done | rfl
              have hw54 := congrArg (fun u9 : St => fl [wX6 cI cZ cQ rX u9]) h53.symm
              exact ww_vret X hr hw54 dX6_readNumber_138
      · refine ww_aload_n (pc := 79) X dX6_readNumber_79 0 rfl rfl ?_
        refine ww_iconst (pc := 80) (v := 1) X dX6_readNumber_80 (by decide) ?_
        refine ww_aload_n (pc := 81) X dX6_readNumber_81 0 rfl rfl ?_
        refine ww_get (pc := 82) (ci := 6) (v := .int (u_15.1.1 1)) (C := RX6) (T := TX6) (N := 6) X inX6_readNumber_6 0 rfl rfl 3 (by decide) (by decide +kernel) rfl dX6_readNumber_82 ?_
        refine ww_gVv (pc := 85) (rest := []) (gsN := [wX6 cI cZ cQ rX (f_X6_blame u_15.1 1 (u_15.1.1 1))]) (ci := 6) (gi := 0) (qi := 0) X (c_X6_blame l D cI cZ cQ rX u_15.1 1 (u_15.1.1 1)) gX6_readNumber_X6_blame rfl hd_X6_blame [true] rfl (acons (ad6 _ _ _ _ _ _) rfl) rfl rfl rfl rfl rfl rfl ⟨rfl, rfl⟩ ⟨Nat.le_of_ble_eq_true rfl, Nat.le_of_ble_eq_true rfl⟩ (Nat.le_of_ble_eq_true rfl) ⟨Nat.zero_le _, Nat.zero_le _⟩ dX6_readNumber_85 ?_
        generalize hz55 : (f_X6_blame u_15.1 1 (u_15.1.1 1)) = z55
        refine ww_goto (pc := 88) (tgt := 138) X dX6_readNumber_88 (by decide) ?_
        have h56 : f_X6_readNumber SX x1 x2 = z55 := by rw [hf]; show l0_X6_readNumber_15 x1 x2 (z1.1 1) 241 u_15 = _; unfold l0_X6_readNumber_15; try rw [if_pos c40, hz55]; try unfold l0_X6_readNumber_15_k4; first | done | rfl
        have hw57 := congrArg (fun u9 : St => fl [wX6 cI cZ cQ rX u9]) h56.symm
        exact ww_vret X hr hw57 dX6_readNumber_138
    | succ k_15 ih =>
      intro j_15 u_15 hj hi hf
      have hjB : j_15 < 241 := by omega
      refine ww_iload (pc := 15) X dX6_readNumber_15 5 rfl ?_
      refine ww_sipush (pc := 17) (v := 240) X dX6_readNumber_17 (by decide) ?_
      refine ww_icmp_gt (pc := 20) (tgt := 71) X dX6_readNumber_20 (by decide) (fun c9 => absurd c9 (lp_gt1 rfl hjB (by decide))) (fun _ => ?_)
      refine ww_aload_n (pc := 23) X dX6_readNumber_23 0 rfl rfl ?_
      refine ww_aload_n (pc := 24) X dX6_readNumber_24 0 rfl rfl ?_
      refine ww_gVi (pc := 25) (rest := [.ref (rX 0)]) (gsN := [wX6 cI cZ cQ rX u_15.1]) (ci := 6) (gi := 0) (qi := 0) X (c_X6_here l D cI cZ cQ rX u_15.1 hi) gX6_readNumber_X6_here rfl hd_X6_here [true] rfl rfl rfl rfl rfl rfl rfl rfl ⟨rfl, rfl⟩ ⟨Nat.le_of_ble_eq_true rfl, Nat.le_of_ble_eq_true rfl⟩ (Nat.le_of_ble_eq_true rfl) ⟨Nat.zero_le _, Nat.zero_le _⟩ dX6_readNumber_25 ?_
      refine ww_gVi (pc := 28) (rest := []) (gsN := [wX6 cI cZ cQ rX u_15.1]) (ci := 6) (gi := 0) (qi := 0) X (c_X6_isFigure l D cI cZ cQ rX u_15.1 (f_X6_here u_15.1)) gX6_readNumber_X6_isFigure rfl hd_X6_isFigure [true] rfl rfl rfl rfl rfl rfl rfl rfl ⟨rfl, rfl⟩ ⟨Nat.le_of_ble_eq_true rfl, Nat.le_of_ble_eq_true rfl⟩ (Nat.le_of_ble_eq_true rfl) ⟨Nat.zero_le _, Nat.zero_le _⟩ dX6_readNumber_28 ?_
      refine ww_if_eq (pc := 31) (tgt := 71) X dX6_readNumber_31 (by decide) (fun c58 => ?_) (fun c58 => ?_)
      · refine ww_aload_n (pc := 71) X dX6_readNumber_71 0 rfl rfl ?_
        refine ww_get (pc := 72) (ci := 6) (v := .int (u_15.1.1 1)) (C := RX6) (T := TX6) (N := 6) X inX6_readNumber_6 0 rfl rfl 3 (by decide) (by decide +kernel) rfl dX6_readNumber_72 ?_
        refine ww_iload_n (pc := 75) X dX6_readNumber_75 3 rfl rfl ?_
        refine ww_icmp_ne (pc := 76) (tgt := 91) X dX6_readNumber_76 (by decide) (fun c59 => ?_) (fun c59 => ?_)
        · refine ww_aload_n (pc := 91) X dX6_readNumber_91 0 rfl rfl ?_
          refine ww_get (pc := 92) (ci := 6) (v := .int (u_15.1.1 1)) (C := RX6) (T := TX6) (N := 6) X inX6_readNumber_6 0 rfl rfl 3 (by decide) (by decide +kernel) rfl dX6_readNumber_92 ?_
          refine ww_iload_n (pc := 95) X dX6_readNumber_95 3 rfl rfl ?_
          refine ww_isub (pc := 96) X dX6_readNumber_96 ?_
          refine ww_iconst (pc := 97) (v := 4) X dX6_readNumber_97 (by decide) ?_
          refine ww_icmp_gt (pc := 98) (tgt := 121) X dX6_readNumber_98 (by decide) (fun c60 => ?_) (fun c60 => ?_)
          · refine ww_aload_n (pc := 121) X dX6_readNumber_121 0 rfl rfl ?_
            refine ww_iconst (pc := 122) (v := 2) X dX6_readNumber_122 (by decide) ?_
            refine ww_iload_n (pc := 123) X dX6_readNumber_123 3 rfl rfl ?_
            refine ww_gVv (pc := 124) (rest := []) (gsN := [wX6 cI cZ cQ rX (f_X6_blame u_15.1 2 (z1.1 1))]) (ci := 6) (gi := 0) (qi := 0) X (c_X6_blame l D cI cZ cQ rX u_15.1 2 (z1.1 1)) gX6_readNumber_X6_blame rfl hd_X6_blame [true] rfl (acons (ad6 _ _ _ _ _ _) rfl) rfl rfl rfl rfl rfl rfl ⟨rfl, rfl⟩ ⟨Nat.le_of_ble_eq_true rfl, Nat.le_of_ble_eq_true rfl⟩ (Nat.le_of_ble_eq_true rfl) ⟨Nat.zero_le _, Nat.zero_le _⟩ dX6_readNumber_124 ?_
            generalize hz61 : (f_X6_blame u_15.1 2 (z1.1 1)) = z61
            refine ww_goto (pc := 127) (tgt := 138) X dX6_readNumber_127 (by decide) ?_
            have h62 : f_X6_readNumber SX x1 x2 = z61 := by rw [hf]; show lb_X6_readNumber_15 x1 x2 (z1.1 1) (lp_X6_readNumber_15 x1 x2 (z1.1 1) k_15) j_15 u_15 = _; unfold lb_X6_readNumber_15; try rw [if_pos c58, if_neg c59, if_pos c60, hz61]; try unfold lb_X6_readNumber_15_k1; first | done | rfl
            have hw63 := congrArg (fun u9 : St => fl [wX6 cI cZ cQ rX u9]) h62.symm
            exact ww_vret X hr hw63 dX6_readNumber_138
          · refine ww_iload (pc := 101) X dX6_readNumber_101 4 rfl ?_
            refine ww_gets (pc := 103) (v := .ref (tt 0)) X (Zs_Z0 hZ) (by decide +kernel) dX6_readNumber_103 ?_
            refine ww_iload_n (pc := 106) X dX6_readNumber_106 2 rfl rfl ?_
            refine ww_ti (pc := 107) (f := tb 0) X (Zs_T0 hZ) hbd dX6_readNumber_107 ?_
            refine ww_icmp_lt (pc := 108) (tgt := 121) X dX6_readNumber_108 (by decide) (fun c64 => ?_) (fun c64 => ?_)
            · refine ww_aload_n (pc := 121) X dX6_readNumber_121 0 rfl rfl ?_
              refine ww_iconst (pc := 122) (v := 2) X dX6_readNumber_122 (by decide) ?_
              refine ww_iload_n (pc := 123) X dX6_readNumber_123 3 rfl rfl ?_
              refine ww_gVv (pc := 124) (rest := []) (gsN := [wX6 cI cZ cQ rX (f_X6_blame u_15.1 2 (z1.1 1))]) (ci := 6) (gi := 0) (qi := 0) X (c_X6_blame l D cI cZ cQ rX u_15.1 2 (z1.1 1)) gX6_readNumber_X6_blame rfl hd_X6_blame [true] rfl (acons (ad6 _ _ _ _ _ _) rfl) rfl rfl rfl rfl rfl rfl ⟨rfl, rfl⟩ ⟨Nat.le_of_ble_eq_true rfl, Nat.le_of_ble_eq_true rfl⟩ (Nat.le_of_ble_eq_true rfl) ⟨Nat.zero_le _, Nat.zero_le _⟩ dX6_readNumber_124 ?_
              generalize hz65 : (f_X6_blame u_15.1 2 (z1.1 1)) = z65
              refine ww_goto (pc := 127) (tgt := 138) X dX6_readNumber_127 (by decide) ?_
              have h66 : f_X6_readNumber SX x1 x2 = z65 := by rw [hf]; show lb_X6_readNumber_15 x1 x2 (z1.1 1) (lp_X6_readNumber_15 x1 x2 (z1.1 1) k_15) j_15 u_15 = _; unfold lb_X6_readNumber_15; try rw [if_pos c58, if_neg c59, if_neg c60, if_pos c64, hz65]; try unfold lb_X6_readNumber_15_k2; first | done | rfl
              have hw67 := congrArg (fun u9 : St => fl [wX6 cI cZ cQ rX u9]) h66.symm
              exact ww_vret X hr hw67 dX6_readNumber_138
            · refine ww_iload (pc := 111) X dX6_readNumber_111 4 rfl ?_
              refine ww_gets (pc := 113) (v := .ref (tt 1)) X (Zs_Z1 hZ) (by decide +kernel) dX6_readNumber_113 ?_
              refine ww_iload_n (pc := 116) X dX6_readNumber_116 2 rfl rfl ?_
              refine ww_ti (pc := 117) (f := tb 1) X (Zs_T1 hZ) hbd dX6_readNumber_117 ?_
              refine ww_icmp_le (pc := 118) (tgt := 130) X dX6_readNumber_118 (by decide) (fun c68 => ?_) (fun c68 => ?_)
              · refine ww_aload_n (pc := 130) X dX6_readNumber_130 0 rfl rfl ?_
                refine ww_get (pc := 131) (ci := 6) (v := .ref (rX 2)) (C := RX6) (T := TX6) (N := 6) X inX6_readNumber_6 0 rfl rfl 1 (by decide) (by decide +kernel) rfl dX6_readNumber_131 ?_
                refine ww_iload_n (pc := 134) X dX6_readNumber_134 1 rfl rfl ?_
                refine ww_iload (pc := 135) X dX6_readNumber_135 4 rfl ?_
                refine ww_iast (pc := 137) (f := u_15.1.2 1) (ws' := fl [wX6 cI cZ cQ rX (sA u_15.1 1 (upd (u_15.1.2 1) ((x1 : Int32)).toNatClampNeg u_15.2))]) X 2 0 rfl rfl hp rfl dX6_readNumber_137 ?_
                have h69 : f_X6_readNumber SX x1 x2 = (sA u_15.1 1 (upd (u_15.1.2 1) ((x1 : Int32)).toNatClampNeg u_15.2)) := by rw [hf]; show lb_X6_readNumber_15 x1 x2 (z1.1 1) (lp_X6_readNumber_15 x1 x2 (z1.1 1) k_15) j_15 u_15 = _; unfold lb_X6_readNumber_15; try rw [if_pos c58, if_neg c59, if_neg c60, if_neg c64, if_pos c68]; first | done | rfl
                have hw70 := congrArg (fun u9 : St => fl [wX6 cI cZ cQ rX u9]) h69.symm
                exact ww_vret X hr hw70 dX6_readNumber_138
              · refine ww_aload_n (pc := 121) X dX6_readNumber_121 0 rfl rfl ?_
                refine ww_iconst (pc := 122) (v := 2) X dX6_readNumber_122 (by decide) ?_
                refine ww_iload_n (pc := 123) X dX6_readNumber_123 3 rfl rfl ?_
                refine ww_gVv (pc := 124) (rest := []) (gsN := [wX6 cI cZ cQ rX (f_X6_blame u_15.1 2 (z1.1 1))]) (ci := 6) (gi := 0) (qi := 0) X (c_X6_blame l D cI cZ cQ rX u_15.1 2 (z1.1 1)) gX6_readNumber_X6_blame rfl hd_X6_blame [true] rfl (acons (ad6 _ _ _ _ _ _) rfl) rfl rfl rfl rfl rfl rfl ⟨rfl, rfl⟩ ⟨Nat.le_of_ble_eq_true rfl, Nat.le_of_ble_eq_true rfl⟩ (Nat.le_of_ble_eq_true rfl) ⟨Nat.zero_le _, Nat.zero_le _⟩ dX6_readNumber_124 ?_
                generalize hz71 : (f_X6_blame u_15.1 2 (z1.1 1)) = z71
                refine ww_goto (pc := 127) (tgt := 138) X dX6_readNumber_127 (by decide) ?_
                have h72 : f_X6_readNumber SX x1 x2 = z71 := by rw [hf]; show lb_X6_readNumber_15 x1 x2 (z1.1 1) (lp_X6_readNumber_15 x1 x2 (z1.1 1) k_15) j_15 u_15 = _; unfold lb_X6_readNumber_15; try rw [if_pos c58, if_neg c59, if_neg c60, if_neg c64, if_neg c68, hz71]; try unfold lb_X6_readNumber_15_k3; first | done | rfl
                have hw73 := congrArg (fun u9 : St => fl [wX6 cI cZ cQ rX u9]) h72.symm
                exact ww_vret X hr hw73 dX6_readNumber_138
        · refine ww_aload_n (pc := 79) X dX6_readNumber_79 0 rfl rfl ?_
          refine ww_iconst (pc := 80) (v := 1) X dX6_readNumber_80 (by decide) ?_
          refine ww_aload_n (pc := 81) X dX6_readNumber_81 0 rfl rfl ?_
          refine ww_get (pc := 82) (ci := 6) (v := .int (u_15.1.1 1)) (C := RX6) (T := TX6) (N := 6) X inX6_readNumber_6 0 rfl rfl 3 (by decide) (by decide +kernel) rfl dX6_readNumber_82 ?_
          refine ww_gVv (pc := 85) (rest := []) (gsN := [wX6 cI cZ cQ rX (f_X6_blame u_15.1 1 (u_15.1.1 1))]) (ci := 6) (gi := 0) (qi := 0) X (c_X6_blame l D cI cZ cQ rX u_15.1 1 (u_15.1.1 1)) gX6_readNumber_X6_blame rfl hd_X6_blame [true] rfl (acons (ad6 _ _ _ _ _ _) rfl) rfl rfl rfl rfl rfl rfl ⟨rfl, rfl⟩ ⟨Nat.le_of_ble_eq_true rfl, Nat.le_of_ble_eq_true rfl⟩ (Nat.le_of_ble_eq_true rfl) ⟨Nat.zero_le _, Nat.zero_le _⟩ dX6_readNumber_85 ?_
          generalize hz74 : (f_X6_blame u_15.1 1 (u_15.1.1 1)) = z74
          refine ww_goto (pc := 88) (tgt := 138) X dX6_readNumber_88 (by decide) ?_
          have h75 : f_X6_readNumber SX x1 x2 = z74 := by rw [hf]; show lb_X6_readNumber_15 x1 x2 (z1.1 1) (lp_X6_readNumber_15 x1 x2 (z1.1 1) k_15) j_15 u_15 = _; unfold lb_X6_readNumber_15; try rw [if_pos c58, if_pos c59, hz74]; try unfold lb_X6_readNumber_15_k4; first | done | rfl
          have hw76 := congrArg (fun u9 : St => fl [wX6 cI cZ cQ rX u9]) h75.symm
          exact ww_vret X hr hw76 dX6_readNumber_138
      · refine ww_iload (pc := 34) X dX6_readNumber_34 5 rfl ?_
        refine ww_iconst (pc := 36) (v := 4) X dX6_readNumber_36 (by decide) ?_
        refine ww_icmp_ge (pc := 37) (tgt := 55) X dX6_readNumber_37 (by decide) (fun c77 => ?_) (fun c77 => ?_)
        · refine ww_aload_n (pc := 55) X dX6_readNumber_55 0 rfl rfl ?_
          refine ww_dup (pc := 56) X dX6_readNumber_56 rfl ?_
          refine ww_get (pc := 57) (ci := 6) (v := .int (u_15.1.1 1)) (C := RX6) (T := TX6) (N := 6) X inX6_readNumber_6 0 rfl rfl 3 (by decide) (by decide +kernel) rfl dX6_readNumber_57 ?_
          refine ww_iconst (pc := 60) (v := 1) X dX6_readNumber_60 (by decide) ?_
          refine ww_iadd (pc := 61) X dX6_readNumber_61 ?_
          refine ww_put (pc := 62) (ci := 6) (v := .int ((u_15.1.1 1) + 1)) (C := RX6) (T := TX6) (N := 6) (ws' := fl [wX6 cI cZ cQ rX (sI u_15.1 1 ((u_15.1.1 1) + 1))]) X inX6_readNumber_6 tyX6 tyX6_ok nmX6 0 rfl rfl 3 (by decide) (by decide +kernel) rfl rfl rfl (Nat.le_of_ble_eq_true rfl) rfl dX6_readNumber_62 ?_
          refine ww_iinc (pc := 65) (v := (nI j_15) + 1) (lv' := [(5, .int ((nI j_15) + 1)), (0, .ref (rX 0)), (1, .int x1), (2, .int x2), (3, .int (z1.1 1)), (4, .int u_15.2)]) X dX6_readNumber_65 5 rfl rfl (by decide) rfl ?_
          refine ww_goto (pc := 68) (tgt := 15) X dX6_readNumber_68 (by decide) ?_
          refine ww_lsub [1, 2, 3, 4, 5, 0] rfl ?_
          have h78 : f_X6_readNumber SX x1 x2 = lp_X6_readNumber_15 x1 x2 (z1.1 1) k_15 (j_15 + 1) ((sI u_15.1 1 ((u_15.1.1 1) + 1)), u_15.2) := by rw [hf]; show lb_X6_readNumber_15 x1 x2 (z1.1 1) (lp_X6_readNumber_15 x1 x2 (z1.1 1) k_15) j_15 u_15 = _; unfold lb_X6_readNumber_15; try rw [if_neg c58, if_pos c77]; first | done | rfl
          exact ww_cast rfl (congrArg (fun (i9 : Int32) => ([(0, .ref (rX 0)), (1, .int x1), (2, .int x2), (3, .int (z1.1 1)), (4, .int u_15.2), (5, .int i9)] : List (Nat × Value))) (nI_1 j_15).symm) (ih (j_15 + 1) ((sI u_15.1 1 ((u_15.1.1 1) + 1)), u_15.2) (by omega) (rn_step hi c58) h78)
        · refine ww_iload (pc := 40) X dX6_readNumber_40 4 rfl ?_
          refine ww_bipush (pc := 42) (v := 10) X dX6_readNumber_42 (by decide) ?_
          refine ww_imul (pc := 44) X dX6_readNumber_44 ?_
          refine ww_aload_n (pc := 45) X dX6_readNumber_45 0 rfl rfl ?_
          refine ww_gVi (pc := 46) (rest := [.int (u_15.2 * 10)]) (gsN := [wX6 cI cZ cQ rX u_15.1]) (ci := 6) (gi := 0) (qi := 0) X (c_X6_here l D cI cZ cQ rX u_15.1 hi) gX6_readNumber_X6_here rfl hd_X6_here [true] rfl rfl rfl rfl rfl rfl rfl rfl ⟨rfl, rfl⟩ ⟨Nat.le_of_ble_eq_true rfl, Nat.le_of_ble_eq_true rfl⟩ (Nat.le_of_ble_eq_true rfl) ⟨Nat.zero_le _, Nat.zero_le _⟩ dX6_readNumber_46 ?_
          refine ww_iadd (pc := 49) X dX6_readNumber_49 ?_
          refine ww_bipush (pc := 50) (v := 48) X dX6_readNumber_50 (by decide) ?_
          refine ww_isub (pc := 52) X dX6_readNumber_52 ?_
          refine ww_istore (pc := 53) (lv' := [(4, .int (((u_15.2 * 10) + (f_X6_here u_15.1)) - 48)), (0, .ref (rX 0)), (1, .int x1), (2, .int x2), (3, .int (z1.1 1)), (5, .int (nI j_15))]) X dX6_readNumber_53 (by decide) rfl ?_
          refine ww_aload_n (pc := 55) X dX6_readNumber_55 1 rfl rfl ?_
          refine ww_dup (pc := 56) X dX6_readNumber_56 rfl ?_
          refine ww_get (pc := 57) (ci := 6) (v := .int (u_15.1.1 1)) (C := RX6) (T := TX6) (N := 6) X inX6_readNumber_6 0 rfl rfl 3 (by decide) (by decide +kernel) rfl dX6_readNumber_57 ?_
          refine ww_iconst (pc := 60) (v := 1) X dX6_readNumber_60 (by decide) ?_
          refine ww_iadd (pc := 61) X dX6_readNumber_61 ?_
          refine ww_put (pc := 62) (ci := 6) (v := .int ((u_15.1.1 1) + 1)) (C := RX6) (T := TX6) (N := 6) (ws' := fl [wX6 cI cZ cQ rX (sI u_15.1 1 ((u_15.1.1 1) + 1))]) X inX6_readNumber_6 tyX6 tyX6_ok nmX6 0 rfl rfl 3 (by decide) (by decide +kernel) rfl rfl rfl (Nat.le_of_ble_eq_true rfl) rfl dX6_readNumber_62 ?_
          refine ww_iinc (pc := 65) (v := (nI j_15) + 1) (lv' := [(5, .int ((nI j_15) + 1)), (4, .int (((u_15.2 * 10) + (f_X6_here u_15.1)) - 48)), (0, .ref (rX 0)), (1, .int x1), (2, .int x2), (3, .int (z1.1 1))]) X dX6_readNumber_65 5 rfl rfl (by decide) rfl ?_
          refine ww_goto (pc := 68) (tgt := 15) X dX6_readNumber_68 (by decide) ?_
          refine ww_lsub [2, 3, 4, 5, 1, 0] rfl ?_
          have h79 : f_X6_readNumber SX x1 x2 = lp_X6_readNumber_15 x1 x2 (z1.1 1) k_15 (j_15 + 1) ((sI u_15.1 1 ((u_15.1.1 1) + 1)), ((u_15.2 * 10) + (f_X6_here u_15.1)) - 48) := by rw [hf]; show lb_X6_readNumber_15 x1 x2 (z1.1 1) (lp_X6_readNumber_15 x1 x2 (z1.1 1) k_15) j_15 u_15 = _; unfold lb_X6_readNumber_15; try rw [if_neg c58, if_neg c77]; first | done | rfl
          exact ww_cast rfl (congrArg (fun (i9 : Int32) => ([(0, .ref (rX 0)), (1, .int x1), (2, .int x2), (3, .int (z1.1 1)), (4, .int (((u_15.2 * 10) + (f_X6_here u_15.1)) - 48)), (5, .int i9)] : List (Nat × Value))) (nI_1 j_15).symm) (ih (j_15 + 1) ((sI u_15.1 1 ((u_15.1.1 1) + 1)), ((u_15.2 * 10) + (f_X6_here u_15.1)) - 48) (by omega) (rn_step hi c58) h79)
  refine ww_lsub [3, 4, 5, 2, 1, 0] rfl ?_
  exact L15 241 0 (z1, 0) (by omega) okz (by unfold f_X6_readNumber; try rw [hz1]; try unfold f_X6_readNumber_k1; first | done | rfl)
