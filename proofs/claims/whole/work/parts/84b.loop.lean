section LawL
variable {p : Program} {l : Launch} {e : Env} {s : State} {m : MethodId} {below : List Frame} {meth : Method} {c : Code} {Dg : va_G} {k9 n9 : Nat} {cI cZ cQ : ClassId} {b Ls : Nat} {xs : Nat → Int32}
theorem lw_end {ws : va_W} {lv : List (Nat × Value)} (X : CX p s m #[Value.ref b] meth c code RL wsL_law 4 Dg (tyL cI cZ cQ) (fun q => s.heap.size ≤ q)) (hr : meth.sig.returnType = Option.some FieldType.boolean) (h1 : k9 ≤ 600000) (h2 : n9 ≤ 7302249) : WW p l e room_1 s m #[Value.ref b] below meth c 4 Dg (fun q => s.heap.size ≤ q) k9 n9 (lw_Z below #[Value.ref b] s) ws lv 1009 [.int 1] :=
  fun H locs ls hP hD hS hl => va_forget (fun q hq => hS.2.2 q hq) (W.widen h1 h2 (lw_ret X.1 X.2.1 hr X.2.2.2.2.2.2.2 dL_law_1009))
theorem gt_s {i : Nat} (hi : i ≤ 1000) (hL : Ls ≤ 384) : (nI Ls - 6 < nI i) ↔ ¬ i + 6 ≤ Ls := by
  have e6 : (6 : Int32).toInt = 6 := rfl
  rw [fa_lt, fb_subI, nI_toInt (by omega), nI_toInt (by omega), e6]
  · omega
  · rw [nI_toInt (by omega), e6]; omega
  · rw [nI_toInt (by omega), e6]; omega
set_option maxHeartbeats 8000000 in
set_option maxRecDepth 100000 in
theorem lw_loop (X : CX p s m #[Value.ref b] meth c code RL wsL_law 4 Dg (tyL cI cZ cQ) (fun q => s.heap.size ≤ q)) (hr : meth.sig.returnType = Option.some FieldType.boolean) (hX : va_X b Ls xs s s.heap) (hbl : b < s.heap.size) (hbA : ¬ (fun q => s.heap.size ≤ q) b) (h1 : k9 ≤ 600000) (h2 : n9 ≤ 7302249) (hL : Ls ≤ 384) {tt : Nat → Nat} {ak av : Nat} (hZ : Zs tt ak av (fun q => s.heap.size ≤ q) s s.heap) {rM : Nat → Nat} {h7 : Nat} : ∀ (n i : Nat), i ≤ 1000 → Ls < i + n → ∀ (g : Nat → Nat → Nat) (ST SX SL SD SF SP SI SN SB SM : St), g 0 0 = h7 → Rel ST SX SL SF SP SI SN SB SM → WW p l e room_1 s m #[Value.ref b] below meth c 4 Dg (fun q => s.heap.size ≤ q) k9 n9 (lw_Z below #[Value.ref b] s) (fl (wAll cI cZ cQ g rM ST SX SL SD SF SP SI SN SB SM)) [(3, .int (nI i)), (2, .ref (rM 0)), (1, .ref h7), (0, .ref b)] 18 [] := by
  intro n
  induction n with
  | zero =>
    intro i hi hn g ST SX SL SD SF SP SI SN SB SM hg h
    refine ww_iload_n (pc := 18) X dL_law_18 0 rfl rfl ?_
    refine ww_aload_n (pc := 19) X dL_law_19 3 rfl rfl ?_
    refine ww_slen (pc := 20) X hX hbl hbA dL_law_20 ?_
    refine ww_bipush (pc := 21) (v := 6) X dL_law_21 (by decide) ?_
    refine ww_isub (pc := 23) X dL_law_23 ?_
    refine ww_icmp_gt (tgt := 1008) (pc := 24) X dL_law_24 (by decide) (fun _ => ?_) (fun k => absurd ((gt_s hi hL).mpr (by omega)) k)
    refine ww_iconst (pc := 1008) (v := 1) X dL_law_1008 (by decide) ?_
    exact lw_end X hr h1 h2
  | succ n ih =>
    intro i hi hn g ST SX SL SD SF SP SI SN SB SM hg h
    subst hg
    refine ww_iload_n (pc := 18) X dL_law_18 0 rfl rfl ?_
    refine ww_aload_n (pc := 19) X dL_law_19 3 rfl rfl ?_
    refine ww_slen (pc := 20) X hX hbl hbA dL_law_20 ?_
    refine ww_bipush (pc := 21) (v := 6) X dL_law_21 (by decide) ?_
    refine ww_isub (pc := 23) X dL_law_23 ?_
    refine ww_icmp_gt (tgt := 1008) (pc := 24) X dL_law_24 (by decide) (fun _ => ?_) (fun k => ?_)
    · refine ww_iconst (pc := 1008) (v := 1) X dL_law_1008 (by decide) ?_
      exact lw_end X hr h1 h2
    · have hi6 : i + 6 ≤ Ls := Classical.byContradiction (fun q => k ((gt_s hi hL).mpr q))
      have hk : k9 ≤ room_1.cells ∧ n9 ≤ room_1.slots := ⟨h1, h2⟩
      have kk : LwK p l e s m #[Value.ref b] below meth c Dg (fun q => s.heap.size ≤ q) k9 n9 (lw_Z below #[Value.ref b] s) cI cZ cQ b i rM (g 0 0) := by
        intro g' ST SX SL SD SF SP SI SN SB SM hg' h'
        refine ww_iinc (pc := 1002) (v := nI (i + 6)) (lv' := [(3, .int (nI (i + 6))), (2, .ref (rM 0)), (1, .ref (g 0 0)), (0, .ref b)]) X dL_law_1002 0 rfl (addI i 6) (by decide) rfl ?_
        refine ww_goto (tgt := 18) (pc := 1005) X dL_law_1005 (by decide) ?_
        exact ih (i + 6) (by omega) (by omega) g' ST SX SL SD SF SP SI SN SB SM hg' h'
      refine ww_aload_n (pc := 27) X dL_law_27 3 rfl rfl ?_
      refine ww_iload_n (pc := 28) X dL_law_28 0 rfl rfl ?_
      refine ww_sld (pc := 29) X hX hbl hbA (vp_in_nI (by omega) (by omega)) dL_law_29 ?_
      refine ww_bipush (pc := 30) (v := 31) X dL_law_30 (by decide) ?_
      refine ww_iand (pc := 32) X dL_law_32 ?_
      obtain ⟨j, hj, ej⟩ := pk_andE (xs (nI i).toNatClampNeg) (m := 31) 5 (by decide)
      rw [ej]
      rcases (show j = 0 ∨ j = 1 ∨ j = 2 ∨ j = 3 ∨ j = 4 ∨ j = 5 ∨ j = 6 ∨ j = 7 ∨ j = 8 ∨ j = 9 ∨ j = 10 ∨ j = 11 ∨ j = 12 ∨ j = 13 ∨ j = 14 ∨ j = 15 ∨ j = 16 ∨ j = 17 ∨ j = 18 ∨ j = 19 ∨ j = 20 ∨ j = 21 ∨ j = 22 ∨ j = 23 ∨ j = 24 ∨ j = 25 ∨ j = 26 ∨ j = 27 ∨ j = 28 ∨ j = 29 ∨ j = 30 ∨ j = 31 by omega) with rfl | rfl | rfl | rfl | rfl | rfl | rfl | rfl | rfl | rfl | rfl | rfl | rfl | rfl | rfl | rfl | rfl | rfl | rfl | rfl | rfl | rfl | rfl | rfl | rfl | rfl | rfl | rfl | rfl | rfl | rfl | rfl
      · exact ww_tableIn (off := 143) (tgt := 176) X dL_law_33 (by decide) (by decide) rfl (by decide) (lc_feed X hX hbl hbA hk hL hi6 h kk)
      · exact ww_tableIn (off := 166) (tgt := 199) X dL_law_33 (by decide) (by decide) rfl (by decide) (lc_shore X hX hbl hbA hk hL hZ hi6 h kk)
      · exact ww_tableIn (off := 179) (tgt := 212) X dL_law_33 (by decide) (by decide) rfl (by decide) (lc_fault X hX hbl hbA hk hL hi6 h kk)
      · exact ww_tableIn (off := 192) (tgt := 225) X dL_law_33 (by decide) (by decide) rfl (by decide) (lc_told X hX hbl hbA hk hL hi6 h kk)
      · exact ww_tableIn (off := 215) (tgt := 248) X dL_law_33 (by decide) (by decide) rfl (by decide) (lc_depth X hX hbl hbA hk hL hi6 h kk)
      · exact ww_tableIn (off := 238) (tgt := 271) X dL_law_33 (by decide) (by decide) rfl (by decide) (lc_person X hX hbl hbA hk hL hi6 h kk)
      · exact ww_tableIn (off := 271) (tgt := 304) X dL_law_33 (by decide) (by decide) rfl (by decide) (lc_good X hX hbl hbA hk hL hi6 h kk)
      · exact ww_tableIn (off := 304) (tgt := 337) X dL_law_33 (by decide) (by decide) rfl (by decide) (lc_year X hX hbl hbA hk hL hi6 h kk)
      · exact ww_tableIn (off := 327) (tgt := 360) X dL_law_33 (by decide) (by decide) rfl (by decide) (lc_down X hX hbl hbA hk hL hi6 h kk)
      · exact ww_tableIn (off := 360) (tgt := 393) X dL_law_33 (by decide) (by decide) rfl (by decide) (lc_up X hX hbl hbA hk hL hi6 h kk)
      · exact ww_tableIn (off := 383) (tgt := 416) X dL_law_33 (by decide) (by decide) rfl (by decide) (lc_open X hX hbl hbA hk hL hi6 h kk)
      · exact ww_tableIn (off := 406) (tgt := 439) X dL_law_33 (by decide) (by decide) rfl (by decide) (lc_take X hX hbl hbA hk hL hi6 h kk)
      · exact ww_tableIn (off := 429) (tgt := 462) X dL_law_33 (by decide) (by decide) rfl (by decide) (lc_drift X hX hbl hbA hk hL hi6 h kk)
      · exact ww_tableIn (off := 452) (tgt := 485) X dL_law_33 (by decide) (by decide) rfl (by decide) (lc_undo X hX hbl hbA hk hL hi6 h kk)
      · exact ww_tableIn (off := 465) (tgt := 498) X dL_law_33 (by decide) (by decide) rfl (by decide) (lc_meet X hX hbl hbA hk hL hi6 h kk)
      · exact ww_tableIn (off := 528) (tgt := 561) X dL_law_33 (by decide) (by decide) rfl (by decide) (lc_both X hX hbl hbA hk hL hi6 h kk)
      · exact ww_tableIn (off := 571) (tgt := 604) X dL_law_33 (by decide) (by decide) rfl (by decide) (lc_leave X hX hbl hbA hk hL hi6 h kk)
      · exact ww_tableIn (off := 604) (tgt := 637) X dL_law_33 (by decide) (by decide) rfl (by decide) (lc_when X hX hbl hbA hk hL hi6 h kk)
      · exact ww_tableIn (off := 637) (tgt := 670) X dL_law_33 (by decide) (by decide) rfl (by decide) (lc_letters X hX hbl hbA hk hL hi6 h kk)
      · exact ww_tableIn (off := 670) (tgt := 703) X dL_law_33 (by decide) (by decide) rfl (by decide) (lc_wouldOpen X hX hbl hbA hk hL hi6 h kk)
      · exact ww_tableIn (off := 693) (tgt := 726) X dL_law_33 (by decide) (by decide) rfl (by decide) (lc_yearsLeft X hX hbl hbA hk hL hi6 h kk)
      · exact ww_tableIn (off := 716) (tgt := 749) X dL_law_33 (by decide) (by decide) rfl (by decide) (lc_latest X hX hbl hbA hk hL hi6 h kk)
      · exact ww_tableIn (off := 729) (tgt := 762) X dL_law_33 (by decide) (by decide) rfl (by decide) (lc_storm X hX hbl hbA hk hL hi6 h kk)
      · exact ww_tableIn (off := 762) (tgt := 795) X dL_law_33 (by decide) (by decide) rfl (by decide) (lc_find X hX hbl hbA hk hL hi6 h kk)
      · exact ww_tableIn (off := 805) (tgt := 838) X dL_law_33 (by decide) (by decide) rfl (by decide) (lc_stays X hX hbl hbA hk hL hi6 h kk)
      · exact ww_tableIn (off := 828) (tgt := 861) X dL_law_33 (by decide) (by decide) rfl (by decide) (lc_ask X hX hbl hbA hk hL hi6 h kk)
      · exact ww_tableIn (off := 841) (tgt := 874) X dL_law_33 (by decide) (by decide) rfl (by decide) (lc_write X hX hbl hbA hk hL hi6 h kk)
      · exact ww_tableIn (off := 874) (tgt := 907) X dL_law_33 (by decide) (by decide) rfl (by decide) (lc_tear X hX hbl hbA hk hL hi6 h kk)
      · exact ww_tableIn (off := 887) (tgt := 920) X dL_law_33 (by decide) (by decide) rfl (by decide) (lc_judge X hX hbl hbA hk hL hi6 h kk)
      · exact ww_tableIn (off := 900) (tgt := 933) X dL_law_33 (by decide) (by decide) rfl (by decide) (lc_seed X hX hbl hbA hk hL hi6 h kk)
      · exact ww_tableIn (off := 923) (tgt := 956) X dL_law_33 (by decide) (by decide) rfl (by decide) (lc_keep X hX hbl hbA hk hL hi6 h kk)
      · exact ww_tableIn (off := 946) (tgt := 979) X dL_law_33 (by decide) (by decide) rfl (by decide) (lc_goBack X hX hbl hbA hk hL hi6 h kk)
end LawL
section LawI
variable {Z : (Nat → Prop) → State → Heap → Prop} {p : Program} {l : Launch} {e : Env} {R : Room} {s : State} {m : MethodId} {args : Array Value} {below : List Frame} {meth : Method} {c : Code} {Q : State → Prop} {D : va_G} {A : Nat → Prop} {tys : List (ClassId × FieldType)} {nL k9 n9 : Nat} {cc : ByteArray} {own : String} {Ts : List Cond} {ws : va_W} {lv : List (Nat × Value)} {pc : Nat} {rest : List Value}
variable {y : MethodName} {bytes : ByteArray} {maxL index : Nat} {wsC ws' : List Cond} {rm : Room}
/-- a public constructor -/
theorem ww_cI {S : Type} {ph : S → Prop} {w1 : S → va_W} {mc ms b ci : Nat} {fs : List Value} (X : CX p s m args meth c cc own Ts nL D tys A) (hz : ZOK Z) (hZ : Z A s s.heap) (hM : CnZ Z l y wsC rm D tys b [(b, .inr (ci, fs))] ph w1 mc ms) (hG : GoodIn Ts wsC) (hw : wsC = Cond.code y bytes maxL none :: ws') (hrc : rm.cells = mc) (hrs : rm.slots = ms) (hl9 : Cond.methodLink own index y ∈ Ts) (hini : Cond.initialized y.cls ∈ Ts) (hinst : Cond.instanceMethod y ∈ Ts) (hy1 : y.name = "<init>") (hd : y.cls ≠ "java/lang/invoke/MethodHandle" ∧ y.cls ≠ "java/lang/invoke/VarHandle" ∧ (parseMethodDescriptor y.desc).map (fun d => d.parameters.length) = some 0) (hR : rm.frames + 1 ≤ R.frames ∧ 8 + (maxL + 11) + rm.locals ≤ R.locals) (hrest : (rest.map fun v => v.category).sum ≤ 8) (hf : k9 + mc ≤ R.cells ∧ n9 + ms ≤ R.slots) (hdg : decode cc pc = .ok (.invokespecial index, 3))
    (kk : ∀ r : S, ph r → WW p l e R s m args below meth c nL D A (k9 + mc) (n9 + ms) Q (ws ++ w1 r) lv (pc + 3) rest) : WW p l e R s m args below meth c nL D A k9 n9 Q (ws ++ [(b, .inr (ci, fs))]) lv pc (.ref b :: rest) := by
  intro H locs ls hP hD hS hl
  have hlast : (ws ++ [((b, .inr (ci, fs)) : Nat × va_E)])[ws.length]? = some (b, .inr (ci, fs)) := by
    rw [List.getElem?_append_right (Nat.le_refl _), Nat.sub_self]
    rfl
  have hC : [ws.length].map (fun i => (ws ++ [((b, .inr (ci, fs)) : Nat × va_E)])[i]?) = ([(b, .inr (ci, fs))] : va_W).map some := by
    rw [List.map_cons, List.map_nil, hlast]
    rfl
  have hPc : va_P D vwCl [(b, .inr (ci, fs))] H := w_subP hP [ws.length] hC
  have hDc : va_D A [(b, .inr (ci, fs))] := hD.sub [ws.length] rfl hC
  have hFc := va_free (wc := [(b, .inr (ci, fs))]) hD hS X.2.2.2.2.2.2.1 [ws.length] hC
  have hZc : Z (va_A [(b, .inr (ci, fs))] H.size) s H := hz.2.2.2 A _ s H (hz.2.2.1 A s s.heap H hZ hS.2.1) hFc
  refine va_callv (va_runI (As := []) (rest := rest) ⟨X.1, X.2.1, X.2.2.1, X.2.2.2.1, X.2.2.2.2.1⟩ (hM H.size) (cwI 0 X.2.2.2.2.1 hG hw hrc hrs (X.2.2.2.2.1 _ hini) (X.2.2.2.2.1 _ hl9) (X.2.2.2.2.1 _ hinst) hy1 hd hR) ⟨z_blind hz, z_pre hz hPc X.2.2.2.2.2.1 hDc hZc⟩ rfl rfl hl.1 rfl (lv_room hrest) hdg hf) hS (fun q _ h => hFc q h) hFc (fun r t H1 locs1 ht hvm hph hB hz1 hk1 hS1 => ?_)
  obtain ⟨hP1, hD1⟩ := hB
  rw [ht] at hP1
  have hR9 : (List.range ws.length).map (fun i => (ws ++ [((b, .inr (ci, fs)) : Nat × va_E)])[i]?) = ws.map some := by
    apply List.ext_getElem?
    intro i
    rw [List.getElem?_map, List.getElem?_map]
    by_cases hi : i < ws.length
    · rw [List.getElem?_range hi, List.getElem?_eq_getElem hi]
      show some ((ws ++ _)[i]?) = some (some _)
      rw [List.getElem?_append_left hi, List.getElem?_eq_getElem hi]
    · rw [List.getElem?_eq_none (by rw [List.length_range]; omega), List.getElem?_eq_none (by omega)]
      rfl
  have hjn := va_join (wr := ws) (w1 := w1 r) hP hD [ws.length] (List.range ws.length) hC hR9 (va_nd_range _) (fun i hi h2 => by
    have := List.mem_range.mp hi
    have := List.mem_singleton.mp h2
    omega) hk1 hFc hP1 hD1
  exact kk r hph H1 locs1 ls hjn.1 hjn.2 hS1 hl
end LawI
theorem fl_end {gs : List va_W} {w : va_W} : ([] ++ fl gs) ++ w = fl (gs ++ [w]) := by
  show ([] ++ gs.flatten) ++ w = (gs ++ [w]).flatten
  rw [List.nil_append, List.flatten_append, List.flatten_cons, List.flatten_nil, List.append_nil]
