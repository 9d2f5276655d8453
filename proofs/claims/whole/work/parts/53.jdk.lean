theorem gpick_no (gs : List va_W) : gpick gs (gs.map (fun _ => false)) = [] := by
  induction gs with
  | nil => rfl
  | cons g gs ih => exact ih
theorem gput_no (gs : List va_W) : gput gs (gs.map (fun _ => false)) [] = gs := by
  induction gs with
  | nil => rfl
  | cons g gs ih => exact congrArg (g :: ·) ih
section WWj
variable {Z : (Nat → Prop) → State → Heap → Prop} {p : Program} {l : Launch} {e : Env} {R : Room} {s : State} {m : MethodId} {args : Array Value} {below : List Frame} {meth : Method} {c : Code} {Q : State → Prop} {D : va_G} {A : Nat → Prop} {tys : List (ClassId × FieldType)} {nL k9 n9 : Nat} {cc : ByteArray} {own : String} {Ts : List Cond} {ws : va_W} {lv : List (Nat × Value)} {pc : Nat} {rest : List Value}
variable {y : MethodName} {bytes : ByteArray} {maxL index : Nat} {ret : Option FieldType} {wsC ws' : List Cond} {rm : Room} {C : String} {b : Nat} {As st : List Value} {gs : List va_W} {r : Int32}
theorem ww_jSi (X : CX p s m args meth c cc own Ts nL D tys A) (hz : ZOK Z) (hZ : Z A s s.heap) (hM : CiZ Z l y wsC rm D tys As (fl []) r (fl [])) (hG : GoodIn Ts (va_wsS own index y wsC)) (hw : wsC = Cond.code y bytes maxL ret :: ws') (hd : y.cls ≠ "java/lang/invoke/MethodHandle" ∧ y.cls ≠ "java/lang/invoke/VarHandle" ∧ (parseMethodDescriptor y.desc).map (fun d => d.parameters.length) = some As.length) (hst : st = As.reverse ++ rest) (hrm : rm.cells = 0 ∧ rm.slots = 0) (hR : rm.frames + 1 ≤ R.frames ∧ 8 + (maxL + 11) + rm.locals ≤ R.locals) (hrest : (rest.map fun v => v.category).sum ≤ 8) (hf : k9 ≤ R.cells ∧ n9 ≤ R.slots) (hdg : decode cc pc = .ok (.invokestatic index, 3)) (kk : WW p l e R s m args below meth c nL D A k9 n9 Q (fl gs) lv (pc + 3) (.int r :: rest)) : WW p l e R s m args below meth c nL D A k9 n9 Q (fl gs) lv pc st := by
  intro H locs ls hP hD hS hl
  have hPc : va_P D vwCl (fl []) H := fun k q hq => by cases hq
  have hDc : va_D A (fl []) := ⟨fun i j x y hx => (by cases hx), fun k q hq => (by cases hq)⟩
  have hFc : ∀ q, va_A (fl []) H.size q → A q := fun q h => by
    rcases h with ⟨k2, e2, h⟩ | h
    · cases h
    · exact X.2.2.2.2.2.2.1 q (Nat.le_trans hS.1 h)
  have hZc : Z (va_A (fl []) H.size) s H := hz.2.2.2 A _ s H (hz.2.2.1 A s s.heap H hZ hS.2.1) hFc
  refine va_calli (va_runS (As := As) (rest := rest) ⟨X.1, X.2.1, X.2.2.1, X.2.2.2.1, X.2.2.2.2.1⟩ (hM H.size) (va_cwS As.length X.2.2.2.2.1 hG hw hrm.1 hrm.2 hd hR) ⟨z_blind hz, z_pre hz hPc X.2.2.2.2.2.1 hDc hZc⟩ rfl rfl hl.1 hst (lv_room hrest) hdg hf) hS (fun q _ h => hFc q h) hFc (fun r9 u t H1 locs1 ht hvm hw9 hB hz1 hk1 hS1 => ?_)
  obtain ⟨hP1, hD1⟩ := hB
  rw [ht] at hP1
  obtain ⟨hPn, hDn⟩ := g_join (gs := gs) (cs := []) (cs' := []) hP hD (m := gs.map (fun _ => false)) (gpick_no gs) rfl (gput_adr gs _ [] (by rw [gpick_no])) hk1 hP1
  rw [gput_no] at hPn hDn
  subst hw9
  exact kk H1 locs1 ls hPn hDn hS1 hl
theorem ww_jVi (X : CX p s m args meth c cc own Ts nL D tys A) (hz : ZOK Z) (hZ : Z A s s.heap) (hM : CiZ Z l y wsC rm D tys (.ref b :: As) (fl []) r (fl [])) (hG : GoodIn Ts (wsV own index C y wsC)) (hw : wsC = Cond.code y bytes maxL ret :: ws') (hd : y.cls = C ∧ y.cls ≠ "java/lang/invoke/MethodHandle" ∧ y.cls ≠ "java/lang/invoke/VarHandle" ∧ (parseMethodDescriptor y.desc).map (fun d => d.parameters.length) = some As.length) (hO : va_O C b A s s.heap) (hst : st = As.reverse ++ .ref b :: rest) (hrm : rm.cells = 0 ∧ rm.slots = 0) (hR : rm.frames + 1 ≤ R.frames ∧ 8 + (maxL + 11) + rm.locals ≤ R.locals) (hrest : (rest.map fun v => v.category).sum ≤ 8) (hf : k9 ≤ R.cells ∧ n9 ≤ R.slots) (hdg : decode cc pc = .ok (.invokevirtual index, 3)) (kk : WW p l e R s m args below meth c nL D A k9 n9 Q (fl gs) lv (pc + 3) (.int r :: rest)) : WW p l e R s m args below meth c nL D A k9 n9 Q (fl gs) lv pc st := by
  intro H locs ls hP hD hS hl
  have hPc : va_P D vwCl (fl []) H := fun k q hq => by cases hq
  have hDc : va_D A (fl []) := ⟨fun i j x y hx => (by cases hx), fun k q hq => (by cases hq)⟩
  have hFc : ∀ q, va_A (fl []) H.size q → A q := fun q h => by
    rcases h with ⟨k2, e2, h⟩ | h
    · cases h
    · exact X.2.2.2.2.2.2.1 q (Nat.le_trans hS.1 h)
  have hZc : Z (va_A (fl []) H.size) s H := hz.2.2.2 A _ s H (hz.2.2.1 A s s.heap H hZ hS.2.1) hFc
  have hrv : ∃ cell : Cell, H[b]? = some cell ∧ cell.vm.isStatics = false ∧ s.vm.findClass C = some cell.cls := by
    obtain ⟨cell, h1, h2, h3, -⟩ := hO.kept hS.2.1
    exact ⟨cell, h1, h2, h3⟩
  refine va_calli (va_runV (As := As) (rest := rest) (b := b) (C := C) ⟨X.1, X.2.1, X.2.2.1, X.2.2.2.1, X.2.2.2.2.1⟩ (hM H.size) (cwV As.length X.2.2.2.2.1 hG hw hrm.1 hrm.2 hd hR) ⟨z_blind hz, hrv, z_pre hz hPc X.2.2.2.2.2.1 hDc hZc⟩ rfl rfl hl.1 hst (lv_room hrest) hdg hf) hS (fun q _ h => hFc q h) hFc (fun r9 u t H1 locs1 ht hvm hw9 hB hz1 hk1 hS1 => ?_)
  obtain ⟨hP1, hD1⟩ := hB
  rw [ht] at hP1
  obtain ⟨hPn, hDn⟩ := g_join (gs := gs) (cs := []) (cs' := []) hP hD (m := gs.map (fun _ => false)) (gpick_no gs) rfl (gput_adr gs _ [] (by rw [gpick_no])) hk1 hP1
  rw [gput_no] at hPn hDn
  subst hw9
  exact kk H1 locs1 ls hPn hDn hS1 hl
theorem ww_jget (X : CX p s m args meth c cc own Ts nL D tys A) {o n d : String} {q : Nat} {v : Value} (hE : va_OF o n d v q A s s.heap) (hm : Cond.fieldLink own index o n d ∈ Ts) (hdg : decode cc pc = .ok (.getfield index, 3)) (kk : WW p l e R s m args below meth c nL D A k9 n9 Q ws lv (pc + 3) (v :: rest)) : WW p l e R s m args below meth c nL D A k9 n9 Q ws lv pc (.ref q :: rest) :=
  fun H locs ls hP hD hS hl => vk_getf X.1 X.2.1 hE hS X.2.2.2.1 (X.2.2.2.2.1 _ hm) (fun _ h9 => h9) hdg (kk H locs ls hP hD hS hl)
theorem ww_tb (X : CX p s m args meth c cc own Ts nL D tys A) {t N : Nat} {f : Nat → Int32} (hT : va_T .byte t N (fun j => .int (f j)) A s s.heap) {i : Int32} (hin : vp_in i N) (hdg : decode cc pc = .ok (.baload, 1)) (kk : WW p l e R s m args below meth c nL D A k9 n9 Q ws lv (pc + 1) (.int (f i.toNatClampNeg) :: rest)) : WW p l e R s m args below meth c nL D A k9 n9 Q ws lv pc (.int i :: .ref t :: rest) :=
  fun H locs ls hP hD hS hl => va_tb X.1 X.2.1 hT hS hin rfl hdg (kk H locs ls hP hD hS hl)
theorem ww_tlen (X : CX p s m args meth c cc own Ts nL D tys A) {t N : Nat} {f : Nat → Value} {ty : FieldType} {v : Int32} (hT : va_T ty t N f A s s.heap) (hv : Int32.ofNat N = v) (hdg : decode cc pc = .ok (.arraylength, 1)) (kk : WW p l e R s m args below meth c nL D A k9 n9 Q ws lv (pc + 1) (.int v :: rest)) : WW p l e R s m args below meth c nL D A k9 n9 Q ws lv pc (.ref t :: rest) :=
  fun H locs ls hP hD hS hl => va_tlen X.1 X.2.1 hT hS hv hdg (kk H locs ls hP hD hS hl)
end WWj
theorem Zs_R {tt : Nat → Nat} {ak av : Nat} {A : Nat → Prop} {U : State} {H : Heap} (h : Zs tt ak av A U H) : vk_R RX6 50 "sdpg" ak U := h.2.1
theorem Zs_O {tt : Nat → Nat} {ak av : Nat} {A : Nat → Prop} {U : State} {H : Heap} (h : Zs tt ak av A U H) : va_O "java/lang/String" ak A U H := h.2.2.1.1
theorem Zs_c {tt : Nat → Nat} {ak av : Nat} {A : Nat → Prop} {U : State} {H : Heap} (h : Zs tt ak av A U H) : va_OF "java/lang/String" "coder" "B" (.int 0) ak A U H := h.2.2.1.2.1
theorem Zs_v {tt : Nat → Nat} {ak av : Nat} {A : Nat → Prop} {U : State} {H : Heap} (h : Zs tt ak av A U H) : va_OF "java/lang/String" "value" "[B" (.ref av) ak A U H := h.2.2.1.2.2.1
theorem Zs_t {tt : Nat → Nat} {ak av : Nat} {A : Nat → Prop} {U : State} {H : Heap} (h : Zs tt ak av A U H) : va_T .byte av 4 (fun j => .int (wbt j)) A U H := h.2.2.1.2.2.2
theorem Zs_k {tt : Nat → Nat} {ak av : Nat} {A : Nat → Prop} {U : State} {H : Heap} (h : Zs tt ak av A U H) : va_Z "java/lang/String" "COMPACT_STRINGS" "Z" (.int 1) A U H := h.2.2.2
/-- where a letter stands among the words -/
def ixc (b : Int32) : Int32 := if wbt ((0 : Int32)).toNatClampNeg = b then 0 else if wbt ((1 : Int32)).toNatClampNeg = b then 1 else if wbt ((2 : Int32)).toNatClampNeg = b then 2 else if wbt ((3 : Int32)).toNatClampNeg = b then 3 else -1
def ixs (x : Int32) : Int32 := if x < 0 then -1 else if 255 < x then -1 else ixc x.toInt8.toInt32
theorem hd_J1_canEncode_9a6ad : yJ1_canEncode_9a6ad.cls ≠ "java/lang/invoke/MethodHandle" ∧ yJ1_canEncode_9a6ad.cls ≠ "java/lang/invoke/VarHandle" ∧ (parseMethodDescriptor yJ1_canEncode_9a6ad.desc).map (fun d => d.parameters.length) = some 1 := by decide +kernel
set_option maxHeartbeats 4000000 in
theorem c_J1_canEncode_9a6ad (l : Launch) (D : va_G) (cI cZ cQ : ClassId) (tt : Nat → Nat) (ak av : Nat) (x : Int32) : CiZ (Zs tt ak av) l yJ1_canEncode_9a6ad wsJ1_canEncode_9a6ad { frames := 0, cells := 0, slots := 0, locals := 0 } D (tyL cI cZ cQ) [.int x] (fl []) (if x < 0 then 0 else if 255 < x then 0 else 1) (fl []) := by
  refine ciz_of (cc := cJ1_canEncode_9a6ad) (nL := 1) (ty := .boolean) (lv0 := [(0, .int x)]) (by decide) rfl (Nat.le_of_ble_eq_true rfl) rfl ?_
  intro p e s m args below meth c A X hr hZ
  refine ww_iload_n (pc := 0) X dJ1_canEncode_9a6ad_0 0 rfl rfl ?_
  refine ww_if_lt (pc := 1) (tgt := 15) X dJ1_canEncode_9a6ad_1 (by decide) (fun c1 => ?_) (fun c1 => ?_)
  · refine ww_iconst (pc := 15) (v := 0) X dJ1_canEncode_9a6ad_15 (by decide) ?_
    exact ww_iret X hr rfl (by rw [if_pos c1]) rfl dJ1_canEncode_9a6ad_16
  · refine ww_iload_n (pc := 4) X dJ1_canEncode_9a6ad_4 0 rfl rfl ?_
    refine ww_sipush (pc := 5) (v := 255) X dJ1_canEncode_9a6ad_5 (by decide) ?_
    refine ww_icmp_gt (pc := 8) (tgt := 15) X dJ1_canEncode_9a6ad_8 (by decide) (fun c2 => ?_) (fun c2 => ?_)
    · refine ww_iconst (pc := 15) (v := 0) X dJ1_canEncode_9a6ad_15 (by decide) ?_
      exact ww_iret X hr rfl (by rw [if_neg c1, if_pos c2]) rfl dJ1_canEncode_9a6ad_16
    · refine ww_iconst (pc := 11) (v := 1) X dJ1_canEncode_9a6ad_11 (by decide) ?_
      refine ww_goto (pc := 12) (tgt := 16) X dJ1_canEncode_9a6ad_12 (by decide) ?_
      exact ww_iret X hr rfl (by rw [if_neg c1, if_neg c2]) rfl dJ1_canEncode_9a6ad_16
theorem hd_J1_indexOfChar_4cfef : yJ1_indexOfChar_4cfef.cls ≠ "java/lang/invoke/MethodHandle" ∧ yJ1_indexOfChar_4cfef.cls ≠ "java/lang/invoke/VarHandle" ∧ (parseMethodDescriptor yJ1_indexOfChar_4cfef.desc).map (fun d => d.parameters.length) = some 4 := by decide +kernel
set_option maxHeartbeats 4000000 in
theorem c_J1_indexOfChar_4cfef (l : Launch) (D : va_G) (cI cZ cQ : ClassId) (tt : Nat → Nat) (ak av : Nat) (x : Int32) : CiZ (Zs tt ak av) l yJ1_indexOfChar_4cfef wsJ1_indexOfChar_4cfef { frames := 0, cells := 0, slots := 0, locals := 0 } D (tyL cI cZ cQ) [.ref av, .int x, .int 0, .int 4] (fl []) (ixc x.toInt8.toInt32) (fl []) := by
  refine ciz_of (cc := cJ1_indexOfChar_4cfef) (nL := 6) (ty := .int) (lv0 := [(0, .ref av), (1, .int x), (2, .int 0), (3, .int 4)]) (by decide) rfl (Nat.le_of_ble_eq_true rfl) rfl ?_
  intro p e s m args below meth c A X hr hZ
  refine ww_iload_n (pc := 0) X dJ1_indexOfChar_4cfef_0 1 rfl rfl ?_
  refine ww_i2b (pc := 1) X dJ1_indexOfChar_4cfef_1 rfl ?_
  generalize x.toInt8.toInt32 = b
  refine ww_istore (pc := 2) (lv' := [(4, .int b), (0, .ref av), (1, .int x), (2, .int 0), (3, .int 4)]) X dJ1_indexOfChar_4cfef_2 (by decide) rfl ?_
  refine ww_iload_n (pc := 4) X dJ1_indexOfChar_4cfef_4 3 rfl rfl ?_
  refine ww_istore (pc := 5) (lv' := [(5, .int 0), (4, .int b), (0, .ref av), (1, .int x), (2, .int 0), (3, .int 4)]) X dJ1_indexOfChar_4cfef_5 (by decide) rfl ?_
  refine ww_iload (pc := 7) X dJ1_indexOfChar_4cfef_7 0 rfl ?_
  refine ww_iload_n (pc := 9) X dJ1_indexOfChar_4cfef_9 5 rfl rfl ?_
  refine ww_icmp_ge (pc := 10) (tgt := 31) X dJ1_indexOfChar_4cfef_10 (by decide) (fun c9 => absurd c9 (by decide)) (fun _ => ?_)
  refine ww_aload_n (pc := 13) X dJ1_indexOfChar_4cfef_13 2 rfl rfl ?_
  refine ww_iload (pc := 14) X dJ1_indexOfChar_4cfef_14 0 rfl ?_
  refine ww_tb (f := wbt) X (Zs_t hZ) (vl_in (by decide)) dJ1_indexOfChar_4cfef_16 ?_
  refine ww_iload (pc := 17) X dJ1_indexOfChar_4cfef_17 1 rfl ?_
  refine ww_icmp_ne (pc := 19) (tgt := 25) X dJ1_indexOfChar_4cfef_19 (by decide) (fun c0 => ?_) (fun c0 => ?_)
  rotate_left
  · refine ww_iload (pc := 22) X dJ1_indexOfChar_4cfef_22 0 rfl ?_
    exact ww_iret X hr rfl (by unfold ixc; rw [if_pos c0]) rfl dJ1_indexOfChar_4cfef_24
  refine ww_iinc (pc := 25) (v := 1) (lv' := [(5, .int 1), (4, .int b), (0, .ref av), (1, .int x), (2, .int 0), (3, .int 4)]) X dJ1_indexOfChar_4cfef_25 0 rfl (by decide) (by decide) rfl ?_
  refine ww_goto (pc := 28) (tgt := 7) X dJ1_indexOfChar_4cfef_28 (by decide) ?_
  refine ww_iload (pc := 7) X dJ1_indexOfChar_4cfef_7 0 rfl ?_
  refine ww_iload_n (pc := 9) X dJ1_indexOfChar_4cfef_9 5 rfl rfl ?_
  refine ww_icmp_ge (pc := 10) (tgt := 31) X dJ1_indexOfChar_4cfef_10 (by decide) (fun c9 => absurd c9 (by decide)) (fun _ => ?_)
  refine ww_aload_n (pc := 13) X dJ1_indexOfChar_4cfef_13 2 rfl rfl ?_
  refine ww_iload (pc := 14) X dJ1_indexOfChar_4cfef_14 0 rfl ?_
  refine ww_tb (f := wbt) X (Zs_t hZ) (vl_in (by decide)) dJ1_indexOfChar_4cfef_16 ?_
  refine ww_iload (pc := 17) X dJ1_indexOfChar_4cfef_17 1 rfl ?_
  refine ww_icmp_ne (pc := 19) (tgt := 25) X dJ1_indexOfChar_4cfef_19 (by decide) (fun c1 => ?_) (fun c1 => ?_)
  rotate_left
  · refine ww_iload (pc := 22) X dJ1_indexOfChar_4cfef_22 0 rfl ?_
    exact ww_iret X hr rfl (by unfold ixc; rw [if_neg c0, if_pos c1]) rfl dJ1_indexOfChar_4cfef_24
  refine ww_iinc (pc := 25) (v := 2) (lv' := [(5, .int 2), (4, .int b), (0, .ref av), (1, .int x), (2, .int 0), (3, .int 4)]) X dJ1_indexOfChar_4cfef_25 0 rfl (by decide) (by decide) rfl ?_
  refine ww_goto (pc := 28) (tgt := 7) X dJ1_indexOfChar_4cfef_28 (by decide) ?_
  refine ww_iload (pc := 7) X dJ1_indexOfChar_4cfef_7 0 rfl ?_
  refine ww_iload_n (pc := 9) X dJ1_indexOfChar_4cfef_9 5 rfl rfl ?_
  refine ww_icmp_ge (pc := 10) (tgt := 31) X dJ1_indexOfChar_4cfef_10 (by decide) (fun c9 => absurd c9 (by decide)) (fun _ => ?_)
  refine ww_aload_n (pc := 13) X dJ1_indexOfChar_4cfef_13 2 rfl rfl ?_
  refine ww_iload (pc := 14) X dJ1_indexOfChar_4cfef_14 0 rfl ?_
  refine ww_tb (f := wbt) X (Zs_t hZ) (vl_in (by decide)) dJ1_indexOfChar_4cfef_16 ?_
  refine ww_iload (pc := 17) X dJ1_indexOfChar_4cfef_17 1 rfl ?_
  refine ww_icmp_ne (pc := 19) (tgt := 25) X dJ1_indexOfChar_4cfef_19 (by decide) (fun c2 => ?_) (fun c2 => ?_)
  rotate_left
  · refine ww_iload (pc := 22) X dJ1_indexOfChar_4cfef_22 0 rfl ?_
    exact ww_iret X hr rfl (by unfold ixc; rw [if_neg c0, if_neg c1, if_pos c2]) rfl dJ1_indexOfChar_4cfef_24
  refine ww_iinc (pc := 25) (v := 3) (lv' := [(5, .int 3), (4, .int b), (0, .ref av), (1, .int x), (2, .int 0), (3, .int 4)]) X dJ1_indexOfChar_4cfef_25 0 rfl (by decide) (by decide) rfl ?_
  refine ww_goto (pc := 28) (tgt := 7) X dJ1_indexOfChar_4cfef_28 (by decide) ?_
  refine ww_iload (pc := 7) X dJ1_indexOfChar_4cfef_7 0 rfl ?_
  refine ww_iload_n (pc := 9) X dJ1_indexOfChar_4cfef_9 5 rfl rfl ?_
  refine ww_icmp_ge (pc := 10) (tgt := 31) X dJ1_indexOfChar_4cfef_10 (by decide) (fun c9 => absurd c9 (by decide)) (fun _ => ?_)
  refine ww_aload_n (pc := 13) X dJ1_indexOfChar_4cfef_13 2 rfl rfl ?_
  refine ww_iload (pc := 14) X dJ1_indexOfChar_4cfef_14 0 rfl ?_
  refine ww_tb (f := wbt) X (Zs_t hZ) (vl_in (by decide)) dJ1_indexOfChar_4cfef_16 ?_
  refine ww_iload (pc := 17) X dJ1_indexOfChar_4cfef_17 1 rfl ?_
  refine ww_icmp_ne (pc := 19) (tgt := 25) X dJ1_indexOfChar_4cfef_19 (by decide) (fun c3 => ?_) (fun c3 => ?_)
  rotate_left
  · refine ww_iload (pc := 22) X dJ1_indexOfChar_4cfef_22 0 rfl ?_
    exact ww_iret X hr rfl (by unfold ixc; rw [if_neg c0, if_neg c1, if_neg c2, if_pos c3]) rfl dJ1_indexOfChar_4cfef_24
  refine ww_iinc (pc := 25) (v := 4) (lv' := [(5, .int 4), (4, .int b), (0, .ref av), (1, .int x), (2, .int 0), (3, .int 4)]) X dJ1_indexOfChar_4cfef_25 0 rfl (by decide) (by decide) rfl ?_
  refine ww_goto (pc := 28) (tgt := 7) X dJ1_indexOfChar_4cfef_28 (by decide) ?_
  refine ww_iload (pc := 7) X dJ1_indexOfChar_4cfef_7 0 rfl ?_
  refine ww_iload_n (pc := 9) X dJ1_indexOfChar_4cfef_9 5 rfl rfl ?_
  refine ww_icmp_ge (pc := 10) (tgt := 31) X dJ1_indexOfChar_4cfef_10 (by decide) (fun _ => ?_) (fun c9 => absurd (by decide) c9)
  refine ww_iconst (pc := 31) (v := -1) X dJ1_indexOfChar_4cfef_31 (by decide) ?_
  exact ww_iret X hr rfl (by unfold ixc; rw [if_neg c0, if_neg c1, if_neg c2, if_neg c3]) rfl dJ1_indexOfChar_4cfef_32
theorem hd_J1_indexOf_4cfef : yJ1_indexOf_4cfef.cls ≠ "java/lang/invoke/MethodHandle" ∧ yJ1_indexOf_4cfef.cls ≠ "java/lang/invoke/VarHandle" ∧ (parseMethodDescriptor yJ1_indexOf_4cfef.desc).map (fun d => d.parameters.length) = some 4 := by decide +kernel
theorem ixs_no {x : Int32} (h : (if x < 0 then (0 : Int32) else if 255 < x then 0 else 1) = 0) : ixs x = -1 := by
  unfold ixs
  by_cases c1 : x < 0
  · rw [if_pos c1]
  · rw [if_neg c1] at h ⊢
    by_cases c2 : 255 < x
    · rw [if_pos c2]
    · rw [if_neg c2] at h
      exact absurd h (by decide)
theorem ixs_yes {x : Int32} (h : ¬ (if x < 0 then (0 : Int32) else if 255 < x then 0 else 1) = 0) : ixs x = ixc x.toInt8.toInt32 := by
  unfold ixs
  by_cases c1 : x < 0
  · rw [if_pos c1] at h
    exact absurd rfl h
  · rw [if_neg c1] at h ⊢
    by_cases c2 : 255 < x
    · rw [if_pos c2] at h
      exact absurd rfl h
    · rw [if_neg c2]
set_option maxHeartbeats 4000000 in
theorem c_J1_indexOf_4cfef (l : Launch) (D : va_G) (cI cZ cQ : ClassId) (tt : Nat → Nat) (ak av : Nat) (x : Int32) : CiZ (Zs tt ak av) l yJ1_indexOf_4cfef wsJ1_indexOf_4cfef { frames := 1, cells := 0, slots := 0, locals := 25 } D (tyL cI cZ cQ) [.ref av, .int x, .int 0, .int 4] (fl []) (ixs x) (fl []) := by
  refine ciz_of (cc := cJ1_indexOf_4cfef) (nL := 4) (ty := .int) (lv0 := [(0, .ref av), (1, .int x), (2, .int 0), (3, .int 4)]) (by decide) rfl (Nat.le_of_ble_eq_true rfl) rfl ?_
  intro p e s m args below meth c A X hr hZ
  refine ww_iload_n (pc := 0) X dJ1_indexOf_4cfef_0 1 rfl rfl ?_
  refine ww_jSi (gs := []) (rest := []) X (Zs_ok tt ak av) hZ (c_J1_canEncode_9a6ad l D cI cZ cQ tt ak av x) gJ1_indexOf_4cfef_J1_canEncode_9a6ad rfl hd_J1_canEncode_9a6ad rfl ⟨rfl, rfl⟩ ⟨Nat.le_of_ble_eq_true rfl, Nat.le_of_ble_eq_true rfl⟩ (Nat.le_of_ble_eq_true rfl) ⟨Nat.zero_le _, Nat.zero_le _⟩ dJ1_indexOf_4cfef_1 ?_
  refine ww_if_ne (pc := 4) (tgt := 9) X dJ1_indexOf_4cfef_4 (by decide) (fun c1 => ?_) (fun c1 => ?_)
  rotate_left
  · refine ww_iconst (pc := 7) (v := -1) X dJ1_indexOf_4cfef_7 (by decide) ?_
    exact ww_iret X hr rfl (ixs_no c1).symm rfl dJ1_indexOf_4cfef_8
  refine ww_iload_n (pc := 9) X dJ1_indexOf_4cfef_9 2 rfl rfl ?_
  refine ww_iconst (pc := 10) (v := 0) X dJ1_indexOf_4cfef_10 (by decide) ?_
  refine ww_mmax (pc := 11) X (by decide +kernel) (by decide +kernel) (by decide +kernel) (by decide +kernel) (Nat.le_of_ble_eq_true rfl) (Nat.le_of_ble_eq_true rfl) (Nat.zero_le _) (Nat.zero_le _) dJ1_indexOf_4cfef_11 ?_
  refine ww_istore_n (pc := 14) (lv' := [(2, .int 0), (0, .ref av), (1, .int x), (3, .int 4)]) X dJ1_indexOf_4cfef_14 rfl (by decide) rfl ?_
  refine ww_iload_n (pc := 15) X dJ1_indexOf_4cfef_15 3 rfl rfl ?_
  refine ww_aload_n (pc := 16) X dJ1_indexOf_4cfef_16 1 rfl rfl ?_
  refine ww_tlen (v := 4) X (Zs_t hZ) rfl dJ1_indexOf_4cfef_17 ?_
  refine ww_mmin (pc := 18) X (by decide +kernel) (by decide +kernel) (by decide +kernel) (by decide +kernel) (Nat.le_of_ble_eq_true rfl) (Nat.le_of_ble_eq_true rfl) (Nat.zero_le _) (Nat.zero_le _) dJ1_indexOf_4cfef_18 ?_
  refine ww_istore_n (pc := 21) (lv' := [(3, .int 4), (2, .int 0), (0, .ref av), (1, .int x)]) X dJ1_indexOf_4cfef_21 rfl (by decide) rfl ?_
  refine ww_iload_n (pc := 22) X dJ1_indexOf_4cfef_22 1 rfl rfl ?_
  refine ww_iload_n (pc := 23) X dJ1_indexOf_4cfef_23 0 rfl rfl ?_
  refine ww_icmp_lt (pc := 24) (tgt := 29) X dJ1_indexOf_4cfef_24 (by decide) (fun _ => ?_) (fun c9 => absurd (by decide) c9)
  refine ww_aload_n (pc := 29) X dJ1_indexOf_4cfef_29 2 rfl rfl ?_
  refine ww_iload_n (pc := 30) X dJ1_indexOf_4cfef_30 3 rfl rfl ?_
  refine ww_iload_n (pc := 31) X dJ1_indexOf_4cfef_31 1 rfl rfl ?_
  refine ww_iload_n (pc := 32) X dJ1_indexOf_4cfef_32 0 rfl rfl ?_
  refine ww_jSi (gs := []) (rest := []) X (Zs_ok tt ak av) hZ (c_J1_indexOfChar_4cfef l D cI cZ cQ tt ak av x) gJ1_indexOf_4cfef_J1_indexOfChar_4cfef rfl hd_J1_indexOfChar_4cfef rfl ⟨rfl, rfl⟩ ⟨Nat.le_of_ble_eq_true rfl, Nat.le_of_ble_eq_true rfl⟩ (Nat.le_of_ble_eq_true rfl) ⟨Nat.zero_le _, Nat.zero_le _⟩ dJ1_indexOf_4cfef_33 ?_
  exact ww_iret X hr rfl (ixs_yes c1).symm rfl dJ1_indexOf_4cfef_36
theorem hd_J0_coder_7d493 : yJ0_coder_7d493.cls = RJ0 ∧ yJ0_coder_7d493.cls ≠ "java/lang/invoke/MethodHandle" ∧ yJ0_coder_7d493.cls ≠ "java/lang/invoke/VarHandle" ∧ (parseMethodDescriptor yJ0_coder_7d493.desc).map (fun d => d.parameters.length) = some 0 := by decide +kernel
set_option maxHeartbeats 4000000 in
theorem c_J0_coder_7d493 (l : Launch) (D : va_G) (cI cZ cQ : ClassId) (tt : Nat → Nat) (ak av : Nat) : CiZ (Zs tt ak av) l yJ0_coder_7d493 wsJ0_coder_7d493 { frames := 0, cells := 0, slots := 0, locals := 0 } D (tyL cI cZ cQ) [.ref ak] (fl []) (0) (fl []) := by
  refine ciz_of (cc := cJ0_coder_7d493) (nL := 1) (ty := .byte) (lv0 := [(0, .ref ak)]) (by decide) rfl (Nat.le_of_ble_eq_true rfl) rfl ?_
  intro p e s m args below meth c A X hr hZ
  refine ww_gets (pc := 0) (v := .int 1) X (Zs_k hZ) (by decide +kernel) dJ0_coder_7d493_0 ?_
  refine ww_if_eq (pc := 3) (tgt := 13) X dJ0_coder_7d493_3 (by decide) (fun c9 => absurd c9 (by decide)) (fun _ => ?_)
  refine ww_aload_n (pc := 6) X dJ0_coder_7d493_6 0 rfl rfl ?_
  refine ww_jget (pc := 7) (v := .int 0) X (Zs_c hZ) (by decide +kernel) dJ0_coder_7d493_7 ?_
  refine ww_goto (pc := 10) (tgt := 14) X dJ0_coder_7d493_10 (by decide) ?_
  exact ww_iret X hr rfl rfl rfl dJ0_coder_7d493_14
theorem hd_J0_isLatin1_aae02 : yJ0_isLatin1_aae02.cls = RJ0 ∧ yJ0_isLatin1_aae02.cls ≠ "java/lang/invoke/MethodHandle" ∧ yJ0_isLatin1_aae02.cls ≠ "java/lang/invoke/VarHandle" ∧ (parseMethodDescriptor yJ0_isLatin1_aae02.desc).map (fun d => d.parameters.length) = some 0 := by decide +kernel
set_option maxHeartbeats 4000000 in
theorem c_J0_isLatin1_aae02 (l : Launch) (D : va_G) (cI cZ cQ : ClassId) (tt : Nat → Nat) (ak av : Nat) : CiZ (Zs tt ak av) l yJ0_isLatin1_aae02 wsJ0_isLatin1_aae02 { frames := 0, cells := 0, slots := 0, locals := 0 } D (tyL cI cZ cQ) [.ref ak] (fl []) (1) (fl []) := by
  refine ciz_of (cc := cJ0_isLatin1_aae02) (nL := 1) (ty := .boolean) (lv0 := [(0, .ref ak)]) (by decide) rfl (Nat.le_of_ble_eq_true rfl) rfl ?_
  intro p e s m args below meth c A X hr hZ
  refine ww_gets (pc := 0) (v := .int 1) X (Zs_k hZ) (by decide +kernel) dJ0_isLatin1_aae02_0 ?_
  refine ww_if_eq (pc := 3) (tgt := 17) X dJ0_isLatin1_aae02_3 (by decide) (fun c9 => absurd c9 (by decide)) (fun _ => ?_)
  refine ww_aload_n (pc := 6) X dJ0_isLatin1_aae02_6 0 rfl rfl ?_
  refine ww_jget (pc := 7) (v := .int 0) X (Zs_c hZ) (by decide +kernel) dJ0_isLatin1_aae02_7 ?_
  refine ww_if_ne (pc := 10) (tgt := 17) X dJ0_isLatin1_aae02_10 (by decide) (fun c9 => absurd rfl c9) (fun _ => ?_)
  refine ww_iconst (pc := 13) (v := 1) X dJ0_isLatin1_aae02_13 (by decide) ?_
  refine ww_goto (pc := 14) (tgt := 18) X dJ0_isLatin1_aae02_14 (by decide) ?_
  exact ww_iret X hr rfl rfl rfl dJ0_isLatin1_aae02_18
theorem hd_J0_length_8abf5 : yJ0_length_8abf5.cls = RJ0 ∧ yJ0_length_8abf5.cls ≠ "java/lang/invoke/MethodHandle" ∧ yJ0_length_8abf5.cls ≠ "java/lang/invoke/VarHandle" ∧ (parseMethodDescriptor yJ0_length_8abf5.desc).map (fun d => d.parameters.length) = some 0 := by decide +kernel
set_option maxHeartbeats 4000000 in
theorem c_J0_length_8abf5 (l : Launch) (D : va_G) (cI cZ cQ : ClassId) (tt : Nat → Nat) (ak av : Nat) : CiZ (Zs tt ak av) l yJ0_length_8abf5 wsJ0_length_8abf5 { frames := 1, cells := 0, slots := 0, locals := 20 } D (tyL cI cZ cQ) [.ref ak] (fl []) (4) (fl []) := by
  refine ciz_of (cc := cJ0_length_8abf5) (nL := 1) (ty := .int) (lv0 := [(0, .ref ak)]) (by decide) rfl (Nat.le_of_ble_eq_true rfl) rfl ?_
  intro p e s m args below meth c A X hr hZ
  refine ww_aload_n (pc := 0) X dJ0_length_8abf5_0 0 rfl rfl ?_
  refine ww_jget (pc := 1) (v := .ref av) X (Zs_v hZ) (by decide +kernel) dJ0_length_8abf5_1 ?_
  refine ww_tlen (v := 4) X (Zs_t hZ) rfl dJ0_length_8abf5_4 ?_
  refine ww_aload_n (pc := 5) X dJ0_length_8abf5_5 0 rfl rfl ?_
  refine ww_jVi (pc := 6) (gs := []) (As := []) (rest := [.int 4]) X (Zs_ok tt ak av) hZ (c_J0_coder_7d493 l D cI cZ cQ tt ak av) gJ0_length_8abf5_J0_coder_7d493 rfl hd_J0_coder_7d493 (Zs_O hZ) rfl ⟨rfl, rfl⟩ ⟨Nat.le_of_ble_eq_true rfl, Nat.le_of_ble_eq_true rfl⟩ (Nat.le_of_ble_eq_true rfl) ⟨Nat.zero_le _, Nat.zero_le _⟩ dJ0_length_8abf5_6 ?_
  refine ww_ishr (pc := 9) X dJ0_length_8abf5_9 ?_
  exact ww_iret X hr rfl (by decide) rfl dJ0_length_8abf5_10
theorem hd_J0_indexOf_7cf53 : yJ0_indexOf_7cf53.cls = RJ0 ∧ yJ0_indexOf_7cf53.cls ≠ "java/lang/invoke/MethodHandle" ∧ yJ0_indexOf_7cf53.cls ≠ "java/lang/invoke/VarHandle" ∧ (parseMethodDescriptor yJ0_indexOf_7cf53.desc).map (fun d => d.parameters.length) = some 2 := by decide +kernel
set_option maxHeartbeats 4000000 in
theorem c_J0_indexOf_7cf53 (l : Launch) (D : va_G) (cI cZ cQ : ClassId) (tt : Nat → Nat) (ak av : Nat) (x : Int32) : CiZ (Zs tt ak av) l yJ0_indexOf_7cf53 wsJ0_indexOf_7cf53 { frames := 2, cells := 0, slots := 0, locals := 48 } D (tyL cI cZ cQ) [.ref ak, .int x, .int 0] (fl []) (ixs x) (fl []) := by
  refine ciz_of (cc := cJ0_indexOf_7cf53) (nL := 3) (ty := .int) (lv0 := [(0, .ref ak), (1, .int x), (2, .int 0)]) (by decide) rfl (Nat.le_of_ble_eq_true rfl) rfl ?_
  intro p e s m args below meth c A X hr hZ
  refine ww_aload_n (pc := 0) X dJ0_indexOf_7cf53_0 0 rfl rfl ?_
  refine ww_jVi (pc := 1) (gs := []) (As := []) (rest := []) X (Zs_ok tt ak av) hZ (c_J0_isLatin1_aae02 l D cI cZ cQ tt ak av) gJ0_indexOf_7cf53_J0_isLatin1_aae02 rfl hd_J0_isLatin1_aae02 (Zs_O hZ) rfl ⟨rfl, rfl⟩ ⟨Nat.le_of_ble_eq_true rfl, Nat.le_of_ble_eq_true rfl⟩ (Nat.le_of_ble_eq_true rfl) ⟨Nat.zero_le _, Nat.zero_le _⟩ dJ0_indexOf_7cf53_1 ?_
  refine ww_if_eq (pc := 4) (tgt := 23) X dJ0_indexOf_7cf53_4 (by decide) (fun c9 => absurd c9 (by decide)) (fun _ => ?_)
  refine ww_aload_n (pc := 7) X dJ0_indexOf_7cf53_7 0 rfl rfl ?_
  refine ww_jget (pc := 8) (v := .ref av) X (Zs_v hZ) (by decide +kernel) dJ0_indexOf_7cf53_8 ?_
  refine ww_iload_n (pc := 11) X dJ0_indexOf_7cf53_11 1 rfl rfl ?_
  refine ww_iload_n (pc := 12) X dJ0_indexOf_7cf53_12 2 rfl rfl ?_
  refine ww_aload_n (pc := 13) X dJ0_indexOf_7cf53_13 0 rfl rfl ?_
  refine ww_jVi (pc := 14) (gs := []) (As := []) (rest := [.int 0, .int x, .ref av]) X (Zs_ok tt ak av) hZ (c_J0_length_8abf5 l D cI cZ cQ tt ak av) gJ0_indexOf_7cf53_J0_length_8abf5 rfl hd_J0_length_8abf5 (Zs_O hZ) rfl ⟨rfl, rfl⟩ ⟨Nat.le_of_ble_eq_true rfl, Nat.le_of_ble_eq_true rfl⟩ (Nat.le_of_ble_eq_true rfl) ⟨Nat.zero_le _, Nat.zero_le _⟩ dJ0_indexOf_7cf53_14 ?_
  refine ww_jSi (pc := 17) (gs := []) (rest := []) X (Zs_ok tt ak av) hZ (c_J1_indexOf_4cfef l D cI cZ cQ tt ak av x) gJ0_indexOf_7cf53_J1_indexOf_4cfef rfl hd_J1_indexOf_4cfef rfl ⟨rfl, rfl⟩ ⟨Nat.le_of_ble_eq_true rfl, Nat.le_of_ble_eq_true rfl⟩ (Nat.le_of_ble_eq_true rfl) ⟨Nat.zero_le _, Nat.zero_le _⟩ dJ0_indexOf_7cf53_17 ?_
  refine ww_goto (pc := 20) (tgt := 36) X dJ0_indexOf_7cf53_20 (by decide) ?_
  exact ww_iret X hr rfl rfl rfl dJ0_indexOf_7cf53_36
theorem hd_J0_indexOf_0f7a4 : yJ0_indexOf_0f7a4.cls = RJ0 ∧ yJ0_indexOf_0f7a4.cls ≠ "java/lang/invoke/MethodHandle" ∧ yJ0_indexOf_0f7a4.cls ≠ "java/lang/invoke/VarHandle" ∧ (parseMethodDescriptor yJ0_indexOf_0f7a4.desc).map (fun d => d.parameters.length) = some 1 := by decide +kernel
set_option maxHeartbeats 4000000 in
theorem c_J0_indexOf_0f7a4 (l : Launch) (D : va_G) (cI cZ cQ : ClassId) (tt : Nat → Nat) (ak av : Nat) (x : Int32) : CiZ (Zs tt ak av) l yJ0_indexOf_0f7a4 wsJ0_indexOf_0f7a4 { frames := 3, cells := 0, slots := 0, locals := 70 } D (tyL cI cZ cQ) [.ref ak, .int x] (fl []) (ixs x) (fl []) := by
  refine ciz_of (cc := cJ0_indexOf_0f7a4) (nL := 2) (ty := .int) (lv0 := [(0, .ref ak), (1, .int x)]) (by decide) rfl (Nat.le_of_ble_eq_true rfl) rfl ?_
  intro p e s m args below meth c A X hr hZ
  refine ww_aload_n (pc := 0) X dJ0_indexOf_0f7a4_0 0 rfl rfl ?_
  refine ww_iload_n (pc := 1) X dJ0_indexOf_0f7a4_1 1 rfl rfl ?_
  refine ww_iconst (pc := 2) (v := 0) X dJ0_indexOf_0f7a4_2 (by decide) ?_
  refine ww_jVi (pc := 3) (gs := []) (As := [.int x, .int 0]) (rest := []) X (Zs_ok tt ak av) hZ (c_J0_indexOf_7cf53 l D cI cZ cQ tt ak av x) gJ0_indexOf_0f7a4_J0_indexOf_7cf53 rfl hd_J0_indexOf_7cf53 (Zs_O hZ) rfl ⟨rfl, rfl⟩ ⟨Nat.le_of_ble_eq_true rfl, Nat.le_of_ble_eq_true rfl⟩ (Nat.le_of_ble_eq_true rfl) ⟨Nat.zero_le _, Nat.zero_le _⟩ dJ0_indexOf_0f7a4_3 ?_
  exact ww_iret X hr rfl rfl rfl dJ0_indexOf_0f7a4_6
