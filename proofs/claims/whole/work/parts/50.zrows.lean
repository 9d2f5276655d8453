/-- what is given of the cells that no method writes: by the tables, by the cells outside A -/
def ZOK (Z : (Nat → Prop) → State → Heap → Prop) : Prop := (∀ (A : Nat → Prop) (u U : State) (H : Heap), u.WarmedH U.vm → Z A u H → Z A U H) ∧ (∀ (A : Nat → Prop) (u U : State) (H : Heap), U.vm = u.vm → Z A u H → Z A U H) ∧ (∀ (A : Nat → Prop) (U : State) (H H1 : Heap), Z A U H → (∀ a : Nat, a < H.size → ¬ A a → H1[a]? = H[a]?) → Z A U H1) ∧ ∀ (A B : Nat → Prop) (U : State) (H : Heap), Z A U H → (∀ q, B q → A q) → Z B U H
def CiZ (Z : (Nat → Prop) → State → Heap → Prop) (l : Launch) (y : MethodName) (wsC : List Cond) (rm : Room) (D : va_G) (tys : List (ClassId × FieldType)) (av : List Value) (w0 : va_W) (r : Int32) (w1 : va_W) : Prop :=
  ∀ sz : Nat, Met l y wsC rm (va_Pc av (fun U => U.heap.size = sz ∧ va_P D vwCl w0 U.heap ∧ va_K D vwCl tys U ∧ va_D (fun _ => True) w0 ∧ Z (va_A w0 sz) U U.heap)) (va_Qi (fun r' (_ : Unit) => r' = r) (fun _ t => va_P D vwCl w1 t.heap ∧ va_D (va_A w0 sz) w1) (va_A w0 sz)) 0 0 (va_A w0 sz)
def CvZ (Z : (Nat → Prop) → State → Heap → Prop) (l : Launch) (y : MethodName) (wsC : List Cond) (rm : Room) (D : va_G) (tys : List (ClassId × FieldType)) (av : List Value) (w0 : va_W) (w1 : va_W) : Prop :=
  ∀ sz : Nat, Met l y wsC rm (va_Pc av (fun U => U.heap.size = sz ∧ va_P D vwCl w0 U.heap ∧ va_K D vwCl tys U ∧ va_D (fun _ => True) w0 ∧ Z (va_A w0 sz) U U.heap)) (va_Qv (fun (_ : Unit) => True) (fun _ t => va_P D vwCl w1 t.heap ∧ va_D (va_A w0 sz) w1) (va_A w0 sz)) 0 0 (va_A w0 sz)
theorem ciz_of {Z : (Nat → Prop) → State → Heap → Prop} {l : Launch} {y : MethodName} {wsC ws' : List Cond} {rm : Room} {D : va_G} {tys : List (ClassId × FieldType)} {av : List Value} {w0 w1 : va_W} {r : Int32} {cc : ByteArray} {nL : Nat} {ty : FieldType} {lv0 : List (Nat × Value)}
    (hy : plainName y.cls = true) (hw : wsC = Cond.code y cc nL (some ty) :: ws') (hle : (lg_sl av).length ≤ nL) (hlv : lv_args 0 av = lv0)
    (body : ∀ (p : Program) (e : Env) (s : State) (m : MethodId) (args : Array Value) (below : List Frame) (meth : Method) (c : Code) (A : Nat → Prop), CX p s m args meth c cc y.cls wsC nL D tys A → meth.sig.returnType = (some ty) → Z A s s.heap → WW p l e (headSpec wsC rm).room s m args below meth c nL D A 0 0 (RQi below args s D A r w1) w0 lv0 0 []) : CiZ Z l y wsC rm D tys av w0 r w1 := by
  intro sz
  refine Met.ofW (cc := cc) (maxL := nL) (ret := (some ty)) hy hw ?_
  intro p e s m args below meth c s₁ B hml hv
  obtain ⟨rfl, hsz, hP, hK, hD0, hZ⟩ := hv
  subst hsz
  have hl := lv_entry av (n := nL) hle
  rw [hlv] at hl
  rw [lg_entry_eq]
  exact body p e s m _ below meth c (va_A w0 s.heap.size) ⟨B.exec, B.bytes, hml, findClass_of_methodNamed B.named, atoms_spec (ws := wsC) B.pre, hK, fun q h => Or.inr h, B.notSynchronized⟩ B.returns hZ s.heap [] _ hP (hD0.self (sz := s.heap.size)) va_S.rf hl
theorem cvz_of {Z : (Nat → Prop) → State → Heap → Prop} {l : Launch} {y : MethodName} {wsC ws' : List Cond} {rm : Room} {D : va_G} {tys : List (ClassId × FieldType)} {av : List Value} {w0 w1 : va_W} {cc : ByteArray} {nL : Nat} {lv0 : List (Nat × Value)}
    (hy : plainName y.cls = true) (hw : wsC = Cond.code y cc nL none :: ws') (hle : (lg_sl av).length ≤ nL) (hlv : lv_args 0 av = lv0)
    (body : ∀ (p : Program) (e : Env) (s : State) (m : MethodId) (args : Array Value) (below : List Frame) (meth : Method) (c : Code) (A : Nat → Prop), CX p s m args meth c cc y.cls wsC nL D tys A → meth.sig.returnType = none → Z A s s.heap → WW p l e (headSpec wsC rm).room s m args below meth c nL D A 0 0 (RQv below args s D A w1) w0 lv0 0 []) : CvZ Z l y wsC rm D tys av w0 w1 := by
  intro sz
  refine Met.ofW (cc := cc) (maxL := nL) (ret := none) hy hw ?_
  intro p e s m args below meth c s₁ B hml hv
  obtain ⟨rfl, hsz, hP, hK, hD0, hZ⟩ := hv
  subst hsz
  have hl := lv_entry av (n := nL) hle
  rw [hlv] at hl
  rw [lg_entry_eq]
  exact body p e s m _ below meth c (va_A w0 s.heap.size) ⟨B.exec, B.bytes, hml, findClass_of_methodNamed B.named, atoms_spec (ws := wsC) B.pre, hK, fun q h => Or.inr h, B.notSynchronized⟩ B.returns hZ s.heap [] _ hP (hD0.self (sz := s.heap.size)) va_S.rf hl
section WWz
variable {Z : (Nat → Prop) → State → Heap → Prop} {p : Program} {l : Launch} {e : Env} {R : Room} {s : State} {m : MethodId} {args : Array Value} {below : List Frame} {meth : Method} {c : Code} {Q : State → Prop} {D : va_G} {A : Nat → Prop} {tys : List (ClassId × FieldType)} {nL k9 n9 : Nat} {cc : ByteArray} {own : String} {Ts : List Cond} {ws : va_W} {lv : List (Nat × Value)} {pc : Nat} {rest : List Value}
variable {y : MethodName} {bytes : ByteArray} {maxL index : Nat} {ret : Option FieldType} {wsC ws' : List Cond} {rm : Room} {C : String} {b : Nat} {As st : List Value} {gs cs cs' gsN : List va_W} {r : Int32}
theorem z_blind (hz : ZOK Z) {av : List Value} {w0 : va_W} {sz : Nat} : FrameBlind (va_Pc av (fun U => U.heap.size = sz ∧ va_P D vwCl w0 U.heap ∧ va_K D vwCl tys U ∧ va_D (fun _ => True) w0 ∧ Z (va_A w0 sz) U U.heap)) :=
  fun a U g mk q => by obtain ⟨q0, q1, qP, qK, qD, qZ⟩ := q; exact ⟨q0, q1, qP, va_K.moved (u := U) (U := U.calling g mk a) (Vm.Alike.refl U.vm) qK, qD, hz.2.1 _ U (U.calling g mk a) _ rfl qZ⟩
theorem z_pre (hz : ZOK Z) {av : List Value} {w0 : va_W} {H : Heap} (hP : va_P D vwCl w0 H) (hK : va_K D vwCl tys s) (hD : va_D A w0) (hZ : Z (va_A w0 H.size) s H) : ∀ U : State, U.heap = H → s.WarmedH U.vm → va_Pc av (fun U => U.heap.size = H.size ∧ va_P D vwCl w0 U.heap ∧ va_K D vwCl tys U ∧ va_D (fun _ => True) w0 ∧ Z (va_A w0 H.size) U U.heap) av.toArray U :=
  fun U hU hW => ⟨rfl, by rw [hU], by rw [hU]; exact hP, va_K.moved hW.alike hK, hD.weaken (fun _ _ _ _ => trivial), by rw [hU]; exact hz.1 _ s U H hW hZ⟩
theorem ww_zVi (X : CX p s m args meth c cc own Ts nL D tys A) (hz : ZOK Z) (hZ : Z A s s.heap) (hM : CiZ Z l y wsC rm D tys (.ref b :: As) (fl cs) r (fl cs')) (hG : GoodIn Ts (wsV own index C y wsC)) (hw : wsC = Cond.code y bytes maxL ret :: ws') (hd : y.cls = C ∧ y.cls ≠ "java/lang/invoke/MethodHandle" ∧ y.cls ≠ "java/lang/invoke/VarHandle" ∧ (parseMethodDescriptor y.desc).map (fun d => d.parameters.length) = some As.length) (mk : List Bool) (hC : gpick gs mk = cs) (hadr : cs'.map (fun g => g.map Prod.fst) = cs.map (fun g => g.map Prod.fst)) (hN : gput gs mk cs' = gsN) {ci gi qi : Nat} {qc : vw_C} {grp : va_W} {fs : List Value} (hci : vwCl[ci]? = some qc) (hcn : qc.1 = C) (hg : cs[gi]? = some grp) (hrc : grp[qi]? = some (b, .inr (ci, fs))) (hst : st = As.reverse ++ .ref b :: rest) (hrm : rm.cells = 0 ∧ rm.slots = 0) (hR : rm.frames + 1 ≤ R.frames ∧ 8 + (maxL + 11) + rm.locals ≤ R.locals) (hrest : (rest.map fun v => v.category).sum ≤ 8) (hf : k9 ≤ R.cells ∧ n9 ≤ R.slots) (hdg : decode cc pc = .ok (.invokevirtual index, 3)) (kk : WW p l e R s m args below meth c nL D A k9 n9 Q (fl gsN) lv (pc + 3) (.int r :: rest)) : WW p l e R s m args below meth c nL D A k9 n9 Q (fl gs) lv pc st := by
  intro H locs ls hP hD hS hl
  have hPc : va_P D vwCl (fl cs) H := va_P_mem.mpr (fun q hq => by
    obtain ⟨g, h1, h2⟩ := List.mem_flatten.mp hq
    rw [← hC] at h1
    exact va_P_mem.mp hP q (List.mem_flatten.mpr ⟨g, (gpick_sub gs mk).subset h1, h2⟩))
  have hDc : va_D A (fl cs) := by
    obtain ⟨h1, h2⟩ := va_D_nd.mp hD
    rw [va_D_nd, ← hC]
    exact ⟨((gpick_fsub gs mk).map Prod.fst).nodup h1, fun q hq => h2 q ((gpick_fsub gs mk).subset hq)⟩
  have hFc : ∀ q, va_A (fl cs) H.size q → A q := fun q h => by
    rcases h with ⟨k2, e2, h⟩ | h
    · exact hDc.2 k2 _ h
    · exact X.2.2.2.2.2.2.1 q (Nat.le_trans hS.1 h)
  have hrv : ∃ cell : Cell, H[b]? = some cell ∧ cell.vm.isStatics = false ∧ s.vm.findClass C = some cell.cls := by
    have hm : (b, (.inr (ci, fs) : va_E)) ∈ fl cs := List.mem_flatten.mpr ⟨grp, List.mem_of_getElem? hg, List.mem_of_getElem? hrc⟩
    obtain ⟨k3, h3⟩ := List.getElem?_of_mem hm
    rw [← hcn]
    exact va_recv X.2.2.2.2.2.1 hPc hci h3
  have hZc : Z (va_A (fl cs) H.size) s H := hz.2.2.2 A _ s H (hz.2.2.1 A s s.heap H hZ hS.2.1) hFc
  refine va_calli (va_runV (As := As) (rest := rest) (b := b) (C := C) ⟨X.1, X.2.1, X.2.2.1, X.2.2.2.1, X.2.2.2.2.1⟩ (hM H.size) (cwV As.length X.2.2.2.2.1 hG hw hrm.1 hrm.2 hd hR) ⟨z_blind hz, hrv, z_pre hz hPc X.2.2.2.2.2.1 hDc hZc⟩ rfl rfl hl.1 hst (lv_room hrest) hdg hf) hS (fun q _ h => hFc q h) hFc (fun r9 u t H1 locs1 ht hvm hw9 hB hz1 hk1 hS1 => ?_)
  obtain ⟨hP1, hD1⟩ := hB
  rw [ht] at hP1
  obtain ⟨hPn, hDn⟩ := g_join hP hD hC hadr (gput_adr gs mk cs' (by rw [hC]; exact hadr)) hk1 hP1
  rw [hN] at hPn hDn
  subst hw9
  exact kk H1 locs1 ls hPn hDn hS1 hl
theorem ww_zVv (X : CX p s m args meth c cc own Ts nL D tys A) (hz : ZOK Z) (hZ : Z A s s.heap) (hM : CvZ Z l y wsC rm D tys (.ref b :: As) (fl cs) (fl cs')) (hG : GoodIn Ts (wsV own index C y wsC)) (hw : wsC = Cond.code y bytes maxL ret :: ws') (hd : y.cls = C ∧ y.cls ≠ "java/lang/invoke/MethodHandle" ∧ y.cls ≠ "java/lang/invoke/VarHandle" ∧ (parseMethodDescriptor y.desc).map (fun d => d.parameters.length) = some As.length) (mk : List Bool) (hC : gpick gs mk = cs) (hadr : cs'.map (fun g => g.map Prod.fst) = cs.map (fun g => g.map Prod.fst)) (hN : gput gs mk cs' = gsN) {ci gi qi : Nat} {qc : vw_C} {grp : va_W} {fs : List Value} (hci : vwCl[ci]? = some qc) (hcn : qc.1 = C) (hg : cs[gi]? = some grp) (hrc : grp[qi]? = some (b, .inr (ci, fs))) (hst : st = As.reverse ++ .ref b :: rest) (hrm : rm.cells = 0 ∧ rm.slots = 0) (hR : rm.frames + 1 ≤ R.frames ∧ 8 + (maxL + 11) + rm.locals ≤ R.locals) (hrest : (rest.map fun v => v.category).sum ≤ 8) (hf : k9 ≤ R.cells ∧ n9 ≤ R.slots) (hdg : decode cc pc = .ok (.invokevirtual index, 3)) (kk : WW p l e R s m args below meth c nL D A k9 n9 Q (fl gsN) lv (pc + 3) (rest)) : WW p l e R s m args below meth c nL D A k9 n9 Q (fl gs) lv pc st := by
  intro H locs ls hP hD hS hl
  have hPc : va_P D vwCl (fl cs) H := va_P_mem.mpr (fun q hq => by
    obtain ⟨g, h1, h2⟩ := List.mem_flatten.mp hq
    rw [← hC] at h1
    exact va_P_mem.mp hP q (List.mem_flatten.mpr ⟨g, (gpick_sub gs mk).subset h1, h2⟩))
  have hDc : va_D A (fl cs) := by
    obtain ⟨h1, h2⟩ := va_D_nd.mp hD
    rw [va_D_nd, ← hC]
    exact ⟨((gpick_fsub gs mk).map Prod.fst).nodup h1, fun q hq => h2 q ((gpick_fsub gs mk).subset hq)⟩
  have hFc : ∀ q, va_A (fl cs) H.size q → A q := fun q h => by
    rcases h with ⟨k2, e2, h⟩ | h
    · exact hDc.2 k2 _ h
    · exact X.2.2.2.2.2.2.1 q (Nat.le_trans hS.1 h)
  have hrv : ∃ cell : Cell, H[b]? = some cell ∧ cell.vm.isStatics = false ∧ s.vm.findClass C = some cell.cls := by
    have hm : (b, (.inr (ci, fs) : va_E)) ∈ fl cs := List.mem_flatten.mpr ⟨grp, List.mem_of_getElem? hg, List.mem_of_getElem? hrc⟩
    obtain ⟨k3, h3⟩ := List.getElem?_of_mem hm
    rw [← hcn]
    exact va_recv X.2.2.2.2.2.1 hPc hci h3
  have hZc : Z (va_A (fl cs) H.size) s H := hz.2.2.2 A _ s H (hz.2.2.1 A s s.heap H hZ hS.2.1) hFc
  refine va_callv (va_runV (As := As) (rest := rest) (b := b) (C := C) ⟨X.1, X.2.1, X.2.2.1, X.2.2.2.1, X.2.2.2.2.1⟩ (hM H.size) (cwV As.length X.2.2.2.2.1 hG hw hrm.1 hrm.2 hd hR) ⟨z_blind hz, hrv, z_pre hz hPc X.2.2.2.2.2.1 hDc hZc⟩ rfl rfl hl.1 hst (lv_room hrest) hdg hf) hS (fun q _ h => hFc q h) hFc (fun u t H1 locs1 ht hvm hw9 hB hz1 hk1 hS1 => ?_)
  obtain ⟨hP1, hD1⟩ := hB
  rw [ht] at hP1
  obtain ⟨hPn, hDn⟩ := g_join hP hD hC hadr (gput_adr gs mk cs' (by rw [hC]; exact hadr)) hk1 hP1
  rw [hN] at hPn hDn
  exact kk H1 locs1 ls hPn hDn hS1 hl
theorem ww_gets (X : CX p s m args meth c cc own Ts nL D tys A) {C n d : String} {v : Value} (hZ : va_Z C n d v A s s.heap) (hm : Cond.fieldLink own index C n d ∈ Ts) (hdg : decode cc pc = .ok (.getstatic index, 3)) (kk : WW p l e R s m args below meth c nL D A k9 n9 Q ws lv (pc + 3) (v :: rest)) : WW p l e R s m args below meth c nL D A k9 n9 Q ws lv pc rest :=
  fun H locs ls hP hD hS hl => va_gets X.1 X.2.1 hZ hS X.2.2.2.1 (X.2.2.2.2.1 _ hm) (fun _ h9 => h9) hdg (kk H locs ls hP hD hS hl)
theorem ww_ti (X : CX p s m args meth c cc own Ts nL D tys A) {t N : Nat} {f : Nat → Int32} (hT : va_T .int t N (fun j => .int (f j)) A s s.heap) {i : Int32} (hin : vp_in i N) (hdg : decode cc pc = .ok (.iaload, 1)) (kk : WW p l e R s m args below meth c nL D A k9 n9 Q ws lv (pc + 1) (.int (f i.toNatClampNeg) :: rest)) : WW p l e R s m args below meth c nL D A k9 n9 Q ws lv pc (.int i :: .ref t :: rest) :=
  fun H locs ls hP hD hS hl => va_ti X.1 X.2.1 hT hS hin rfl hdg (kk H locs ls hP hD hS hl)
theorem ww_lds (X : CX p s m args meth c cc own Ts nL D tys A) {tx : String} {q : Nat} (hZ : vk_R own index tx q s) (hdg : decode cc pc = .ok (.ldc index, 2)) (kk : WW p l e R s m args below meth c nL D A k9 n9 Q ws lv (pc + 2) (.ref q :: rest)) : WW p l e R s m args below meth c nL D A k9 n9 Q ws lv pc rest :=
  fun H locs ls hP hD hS hl => va_ldcS X.1 X.2.1 X.2.2.2.1 hZ hdg (kk H locs ls hP hD hS hl)
end WWz
