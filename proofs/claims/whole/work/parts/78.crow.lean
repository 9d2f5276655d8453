/-- a constructor's contract: the cell h0 is its object; behind it there is an r with the world w1 r -/
def CnZ {S : Type} (Z : (Nat → Prop) → State → Heap → Prop) (l : Launch) (y : MethodName) (wsC : List Cond) (rm : Room) (D : va_G) (tys : List (ClassId × FieldType)) (h0 : Nat) (w0 : va_W) (ph : S → Prop) (w1 : S → va_W) (mc ms : Nat) : Prop :=
  ∀ sz : Nat, Met l y wsC rm (va_Pc [.ref h0] (fun U => U.heap.size = sz ∧ va_P D vwCl w0 U.heap ∧ va_K D vwCl tys U ∧ va_D (fun _ => True) w0 ∧ Z (va_A w0 sz) U U.heap)) (va_Qv ph (fun r t => va_P D vwCl (w1 r) t.heap ∧ va_D (va_A w0 sz) (w1 r)) (va_A w0 sz)) mc ms (va_A w0 sz)
def RQn {S : Type} (below : List Frame) (args : Array Value) (s : State) (D : va_G) (A : Nat → Prop) (ph : S → Prop) (w1 : S → va_W) (mc ms : Nat) : State → Prop :=
  MQ below (va_Qv ph (fun r t => va_P D vwCl (w1 r) t.heap ∧ va_D A (w1 r)) A) args s mc ms A
theorem cnz_of {S : Type} {Z : (Nat → Prop) → State → Heap → Prop} {l : Launch} {y : MethodName} {wsC ws' : List Cond} {rm : Room} {D : va_G} {tys : List (ClassId × FieldType)} {h0 : Nat} {w0 : va_W} {ph : S → Prop} {w1 : S → va_W} {mc ms : Nat} {cc : ByteArray} {nL : Nat}
    (hy : plainName y.cls = true) (hy1 : y.name = "<init>") (hw : wsC = Cond.code y cc nL none :: ws') (hle : (lg_sl [.ref h0]).length ≤ nL)
    (body : ∀ (p : Program) (e : Env) (s : State) (m : MethodId) (args : Array Value) (below : List Frame) (meth : Method) (c : Code) (A : Nat → Prop), CX p s m args meth c cc y.cls wsC nL D tys A → meth.sig.returnType = none → meth.name = "<init>" → Z A s s.heap → WW p l e (headSpec wsC rm).room s m args below meth c nL D A 0 0 (RQn below args s D A ph w1 mc ms) w0 [(0, .ref h0)] 0 []) : CnZ Z l y wsC rm D tys h0 w0 ph w1 mc ms := by
  intro sz
  refine Met.ofW (cc := cc) (maxL := nL) (ret := none) hy hw ?_
  intro p e s m args below meth c s₁ B hml hv
  obtain ⟨rfl, hsz, hP, hK, hD0, hZ⟩ := hv
  subst hsz
  have hl := lv_entry [.ref h0] (n := nL) hle
  rw [lg_entry_eq]
  have hin : meth.name = "<init>" := (name_of_methodNamed B.named B.method).1.trans hy1
  exact body p e s m _ below meth c (va_A w0 s.heap.size) ⟨B.exec, B.bytes, hml, findClass_of_methodNamed B.named, atoms_spec (ws := wsC) B.pre, hK, fun q h => Or.inr h, B.notSynchronized⟩ B.returns hin hZ s.heap [] _ hP (hD0.self (sz := s.heap.size)) va_S.rf hl
theorem va_nd_of : ∀ {l : List Nat}, l.Nodup → va_nd l = true
  | [], _ => rfl
  | a :: l, h => by
    show (decide (a ∉ l) && va_nd l) = true
    rw [va_nd_of (List.nodup_cons.mp h).2, decide_eq_true (List.nodup_cons.mp h).1]
    rfl
theorem va_nd_range (n : Nat) : va_nd (List.range n) = true := va_nd_of List.nodup_range
section WWn
variable {Z : (Nat → Prop) → State → Heap → Prop} {p : Program} {l : Launch} {e : Env} {R : Room} {s : State} {m : MethodId} {args : Array Value} {below : List Frame} {meth : Method} {c : Code} {Q : State → Prop} {D : va_G} {A : Nat → Prop} {tys : List (ClassId × FieldType)} {nL k9 n9 : Nat} {cc : ByteArray} {own : String} {Ts : List Cond} {ws : va_W} {lv : List (Nat × Value)} {pc : Nat} {rest : List Value}
variable {y : MethodName} {bytes : ByteArray} {maxL index : Nat} {wsC ws' : List Cond} {rm : Room}
theorem ww_objInit (X : CX p s m args meth c cc own Ts nL D tys A) {a idx : Nat} (h1 : Cond.methodLink own idx objectInit ∈ Ts) (h2 : Cond.instanceMethod objectInit ∈ Ts) (h3 : Cond.code objectInit ⟨#[0xb1]⟩ 1 none ∈ Ts) (hf : 1 ≤ R.frames) (hlo : ∀ ls : Array Slot, 2 * (F0 m pc ls (.ref a :: rest)).monitorRoom + (rest.map fun v => v.category).sum + 12 ≤ R.locals) (hdg : decode cc pc = .ok (.invokespecial idx, 3)) (kk : WW p l e R s m args below meth c nL D A k9 n9 Q ws lv (pc + 3) rest) : WW p l e R s m args below meth c nL D A k9 n9 Q ws lv pc (.ref a :: rest) := by
  intro H locs ls hP hD hS hl
  refine W.objInit X.1 X.2.1 X.2.2.2.1 (X.2.2.2.2.1 _ h1) (X.2.2.2.2.1 _ h2) (X.2.2.2.2.1 _ h3) (g := F0 m pc ls (.ref a :: rest)) rfl (by rw [X.2.2.1]; exact hl.1) rfl hdg hf (hlo ls) ?_
  refine W.eq (g2 := F0 m (pc + 3) ls rest) rfl ?_
  exact kk H locs ls hP hD hS hl
theorem ww_putF (X : CX p s m args meth c cc own Ts nL D tys A) {C : String} {T : u_T} {N ci index a : Nat} (hin : ∀ w ∈ u_ws C T N, w ∈ Ts) (ty0 : Nat → FieldType) (hty : ∀ k, k < N → parseFieldDescriptor (T k).2.2.1 = some (ty0 k)) (hnm : ∀ a, a < N → ∀ b, b < N → a ≠ b → (T a).2.1 ≠ (T b).2.1) (q0 : Nat) {fs : List Value} (he : ws[q0]? = some (a, .inr (ci, fs))) (hc : vwCl[ci]? = some (C, T, N)) (k : Nat) (hk : k < N) (hm : Cond.fieldLink own index (T k).1 (T k).2.1 (T k).2.2.1 ∈ Ts) (hfin : (T k).2.2.2 = true) (hnm2 : meth.name = "<init>") (hdecl : (T k).1 = own) {v : Value} (hn : narrow (ty0 k) v = v) (hfit : fits (ty0 k) v = true) (hl9 : k < fs.length) {ws' : va_W} (hw : ws.set q0 (a, .inr (ci, fs.set k v)) = ws') (hdg : decode cc pc = .ok (.putfield index, 3)) (kk : WW p l e R s m args below meth c nL D A k9 n9 Q ws' lv (pc + 3) rest) : WW p l e R s m args below meth c nL D A k9 n9 Q ws lv pc (v :: .ref a :: rest) :=
  fun H locs ls hP hD hS hl => va_putF X.1 X.2.1 X.2.2.2.2.1 hin ty0 hty hnm X.2.2.2.1 X.2.2.2.2.2.1 hP hD hS q0 he hc k hk (X.2.2.2.2.1 _ hm) (fun _ h9 => h9) hfin hnm2 hdecl (hty k hk) hn hfit hl9 hdg (fun H1 locs1 hP1 hD1 hS1 => kk H1 locs1 ls (by rw [← hw]; exact hP1) (by rw [← hw]; exact hD1) hS1 hl)
theorem ww_newa (X : CX p s m args meth c cc own Ts nL D tys A) {atype : ArrayType} {ty : FieldType} (harr : Cond.arrayClass ty ∈ Ts) (hty : newarray.typeOf atype = ty) {cA : ClassId} (hfc : s.vm.findClass ("[" ++ ty.toString) = some cA) {n : Int32} {N' : Nat} {a0 : vp_A} (ha : ∀ cA : ClassId, vp_cell cA a0 = arrV cA N' (fun _ => defaultValue ty)) (hn : ¬ n < 0) (hN : n.toNatClampNeg = N') (hbytes : N' * componentBytes ty ≤ 536870912) (hcells : k9 + 1 ≤ R.cells) (hslots : n9 + N' ≤ R.slots) (hdg : decode cc pc = .ok (.newarray atype, 2))
    (kk : ∀ q : Nat, WW p l e R s m args below meth c nL D A (k9 + 1) (n9 + N') Q (ws ++ [(q, .inl (cA, a0))]) lv (pc + 2) (.ref q :: rest)) : WW p l e R s m args below meth c nL D A k9 n9 Q ws lv pc (.int n :: rest) := by
  intro H locs ls hP hD hS hl
  subst hty
  refine va_newaK X.1 X.2.1 (X.2.2.2.2.1 _ harr) rfl hdg rfl hn hN hbytes hcells hslots rfl fun H1 cB e1 z1 o1 hAr hNm => ?_
  have ec : cB = cA := Option.some.inj (hNm.symm.trans hfc)
  subst ec
  have hk : ∀ (k : Nat) (x : Nat × va_E), ws[k]? = some x → H1[x.1]? = H[x.1]? := fun k x hx => o1 x.1 ((hP k x hx).lt)
  refine W.eq (g2 := F0 m (pc + 2) ls (.ref H.size :: rest)) rfl ?_
  refine kk H.size H1 locs ls ((hP.kept hk).app (fun k x hx => ?_)) (hD.push hP rfl (X.2.2.2.2.2.2.1 _ hS.1)) ⟨Nat.le_trans hS.1 (by omega), fun x h1 h2 => (o1 x (Nat.lt_of_lt_of_le h1 hS.1)).trans (hS.2.1 x h1 h2), hS.2.2⟩ hl
  have hz : k < 1 := (List.getElem?_eq_some_iff.mp hx).1
  rw [show k = 0 by omega] at hx
  cases hx
  show H1[H.size]? = some (vp_cell _ _)
  rw [ha]
  exact e1
theorem ww_new (X : CX p s m args meth c cc own Ts nL D tys A) {C : String} {T : u_T} {N ci index : Nat} (hin : ∀ w ∈ u_ws C T N, w ∈ Ts) (ty : Nat → FieldType) (hty : ∀ k, k < N → parseFieldDescriptor (T k).2.2.1 = some (ty k)) (hcl : Cond.classLink own index C ∈ Ts) (hinst : Cond.instantiable C N ∈ Ts) (hini : Cond.initialized C ∈ Ts) (hc : vwCl[ci]? = some (C, T, N)) {fs : List Value} (hfs : ∀ j, j < N → defaultValue (ty j) = vp_V fs j) (hcells : k9 + 1 ≤ R.cells) (hslots : n9 + N ≤ R.slots) (hdg : decode cc pc = .ok (.new index, 3))
    (kk : ∀ q : Nat, WW p l e R s m args below meth c nL D A (k9 + 1) (n9 + N) Q (ws ++ [(q, .inr (ci, fs))]) lv (pc + 3) (.ref q :: rest)) : WW p l e R s m args below meth c nL D A k9 n9 Q ws lv pc rest :=
  fun H locs ls hP hD hS hl => va_new X.1 X.2.1 X.2.2.2.2.1 hin ty hty X.2.2.2.1 (X.2.2.2.2.1 _ hcl) (X.2.2.2.2.1 _ hinst) (X.2.2.2.2.1 _ hini) X.2.2.2.2.2.1 hP hD hS X.2.2.2.2.2.2.1 hc hfs hcells hslots hdg (fun q H1 hP1 hD1 hS1 => kk q H1 locs ls hP1 hD1 hS1 hl)
theorem outer_v (c : ClassId) (N h0 : Nat) : ∀ i : Nat, Jvm.Free.Multi.outerC c N h0 i = arrV c N (fun j => va_rf (if j < i then some (h0 + 1 + j) else none))
  | 0 => by
    show ({ cls := c, slots := Array.replicate N .null, vm := .none } : Cell) = _
    rw [arrV_new]
    refine congrArg (arrV c N) (funext fun j => ?_)
    simp [va_rf]
  | i + 1 => by
    show (Jvm.Free.Multi.outerC c N h0 i).setSlot i (.ref (h0 + 1 + i)) = _
    rw [outer_v c N h0 i, arrV_store]
    refine congrArg (arrV c N) (funext fun j => ?_)
    by_cases e : j = i
    · subst e
      simp [updV, va_rf]
    · by_cases h : j < i
      · simp [updV, e, h, Nat.lt_succ_of_lt h]
      · simp [updV, e, h, show ¬ j < i + 1 by omega]
/-- an array of N arrays of K ints -/
theorem ww_mna (X : CX p s m args meth c cc own Ts nL D tys A) {index : Nat} {cI cQ : ClassId} (hclink : Cond.classLink own index "[[I" ∈ Ts) (hover : (Cond.arrayOver (.array .int)).before args s = true) (harr : Cond.arrayClass .int ∈ Ts) (hfI : s.vm.findClass "[I" = some cI) (hfQ : s.vm.findClass "[[I" = some cQ) {n k : Int32} {N' K' : Nat} (hn : ¬ n < 0) (hk : ¬ k < 0) (hN : n.toNatClampNeg = N') (hM : k.toNatClampNeg = K') (hb1 : N' * 4 ≤ 536870912) (hb2 : K' * componentBytes .int ≤ 536870912) (hb3 : K' ≤ 536870912) (hcells : k9 + (1 + N') ≤ R.cells) (hslots : n9 + (N' + N' * K') ≤ R.slots) (hdg : decode cc pc = .ok (.multianewarray index 2, 4))
    (kk : ∀ (q : Nat) (r : Nat → Nat), WW p l e R s m args below meth c nL D A (k9 + 1 + N') (n9 + N' + N' * K') Q ((ws ++ [(q, .inl (cQ, N', .inr (.inr (.inr (.inr (fun i => if i < N' then some (r i) else none))))))]) ++ (List.range N').map (fun i => (r i, .inl (cI, K', .inl (fun _ => 0))))) lv (pc + 4) (.ref q :: rest)) : WW p l e R s m args below meth c nL D A k9 n9 Q ws lv pc (.int k :: .int n :: rest) := by
  intro H locs ls hP hD hS hl
  subst hN
  subst hM
  intro T hT Xs
  obtain ⟨vm₁, cA, comp, -, fA, fC, hO, -, X', step⟩ := Xs.multianewarray2F (ty := .int) X.1 X.2.2.2.1 (X.2.2.2.2.1 _ hclink) hover (X.2.2.2.2.1 _ harr) (g := F0 m pc ls (.int k :: .int n :: rest)) rfl (by rw [X.2.1]; exact hdg) rfl hn hk hb1 hb2 hb3 rfl rfl hcells hslots
  have ec : cI = comp := Option.some.inj (hfI.symm.trans fC)
  have eq : cQ = cA := Option.some.inj (hfQ.symm.trans fA)
  subst ec
  subst eq
  generalize hF : Jvm.Free.Multi.fill (T.setVm vm₁) cQ cI n.toNatClampNeg k.toNatClampNeg (defaultValue .int) n.toNatClampNeg = F at X' step
  have hTh : (T.setVm vm₁).heap = H := hT
  obtain ⟨f1, f2, -, -⟩ := Jvm.Free.Multi.fill_facts (T.setVm vm₁) cQ cI n.toNatClampNeg k.toNatClampNeg (defaultValue .int) n.toNatClampNeg
  rw [hF, hTh] at f1 f2
  have hold : ∀ x : Nat, x < H.size → F.heap[x]? = H[x]? := fun x hx => by
    have := Jvm.Free.Multi.fill_old (T.setVm vm₁) cQ cI n.toNatClampNeg k.toNatClampNeg (defaultValue .int) (a := x) (by rw [hTh]; exact hx) n.toNatClampNeg
    rw [hF, hTh] at this
    exact this
  have hz : Jvm.Free.Multi.innerC cI k.toNatClampNeg (defaultValue .int) = vp_cell cI (k.toNatClampNeg, .inl (fun _ => 0)) := by
    show ({ cls := cI, slots := Array.replicate k.toNatClampNeg (defaultValue .int), vm := .none } : Cell) = _
    rw [arrV_new]
    rfl
  have hrow : ∀ j : Nat, j < n.toNatClampNeg → F.heap[H.size + 1 + j]? = some (vp_cell cI (k.toNatClampNeg, .inl (fun _ => 0))) := fun j hj => by
    have := Jvm.Free.Multi.fill_inner (T.setVm vm₁) cQ cI n.toNatClampNeg k.toNatClampNeg (defaultValue .int) n.toNatClampNeg j hj
    rw [hF, hTh, hz] at this
    exact this
  have hout : Jvm.Free.Multi.outerC cQ n.toNatClampNeg H.size n.toNatClampNeg = vp_cell cQ (n.toNatClampNeg, .inr (.inr (.inr (.inr (fun i => if i < n.toNatClampNeg then some (H.size + 1 + i) else none))))) := by
    rw [vp_cell_q]
    exact outer_v cQ n.toNatClampNeg H.size n.toNatClampNeg
  rw [hout] at f2
  have hP0 : va_P D vwCl ws F.heap := hP.kept (fun k9 x hx => hold x.1 ((hP k9 x hx).lt))
  have hP1 : va_P D vwCl (ws ++ [(H.size, .inl (cQ, n.toNatClampNeg, .inr (.inr (.inr (.inr (fun i => if i < n.toNatClampNeg then some (H.size + 1 + i) else none))))))]) F.heap := hP0.app (fun k9 x hx => by
    have h0 : k9 < 1 := (List.getElem?_eq_some_iff.mp hx).1
    rw [show k9 = 0 by omega] at hx
    cases hx
    exact f2)
  have hP2 : va_P D vwCl ((ws ++ [(H.size, .inl (cQ, n.toNatClampNeg, .inr (.inr (.inr (.inr (fun i => if i < n.toNatClampNeg then some (H.size + 1 + i) else none))))))]) ++ (List.range n.toNatClampNeg).map (fun i => (H.size + 1 + i, .inl (cI, k.toNatClampNeg, .inl (fun _ => 0))))) F.heap := hP1.app (fun k9 x hx => by
    obtain ⟨i, hi, rfl⟩ := List.mem_map.mp (List.mem_of_getElem? hx)
    exact hrow i (List.mem_range.mp hi))
  have hD1 := hD.push (e := .inl (cQ, n.toNatClampNeg, .inr (.inr (.inr (.inr (fun i => if i < n.toNatClampNeg then some (H.size + 1 + i) else none)))))) hP rfl (X.2.2.2.2.2.2.1 _ hS.1)
  have hle : ∀ (k9 : Nat) (x : Nat × va_E), (ws ++ [(H.size, .inl (cQ, n.toNatClampNeg, .inr (.inr (.inr (.inr (fun i => if i < n.toNatClampNeg then some (H.size + 1 + i) else none))))))])[k9]? = some x → x.1 ≤ H.size := fun k9 x hx => by
    by_cases hl : k9 < ws.length
    · rw [List.getElem?_append_left hl] at hx
      exact Nat.le_of_lt ((hP k9 x hx).lt)
    · rw [List.getElem?_append_right (by omega)] at hx
      have h0 : k9 - ws.length < 1 := (List.getElem?_eq_some_iff.mp hx).1
      rw [show k9 - ws.length = 0 by omega] at hx
      cases hx
      exact Nat.le_refl _
  have hr : ∀ (k9 : Nat) (x : Nat × va_E), ((List.range n.toNatClampNeg).map (fun i => ((H.size + 1 + i, .inl (cI, k.toNatClampNeg, .inl (fun _ => 0))) : Nat × va_E)))[k9]? = some x → x.1 = H.size + 1 + k9 := fun k9 x hx => by
    rw [List.getElem?_map] at hx
    by_cases h9 : k9 < n.toNatClampNeg
    · rw [List.getElem?_range h9] at hx
      cases hx
      rfl
    · have hn0 : (List.range n.toNatClampNeg)[k9]? = none := List.getElem?_eq_none (by rw [List.length_range]; omega)
      rw [hn0] at hx
      cases hx
  have hD2 : va_D A ((ws ++ [(H.size, .inl (cQ, n.toNatClampNeg, .inr (.inr (.inr (.inr (fun i => if i < n.toNatClampNeg then some (H.size + 1 + i) else none))))))]) ++ (List.range n.toNatClampNeg).map (fun i => (H.size + 1 + i, .inl (cI, k.toNatClampNeg, .inl (fun _ => 0))))) := by
    refine hD1.app ⟨fun i j x y hi hj hxy => ?_, fun k9 x hx => ?_⟩ (fun i j x y hi hj => ?_)
    · have := hr _ _ hi
      have := hr _ _ hj
      omega
    · rw [hr _ _ hx]
      exact X.2.2.2.2.2.2.1 _ (by have := hS.1; omega)
    · have := hle _ _ hi
      have := hr _ _ hj
      omega
  have hS2 : va_S A s.heap F.heap locs := ⟨by rw [f1]; have := hS.1; omega, fun x h1 h2 => (hold x (Nat.lt_of_lt_of_le h1 hS.1)).trans (hS.2.1 x h1 h2), hS.2.2⟩
  obtain ⟨t, a1, b1⟩ := kk H.size (fun i => H.size + 1 + i) F.heap locs ls hP2 hD2 hS2 hl F rfl X'
  exact ⟨t, step t (by rw [hT]; exact a1), b1⟩
theorem ww_vretn {S : Type} {ph : S → Prop} {w1 : S → va_W} (X : CX p s m args meth c cc own Ts nL D tys A) (hr : meth.sig.returnType = none) (r : S) (hph : ph r) (is : List Nat) (hs : is.filterMap (fun i => ws[i]?) = w1 r) (hnd : va_nd is = true) (hs2 : is.map (fun i => ws[i]?) = (w1 r).map some) (hdg : decode cc pc = .ok (.return_, 1)) : WW p l e R s m args below meth c nL D A k9 n9 (RQn below args s D A ph w1 k9 n9) ws lv pc [] :=
  fun H locs ls hP hD hS hl => W.vret X.1 X.2.1 hr (fun t ht hW => ⟨⟨r, rfl, hph, by rw [ht]; exact hP.sub is hs, hD.sub is hnd hs2⟩, hS.F ht⟩) hS.2.2 hdg X.2.2.2.2.2.2.2
/-- a private constructor of a nest mate -/
theorem ww_cIN {S : Type} {ph : S → Prop} {w1 : S → va_W} {mc ms b ci : Nat} {fs : List Value} {host : String} (X : CX p s m args meth c cc own Ts nL D tys A) (hz : ZOK Z) (hZ : Z A s s.heap) (hM : CnZ Z l y wsC rm D tys b [(b, .inr (ci, fs))] ph w1 mc ms) (hG : GoodIn Ts wsC) (hw : wsC = Cond.code y bytes maxL none :: ws') (hrc : rm.cells = mc) (hrs : rm.slots = ms) (hl9 : va_Nw (.methodLinkNest own index y host) s) (hini : Cond.initialized y.cls ∈ Ts) (hinst : Cond.instanceMethod y ∈ Ts) (hy1 : y.name = "<init>") (hd : y.cls ≠ "java/lang/invoke/MethodHandle" ∧ y.cls ≠ "java/lang/invoke/VarHandle" ∧ (parseMethodDescriptor y.desc).map (fun d => d.parameters.length) = some 0) (hR : rm.frames + 1 ≤ R.frames ∧ 8 + (maxL + 11) + rm.locals ≤ R.locals) (hrest : (rest.map fun v => v.category).sum ≤ 8) (hf : k9 + mc ≤ R.cells ∧ n9 + ms ≤ R.slots) (hdg : decode cc pc = .ok (.invokespecial index, 3))
    (kk : ∀ r : S, ph r → WW p l e R s m args below meth c nL D A (k9 + mc) (n9 + ms) Q (ws ++ w1 r) lv (pc + 3) rest) : WW p l e R s m args below meth c nL D A k9 n9 Q (ws ++ [(b, .inr (ci, fs))]) lv pc (.ref b :: rest) := by
  intro H locs ls hP hD hS hl
  have hlast : (ws ++ [((b, .inr (ci, fs)) : Nat × va_E)])[ws.length]? = some (b, .inr (ci, fs)) := by
    rw [List.getElem?_append_right (Nat.le_refl _), Nat.sub_self]
    rfl
  have hC : [ws.length].map (fun i => (ws ++ [((b, .inr (ci, fs)) : Nat × va_E)])[i]?) = ([(b, .inr (ci, fs))] : va_W).map some := by
    rw [List.map_cons, List.map_nil, hlast]
    rfl
  have hPc : va_P D vwCl [(b, .inr (ci, fs))] H := w_subP hP [ws.length] hC
  have hDc : va_D A [(b, .inr (ci, fs))] := hD.sub [ws.length] rfl hC
  have hFc := va_free (wc := [(b, .inr (ci, fs))]) hD hS X.2.2.2.2.2.2.1 [ws.length] hC
  have hZc : Z (va_A [(b, .inr (ci, fs))] H.size) s H := hz.2.2.2 A _ s H (hz.2.2.1 A s s.heap H hZ hS.2.1) hFc
  refine va_callv (va_runIN (As := []) (rest := rest) ⟨X.1, X.2.1, X.2.2.1, X.2.2.2.1, X.2.2.2.2.1⟩ (hM H.size) ⟨va_cnB 0 X.2.2.2.2.1 hG hw hrc hrs hl9 (X.2.2.2.2.1 _ hini) hd hR, hy1, X.2.2.2.2.1 _ hinst⟩ ⟨z_blind hz, z_pre hz hPc X.2.2.2.2.2.1 hDc hZc⟩ rfl rfl hl.1 rfl (lv_room hrest) hdg hf) hS (fun q _ h => hFc q h) hFc (fun r t H1 locs1 ht hvm hph hB hz1 hk1 hS1 => ?_)
  obtain ⟨hP1, hD1⟩ := hB
  rw [ht] at hP1
  have hR9 : (List.range ws.length).map (fun i => (ws ++ [((b, .inr (ci, fs)) : Nat × va_E)])[i]?) = ws.map some := by
    apply List.ext_getElem?
    intro i
    rw [List.getElem?_map, List.getElem?_map]
    by_cases hi : i < ws.length
    · rw [List.getElem?_range hi, List.getElem?_eq_getElem hi]
      show some ((ws ++ _)[i]?) = some (some _)
      rw [List.getElem?_append_left hi, List.getElem?_eq_getElem hi]
    · rw [List.getElem?_eq_none (by rw [List.length_range]; omega), List.getElem?_eq_none (by omega)]
      rfl
  have hjn := va_join (wr := ws) (w1 := w1 r) hP hD [ws.length] (List.range ws.length) hC hR9 (va_nd_range _) (fun i hi h2 => by
    have := List.mem_range.mp hi
    have := List.mem_singleton.mp h2
    omega) hk1 hFc hP1 hD1
  exact kk r hph H1 locs1 ls hjn.1 hjn.2 hS1 hl
end WWn
