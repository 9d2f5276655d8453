/-- what holds all along a method's walk -/
def CX (p : Program) (s : State) (m : MethodId) (args : Array Value) (meth : Method) (c : Code) (cc : ByteArray) (own : String) (Ts : List Cond) (nL : Nat) (D : va_G) (tys : List (ClassId × FieldType)) (A : Nat → Prop) : Prop :=
  p.tables.exec = Jvm.exec ∧ c.code = cc ∧ c.maxLocals = nL ∧ s.vm.findClass own = some m.cls ∧ (∀ w ∈ Ts, w.before args s = true) ∧ va_K D vwCl tys s ∧ (∀ q, s.heap.size ≤ q → A q) ∧ meth.locks = false
/-- the walk from pc, with the world ws, the locals lv, the stack st -/
def WW (p : Program) (l : Launch) (e : Env) (R : Room) (s : State) (m : MethodId) (args : Array Value) (below : List Frame) (meth : Method) (c : Code) (nL : Nat) (D : va_G) (A : Nat → Prop) (k9 n9 : Nat) (Q : State → Prop) (ws : va_W) (lv : List (Nat × Value)) (pc : Nat) (st : List Value) : Prop :=
  ∀ (H : Heap) (locs : List Loc) (ls : Array Slot), va_P D vwCl ws H → va_D A ws → va_S A s.heap H locs → lv_has ls nL lv → W p l e R s m args below meth c H locs k9 n9 Q (F0 m pc ls st)
/-- the ends: an int, nothing -/
def RQi (below : List Frame) (args : Array Value) (s : State) (D : va_G) (A : Nat → Prop) (r : Int32) (w1 : va_W) : State → Prop :=
  MQ below (va_Qi (fun r' (_ : Unit) => r' = r) (fun _ t => va_P D vwCl w1 t.heap ∧ va_D A w1) A) args s 0 0 A
def RQv (below : List Frame) (args : Array Value) (s : State) (D : va_G) (A : Nat → Prop) (w1 : va_W) : State → Prop :=
  MQ below (va_Qv (fun (_ : Unit) => True) (fun _ t => va_P D vwCl w1 t.heap ∧ va_D A w1) A) args s 0 0 A
/-- a method's contract: with the arguments av and the world w0 it answers r, and the world is w1 -/
def Ci (l : Launch) (y : MethodName) (wsC : List Cond) (rm : Room) (D : va_G) (tys : List (ClassId × FieldType)) (av : List Value) (w0 : va_W) (r : Int32) (w1 : va_W) : Prop :=
  ∀ sz : Nat, Met l y wsC rm (va_Pc av (fun U => U.heap.size = sz ∧ va_P D vwCl w0 U.heap ∧ va_K D vwCl tys U ∧ va_D (fun _ => True) w0)) (va_Qi (fun r' (_ : Unit) => r' = r) (fun _ t => va_P D vwCl w1 t.heap ∧ va_D (va_A w0 sz) w1) (va_A w0 sz)) 0 0 (va_A w0 sz)
def Cv (l : Launch) (y : MethodName) (wsC : List Cond) (rm : Room) (D : va_G) (tys : List (ClassId × FieldType)) (av : List Value) (w0 : va_W) (w1 : va_W) : Prop :=
  ∀ sz : Nat, Met l y wsC rm (va_Pc av (fun U => U.heap.size = sz ∧ va_P D vwCl w0 U.heap ∧ va_K D vwCl tys U ∧ va_D (fun _ => True) w0)) (va_Qv (fun (_ : Unit) => True) (fun _ t => va_P D vwCl w1 t.heap ∧ va_D (va_A w0 sz) w1) (va_A w0 sz)) 0 0 (va_A w0 sz)
def wput (ws : va_W) : List Nat → va_W → va_W
  | i :: is, x :: xs => wput (ws.set i x) is xs
  | _, _ => ws
theorem wput_get : ∀ (is : List Nat) (ws xs : va_W) (k : Nat) (q : Nat × va_E), is.length = xs.length → (wput ws is xs)[k]? = some q → (∃ j : Nat, is[j]? = some k ∧ xs[j]? = some q) ∨ (k ∉ is ∧ ws[k]? = some q)
  | [], ws, xs, k, q, _, h => Or.inr ⟨List.not_mem_nil, by
      cases xs <;> exact h⟩
  | i :: is, ws, [], k, q, hl, _ => by simp at hl
  | i :: is, ws, x :: xs, k, q, hl, h => by
    rcases wput_get is (ws.set i x) xs k q (by simpa using hl) h with ⟨j, h1, h2⟩ | ⟨h1, h2⟩
    · exact Or.inl ⟨j + 1, by rw [List.getElem?_cons_succ]; exact h1, by rw [List.getElem?_cons_succ]; exact h2⟩
    · by_cases hk : i = k
      · subst hk
        rw [List.getElem?_set] at h2
        simp only [if_true] at h2
        split at h2
        · exact Or.inl ⟨0, rfl, h2⟩
        · cases h2
      · rw [List.getElem?_set_ne hk] at h2
        exact Or.inr ⟨fun hm => by
          rcases List.mem_cons.mp hm with e | e
          · exact hk e.symm
          · exact h1 e, h2⟩
/-- behind a call: the callee's cells at their places, the others as they were -/
theorem w_join {A : Nat → Prop} {D : va_G} {cl : List vw_C} {ws wc w1 : va_W} {H H1 : Heap} (hP : va_P D cl ws H) (hD : va_D A ws) (isC : List Nat) (hC : isC.map (fun i => ws[i]?) = wc.map some) (hadr : w1.map Prod.fst = wc.map Prod.fst)
    (hk : ∀ q : Nat, q < H.size → ¬ va_A wc H.size q → H1[q]? = H[q]?) (hP1 : va_P D cl w1 H1) : va_P D cl (wput ws isC w1) H1 ∧ va_D A (wput ws isC w1) := by
  have hl1 : isC.length = wc.length := by
    have := congrArg List.length hC
    simpa using this
  have hl2 : w1.length = wc.length := by
    have := congrArg List.length hadr
    simpa using this
  have at' : ∀ (k : Nat) (q : Nat × va_E), wc[k]? = some q → ∃ i, isC[k]? = some i ∧ ws[i]? = some q := by
    intro k q hq
    have h1 : (isC.map (fun i => ws[i]?))[k]? = some (some q) := by rw [hC, List.getElem?_map, hq]; rfl
    rw [List.getElem?_map] at h1
    cases hi : isC[k]? with
    | none => rw [hi] at h1; cases h1
    | some i => rw [hi] at h1; exact ⟨i, rfl, Option.some.inj h1⟩
  have at1 : ∀ (j : Nat) (q : Nat × va_E), w1[j]? = some q → ∃ q0, wc[j]? = some q0 ∧ q0.1 = q.1 := by
    intro j q hq
    have h1 : (w1.map Prod.fst)[j]? = some q.1 := by rw [List.getElem?_map, hq]; rfl
    rw [hadr, List.getElem?_map] at h1
    cases hi : wc[j]? with
    | none => rw [hi] at h1; cases h1
    | some q0 => rw [hi] at h1; exact ⟨q0, rfl, Option.some.inj h1⟩
  have key : ∀ (k : Nat) (q : Nat × va_E), (wput ws isC w1)[k]? = some q → ∃ q0, ws[k]? = some q0 ∧ q0.1 = q.1 := by
    intro k q hq
    rcases wput_get isC ws w1 k q (hl1.trans hl2.symm) hq with ⟨j, h1, h2⟩ | ⟨-, h2⟩
    · obtain ⟨q0, g1, g2⟩ := at1 j q h2
      obtain ⟨i, g3, g4⟩ := at' j q0 g1
      have : i = k := Option.some.inj (g3.symm.trans h1)
      subst this
      exact ⟨q0, g4, g2⟩
    · exact ⟨q, h2, rfl⟩
  refine ⟨fun k q hq => ?_, fun i j x y hi hj hxy => ?_, fun k q hq => ?_⟩
  · rcases wput_get isC ws w1 k q (hl1.trans hl2.symm) hq with ⟨j, h1, h2⟩ | ⟨h1, h2⟩
    · exact hP1 j q h2
    · refine (hP k q h2).kept (hk q.1 ((hP k q h2).lt) (fun h => ?_))
      rcases h with ⟨k2, e2, h⟩ | h
      · obtain ⟨i, g1, g2⟩ := at' k2 (q.1, e2) h
        have := hD.1 k i q (q.1, e2) h2 g2 rfl
        subst this
        exact h1 (List.mem_of_getElem? g1)
      · have := (hP k q h2).lt
        omega
  · obtain ⟨x0, h1, h2⟩ := key i x hi
    obtain ⟨y0, h3, h4⟩ := key j y hj
    exact hD.1 i j x0 y0 h1 h3 (h2.trans (hxy.trans h4.symm))
  · obtain ⟨q0, h1, h2⟩ := key k q hq
    rw [← h2]
    exact hD.2 k q0 h1
section WWrows
variable {p : Program} {l : Launch} {e : Env} {R : Room} {s : State} {m : MethodId} {args : Array Value} {below : List Frame} {meth : Method} {c : Code} {Q : State → Prop} {D : va_G} {A : Nat → Prop} {tys : List (ClassId × FieldType)} {nL k9 n9 : Nat} {cc : ByteArray} {own : String} {Ts : List Cond} {ws : va_W} {lv : List (Nat × Value)} {pc : Nat} {rest : List Value}
theorem ww_iconst (X : CX p s m args meth c cc own Ts nL D tys A) {n : Int} {v : Int32} (hdg : decode cc pc = .ok (.iconst n, 1)) (hv : Int32.ofInt n = v) (k : WW p l e R s m args below meth c nL D A k9 n9 Q ws lv (pc + 1) (.int v :: rest)) : WW p l e R s m args below meth c nL D A k9 n9 Q ws lv pc (rest) :=
  fun H locs ls hP hD hS hl => lv_iconst X.1 X.2.1 hdg hv (k H locs ls hP hD hS hl)
theorem ww_bipush (X : CX p s m args meth c cc own Ts nL D tys A) {n : Int} {v : Int32} (hdg : decode cc pc = .ok (.bipush n, 2)) (hv : (Int8.ofInt n).toInt32 = v) (k : WW p l e R s m args below meth c nL D A k9 n9 Q ws lv (pc + 2) (.int v :: rest)) : WW p l e R s m args below meth c nL D A k9 n9 Q ws lv pc (rest) :=
  fun H locs ls hP hD hS hl => lv_bipush X.1 X.2.1 hdg hv (k H locs ls hP hD hS hl)
theorem ww_sipush (X : CX p s m args meth c cc own Ts nL D tys A) {n : Int} {v : Int32} (hdg : decode cc pc = .ok (.sipush n, 3)) (hv : (Int16.ofInt n).toInt32 = v) (k : WW p l e R s m args below meth c nL D A k9 n9 Q ws lv (pc + 3) (.int v :: rest)) : WW p l e R s m args below meth c nL D A k9 n9 Q ws lv pc (rest) :=
  fun H locs ls hP hD hS hl => lv_sipush X.1 X.2.1 hdg hv (k H locs ls hP hD hS hl)
theorem ww_iadd (X : CX p s m args meth c cc own Ts nL D tys A) {x y : Int32} (hdg : decode cc pc = .ok (.iadd, 1))  (k : WW p l e R s m args below meth c nL D A k9 n9 Q ws lv (pc + 1) (.int (x + y) :: rest)) : WW p l e R s m args below meth c nL D A k9 n9 Q ws lv pc (.int y :: .int x :: rest) :=
  fun H locs ls hP hD hS hl => lv_iadd X.1 X.2.1 hdg  (k H locs ls hP hD hS hl)
theorem ww_isub (X : CX p s m args meth c cc own Ts nL D tys A) {x y : Int32} (hdg : decode cc pc = .ok (.isub, 1))  (k : WW p l e R s m args below meth c nL D A k9 n9 Q ws lv (pc + 1) (.int (x - y) :: rest)) : WW p l e R s m args below meth c nL D A k9 n9 Q ws lv pc (.int y :: .int x :: rest) :=
  fun H locs ls hP hD hS hl => lv_isub X.1 X.2.1 hdg  (k H locs ls hP hD hS hl)
theorem ww_imul (X : CX p s m args meth c cc own Ts nL D tys A) {x y : Int32} (hdg : decode cc pc = .ok (.imul, 1))  (k : WW p l e R s m args below meth c nL D A k9 n9 Q ws lv (pc + 1) (.int (x * y) :: rest)) : WW p l e R s m args below meth c nL D A k9 n9 Q ws lv pc (.int y :: .int x :: rest) :=
  fun H locs ls hP hD hS hl => lv_imul X.1 X.2.1 hdg  (k H locs ls hP hD hS hl)
theorem ww_idiv (X : CX p s m args meth c cc own Ts nL D tys A) {x y : Int32} (hdg : decode cc pc = .ok (.idiv, 1)) (hne : ¬ y = 0) (k : WW p l e R s m args below meth c nL D A k9 n9 Q ws lv (pc + 1) (.int (x / y) :: rest)) : WW p l e R s m args below meth c nL D A k9 n9 Q ws lv pc (.int y :: .int x :: rest) :=
  fun H locs ls hP hD hS hl => lv_idiv X.1 X.2.1 hdg hne (k H locs ls hP hD hS hl)
theorem ww_irem (X : CX p s m args meth c cc own Ts nL D tys A) {x y : Int32} (hdg : decode cc pc = .ok (.irem, 1)) (hne : ¬ y = 0) (k : WW p l e R s m args below meth c nL D A k9 n9 Q ws lv (pc + 1) (.int (x - x / y * y) :: rest)) : WW p l e R s m args below meth c nL D A k9 n9 Q ws lv pc (.int y :: .int x :: rest) :=
  fun H locs ls hP hD hS hl => lv_irem X.1 X.2.1 hdg hne (k H locs ls hP hD hS hl)
theorem ww_dup (X : CX p s m args meth c cc own Ts nL D tys A) {va : Value} (hdg : decode cc pc = .ok (.dup, 1)) (hva : va.category = 1) (k : WW p l e R s m args below meth c nL D A k9 n9 Q ws lv (pc + 1) (va :: va :: rest)) : WW p l e R s m args below meth c nL D A k9 n9 Q ws lv pc (va :: rest) :=
  fun H locs ls hP hD hS hl => lv_dup X.1 X.2.1 hdg hva (k H locs ls hP hD hS hl)
theorem ww_dup2_11 (X : CX p s m args meth c cc own Ts nL D tys A) {va vb : Value} (hdg : decode cc pc = .ok (.dup2, 1)) (hva : va.category = 1) (hvb : vb.category = 1) (k : WW p l e R s m args below meth c nL D A k9 n9 Q ws lv (pc + 1) (va :: vb :: va :: vb :: rest)) : WW p l e R s m args below meth c nL D A k9 n9 Q ws lv pc (va :: vb :: rest) :=
  fun H locs ls hP hD hS hl => lv_dup2_11 X.1 X.2.1 hdg hva hvb (k H locs ls hP hD hS hl)
theorem ww_pop (X : CX p s m args meth c cc own Ts nL D tys A) {va : Value} (hdg : decode cc pc = .ok (.pop, 1)) (hva : va.category = 1) (k : WW p l e R s m args below meth c nL D A k9 n9 Q ws lv (pc + 1) (rest)) : WW p l e R s m args below meth c nL D A k9 n9 Q ws lv pc (va :: rest) :=
  fun H locs ls hP hD hS hl => lv_pop X.1 X.2.1 hdg hva (k H locs ls hP hD hS hl)
theorem ww_i2l (X : CX p s m args meth c cc own Ts nL D tys A) {x : Int32} {v : Int64} (hdg : decode cc pc = .ok (.i2l, 1)) (hv : x.toInt64 = v) (k : WW p l e R s m args below meth c nL D A k9 n9 Q ws lv (pc + 1) (.long v :: rest)) : WW p l e R s m args below meth c nL D A k9 n9 Q ws lv pc (.int x :: rest) :=
  fun H locs ls hP hD hS hl => lv_i2l X.1 X.2.1 hdg hv (k H locs ls hP hD hS hl)
theorem ww_l2i (X : CX p s m args meth c cc own Ts nL D tys A) {x : Int64} {v : Int32} (hdg : decode cc pc = .ok (.l2i, 1)) (hv : x.toInt32 = v) (k : WW p l e R s m args below meth c nL D A k9 n9 Q ws lv (pc + 1) (.int v :: rest)) : WW p l e R s m args below meth c nL D A k9 n9 Q ws lv pc (.long x :: rest) :=
  fun H locs ls hP hD hS hl => lv_l2i X.1 X.2.1 hdg hv (k H locs ls hP hD hS hl)
theorem ww_i2c (X : CX p s m args meth c cc own Ts nL D tys A) {x : Int32} {v : Int32} (hdg : decode cc pc = .ok (.i2c, 1)) (hv : (x.toUInt32 % 65536).toInt32 = v) (k : WW p l e R s m args below meth c nL D A k9 n9 Q ws lv (pc + 1) (.int v :: rest)) : WW p l e R s m args below meth c nL D A k9 n9 Q ws lv pc (.int x :: rest) :=
  fun H locs ls hP hD hS hl => lv_i2c X.1 X.2.1 hdg hv (k H locs ls hP hD hS hl)
theorem ww_iand (X : CX p s m args meth c cc own Ts nL D tys A) {x y : Int32} (hdg : decode cc pc = .ok (.iand, 1)) 
     (k : WW p l e R s m args below meth c nL D A k9 n9 Q ws lv (pc + 1) (.int (x &&& y) :: rest)) : WW p l e R s m args below meth c nL D A k9 n9 Q ws lv pc (.int y :: .int x :: rest) :=
  fun H locs ls hP hD hS hl => lv_iand X.1 X.2.1 hdg (k H locs ls hP hD hS hl)
theorem ww_ior (X : CX p s m args meth c cc own Ts nL D tys A) {x y : Int32} (hdg : decode cc pc = .ok (.ior, 1)) 
     (k : WW p l e R s m args below meth c nL D A k9 n9 Q ws lv (pc + 1) (.int (x ||| y) :: rest)) : WW p l e R s m args below meth c nL D A k9 n9 Q ws lv pc (.int y :: .int x :: rest) :=
  fun H locs ls hP hD hS hl => lv_ior X.1 X.2.1 hdg (k H locs ls hP hD hS hl)
theorem ww_ishl (X : CX p s m args meth c cc own Ts nL D tys A) {x y : Int32} (hdg : decode cc pc = .ok (.ishl, 1)) 
     (k : WW p l e R s m args below meth c nL D A k9 n9 Q ws lv (pc + 1) (.int (x <<< (y &&& 31)) :: rest)) : WW p l e R s m args below meth c nL D A k9 n9 Q ws lv pc (.int y :: .int x :: rest) :=
  fun H locs ls hP hD hS hl => lv_ishl X.1 X.2.1 hdg (k H locs ls hP hD hS hl)
theorem ww_ineg (X : CX p s m args meth c cc own Ts nL D tys A) {x : Int32} (hdg : decode cc pc = .ok (.ineg, 1)) 
     (k : WW p l e R s m args below meth c nL D A k9 n9 Q ws lv (pc + 1) (.int (-x) :: rest)) : WW p l e R s m args below meth c nL D A k9 n9 Q ws lv pc (.int x :: rest) :=
  fun H locs ls hP hD hS hl => lv_ineg X.1 X.2.1 hdg (k H locs ls hP hD hS hl)
theorem ww_lmul (X : CX p s m args meth c cc own Ts nL D tys A) {x y : Int64} (hdg : decode cc pc = .ok (.lmul, 1)) 
     (k : WW p l e R s m args below meth c nL D A k9 n9 Q ws lv (pc + 1) (.long (x * y) :: rest)) : WW p l e R s m args below meth c nL D A k9 n9 Q ws lv pc (.long y :: .long x :: rest) :=
  fun H locs ls hP hD hS hl => lv_lmul X.1 X.2.1 hdg (k H locs ls hP hD hS hl)
theorem ww_ldiv (X : CX p s m args meth c cc own Ts nL D tys A) {x y : Int64} (hdg : decode cc pc = .ok (.ldiv, 1)) (hne : ¬ y = 0)
     (k : WW p l e R s m args below meth c nL D A k9 n9 Q ws lv (pc + 1) (.long (x / y) :: rest)) : WW p l e R s m args below meth c nL D A k9 n9 Q ws lv pc (.long y :: .long x :: rest) :=
  fun H locs ls hP hD hS hl => lv_ldiv X.1 X.2.1 hdg hne (k H locs ls hP hD hS hl)
theorem ww_ladd (X : CX p s m args meth c cc own Ts nL D tys A) {x y : Int64} (hdg : decode cc pc = .ok (.ladd, 1)) 
     (k : WW p l e R s m args below meth c nL D A k9 n9 Q ws lv (pc + 1) (.long (x + y) :: rest)) : WW p l e R s m args below meth c nL D A k9 n9 Q ws lv pc (.long y :: .long x :: rest) :=
  fun H locs ls hP hD hS hl => lv_ladd X.1 X.2.1 hdg (k H locs ls hP hD hS hl)
theorem ww_land (X : CX p s m args meth c cc own Ts nL D tys A) {x y : Int64} (hdg : decode cc pc = .ok (.land, 1)) 
     (k : WW p l e R s m args below meth c nL D A k9 n9 Q ws lv (pc + 1) (.long (x &&& y) :: rest)) : WW p l e R s m args below meth c nL D A k9 n9 Q ws lv pc (.long y :: .long x :: rest) :=
  fun H locs ls hP hD hS hl => lv_land X.1 X.2.1 hdg (k H locs ls hP hD hS hl)
theorem ww_ishr (X : CX p s m args meth c cc own Ts nL D tys A) {x y : Int32} (hdg : decode cc pc = .ok (.ishr, 1)) 
     (k : WW p l e R s m args below meth c nL D A k9 n9 Q ws lv (pc + 1) (.int (x >>> (y &&& 31)) :: rest)) : WW p l e R s m args below meth c nL D A k9 n9 Q ws lv pc (.int y :: .int x :: rest) :=
  fun H locs ls hP hD hS hl => lv_ishr X.1 X.2.1 hdg (k H locs ls hP hD hS hl)
theorem ww_iushr (X : CX p s m args meth c cc own Ts nL D tys A) {x y v : Int32} (hdg : decode cc pc = .ok (.iushr, 1)) (hv : (x.toUInt32 >>> (y.toUInt32 &&& Int32.toUInt32 31)).toInt32 = v)
     (k : WW p l e R s m args below meth c nL D A k9 n9 Q ws lv (pc + 1) (.int v :: rest)) : WW p l e R s m args below meth c nL D A k9 n9 Q ws lv pc (.int y :: .int x :: rest) :=
  fun H locs ls hP hD hS hl => lv_iushr X.1 X.2.1 hdg hv (k H locs ls hP hD hS hl)
theorem ww_i2b (X : CX p s m args meth c cc own Ts nL D tys A) {x : Int32} {v : Int32} (hdg : decode cc pc = .ok (.i2b, 1)) (hv : x.toInt8.toInt32 = v)
     (k : WW p l e R s m args below meth c nL D A k9 n9 Q ws lv (pc + 1) (.int v :: rest)) : WW p l e R s m args below meth c nL D A k9 n9 Q ws lv pc (.int x :: rest) :=
  fun H locs ls hP hD hS hl => lv_i2b X.1 X.2.1 hdg hv (k H locs ls hP hD hS hl)
theorem ww_iload_n (X : CX p s m args meth c cc own Ts nL D tys A) {k : Fin 4} {i : Nat} {x : Int32} (hdg : decode cc pc = .ok (.iload_n k, 1)) (j : Nat) (hi : (k : Nat) = i) (hj : lv[j]? = some (i, .int x)) (k : WW p l e R s m args below meth c nL D A k9 n9 Q ws lv (pc + 1) (.int x :: rest)) : WW p l e R s m args below meth c nL D A k9 n9 Q ws lv pc rest :=
  fun H locs ls hP hD hS hl => lv_iload_n X.1 X.2.1 hdg hi (lv_at hl j hj) (k H locs ls hP hD hS hl)
theorem ww_aload_n (X : CX p s m args meth c cc own Ts nL D tys A) {k : Fin 4} {i : Nat} {x : Nat} (hdg : decode cc pc = .ok (.aload_n k, 1)) (j : Nat) (hi : (k : Nat) = i) (hj : lv[j]? = some (i, .ref x)) (k : WW p l e R s m args below meth c nL D A k9 n9 Q ws lv (pc + 1) (.ref x :: rest)) : WW p l e R s m args below meth c nL D A k9 n9 Q ws lv pc rest :=
  fun H locs ls hP hD hS hl => lv_aload_n X.1 X.2.1 hdg hi (lv_at hl j hj) (k H locs ls hP hD hS hl)
theorem ww_lload_n (X : CX p s m args meth c cc own Ts nL D tys A) {k : Fin 4} {i : Nat} {x : Int64} (hdg : decode cc pc = .ok (.lload_n k, 1)) (j : Nat) (hi : (k : Nat) = i) (hj : lv[j]? = some (i, .long x)) (k : WW p l e R s m args below meth c nL D A k9 n9 Q ws lv (pc + 1) (.long x :: rest)) : WW p l e R s m args below meth c nL D A k9 n9 Q ws lv pc rest :=
  fun H locs ls hP hD hS hl => lv_lload_n X.1 X.2.1 hdg hi (lv_at hl j hj) (k H locs ls hP hD hS hl)
theorem ww_iload (X : CX p s m args meth c cc own Ts nL D tys A) {i : Nat} {x : Int32} (hdg : decode cc pc = .ok (.iload i, 2)) (j : Nat) (hj : lv[j]? = some (i, .int x)) (k : WW p l e R s m args below meth c nL D A k9 n9 Q ws lv (pc + 2) (.int x :: rest)) : WW p l e R s m args below meth c nL D A k9 n9 Q ws lv pc rest :=
  fun H locs ls hP hD hS hl => lv_iload X.1 X.2.1 hdg (lv_at hl j hj) (k H locs ls hP hD hS hl)
theorem ww_aload (X : CX p s m args meth c cc own Ts nL D tys A) {i : Nat} {x : Nat} (hdg : decode cc pc = .ok (.aload i, 2)) (j : Nat) (hj : lv[j]? = some (i, .ref x)) (k : WW p l e R s m args below meth c nL D A k9 n9 Q ws lv (pc + 2) (.ref x :: rest)) : WW p l e R s m args below meth c nL D A k9 n9 Q ws lv pc rest :=
  fun H locs ls hP hD hS hl => lv_aload X.1 X.2.1 hdg (lv_at hl j hj) (k H locs ls hP hD hS hl)
theorem ww_istore_n (X : CX p s m args meth c cc own Ts nL D tys A) {k : Fin 4} {i : Nat} {x : Int32} {lv' : List (Nat × Value)} (hdg : decode cc pc = .ok (.istore_n k, 1)) (hi : (k : Nat) = i) (hn : i < nL) (hl : (i, Value.int x) :: lv.filter (fun q => !(q.1 == i) && !(q.1 + 1 == i && q.2.category == 2)) = lv') (kk : WW p l e R s m args below meth c nL D A k9 n9 Q ws lv' (pc + 1) rest) : WW p l e R s m args below meth c nL D A k9 n9 Q ws lv pc (.int x :: rest) :=
  fun H locs ls hP hD hS h => lv_istore_n X.1 X.2.1 hdg hi h hn hl (fun ls' h' => kk H locs ls' hP hD hS h')
theorem ww_astore_n (X : CX p s m args meth c cc own Ts nL D tys A) {k : Fin 4} {i : Nat} {x : Nat} {lv' : List (Nat × Value)} (hdg : decode cc pc = .ok (.astore_n k, 1)) (hi : (k : Nat) = i) (hn : i < nL) (hl : (i, Value.ref x) :: lv.filter (fun q => !(q.1 == i) && !(q.1 + 1 == i && q.2.category == 2)) = lv') (kk : WW p l e R s m args below meth c nL D A k9 n9 Q ws lv' (pc + 1) rest) : WW p l e R s m args below meth c nL D A k9 n9 Q ws lv pc (.ref x :: rest) :=
  fun H locs ls hP hD hS h => lv_astore_n X.1 X.2.1 hdg hi h hn hl (fun ls' h' => kk H locs ls' hP hD hS h')
theorem ww_lstore_n (X : CX p s m args meth c cc own Ts nL D tys A) {k : Fin 4} {i : Nat} {x : Int64} {lv' : List (Nat × Value)} (hdg : decode cc pc = .ok (.lstore_n k, 1)) (hi : (k : Nat) = i) (hn : i + 1 < nL) (hl : (i, Value.long x) :: lv.filter (fun q => !(q.1 == i) && (!(q.1 == i + 1) && !(q.1 + 1 == i && q.2.category == 2))) = lv') (kk : WW p l e R s m args below meth c nL D A k9 n9 Q ws lv' (pc + 1) rest) : WW p l e R s m args below meth c nL D A k9 n9 Q ws lv pc (.long x :: rest) :=
  fun H locs ls hP hD hS h => lv_lstore_n X.1 X.2.1 hdg hi h hn hl (fun ls' h' => kk H locs ls' hP hD hS h')
theorem ww_istore (X : CX p s m args meth c cc own Ts nL D tys A) {i : Nat} {x : Int32} {lv' : List (Nat × Value)} (hdg : decode cc pc = .ok (.istore i, 2)) (hn : i < nL) (hl : (i, Value.int x) :: lv.filter (fun q => !(q.1 == i) && !(q.1 + 1 == i && q.2.category == 2)) = lv') (kk : WW p l e R s m args below meth c nL D A k9 n9 Q ws lv' (pc + 2) rest) : WW p l e R s m args below meth c nL D A k9 n9 Q ws lv pc (.int x :: rest) :=
  fun H locs ls hP hD hS h => lv_istore X.1 X.2.1 hdg h hn hl (fun ls' h' => kk H locs ls' hP hD hS h')
theorem ww_astore (X : CX p s m args meth c cc own Ts nL D tys A) {i : Nat} {x : Nat} {lv' : List (Nat × Value)} (hdg : decode cc pc = .ok (.astore i, 2)) (hn : i < nL) (hl : (i, Value.ref x) :: lv.filter (fun q => !(q.1 == i) && !(q.1 + 1 == i && q.2.category == 2)) = lv') (kk : WW p l e R s m args below meth c nL D A k9 n9 Q ws lv' (pc + 2) rest) : WW p l e R s m args below meth c nL D A k9 n9 Q ws lv pc (.ref x :: rest) :=
  fun H locs ls hP hD hS h => lv_astore X.1 X.2.1 hdg h hn hl (fun ls' h' => kk H locs ls' hP hD hS h')
theorem ww_iinc (X : CX p s m args meth c cc own Ts nL D tys A) {i : Nat} {n : Int} {x v : Int32} {lv' : List (Nat × Value)} (hdg : decode cc pc = .ok (.iinc i n, 3)) (j : Nat) (hj : lv[j]? = some (i, .int x)) (hv : x + Int32.ofInt n = v) (hn : i < nL) (hl : (i, Value.int v) :: lv.filter (fun q => !(q.1 == i) && !(q.1 + 1 == i && q.2.category == 2)) = lv') (kk : WW p l e R s m args below meth c nL D A k9 n9 Q ws lv' (pc + 3) rest) : WW p l e R s m args below meth c nL D A k9 n9 Q ws lv pc rest :=
  fun H locs ls hP hD hS h => lv_iinc X.1 X.2.1 hdg h (k := j) hj hv hn hl (fun ls' h' => kk H locs ls' hP hD hS h')
theorem ww_if_eq (X : CX p s m args meth c cc own Ts nL D tys A) {x : Int32} {off : Int} {tgt : Nat} (hdg : decode cc pc = .ok (.ifCond .eq off, 3)) (ht : (pc : Int) + off = (tgt : Int)) (kt : x = 0 → WW p l e R s m args below meth c nL D A k9 n9 Q ws lv tgt rest) (kf : ¬ x = 0 → WW p l e R s m args below meth c nL D A k9 n9 Q ws lv (pc + 3) rest) : WW p l e R s m args below meth c nL D A k9 n9 Q ws lv pc (.int x :: rest) :=
  fun H locs ls hP hD hS hl => lv_if_eq X.1 X.2.1 hdg ht (fun q => kt q H locs ls hP hD hS hl) (fun q => kf q H locs ls hP hD hS hl)
theorem ww_if_ne (X : CX p s m args meth c cc own Ts nL D tys A) {x : Int32} {off : Int} {tgt : Nat} (hdg : decode cc pc = .ok (.ifCond .ne off, 3)) (ht : (pc : Int) + off = (tgt : Int)) (kt : ¬ x = 0 → WW p l e R s m args below meth c nL D A k9 n9 Q ws lv tgt rest) (kf : x = 0 → WW p l e R s m args below meth c nL D A k9 n9 Q ws lv (pc + 3) rest) : WW p l e R s m args below meth c nL D A k9 n9 Q ws lv pc (.int x :: rest) :=
  fun H locs ls hP hD hS hl => lv_if_ne X.1 X.2.1 hdg ht (fun q => kt q H locs ls hP hD hS hl) (fun q => kf q H locs ls hP hD hS hl)
theorem ww_if_lt (X : CX p s m args meth c cc own Ts nL D tys A) {x : Int32} {off : Int} {tgt : Nat} (hdg : decode cc pc = .ok (.ifCond .lt off, 3)) (ht : (pc : Int) + off = (tgt : Int)) (kt : x < 0 → WW p l e R s m args below meth c nL D A k9 n9 Q ws lv tgt rest) (kf : ¬ x < 0 → WW p l e R s m args below meth c nL D A k9 n9 Q ws lv (pc + 3) rest) : WW p l e R s m args below meth c nL D A k9 n9 Q ws lv pc (.int x :: rest) :=
  fun H locs ls hP hD hS hl => lv_if_lt X.1 X.2.1 hdg ht (fun q => kt q H locs ls hP hD hS hl) (fun q => kf q H locs ls hP hD hS hl)
theorem ww_if_ge (X : CX p s m args meth c cc own Ts nL D tys A) {x : Int32} {off : Int} {tgt : Nat} (hdg : decode cc pc = .ok (.ifCond .ge off, 3)) (ht : (pc : Int) + off = (tgt : Int)) (kt : 0 ≤ x → WW p l e R s m args below meth c nL D A k9 n9 Q ws lv tgt rest) (kf : ¬ 0 ≤ x → WW p l e R s m args below meth c nL D A k9 n9 Q ws lv (pc + 3) rest) : WW p l e R s m args below meth c nL D A k9 n9 Q ws lv pc (.int x :: rest) :=
  fun H locs ls hP hD hS hl => lv_if_ge X.1 X.2.1 hdg ht (fun q => kt q H locs ls hP hD hS hl) (fun q => kf q H locs ls hP hD hS hl)
theorem ww_if_gt (X : CX p s m args meth c cc own Ts nL D tys A) {x : Int32} {off : Int} {tgt : Nat} (hdg : decode cc pc = .ok (.ifCond .gt off, 3)) (ht : (pc : Int) + off = (tgt : Int)) (kt : 0 < x → WW p l e R s m args below meth c nL D A k9 n9 Q ws lv tgt rest) (kf : ¬ 0 < x → WW p l e R s m args below meth c nL D A k9 n9 Q ws lv (pc + 3) rest) : WW p l e R s m args below meth c nL D A k9 n9 Q ws lv pc (.int x :: rest) :=
  fun H locs ls hP hD hS hl => lv_if_gt X.1 X.2.1 hdg ht (fun q => kt q H locs ls hP hD hS hl) (fun q => kf q H locs ls hP hD hS hl)
theorem ww_if_le (X : CX p s m args meth c cc own Ts nL D tys A) {x : Int32} {off : Int} {tgt : Nat} (hdg : decode cc pc = .ok (.ifCond .le off, 3)) (ht : (pc : Int) + off = (tgt : Int)) (kt : x ≤ 0 → WW p l e R s m args below meth c nL D A k9 n9 Q ws lv tgt rest) (kf : ¬ x ≤ 0 → WW p l e R s m args below meth c nL D A k9 n9 Q ws lv (pc + 3) rest) : WW p l e R s m args below meth c nL D A k9 n9 Q ws lv pc (.int x :: rest) :=
  fun H locs ls hP hD hS hl => lv_if_le X.1 X.2.1 hdg ht (fun q => kt q H locs ls hP hD hS hl) (fun q => kf q H locs ls hP hD hS hl)
theorem ww_icmp_eq (X : CX p s m args meth c cc own Ts nL D tys A) {x y : Int32} {off : Int} {tgt : Nat} (hdg : decode cc pc = .ok (.if_icmp .eq off, 3)) (ht : (pc : Int) + off = (tgt : Int)) (kt : x = y → WW p l e R s m args below meth c nL D A k9 n9 Q ws lv tgt rest) (kf : ¬ x = y → WW p l e R s m args below meth c nL D A k9 n9 Q ws lv (pc + 3) rest) : WW p l e R s m args below meth c nL D A k9 n9 Q ws lv pc (.int y :: .int x :: rest) :=
  fun H locs ls hP hD hS hl => lv_icmp_eq X.1 X.2.1 hdg ht (fun q => kt q H locs ls hP hD hS hl) (fun q => kf q H locs ls hP hD hS hl)
theorem ww_icmp_ne (X : CX p s m args meth c cc own Ts nL D tys A) {x y : Int32} {off : Int} {tgt : Nat} (hdg : decode cc pc = .ok (.if_icmp .ne off, 3)) (ht : (pc : Int) + off = (tgt : Int)) (kt : ¬ x = y → WW p l e R s m args below meth c nL D A k9 n9 Q ws lv tgt rest) (kf : x = y → WW p l e R s m args below meth c nL D A k9 n9 Q ws lv (pc + 3) rest) : WW p l e R s m args below meth c nL D A k9 n9 Q ws lv pc (.int y :: .int x :: rest) :=
  fun H locs ls hP hD hS hl => lv_icmp_ne X.1 X.2.1 hdg ht (fun q => kt q H locs ls hP hD hS hl) (fun q => kf q H locs ls hP hD hS hl)
theorem ww_icmp_lt (X : CX p s m args meth c cc own Ts nL D tys A) {x y : Int32} {off : Int} {tgt : Nat} (hdg : decode cc pc = .ok (.if_icmp .lt off, 3)) (ht : (pc : Int) + off = (tgt : Int)) (kt : x < y → WW p l e R s m args below meth c nL D A k9 n9 Q ws lv tgt rest) (kf : ¬ x < y → WW p l e R s m args below meth c nL D A k9 n9 Q ws lv (pc + 3) rest) : WW p l e R s m args below meth c nL D A k9 n9 Q ws lv pc (.int y :: .int x :: rest) :=
  fun H locs ls hP hD hS hl => lv_icmp_lt X.1 X.2.1 hdg ht (fun q => kt q H locs ls hP hD hS hl) (fun q => kf q H locs ls hP hD hS hl)
theorem ww_icmp_ge (X : CX p s m args meth c cc own Ts nL D tys A) {x y : Int32} {off : Int} {tgt : Nat} (hdg : decode cc pc = .ok (.if_icmp .ge off, 3)) (ht : (pc : Int) + off = (tgt : Int)) (kt : y ≤ x → WW p l e R s m args below meth c nL D A k9 n9 Q ws lv tgt rest) (kf : ¬ y ≤ x → WW p l e R s m args below meth c nL D A k9 n9 Q ws lv (pc + 3) rest) : WW p l e R s m args below meth c nL D A k9 n9 Q ws lv pc (.int y :: .int x :: rest) :=
  fun H locs ls hP hD hS hl => lv_icmp_ge X.1 X.2.1 hdg ht (fun q => kt q H locs ls hP hD hS hl) (fun q => kf q H locs ls hP hD hS hl)
theorem ww_icmp_gt (X : CX p s m args meth c cc own Ts nL D tys A) {x y : Int32} {off : Int} {tgt : Nat} (hdg : decode cc pc = .ok (.if_icmp .gt off, 3)) (ht : (pc : Int) + off = (tgt : Int)) (kt : y < x → WW p l e R s m args below meth c nL D A k9 n9 Q ws lv tgt rest) (kf : ¬ y < x → WW p l e R s m args below meth c nL D A k9 n9 Q ws lv (pc + 3) rest) : WW p l e R s m args below meth c nL D A k9 n9 Q ws lv pc (.int y :: .int x :: rest) :=
  fun H locs ls hP hD hS hl => lv_icmp_gt X.1 X.2.1 hdg ht (fun q => kt q H locs ls hP hD hS hl) (fun q => kf q H locs ls hP hD hS hl)
theorem ww_icmp_le (X : CX p s m args meth c cc own Ts nL D tys A) {x y : Int32} {off : Int} {tgt : Nat} (hdg : decode cc pc = .ok (.if_icmp .le off, 3)) (ht : (pc : Int) + off = (tgt : Int)) (kt : x ≤ y → WW p l e R s m args below meth c nL D A k9 n9 Q ws lv tgt rest) (kf : ¬ x ≤ y → WW p l e R s m args below meth c nL D A k9 n9 Q ws lv (pc + 3) rest) : WW p l e R s m args below meth c nL D A k9 n9 Q ws lv pc (.int y :: .int x :: rest) :=
  fun H locs ls hP hD hS hl => lv_icmp_le X.1 X.2.1 hdg ht (fun q => kt q H locs ls hP hD hS hl) (fun q => kf q H locs ls hP hD hS hl)
theorem ww_goto (X : CX p s m args meth c cc own Ts nL D tys A) {off : Int} {tgt : Nat} (hdg : decode cc pc = .ok (.goto off, 3)) (ht : (pc : Int) + off = (tgt : Int)) (k : WW p l e R s m args below meth c nL D A k9 n9 Q ws lv tgt rest) : WW p l e R s m args below meth c nL D A k9 n9 Q ws lv pc rest :=
  fun H locs ls hP hD hS hl => lv_goto X.1 X.2.1 hdg ht (k H locs ls hP hD hS hl)
theorem ww_tableIn (X : CX p s m args meth c cc own Ts nL D tys A) {dflt lo hi : Int} {offs : Array Int} {len : Nat} {x : Int32} {off : Int} {tgt : Nat} (hdg : decode cc pc = .ok (.tableswitch dflt lo hi offs, len)) (h1 : ¬ x.toInt < lo) (h2 : ¬ hi < x.toInt) (ho : offs[(x.toInt - lo).toNat]? = some off) (ht : (pc : Int) + off = (tgt : Int)) (k : WW p l e R s m args below meth c nL D A k9 n9 Q ws lv tgt rest) : WW p l e R s m args below meth c nL D A k9 n9 Q ws lv pc (.int x :: rest) :=
  fun H locs ls hP hD hS hl => lv_tableIn X.1 X.2.1 hdg h1 h2 ho ht (k H locs ls hP hD hS hl)
theorem ww_tableOut (X : CX p s m args meth c cc own Ts nL D tys A) {dflt lo hi : Int} {offs : Array Int} {len : Nat} {x : Int32} {tgt : Nat} (hdg : decode cc pc = .ok (.tableswitch dflt lo hi offs, len)) (h : x.toInt < lo ∨ hi < x.toInt) (ht : (pc : Int) + dflt = (tgt : Int)) (k : WW p l e R s m args below meth c nL D A k9 n9 Q ws lv tgt rest) : WW p l e R s m args below meth c nL D A k9 n9 Q ws lv pc (.int x :: rest) :=
  fun H locs ls hP hD hS hl => lv_tableOut X.1 X.2.1 hdg h ht (k H locs ls hP hD hS hl)
theorem ww_lookup (X : CX p s m args meth c cc own Ts nL D tys A) {dflt : Int} {ps : Array (Int × Int)} {len : Nat} {x : Int32} {off : Int} {tgt : Nat} (hdg : decode cc pc = .ok (.lookupswitch dflt ps, len)) (hp : (ps.toList.zip (ps.toList.drop 1)).all (fun (a, next) => a.1 < next.1) = true) (ho : Op.lookupswitch.offset ps.toList dflt x.toInt = off) (ht : (pc : Int) + off = (tgt : Int)) (k : WW p l e R s m args below meth c nL D A k9 n9 Q ws lv tgt rest) : WW p l e R s m args below meth c nL D A k9 n9 Q ws lv pc (.int x :: rest) :=
  fun H locs ls hP hD hS hl => lv_lookup X.1 X.2.1 hdg hp ho ht (k H locs ls hP hD hS hl)
theorem ww_ldc (X : CX p s m args meth c cc own Ts nL D tys A) {index : Nat} {v : Int32} (hc : Cond.constant own index v ∈ Ts) (hdg : decode cc pc = .ok (.ldc index, 2)) (k : WW p l e R s m args below meth c nL D A k9 n9 Q ws lv (pc + 2) (.int v :: rest)) : WW p l e R s m args below meth c nL D A k9 n9 Q ws lv pc rest :=
  fun H locs ls hP hD hS hl => lv_ldc X.1 X.2.1 X.2.2.2.1 (X.2.2.2.2.1 _ hc) hdg (k H locs ls hP hD hS hl)
theorem ww_ldc2 (X : CX p s m args meth c cc own Ts nL D tys A) {index : Nat} {v : Int64} (hc : Cond.constantLong own index v ∈ Ts) (hdg : decode cc pc = .ok (.ldc2_w index, 3)) (k : WW p l e R s m args below meth c nL D A k9 n9 Q ws lv (pc + 3) (.long v :: rest)) : WW p l e R s m args below meth c nL D A k9 n9 Q ws lv pc rest :=
  fun H locs ls hP hD hS hl => lv_ldc2 X.1 X.2.1 X.2.2.2.1 (X.2.2.2.2.1 _ hc) hdg (k H locs ls hP hD hS hl)
theorem ww_get (X : CX p s m args meth c cc own Ts nL D tys A) {C : String} {T : u_T} {N ci index a : Nat} (hin : ∀ w ∈ u_ws C T N, w ∈ Ts) (q0 : Nat) {fs : List Value} (he : ws[q0]? = some (a, .inr (ci, fs))) (hc : vwCl[ci]? = some (C, T, N)) (k : Nat) (hk : k < N) (hm : Cond.fieldLink own index (T k).1 (T k).2.1 (T k).2.2.1 ∈ Ts) {v : Value} (hv : fs[k]? = some v) (hdg : decode cc pc = .ok (.getfield index, 3)) (kk : WW p l e R s m args below meth c nL D A k9 n9 Q ws lv (pc + 3) (v :: rest)) : WW p l e R s m args below meth c nL D A k9 n9 Q ws lv pc (.ref a :: rest) :=
  fun H locs ls hP hD hS hl => va_get X.1 X.2.1 X.2.2.2.2.1 hin X.2.2.2.1 X.2.2.2.2.2.1 hP q0 he hc k hk (X.2.2.2.2.1 _ hm) (fun _ h9 => h9) hv hdg (kk H locs ls hP hD hS hl)
theorem ww_put (X : CX p s m args meth c cc own Ts nL D tys A) {C : String} {T : u_T} {N ci index a : Nat} (hin : ∀ w ∈ u_ws C T N, w ∈ Ts) (ty0 : Nat → FieldType) (hty : ∀ k, k < N → parseFieldDescriptor (T k).2.2.1 = some (ty0 k)) (hnm : ∀ a, a < N → ∀ b, b < N → a ≠ b → (T a).2.1 ≠ (T b).2.1) (q0 : Nat) {fs : List Value} (he : ws[q0]? = some (a, .inr (ci, fs))) (hc : vwCl[ci]? = some (C, T, N)) (k : Nat) (hk : k < N) (hm : Cond.fieldLink own index (T k).1 (T k).2.1 (T k).2.2.1 ∈ Ts) (hfin : (T k).2.2.2 = false) {v : Value} (hn : narrow (ty0 k) v = v) (hfit : fits (ty0 k) v = true) (hl9 : k < fs.length) {ws' : va_W} (hw : ws.set q0 (a, .inr (ci, fs.set k v)) = ws') (hdg : decode cc pc = .ok (.putfield index, 3)) (kk : WW p l e R s m args below meth c nL D A k9 n9 Q ws' lv (pc + 3) rest) : WW p l e R s m args below meth c nL D A k9 n9 Q ws lv pc (v :: .ref a :: rest) :=
  fun H locs ls hP hD hS hl => va_put X.1 X.2.1 X.2.2.2.2.1 hin ty0 hty hnm X.2.2.2.1 X.2.2.2.2.2.1 hP hD hS q0 he hc k hk (X.2.2.2.2.1 _ hm) (fun _ h9 => h9) hfin (hty k hk) hn hfit hl9 hdg (fun H1 locs1 hP1 hD1 hS1 => kk H1 locs1 ls (by rw [← hw]; exact hP1) (by rw [← hw]; exact hD1) hS1 hl)
theorem ww_iald (X : CX p s m args meth c cc own Ts nL D tys A) {a : Nat} (q0 t0 : Nat) {cA : ClassId} {n : Nat} {f : Nat → Int32} (ha : ws[q0]? = some (a, .inl (cA, n, .inl f))) (ht : tys[t0]? = some (cA, .int)) {i : Int32} (hin : vp_in i n) (hdg : decode cc pc = .ok (.iaload, 1)) (kk : WW p l e R s m args below meth c nL D A k9 n9 Q ws lv (pc + 1) (.int (f i.toNatClampNeg) :: rest)) : WW p l e R s m args below meth c nL D A k9 n9 Q ws lv pc (.int i :: .ref a :: rest) :=
  fun H locs ls hP hD hS hl => va_iald X.1 X.2.1 X.2.2.2.2.2.1 hP q0 t0 ha ht hin hdg (kk H locs ls hP hD hS hl)
theorem ww_zald (X : CX p s m args meth c cc own Ts nL D tys A) {a : Nat} (q0 t0 : Nat) {cA : ClassId} {n : Nat} {f : Nat → Int32} (ha : ws[q0]? = some (a, .inl (cA, n, .inl f))) (ht : tys[t0]? = some (cA, .boolean)) {i : Int32} (hin : vp_in i n) (hdg : decode cc pc = .ok (.baload, 1)) (kk : WW p l e R s m args below meth c nL D A k9 n9 Q ws lv (pc + 1) (.int (f i.toNatClampNeg) :: rest)) : WW p l e R s m args below meth c nL D A k9 n9 Q ws lv pc (.int i :: .ref a :: rest) :=
  fun H locs ls hP hD hS hl => va_zald X.1 X.2.1 X.2.2.2.2.2.1 hP q0 t0 ha ht hin hdg (kk H locs ls hP hD hS hl)
theorem ww_iast (X : CX p s m args meth c cc own Ts nL D tys A) {a : Nat} (q0 t0 : Nat) {cA : ClassId} {n : Nat} {f : Nat → Int32} (ha : ws[q0]? = some (a, .inl (cA, n, .inl f))) (ht : tys[t0]? = some (cA, .int)) {i : Int32} {x : Int32} (hin : vp_in i n) {ws' : va_W} (hw : ws.set q0 (a, .inl (cA, n, .inl (upd f i.toNatClampNeg x))) = ws') (hdg : decode cc pc = .ok (.iastore, 1)) (kk : WW p l e R s m args below meth c nL D A k9 n9 Q ws' lv (pc + 1) rest) : WW p l e R s m args below meth c nL D A k9 n9 Q ws lv pc (.int x :: .int i :: .ref a :: rest) :=
  fun H locs ls hP hD hS hl => va_iast X.1 X.2.1 X.2.2.2.2.2.1 hP hD hS q0 t0 ha ht hin hdg (fun H1 locs1 hP1 hD1 hS1 => kk H1 locs1 ls (by rw [← hw]; exact hP1) (by rw [← hw]; exact hD1) hS1 hl)
theorem ww_zast (X : CX p s m args meth c cc own Ts nL D tys A) {a : Nat} (q0 t0 : Nat) {cA : ClassId} {n : Nat} {f : Nat → Int32} (ha : ws[q0]? = some (a, .inl (cA, n, .inl f))) (ht : tys[t0]? = some (cA, .boolean)) {i : Int32} {x : Int32} (hin : vp_in i n) (hx : vp_nar .boolean x = x) {ws' : va_W} (hw : ws.set q0 (a, .inl (cA, n, .inl (upd f i.toNatClampNeg x))) = ws') (hdg : decode cc pc = .ok (.bastore, 1)) (kk : WW p l e R s m args below meth c nL D A k9 n9 Q ws' lv (pc + 1) rest) : WW p l e R s m args below meth c nL D A k9 n9 Q ws lv pc (.int x :: .int i :: .ref a :: rest) :=
  fun H locs ls hP hD hS hl => va_zast X.1 X.2.1 X.2.2.2.2.2.1 hP hD hS q0 t0 ha ht hin hdg (fun H1 locs1 hP1 hD1 hS1 => kk H1 locs1 ls (by rw [hx] at hP1; rw [← hw]; exact hP1) (by rw [hx] at hD1; rw [← hw]; exact hD1) hS1 hl)
theorem ww_alen (X : CX p s m args meth c cc own Ts nL D tys A) {a : Nat} (q0 t0 : Nat) {cA : ClassId} {x : vp_A} (ha : ws[q0]? = some (a, .inl (cA, x))) {ty : FieldType} (ht : tys[t0]? = some (cA, ty)) {v : Int32} (hv : Int32.ofNat x.1 = v) (hdg : decode cc pc = .ok (.arraylength, 1)) (kk : WW p l e R s m args below meth c nL D A k9 n9 Q ws lv (pc + 1) (.int v :: rest)) : WW p l e R s m args below meth c nL D A k9 n9 Q ws lv pc (.ref a :: rest) :=
  fun H locs ls hP hD hS hl => va_alen X.1 X.2.1 X.2.2.2.2.2.1 hP q0 t0 ha ht hv hdg (kk H locs ls hP hD hS hl)
theorem ww_mmin (X : CX p s m args meth c cc own Ts nL D tys A) {x y : Int32} {index : Nat} (h1 : Cond.methodLink own index Lib.Math.min.name ∈ Ts) (h2 : Cond.static Lib.Math.min.name ∈ Ts) (h3 : Cond.initialized "java/lang/Math" ∈ Ts) (h4 : Cond.code Lib.Math.min.name Lib.Math.min.code 2 (some .int) ∈ Ts) (hf : 1 ≤ R.frames) (hlo : (rest.map fun v => v.category).sum + 13 ≤ R.locals) (hc : k9 ≤ R.cells) (hs : n9 ≤ R.slots) (hdg : decode cc pc = .ok (.invokestatic index, 3)) (kk : WW p l e R s m args below meth c nL D A k9 n9 Q ws lv (pc + 3) (.int (if y < x then y else x) :: rest)) : WW p l e R s m args below meth c nL D A k9 n9 Q ws lv pc (.int y :: .int x :: rest) :=
  fun H locs ls hP hD hS hl => va_mmin X.1 X.2.1 (X.2.2.1.trans hl.1.symm) X.2.2.2.1 (X.2.2.2.2.1 _ h1) (X.2.2.2.2.1 _ h2) (X.2.2.2.2.1 _ h3) (X.2.2.2.2.1 _ h4) hf hlo hc hs hdg (kk H locs ls hP hD hS hl)
theorem ww_mmax (X : CX p s m args meth c cc own Ts nL D tys A) {x y : Int32} {index : Nat} (h1 : Cond.methodLink own index Lib.Math.max.name ∈ Ts) (h2 : Cond.static Lib.Math.max.name ∈ Ts) (h3 : Cond.initialized "java/lang/Math" ∈ Ts) (h4 : Cond.code Lib.Math.max.name Lib.Math.max.code 2 (some .int) ∈ Ts) (hf : 1 ≤ R.frames) (hlo : (rest.map fun v => v.category).sum + 13 ≤ R.locals) (hc : k9 ≤ R.cells) (hs : n9 ≤ R.slots) (hdg : decode cc pc = .ok (.invokestatic index, 3)) (kk : WW p l e R s m args below meth c nL D A k9 n9 Q ws lv (pc + 3) (.int (if x < y then y else x) :: rest)) : WW p l e R s m args below meth c nL D A k9 n9 Q ws lv pc (.int y :: .int x :: rest) :=
  fun H locs ls hP hD hS hl => va_mmax X.1 X.2.1 (X.2.2.1.trans hl.1.symm) X.2.2.2.1 (X.2.2.2.2.1 _ h1) (X.2.2.2.2.1 _ h2) (X.2.2.2.2.1 _ h3) (X.2.2.2.2.1 _ h4) hf hlo hc hs hdg (kk H locs ls hP hD hS hl)
theorem ww_mabs (X : CX p s m args meth c cc own Ts nL D tys A) {x : Int32} {index : Nat} (h1 : Cond.methodLink own index Lib.Math.abs.name ∈ Ts) (h2 : Cond.static Lib.Math.abs.name ∈ Ts) (h3 : Cond.initialized "java/lang/Math" ∈ Ts) (h4 : Cond.code Lib.Math.abs.name Lib.Math.abs.code 1 (some .int) ∈ Ts) (hf : 1 ≤ R.frames) (hlo : (rest.map fun v => v.category).sum + 13 ≤ R.locals) (hc : k9 ≤ R.cells) (hs : n9 ≤ R.slots) (hdg : decode cc pc = .ok (.invokestatic index, 3)) (kk : WW p l e R s m args below meth c nL D A k9 n9 Q ws lv (pc + 3) (.int (if 0 ≤ x then x else 0 - x) :: rest)) : WW p l e R s m args below meth c nL D A k9 n9 Q ws lv pc (.int x :: rest) :=
  fun H locs ls hP hD hS hl => va_mabs X.1 X.2.1 (X.2.2.1.trans hl.1.symm) X.2.2.2.1 (X.2.2.2.2.1 _ h1) (X.2.2.2.2.1 _ h2) (X.2.2.2.2.1 _ h3) (X.2.2.2.2.1 _ h4) hf hlo hc hs hdg (kk H locs ls hP hD hS hl)
theorem ww_iret {r v : Int32} {w1 : va_W} {ty : FieldType} (X : CX p s m args meth c cc own Ts nL D tys A) (hr : meth.sig.returnType = some ty) (hn : narrow ty (.int v) = .int v) (hv : v = r) (hw : ws = w1) (hdg : decode cc pc = .ok (.ireturn, 1)) : WW p l e R s m args below meth c nL D A 0 0 (RQi below args s D A r w1) ws lv pc [.int v] :=
  fun H locs ls hP hD hS hl => W.zret X.1 X.2.1 hr hn (fun t ht hW => ⟨⟨v, (), rfl, hv, by rw [ht, ← hw]; exact hP, by rw [← hw]; exact hD⟩, hS.F ht⟩) hS.2.2 hdg X.2.2.2.2.2.2.2
theorem ww_vret {w1 : va_W} (X : CX p s m args meth c cc own Ts nL D tys A) (hr : meth.sig.returnType = none) (hw : ws = w1) (hdg : decode cc pc = .ok (.return_, 1)) : WW p l e R s m args below meth c nL D A 0 0 (RQv below args s D A w1) ws lv pc [] :=
  fun H locs ls hP hD hS hl => W.vret X.1 X.2.1 hr (fun t ht hW => ⟨⟨(), rfl, trivial, by rw [ht, ← hw]; exact hP, by rw [← hw]; exact hD⟩, hS.F ht⟩) hS.2.2 hdg X.2.2.2.2.2.2.2
end WWrows
theorem ci_of {l : Launch} {y : MethodName} {wsC ws' : List Cond} {rm : Room} {D : va_G} {tys : List (ClassId × FieldType)} {av : List Value} {w0 w1 : va_W} {r : Int32} {cc : ByteArray} {nL : Nat} {ty : FieldType} {lv0 : List (Nat × Value)}
    (hy : plainName y.cls = true) (hw : wsC = Cond.code y cc nL (some ty) :: ws') (hle : (lg_sl av).length ≤ nL) (hlv : lv_args 0 av = lv0)
    (body : ∀ (p : Program) (e : Env) (s : State) (m : MethodId) (args : Array Value) (below : List Frame) (meth : Method) (c : Code) (A : Nat → Prop), CX p s m args meth c cc y.cls wsC nL D tys A → meth.sig.returnType = some ty → WW p l e (headSpec wsC rm).room s m args below meth c nL D A 0 0 (RQi below args s D A r w1) w0 lv0 0 []) : Ci l y wsC rm D tys av w0 r w1 := by
  intro sz
  refine Met.ofW (cc := cc) (maxL := nL) (ret := some ty) hy hw ?_
  intro p e s m args below meth c s₁ B hml hv
  obtain ⟨rfl, hsz, hP, hK, hD0⟩ := hv
  subst hsz
  have hl := lv_entry av (n := nL) hle
  rw [hlv] at hl
  rw [lg_entry_eq]
  exact body p e s m _ below meth c (va_A w0 s.heap.size) ⟨B.exec, B.bytes, hml, findClass_of_methodNamed B.named, atoms_spec (ws := wsC) B.pre, hK, fun q h => Or.inr h, B.notSynchronized⟩ B.returns s.heap [] _ hP (hD0.self (sz := s.heap.size)) va_S.rf hl
theorem cv_of {l : Launch} {y : MethodName} {wsC ws' : List Cond} {rm : Room} {D : va_G} {tys : List (ClassId × FieldType)} {av : List Value} {w0 w1 : va_W} {cc : ByteArray} {nL : Nat} {lv0 : List (Nat × Value)}
    (hy : plainName y.cls = true) (hw : wsC = Cond.code y cc nL none :: ws') (hle : (lg_sl av).length ≤ nL) (hlv : lv_args 0 av = lv0)
    (body : ∀ (p : Program) (e : Env) (s : State) (m : MethodId) (args : Array Value) (below : List Frame) (meth : Method) (c : Code) (A : Nat → Prop), CX p s m args meth c cc y.cls wsC nL D tys A → meth.sig.returnType = none → WW p l e (headSpec wsC rm).room s m args below meth c nL D A 0 0 (RQv below args s D A w1) w0 lv0 0 []) : Cv l y wsC rm D tys av w0 w1 := by
  intro sz
  refine Met.ofW (cc := cc) (maxL := nL) (ret := none) hy hw ?_
  intro p e s m args below meth c s₁ B hml hv
  obtain ⟨rfl, hsz, hP, hK, hD0⟩ := hv
  subst hsz
  have hl := lv_entry av (n := nL) hle
  rw [hlv] at hl
  rw [lg_entry_eq]
  exact body p e s m _ below meth c (va_A w0 s.heap.size) ⟨B.exec, B.bytes, hml, findClass_of_methodNamed B.named, atoms_spec (ws := wsC) B.pre, hK, fun q h => Or.inr h, B.notSynchronized⟩ B.returns s.heap [] _ hP (hD0.self (sz := s.heap.size)) va_S.rf hl
section WWcalls
variable {p : Program} {l : Launch} {e : Env} {R : Room} {s : State} {m : MethodId} {args : Array Value} {below : List Frame} {meth : Method} {c : Code} {Q : State → Prop} {D : va_G} {A : Nat → Prop} {tys : List (ClassId × FieldType)} {nL k9 n9 : Nat} {cc : ByteArray} {own : String} {Ts : List Cond} {ws : va_W} {lv : List (Nat × Value)} {pc : Nat} {rest : List Value}
variable {y : MethodName} {bytes : ByteArray} {maxL index : Nat} {ret : Option FieldType} {wsC ws' : List Cond} {rm : Room} {C : String} {b : Nat} {As st : List Value} {w0 w1 wsN : va_W} {r : Int32}
theorem w_blind {D : va_G} {tys : List (ClassId × FieldType)} {av : List Value} {w0 : va_W} {sz : Nat} : FrameBlind (va_Pc av (fun U => U.heap.size = sz ∧ va_P D vwCl w0 U.heap ∧ va_K D vwCl tys U ∧ va_D (fun _ => True) w0)) :=
  fun a U g mk q => by obtain ⟨q0, q1, qP, qK, qD⟩ := q; exact ⟨q0, q1, qP, va_K.moved (u := U) (U := U.calling g mk a) (Vm.Alike.refl U.vm) qK, qD⟩
theorem w_pre {D : va_G} {tys : List (ClassId × FieldType)} {av : List Value} {w0 : va_W} {A : Nat → Prop} {s : State} {H : Heap} (hP : va_P D vwCl w0 H) (hK : va_K D vwCl tys s) (hD : va_D A w0) : ∀ U : State, U.heap = H → s.WarmedH U.vm → va_Pc av (fun U => U.heap.size = H.size ∧ va_P D vwCl w0 U.heap ∧ va_K D vwCl tys U ∧ va_D (fun _ => True) w0) av.toArray U :=
  fun U hU hW => ⟨rfl, by rw [hU], by rw [hU]; exact hP, va_K.moved hW.alike hK, hD.weaken (fun _ _ _ _ => trivial)⟩
theorem w_subP {D : va_G} {cl : List vw_C} {ws wc : va_W} {H : Heap} (hP : va_P D cl ws H) (isC : List Nat) (hC : isC.map (fun i => ws[i]?) = wc.map some) : va_P D cl wc H := by
  intro k q hq
  have h1 : (isC.map (fun i => ws[i]?))[k]? = some (some q) := by rw [hC, List.getElem?_map, hq]; rfl
  rw [List.getElem?_map] at h1
  cases hi : isC[k]? with
  | none => rw [hi] at h1; cases h1
  | some i => rw [hi] at h1; exact hP i q (Option.some.inj h1)
/-- a call of a method of an object -/
theorem ww_cVi (X : CX p s m args meth c cc own Ts nL D tys A) (hM : Ci l y wsC rm D tys (.ref b :: As) w0 r w1) (hG : GoodIn Ts (wsV own index C y wsC)) (hw : wsC = Cond.code y bytes maxL ret :: ws') (hd : y.cls = C ∧ y.cls ≠ "java/lang/invoke/MethodHandle" ∧ y.cls ≠ "java/lang/invoke/VarHandle" ∧ (parseMethodDescriptor y.desc).map (fun d => d.parameters.length) = some As.length) (isC : List Nat) (hC : isC.map (fun i => ws[i]?) = w0.map some) (hnd : va_nd isC = true) (hadr : w1.map Prod.fst = w0.map Prod.fst) (hwN : wput ws isC w1 = wsN) {ci q0 : Nat} {qc : vw_C} {fs : List Value} (hci : vwCl[ci]? = some qc) (hcn : qc.1 = C) (hrc : w0[q0]? = some (b, .inr (ci, fs))) (hst : st = As.reverse ++ .ref b :: rest) (hrm : rm.cells = 0 ∧ rm.slots = 0) (hR : rm.frames + 1 ≤ R.frames ∧ 8 + (maxL + 11) + rm.locals ≤ R.locals) (hrest : (rest.map fun v => v.category).sum ≤ 8) (hf : k9 ≤ R.cells ∧ n9 ≤ R.slots) (hdg : decode cc pc = .ok (.invokevirtual index, 3)) (kk : WW p l e R s m args below meth c nL D A k9 n9 Q wsN lv (pc + 3) (.int r :: rest)) : WW p l e R s m args below meth c nL D A k9 n9 Q ws lv pc st := by
  intro H locs ls hP hD hS hl
  have hPc := w_subP hP isC hC
  have hDc := hD.sub isC hnd hC
  have hFc := va_free (wc := w0) hD hS X.2.2.2.2.2.2.1 isC hC
  refine va_calli (va_runV (As := As) (rest := rest) (b := b) (C := C) ⟨X.1, X.2.1, X.2.2.1, X.2.2.2.1, X.2.2.2.2.1⟩ (hM H.size) (cwV As.length X.2.2.2.2.1 hG hw hrm.1 hrm.2 hd hR) ⟨w_blind, by rw [← hcn]; exact va_recv X.2.2.2.2.2.1 hPc hci hrc, w_pre hPc X.2.2.2.2.2.1 hDc⟩ rfl rfl hl.1 hst (lv_room hrest) hdg hf) hS (fun q _ h => hFc q h) hFc (fun r9 u t H1 locs1 ht hvm hw9 hB hz1 hk1 hS1 => ?_)
  obtain ⟨hP1, hD1⟩ := hB
  rw [ht] at hP1
  obtain ⟨hPn, hDn⟩ := w_join hP hD isC hC hadr hk1 hP1
  rw [hwN] at hPn hDn
  subst hw9
  exact kk H1 locs1 ls hPn hDn hS1 hl
/-- a call of a static method of the same home -/
theorem ww_cSi (X : CX p s m args meth c cc own Ts nL D tys A) (hM : Ci l y wsC rm D tys As w0 r w1) (hG : GoodIn Ts (wsS own index y wsC)) (hw : wsC = Cond.code y bytes maxL ret :: ws') (hd : y.cls = own ∧ y.cls ≠ "java/lang/invoke/MethodHandle" ∧ y.cls ≠ "java/lang/invoke/VarHandle" ∧ (parseMethodDescriptor y.desc).map (fun d => d.parameters.length) = some As.length) (isC : List Nat) (hC : isC.map (fun i => ws[i]?) = w0.map some) (hnd : va_nd isC = true) (hadr : w1.map Prod.fst = w0.map Prod.fst) (hwN : wput ws isC w1 = wsN) (hst : st = As.reverse ++ rest) (hrm : rm.cells = 0 ∧ rm.slots = 0) (hR : rm.frames + 1 ≤ R.frames ∧ 8 + (maxL + 11) + rm.locals ≤ R.locals) (hrest : (rest.map fun v => v.category).sum ≤ 8) (hf : k9 ≤ R.cells ∧ n9 ≤ R.slots) (hdg : decode cc pc = .ok (.invokestatic index, 3)) (kk : WW p l e R s m args below meth c nL D A k9 n9 Q wsN lv (pc + 3) (.int r :: rest)) : WW p l e R s m args below meth c nL D A k9 n9 Q ws lv pc st := by
  intro H locs ls hP hD hS hl
  have hPc := w_subP hP isC hC
  have hDc := hD.sub isC hnd hC
  have hFc := va_free (wc := w0) hD hS X.2.2.2.2.2.2.1 isC hC
  refine va_calli (va_runS (As := As) (rest := rest) ⟨X.1, X.2.1, X.2.2.1, X.2.2.2.1, X.2.2.2.2.1⟩ (hM H.size) (cwS As.length X.2.2.2.2.1 hG hw hrm.1 hrm.2 hd hR) ⟨w_blind, w_pre hPc X.2.2.2.2.2.1 hDc⟩ rfl rfl hl.1 hst (lv_room hrest) hdg hf) hS (fun q _ h => hFc q h) hFc (fun r9 u t H1 locs1 ht hvm hw9 hB hz1 hk1 hS1 => ?_)
  obtain ⟨hP1, hD1⟩ := hB
  rw [ht] at hP1
  obtain ⟨hPn, hDn⟩ := w_join hP hD isC hC hadr hk1 hP1
  rw [hwN] at hPn hDn
  subst hw9
  exact kk H1 locs1 ls hPn hDn hS1 hl
/-- a call of a method of an object -/
theorem ww_cVv (X : CX p s m args meth c cc own Ts nL D tys A) (hM : Cv l y wsC rm D tys (.ref b :: As) w0 w1) (hG : GoodIn Ts (wsV own index C y wsC)) (hw : wsC = Cond.code y bytes maxL ret :: ws') (hd : y.cls = C ∧ y.cls ≠ "java/lang/invoke/MethodHandle" ∧ y.cls ≠ "java/lang/invoke/VarHandle" ∧ (parseMethodDescriptor y.desc).map (fun d => d.parameters.length) = some As.length) (isC : List Nat) (hC : isC.map (fun i => ws[i]?) = w0.map some) (hnd : va_nd isC = true) (hadr : w1.map Prod.fst = w0.map Prod.fst) (hwN : wput ws isC w1 = wsN) {ci q0 : Nat} {qc : vw_C} {fs : List Value} (hci : vwCl[ci]? = some qc) (hcn : qc.1 = C) (hrc : w0[q0]? = some (b, .inr (ci, fs))) (hst : st = As.reverse ++ .ref b :: rest) (hrm : rm.cells = 0 ∧ rm.slots = 0) (hR : rm.frames + 1 ≤ R.frames ∧ 8 + (maxL + 11) + rm.locals ≤ R.locals) (hrest : (rest.map fun v => v.category).sum ≤ 8) (hf : k9 ≤ R.cells ∧ n9 ≤ R.slots) (hdg : decode cc pc = .ok (.invokevirtual index, 3)) (kk : WW p l e R s m args below meth c nL D A k9 n9 Q wsN lv (pc + 3) (rest)) : WW p l e R s m args below meth c nL D A k9 n9 Q ws lv pc st := by
  intro H locs ls hP hD hS hl
  have hPc := w_subP hP isC hC
  have hDc := hD.sub isC hnd hC
  have hFc := va_free (wc := w0) hD hS X.2.2.2.2.2.2.1 isC hC
  refine va_callv (va_runV (As := As) (rest := rest) (b := b) (C := C) ⟨X.1, X.2.1, X.2.2.1, X.2.2.2.1, X.2.2.2.2.1⟩ (hM H.size) (cwV As.length X.2.2.2.2.1 hG hw hrm.1 hrm.2 hd hR) ⟨w_blind, by rw [← hcn]; exact va_recv X.2.2.2.2.2.1 hPc hci hrc, w_pre hPc X.2.2.2.2.2.1 hDc⟩ rfl rfl hl.1 hst (lv_room hrest) hdg hf) hS (fun q _ h => hFc q h) hFc (fun u t H1 locs1 ht hvm hw9 hB hz1 hk1 hS1 => ?_)
  obtain ⟨hP1, hD1⟩ := hB
  rw [ht] at hP1
  obtain ⟨hPn, hDn⟩ := w_join hP hD isC hC hadr hk1 hP1
  rw [hwN] at hPn hDn
  exact kk H1 locs1 ls hPn hDn hS1 hl
/-- a call of a static method of the same home -/
theorem ww_cSv (X : CX p s m args meth c cc own Ts nL D tys A) (hM : Cv l y wsC rm D tys As w0 w1) (hG : GoodIn Ts (wsS own index y wsC)) (hw : wsC = Cond.code y bytes maxL ret :: ws') (hd : y.cls = own ∧ y.cls ≠ "java/lang/invoke/MethodHandle" ∧ y.cls ≠ "java/lang/invoke/VarHandle" ∧ (parseMethodDescriptor y.desc).map (fun d => d.parameters.length) = some As.length) (isC : List Nat) (hC : isC.map (fun i => ws[i]?) = w0.map some) (hnd : va_nd isC = true) (hadr : w1.map Prod.fst = w0.map Prod.fst) (hwN : wput ws isC w1 = wsN) (hst : st = As.reverse ++ rest) (hrm : rm.cells = 0 ∧ rm.slots = 0) (hR : rm.frames + 1 ≤ R.frames ∧ 8 + (maxL + 11) + rm.locals ≤ R.locals) (hrest : (rest.map fun v => v.category).sum ≤ 8) (hf : k9 ≤ R.cells ∧ n9 ≤ R.slots) (hdg : decode cc pc = .ok (.invokestatic index, 3)) (kk : WW p l e R s m args below meth c nL D A k9 n9 Q wsN lv (pc + 3) (rest)) : WW p l e R s m args below meth c nL D A k9 n9 Q ws lv pc st := by
  intro H locs ls hP hD hS hl
  have hPc := w_subP hP isC hC
  have hDc := hD.sub isC hnd hC
  have hFc := va_free (wc := w0) hD hS X.2.2.2.2.2.2.1 isC hC
  refine va_callv (va_runS (As := As) (rest := rest) ⟨X.1, X.2.1, X.2.2.1, X.2.2.2.1, X.2.2.2.2.1⟩ (hM H.size) (cwS As.length X.2.2.2.2.1 hG hw hrm.1 hrm.2 hd hR) ⟨w_blind, w_pre hPc X.2.2.2.2.2.1 hDc⟩ rfl rfl hl.1 hst (lv_room hrest) hdg hf) hS (fun q _ h => hFc q h) hFc (fun u t H1 locs1 ht hvm hw9 hB hz1 hk1 hS1 => ?_)
  obtain ⟨hP1, hD1⟩ := hB
  rw [ht] at hP1
  obtain ⟨hPn, hDn⟩ := w_join hP hD isC hC hadr hk1 hP1
  rw [hwN] at hPn hDn
  exact kk H1 locs1 ls hPn hDn hS1 hl
end WWcalls
