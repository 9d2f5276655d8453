theorem vl_in {x : Int32} {n : Nat} (h : (decide (0 ≤ x.toInt) && decide (x.toInt < (n : Int))) = true) : vp_in x n := by
  rw [Bool.and_eq_true, decide_eq_true_eq, decide_eq_true_eq] at h
  exact vp_in_iff.mpr h
theorem vn {x : Int32} {m n : Nat} (hx : x = nI m) (h : m < n) (hn : n < 2 ^ 31) : vp_in x n := by
  rw [hx]
  exact vp_in_nI h hn
theorem nat_iadd {x y : Int32} {a b : Nat} (hx : x = nI a) (hy : y = nI b) : x + y = nI (a + b) := by
  rw [hx, hy, nI_add]
theorem nat_imul {x y : Int32} {a b : Nat} (hx : x = nI a) (hy : y = nI b) : x * y = nI (a * b) := by
  rw [hx, hy, pk_mul]
theorem cl_eq {x : Int32} (h : ¬ x < 0) : x = nI x.toNatClampNeg := by
  obtain ⟨j, hj, rfl⟩ := nI_of h
  rw [nI_clamp hj]
theorem cl_lt (x : Int32) : x.toNatClampNeg < 2 ^ 31 := by
  rcases Int.lt_or_le x.toInt 0 with h | h
  · have : x.toNatClampNeg = 0 := by
      show x.toInt.toNat = 0
      omega
    omega
  · have h2 := Int32.toInt_lt x
    show x.toInt.toNat < 2 ^ 31
    omega
theorem lp_ge0 {bx : Int32} {B j : Nat} (hB : bx = nI B) (h : B ≤ j) (hj : j < 2 ^ 31) : bx ≤ nI j := by
  rw [hB]
  exact nI_le h hj
theorem lp_ge1 {bx : Int32} {B j : Nat} (hB : bx = nI B) (h : j < B) (hb : B < 2 ^ 31) : ¬ bx ≤ nI j := by
  rw [hB]
  exact nI_ge h hb
theorem lp_gt0 {bx : Int32} {b j : Nat} (hB : bx = nI b) (h : b + 1 ≤ j) (hj : j < 2 ^ 31) : bx < nI j := by
  rw [hB]
  exact nI_lt h hj
theorem lp_gt1 {bx : Int32} {b j : Nat} (hB : bx = nI b) (h : j < b + 1) (hb : b + 1 < 2 ^ 31) : ¬ bx < nI j := by
  rw [hB]
  exact nI_nlt (by omega) (by omega)
theorem lp_ge0c {bx : Int32} {j : Nat} (h : bx.toNatClampNeg ≤ j) (hj : j < 2 ^ 31) : bx ≤ nI j := by
  rw [Int32.le_iff_toInt_le, nI_toInt hj]
  have : bx.toInt.toNat ≤ j := h
  omega
theorem lp_ge1c {bx : Int32} {j : Nat} (h : j < bx.toNatClampNeg) : ¬ bx ≤ nI j := by
  have h2 : j < bx.toInt.toNat := h
  have h3 := Int32.toInt_lt bx
  rw [Int32.le_iff_toInt_le, nI_toInt (by omega)]
  omega
theorem vp_off {x c : Int32} {k n N : Nat} (h : vp_in x n) (hc : c = nI k) (hN : k + n ≤ N) (hs : N < 2 ^ 31) : vp_in (c + x) N := by
  obtain ⟨j, hj, rfl⟩ := vp_in_of h (by omega)
  rw [hc, nI_add]
  exact vp_in_nI (by omega) hs
theorem vp_mono {x : Int32} {n N : Nat} (h : vp_in x n) (hN : n ≤ N) : vp_in x N := fun q => h (q.elim Or.inl (fun q => Or.inr (Nat.le_trans hN q)))
theorem vin_lt {x N : Int32} {n : Nat} (h0 : ¬ x < 0) (h : x < N) (hN : N = nI n) : vp_in x n := by
  obtain ⟨j, hj, rfl⟩ := nI_of h0
  intro q
  rcases q with q | q
  · exact h0 q
  · rw [nI_clamp hj] at q
    rw [hN] at h
    exact nI_nlt q hj h
theorem vin_nge {x N : Int32} {n : Nat} (h0 : ¬ x < 0) (h : ¬ N ≤ x) (hN : N = nI n) : vp_in x n := vin_lt h0 (Int32.not_le.mp h) hN
theorem vin_ne {x N : Int32} {n : Nat} (h0 : ¬ x < 0) (h1 : x ≤ N) (h : ¬ x = N) (hN : N = nI n) : vp_in x n := by
  refine vin_lt h0 ?_ hN
  rw [Int32.lt_iff_toInt_lt]
  rw [Int32.le_iff_toInt_le] at h1
  have : x.toInt ≠ N.toInt := fun e => h (Int32.toInt_inj.mp e)
  omega
theorem ne_nle {x : Int32} (h : ¬ x ≤ 0) : ¬ x = 0 := fun e => h (by rw [e]; decide)
theorem aq {i : Int32} {k b n : Nat} {r : Nat → Nat} (h : i = nI k) (hk : k < n) (hn : n < 2 ^ 31 := by decide) : (fun z => if z < n then some (r (b + z)) else none) i.toNatClampNeg = some (r (b + k)) := by
  subst h
  simp only [nI_clamp (show k < 2 ^ 31 by omega), if_pos hk]
theorem c2_ {P : Nat → Prop} (h0 : P 0) (h1 : P 1) {k : Nat} (hk : k < 2) : P k := by
  rcases (show k = 0 ∨ k = 1 by omega) with rfl | rfl
  · exact h0
  · exact h1
theorem c6_ {P : Nat → Prop} (h0 : P 0) (h1 : P 1) (h2 : P 2) (h3 : P 3) (h4 : P 4) (h5 : P 5) {k : Nat} (hk : k < 6) : P k := by
  rcases (show k = 0 ∨ k = 1 ∨ k = 2 ∨ k = 3 ∨ k = 4 ∨ k = 5 by omega) with rfl | rfl | rfl | rfl | rfl | rfl
  · exact h0
  · exact h1
  · exact h2
  · exact h3
  · exact h4
  · exact h5
theorem c20_ {P : Nat → Prop} (h0 : P 0) (h1 : P 1) (h2 : P 2) (h3 : P 3) (h4 : P 4) (h5 : P 5) (h6 : P 6) (h7 : P 7) (h8 : P 8) (h9 : P 9) (h10 : P 10) (h11 : P 11) (h12 : P 12) (h13 : P 13) (h14 : P 14) (h15 : P 15) (h16 : P 16) (h17 : P 17) (h18 : P 18) (h19 : P 19) {k : Nat} (hk : k < 20) : P k := by
  rcases (show k = 0 ∨ k = 1 ∨ k = 2 ∨ k = 3 ∨ k = 4 ∨ k = 5 ∨ k = 6 ∨ k = 7 ∨ k = 8 ∨ k = 9 ∨ k = 10 ∨ k = 11 ∨ k = 12 ∨ k = 13 ∨ k = 14 ∨ k = 15 ∨ k = 16 ∨ k = 17 ∨ k = 18 ∨ k = 19 by omega) with rfl | rfl | rfl | rfl | rfl | rfl | rfl | rfl | rfl | rfl | rfl | rfl | rfl | rfl | rfl | rfl | rfl | rfl | rfl | rfl
  · exact h0
  · exact h1
  · exact h2
  · exact h3
  · exact h4
  · exact h5
  · exact h6
  · exact h7
  · exact h8
  · exact h9
  · exact h10
  · exact h11
  · exact h12
  · exact h13
  · exact h14
  · exact h15
  · exact h16
  · exact h17
  · exact h18
  · exact h19
theorem clb {x : Int32} {n : Nat} (h : vp_in x n) : x.toNatClampNeg < n := Nat.not_le.mp fun q => h (Or.inr q)
theorem cl_of {x : Int32} {n : Nat} (h : vp_in x n) : x = nI x.toNatClampNeg := cl_eq (fun q => h (Or.inl q))
theorem lp_ge0e {bx b0 : Int32} {j : Nat} (e : bx = b0) (h : b0.toNatClampNeg ≤ j) (hj : j < 2 ^ 31) : bx ≤ nI j := by
  rw [e]
  exact lp_ge0c h hj
theorem lp_ge1e {bx b0 : Int32} {j : Nat} (e : bx = b0) (h : j < b0.toNatClampNeg) : ¬ bx ≤ nI j := by
  rw [e]
  exact lp_ge1c h
abbrev fl (gs : List va_W) : va_W := gs.flatten
def gpick : List va_W → List Bool → List va_W
  | g :: gs, true :: m => g :: gpick gs m
  | _ :: gs, false :: m => gpick gs m
  | _, _ => []
def grest : List va_W → List Bool → List va_W
  | _ :: gs, true :: m => grest gs m
  | g :: gs, false :: m => g :: grest gs m
  | gs, _ => gs
def gput : List va_W → List Bool → List va_W → List va_W
  | _ :: gs, true :: m, c :: cs => c :: gput gs m cs
  | g :: gs, false :: m, cs => g :: gput gs m cs
  | gs, _, _ => gs
theorem gpick_sub : ∀ (gs : List va_W) (m : List Bool), (gpick gs m).Sublist gs
  | [], m => by cases m <;> exact List.Sublist.refl _
  | g :: gs, [] => List.nil_sublist _
  | g :: gs, true :: m => List.Sublist.cons_cons _ (gpick_sub gs m)
  | g :: gs, false :: m => List.Sublist.cons _ (gpick_sub gs m)
theorem gpick_fsub : ∀ (gs : List va_W) (m : List Bool), (fl (gpick gs m)).Sublist (fl gs)
  | [], m => by cases m <;> exact List.Sublist.refl _
  | g :: gs, [] => List.nil_sublist _
  | g :: gs, true :: m => List.Sublist.append (List.Sublist.refl g) (gpick_fsub gs m)
  | g :: gs, false :: m => (gpick_fsub gs m).trans (List.sublist_append_right g (fl gs))
theorem gput_mem : ∀ (gs : List va_W) (m : List Bool) (cs : List va_W), cs.length = (gpick gs m).length → ∀ g ∈ gput gs m cs, g ∈ cs ∨ g ∈ grest gs m
  | [], m, cs, _, g, h => by cases m <;> exact absurd h (by simp [gput])
  | x :: gs, [], cs, _, g, h => Or.inr h
  | x :: gs, true :: m, [], hl, g, h => by simp [gpick] at hl
  | x :: gs, true :: m, c :: cs, hl, g, h => by
    rcases List.mem_cons.mp h with e | e
    · exact Or.inl (by rw [e]; exact List.mem_cons_self)
    · rcases gput_mem gs m cs (by simpa [gpick] using hl) g e with q | q
      · exact Or.inl (List.mem_cons_of_mem _ q)
      · exact Or.inr q
  | x :: gs, false :: m, cs, hl, g, h => by
    rcases List.mem_cons.mp h with e | e
    · exact Or.inr (by rw [e]; exact List.mem_cons_self)
    · rcases gput_mem gs m cs (by simpa [gpick] using hl) g e with q | q
      · exact Or.inl q
      · exact Or.inr (List.mem_cons_of_mem _ q)
theorem grest_mem : ∀ (gs : List va_W) (m : List Bool), ∀ g ∈ grest gs m, g ∈ gs
  | [], m, g, h => by cases m <;> exact h
  | x :: gs, [], g, h => h
  | x :: gs, true :: m, g, h => List.mem_cons_of_mem _ (grest_mem gs m g h)
  | x :: gs, false :: m, g, h => by
    rcases List.mem_cons.mp h with e | e
    · rw [e]; exact List.mem_cons_self
    · exact List.mem_cons_of_mem _ (grest_mem gs m g e)
/-- apart: no address of what is picked is one of the rest -/
theorem g_apart : ∀ (gs : List va_W) (m : List Bool), ((fl gs).map Prod.fst).Nodup → ∀ g ∈ gpick gs m, ∀ g' ∈ grest gs m, ∀ x ∈ g, ∀ y ∈ g', x.1 ≠ y.1
  | [], m, _, g, h => by cases m <;> exact absurd h List.not_mem_nil
  | z :: gs, [], _, g, h => absurd h List.not_mem_nil
  | z :: gs, b :: m, hn, g, h => by
    have hn' : (z.map Prod.fst ++ (fl gs).map Prod.fst).Nodup := by rw [← List.map_append]; exact hn
    obtain ⟨h1, h2, h3⟩ := List.nodup_append.mp hn'
    intro g' h' x hx y hy
    cases b with
    | true =>
      rcases List.mem_cons.mp h with e | e
      · subst e
        exact h3 x.1 (List.mem_map_of_mem hx) y.1 (List.mem_map_of_mem (List.mem_flatten.mpr ⟨g', grest_mem gs m g' h', hy⟩))
      · exact g_apart gs m h2 g e g' h' x hx y hy
    | false =>
      rcases List.mem_cons.mp h' with e | e
      · subst e
        exact fun q => h3 y.1 (List.mem_map_of_mem hy) x.1 (List.mem_map_of_mem (List.mem_flatten.mpr ⟨g, (gpick_sub gs m).subset h, hx⟩)) q.symm
      · exact g_apart gs m h2 g h g' e x hx y hy
theorem va_D_nd {A : Nat → Prop} {ws : va_W} : va_D A ws ↔ (ws.map Prod.fst).Nodup ∧ ∀ q ∈ ws, A q.1 := by
  constructor
  · intro h
    refine ⟨?_, fun q hq => ?_⟩
    · rw [List.Nodup, List.pairwise_iff_getElem]
      intro i j hi hj hij e
      rw [List.length_map] at hi hj
      rw [List.getElem_map, List.getElem_map] at e
      have := h.1 i j _ _ (List.getElem?_eq_getElem hi) (List.getElem?_eq_getElem hj) e
      omega
    · obtain ⟨k, hk⟩ := List.getElem?_of_mem hq
      exact h.2 k q hk
  · intro h
    refine ⟨fun i j p q hi hj e => ?_, fun k q hk => h.2 q (List.mem_of_getElem? hk)⟩
    have h1 := h.1
    rw [List.Nodup, List.pairwise_iff_getElem] at h1
    obtain ⟨hi1, hi2⟩ := List.getElem?_eq_some_iff.mp hi
    obtain ⟨hj1, hj2⟩ := List.getElem?_eq_some_iff.mp hj
    rcases Nat.lt_trichotomy i j with c | c | c
    · exact absurd (by rw [List.getElem_map, List.getElem_map, hi2, hj2]; exact e) (h1 i j (by rw [List.length_map]; exact hi1) (by rw [List.length_map]; exact hj1) c)
    · exact c
    · exact absurd (by rw [List.getElem_map, List.getElem_map, hi2, hj2]; exact e.symm) (h1 j i (by rw [List.length_map]; exact hj1) (by rw [List.length_map]; exact hi1) c)
theorem va_P_mem {D : va_G} {cl : List vw_C} {ws : va_W} {H : Heap} : va_P D cl ws H ↔ ∀ q ∈ ws, va_at D cl q H :=
  ⟨fun h q hq => by obtain ⟨k, hk⟩ := List.getElem?_of_mem hq; exact h k q hk, fun h k q hk => h q (List.mem_of_getElem? hk)⟩
theorem g_join {A : Nat → Prop} {D : va_G} {cl : List vw_C} {gs cs cs' : List va_W} {m : List Bool} {H H1 : Heap} (hP : va_P D cl (fl gs) H) (hD : va_D A (fl gs)) (hC : gpick gs m = cs) (hadr : cs'.map (fun g => g.map Prod.fst) = cs.map (fun g => g.map Prod.fst)) (hgd : (fl (gput gs m cs')).map Prod.fst = (fl gs).map Prod.fst)
    (hk : ∀ q : Nat, q < H.size → ¬ va_A (fl cs) H.size q → H1[q]? = H[q]?) (hP1 : va_P D cl (fl cs') H1) : va_P D cl (fl (gput gs m cs')) H1 ∧ va_D A (fl (gput gs m cs')) := by
  subst hC
  have hl : cs'.length = (gpick gs m).length := by
    have := congrArg List.length hadr
    simpa using this
  obtain ⟨hn, hA⟩ := va_D_nd.mp hD
  constructor
  · rw [va_P_mem]
    intro q hq
    obtain ⟨g, hg, hqg⟩ := List.mem_flatten.mp hq
    rcases gput_mem gs m cs' hl g hg with c | c
    · exact va_P_mem.mp hP1 q (List.mem_flatten.mpr ⟨g, c, hqg⟩)
    · have h1 := va_P_mem.mp hP q (List.mem_flatten.mpr ⟨g, grest_mem gs m g c, hqg⟩)
      refine h1.kept (hk q.1 h1.lt (fun h => ?_))
      rcases h with ⟨k2, e2, h⟩ | h
      · obtain ⟨g2, hg2, hq2⟩ := List.mem_flatten.mp (List.mem_of_getElem? h)
        exact g_apart gs m hn g2 hg2 g c (q.1, e2) hq2 q hqg rfl
      · have := h1.lt
        omega
  · rw [va_D_nd, hgd]
    refine ⟨hn, fun q hq => ?_⟩
    have : q.1 ∈ (fl gs).map Prod.fst := by rw [← hgd]; exact List.mem_map_of_mem hq
    obtain ⟨q0, h0, e0⟩ := List.mem_map.mp this
    rw [← e0]
    exact hA q0 h0
theorem gput_adr : ∀ (gs : List va_W) (m : List Bool) (cs' : List va_W), cs'.map (fun g => g.map Prod.fst) = (gpick gs m).map (fun g => g.map Prod.fst) → (fl (gput gs m cs')).map Prod.fst = (fl gs).map Prod.fst
  | [], m, cs', _ => by cases m <;> rfl
  | g :: gs, [], cs', _ => rfl
  | g :: gs, true :: m, [], h => by simp [gpick] at h
  | g :: gs, true :: m, c :: cs', h => by
    obtain ⟨h1, h2⟩ := List.cons.inj h
    have h1 : c.map Prod.fst = g.map Prod.fst := h1
    show ((c ++ fl (gput gs m cs')).map Prod.fst) = ((g ++ fl gs).map Prod.fst)
    rw [List.map_append, List.map_append, gput_adr gs m cs' h2, h1]
  | g :: gs, false :: m, cs', h => by
    show ((g ++ fl (gput gs m cs')).map Prod.fst) = ((g ++ fl gs).map Prod.fst)
    rw [List.map_append, List.map_append, gput_adr gs m cs' h]
section WWmore
variable {p : Program} {l : Launch} {e : Env} {R : Room} {s : State} {m : MethodId} {args : Array Value} {below : List Frame} {meth : Method} {c : Code} {Q : State → Prop} {D : va_G} {A : Nat → Prop} {nL k9 n9 : Nat} {ws ws' : va_W} {lv lv' : List (Nat × Value)} {pc : Nat} {st : List Value}
theorem ww_lsub (ks : List Nat) (hl : lv_pick lv ks = lv') (k : WW p l e R s m args below meth c nL D A k9 n9 Q ws lv' pc st) : WW p l e R s m args below meth c nL D A k9 n9 Q ws lv pc st :=
  fun H locs ls hP hD hS h => k H locs ls hP hD hS (lv_sub h ks hl)
theorem ww_cast (hw : ws = ws') (hl : lv = lv') (k : WW p l e R s m args below meth c nL D A k9 n9 Q ws lv pc st) : WW p l e R s m args below meth c nL D A k9 n9 Q ws' lv' pc st := by
  subst hw
  subst hl
  exact k
theorem ww_aald {cc : ByteArray} {own : String} {Ts : List Cond} {tys : List (ClassId × FieldType)} {rest : List Value} (X : CX p s m args meth c cc own Ts nL D tys A) {a : Nat} (q0 t0 : Nat) {cA : ClassId} {ty : FieldType} {n q : Nat} {f : Nat → Option Nat} (ha : ws[q0]? = some (a, .inl (cA, n, .inr (.inr (.inr (.inr f)))))) (ht : tys[t0]? = some (cA, .array ty)) {i : Int32} (hin : vp_in i n) (hq : f i.toNatClampNeg = some q) (hdg : decode cc pc = .ok (.aaload, 1)) (kk : WW p l e R s m args below meth c nL D A k9 n9 Q ws lv (pc + 1) (.ref q :: rest)) : WW p l e R s m args below meth c nL D A k9 n9 Q ws lv pc (.int i :: .ref a :: rest) := by
  intro H locs ls hP hD hS hl
  have hlt : i.toNatClampNeg < n := Nat.not_le.mp fun z => hin (Or.inr z)
  refine W.aald (v := .ref q) (ty := .array ty) X.1 X.2.1 (hP q0 _ ha) ((X.2.2.2.2.2.1.2 t0 _ ht).1 n (fun j => va_rf (f j))) rfl (fun z => by cases z) (by show ¬ (i < 0 ∨ (arrV _ _ _).slots.size ≤ _); rw [arrV_size]; exact hin) (by show (arrV _ _ _).slots[_]? = _; rw [arrV_read _ _ hlt, hq]; rfl) rfl rfl hdg (kk H locs ls hP hD hS hl)
theorem ww_castI {σ : Type} (F : σ → va_W) (G : σ → Int32 → List (Nat × Value)) {u u' : σ} {j : Nat} (h : u = u') (k : WW p l e R s m args below meth c nL D A k9 n9 Q (F u) (G u (nI (j + 1))) pc st) : WW p l e R s m args below meth c nL D A k9 n9 Q (F u') (G u' (nI j + 1)) pc st := by
  subst h
  rw [nI_1]
  exact k
theorem ww_copyi {cc : ByteArray} {own : String} {Ts : List Cond} {tys : List (ClassId × FieldType)} {rest : List Value} (X : CX p s m args meth c cc own Ts nL D tys A) {index : Nat} (h1 : Cond.methodLink own index arraycopyName ∈ Ts) (h2 : Cond.native arraycopyName ∈ Ts) (h3 : Cond.static arraycopyName ∈ Ts) (h4 : Cond.initialized "java/lang/System" ∈ Ts) (q0 q1 t0 t1 : Nat) {a a0 : Nat} {c0 c1 : ClassId} {n0 n1 : Nat} {f g : Nat → Int32} (ha0 : ws[q0]? = some (a0, .inl (c0, n0, .inl f))) (ha1 : ws[q1]? = some (a, .inl (c1, n1, .inl g))) (ht0 : tys[t0]? = some (c0, .int)) (ht1 : tys[t1]? = some (c1, .int))
    {sp dp n : Int32} (g1 : ¬ sp < 0) (g2 : ¬ dp < 0) (g3 : ¬ n < 0) (g4 : sp.toNatClampNeg + n.toNatClampNeg ≤ n0) (g5 : dp.toNatClampNeg + n.toNatClampNeg ≤ n1) (hf : 1 ≤ R.frames) (hlo : (rest.map fun v => v.category).sum + (nativeFrameWords "java/lang/System" "arraycopy" 5 + 11) ≤ R.locals) {ws'' : va_W} (hw : ws.set q1 (a, .inl (c1, n1, .inl (va_cpy f g sp.toNatClampNeg dp.toNatClampNeg n.toNatClampNeg))) = ws'') (hdg : decode cc pc = .ok (.invokestatic index, 3))
    (kk : WW p l e R s m args below meth c nL D A k9 n9 Q ws'' lv (pc + 3) rest) : WW p l e R s m args below meth c nL D A k9 n9 Q ws lv pc (.int n :: .int dp :: .ref a :: .int sp :: .ref a0 :: rest) :=
  fun H locs ls hP hD hS hl => va_copyi X.1 X.2.1 (X.2.2.1.trans hl.1.symm) X.2.2.2.1 (X.2.2.2.2.1 _ h1) (X.2.2.2.2.1 _ h2) (X.2.2.2.2.1 _ h3) (X.2.2.2.2.1 _ h4) X.2.2.2.2.2.1 hP hD hS q0 q1 t0 t1 ha0 ha1 ht0 ht1 rfl g1 g2 g3 g4 g5 (fun _ _ => rfl) hf hlo hdg (fun H1 locs1 hP1 hD1 hS1 => kk H1 locs1 ls (by rw [← hw]; exact hP1) (by rw [← hw]; exact hD1) hS1 hl)
end WWmore
section WWg
variable {p : Program} {l : Launch} {e : Env} {R : Room} {s : State} {m : MethodId} {args : Array Value} {below : List Frame} {meth : Method} {c : Code} {Q : State → Prop} {D : va_G} {A : Nat → Prop} {tys : List (ClassId × FieldType)} {nL k9 n9 : Nat} {cc : ByteArray} {own : String} {Ts : List Cond} {lv : List (Nat × Value)} {pc : Nat} {rest : List Value}
variable {y : MethodName} {bytes : ByteArray} {maxL index : Nat} {ret : Option FieldType} {wsC ws' : List Cond} {rm : Room} {C : String} {b : Nat} {As st : List Value} {gs cs cs' gsN : List va_W} {r : Int32}
theorem ww_gVi (X : CX p s m args meth c cc own Ts nL D tys A) (hM : Ci l y wsC rm D tys (.ref b :: As) (fl cs) r (fl cs')) (hG : GoodIn Ts (wsV own index C y wsC)) (hw : wsC = Cond.code y bytes maxL ret :: ws') (hd : y.cls = C ∧ y.cls ≠ "java/lang/invoke/MethodHandle" ∧ y.cls ≠ "java/lang/invoke/VarHandle" ∧ (parseMethodDescriptor y.desc).map (fun d => d.parameters.length) = some As.length) (mk : List Bool) (hC : gpick gs mk = cs) (hadr : cs'.map (fun g => g.map Prod.fst) = cs.map (fun g => g.map Prod.fst)) (hN : gput gs mk cs' = gsN) {ci gi qi : Nat} {qc : vw_C} {grp : va_W} {fs : List Value} (hci : vwCl[ci]? = some qc) (hcn : qc.1 = C) (hg : cs[gi]? = some grp) (hrc : grp[qi]? = some (b, .inr (ci, fs))) (hst : st = As.reverse ++ .ref b :: rest) (hrm : rm.cells = 0 ∧ rm.slots = 0) (hR : rm.frames + 1 ≤ R.frames ∧ 8 + (maxL + 11) + rm.locals ≤ R.locals) (hrest : (rest.map fun v => v.category).sum ≤ 8) (hf : k9 ≤ R.cells ∧ n9 ≤ R.slots) (hdg : decode cc pc = .ok (.invokevirtual index, 3)) (kk : WW p l e R s m args below meth c nL D A k9 n9 Q (fl gsN) lv (pc + 3) (.int r :: rest)) : WW p l e R s m args below meth c nL D A k9 n9 Q (fl gs) lv pc st := by
  intro H locs ls hP hD hS hl
  have hPc : va_P D vwCl (fl cs) H := va_P_mem.mpr (fun q hq => by
    obtain ⟨g, h1, h2⟩ := List.mem_flatten.mp hq
    rw [← hC] at h1
    exact va_P_mem.mp hP q (List.mem_flatten.mpr ⟨g, (gpick_sub gs mk).subset h1, h2⟩))
  have hDc : va_D A (fl cs) := by
    obtain ⟨h1, h2⟩ := va_D_nd.mp hD
    rw [va_D_nd, ← hC]
    exact ⟨((gpick_fsub gs mk).map Prod.fst).nodup h1, fun q hq => h2 q ((gpick_fsub gs mk).subset hq)⟩
  have hFc : ∀ q, va_A (fl cs) H.size q → A q := fun q h => by
    rcases h with ⟨k2, e2, h⟩ | h
    · exact hDc.2 k2 _ h
    · exact X.2.2.2.2.2.2.1 q (Nat.le_trans hS.1 h)
  have hrv : ∃ cell : Cell, H[b]? = some cell ∧ cell.vm.isStatics = false ∧ s.vm.findClass C = some cell.cls := by
    have hm : (b, (.inr (ci, fs) : va_E)) ∈ fl cs := List.mem_flatten.mpr ⟨grp, List.mem_of_getElem? hg, List.mem_of_getElem? hrc⟩
    obtain ⟨k3, h3⟩ := List.getElem?_of_mem hm
    rw [← hcn]
    exact va_recv X.2.2.2.2.2.1 hPc hci h3
  refine va_calli (va_runV (As := As) (rest := rest) (b := b) (C := C) ⟨X.1, X.2.1, X.2.2.1, X.2.2.2.1, X.2.2.2.2.1⟩ (hM H.size) (cwV As.length X.2.2.2.2.1 hG hw hrm.1 hrm.2 hd hR) ⟨w_blind, hrv, w_pre hPc X.2.2.2.2.2.1 hDc⟩ rfl rfl hl.1 hst (lv_room hrest) hdg hf) hS (fun q _ h => hFc q h) hFc (fun r9 u t H1 locs1 ht hvm hw9 hB hz1 hk1 hS1 => ?_)
  obtain ⟨hP1, hD1⟩ := hB
  rw [ht] at hP1
  obtain ⟨hPn, hDn⟩ := g_join hP hD hC hadr (gput_adr gs mk cs' (by rw [hC]; exact hadr)) hk1 hP1
  rw [hN] at hPn hDn
  subst hw9
  exact kk H1 locs1 ls hPn hDn hS1 hl
theorem ww_gSi (X : CX p s m args meth c cc own Ts nL D tys A) (hM : Ci l y wsC rm D tys As (fl cs) r (fl cs')) (hG : GoodIn Ts (wsS own index y wsC)) (hw : wsC = Cond.code y bytes maxL ret :: ws') (hd : y.cls = own ∧ y.cls ≠ "java/lang/invoke/MethodHandle" ∧ y.cls ≠ "java/lang/invoke/VarHandle" ∧ (parseMethodDescriptor y.desc).map (fun d => d.parameters.length) = some As.length) (mk : List Bool) (hC : gpick gs mk = cs) (hadr : cs'.map (fun g => g.map Prod.fst) = cs.map (fun g => g.map Prod.fst)) (hN : gput gs mk cs' = gsN) (hst : st = As.reverse ++ rest) (hrm : rm.cells = 0 ∧ rm.slots = 0) (hR : rm.frames + 1 ≤ R.frames ∧ 8 + (maxL + 11) + rm.locals ≤ R.locals) (hrest : (rest.map fun v => v.category).sum ≤ 8) (hf : k9 ≤ R.cells ∧ n9 ≤ R.slots) (hdg : decode cc pc = .ok (.invokestatic index, 3)) (kk : WW p l e R s m args below meth c nL D A k9 n9 Q (fl gsN) lv (pc + 3) (.int r :: rest)) : WW p l e R s m args below meth c nL D A k9 n9 Q (fl gs) lv pc st := by
  intro H locs ls hP hD hS hl
  have hPc : va_P D vwCl (fl cs) H := va_P_mem.mpr (fun q hq => by
    obtain ⟨g, h1, h2⟩ := List.mem_flatten.mp hq
    rw [← hC] at h1
    exact va_P_mem.mp hP q (List.mem_flatten.mpr ⟨g, (gpick_sub gs mk).subset h1, h2⟩))
  have hDc : va_D A (fl cs) := by
    obtain ⟨h1, h2⟩ := va_D_nd.mp hD
    rw [va_D_nd, ← hC]
    exact ⟨((gpick_fsub gs mk).map Prod.fst).nodup h1, fun q hq => h2 q ((gpick_fsub gs mk).subset hq)⟩
  have hFc : ∀ q, va_A (fl cs) H.size q → A q := fun q h => by
    rcases h with ⟨k2, e2, h⟩ | h
    · exact hDc.2 k2 _ h
    · exact X.2.2.2.2.2.2.1 q (Nat.le_trans hS.1 h)
  skip
  refine va_calli (va_runS (As := As) (rest := rest) ⟨X.1, X.2.1, X.2.2.1, X.2.2.2.1, X.2.2.2.2.1⟩ (hM H.size) (cwS As.length X.2.2.2.2.1 hG hw hrm.1 hrm.2 hd hR) ⟨w_blind, w_pre hPc X.2.2.2.2.2.1 hDc⟩ rfl rfl hl.1 hst (lv_room hrest) hdg hf) hS (fun q _ h => hFc q h) hFc (fun r9 u t H1 locs1 ht hvm hw9 hB hz1 hk1 hS1 => ?_)
  obtain ⟨hP1, hD1⟩ := hB
  rw [ht] at hP1
  obtain ⟨hPn, hDn⟩ := g_join hP hD hC hadr (gput_adr gs mk cs' (by rw [hC]; exact hadr)) hk1 hP1
  rw [hN] at hPn hDn
  subst hw9
  exact kk H1 locs1 ls hPn hDn hS1 hl
theorem ww_gVv (X : CX p s m args meth c cc own Ts nL D tys A) (hM : Cv l y wsC rm D tys (.ref b :: As) (fl cs) (fl cs')) (hG : GoodIn Ts (wsV own index C y wsC)) (hw : wsC = Cond.code y bytes maxL ret :: ws') (hd : y.cls = C ∧ y.cls ≠ "java/lang/invoke/MethodHandle" ∧ y.cls ≠ "java/lang/invoke/VarHandle" ∧ (parseMethodDescriptor y.desc).map (fun d => d.parameters.length) = some As.length) (mk : List Bool) (hC : gpick gs mk = cs) (hadr : cs'.map (fun g => g.map Prod.fst) = cs.map (fun g => g.map Prod.fst)) (hN : gput gs mk cs' = gsN) {ci gi qi : Nat} {qc : vw_C} {grp : va_W} {fs : List Value} (hci : vwCl[ci]? = some qc) (hcn : qc.1 = C) (hg : cs[gi]? = some grp) (hrc : grp[qi]? = some (b, .inr (ci, fs))) (hst : st = As.reverse ++ .ref b :: rest) (hrm : rm.cells = 0 ∧ rm.slots = 0) (hR : rm.frames + 1 ≤ R.frames ∧ 8 + (maxL + 11) + rm.locals ≤ R.locals) (hrest : (rest.map fun v => v.category).sum ≤ 8) (hf : k9 ≤ R.cells ∧ n9 ≤ R.slots) (hdg : decode cc pc = .ok (.invokevirtual index, 3)) (kk : WW p l e R s m args below meth c nL D A k9 n9 Q (fl gsN) lv (pc + 3) (rest)) : WW p l e R s m args below meth c nL D A k9 n9 Q (fl gs) lv pc st := by
  intro H locs ls hP hD hS hl
  have hPc : va_P D vwCl (fl cs) H := va_P_mem.mpr (fun q hq => by
    obtain ⟨g, h1, h2⟩ := List.mem_flatten.mp hq
    rw [← hC] at h1
    exact va_P_mem.mp hP q (List.mem_flatten.mpr ⟨g, (gpick_sub gs mk).subset h1, h2⟩))
  have hDc : va_D A (fl cs) := by
    obtain ⟨h1, h2⟩ := va_D_nd.mp hD
    rw [va_D_nd, ← hC]
    exact ⟨((gpick_fsub gs mk).map Prod.fst).nodup h1, fun q hq => h2 q ((gpick_fsub gs mk).subset hq)⟩
  have hFc : ∀ q, va_A (fl cs) H.size q → A q := fun q h => by
    rcases h with ⟨k2, e2, h⟩ | h
    · exact hDc.2 k2 _ h
    · exact X.2.2.2.2.2.2.1 q (Nat.le_trans hS.1 h)
  have hrv : ∃ cell : Cell, H[b]? = some cell ∧ cell.vm.isStatics = false ∧ s.vm.findClass C = some cell.cls := by
    have hm : (b, (.inr (ci, fs) : va_E)) ∈ fl cs := List.mem_flatten.mpr ⟨grp, List.mem_of_getElem? hg, List.mem_of_getElem? hrc⟩
    obtain ⟨k3, h3⟩ := List.getElem?_of_mem hm
    rw [← hcn]
    exact va_recv X.2.2.2.2.2.1 hPc hci h3
  refine va_callv (va_runV (As := As) (rest := rest) (b := b) (C := C) ⟨X.1, X.2.1, X.2.2.1, X.2.2.2.1, X.2.2.2.2.1⟩ (hM H.size) (cwV As.length X.2.2.2.2.1 hG hw hrm.1 hrm.2 hd hR) ⟨w_blind, hrv, w_pre hPc X.2.2.2.2.2.1 hDc⟩ rfl rfl hl.1 hst (lv_room hrest) hdg hf) hS (fun q _ h => hFc q h) hFc (fun u t H1 locs1 ht hvm hw9 hB hz1 hk1 hS1 => ?_)
  obtain ⟨hP1, hD1⟩ := hB
  rw [ht] at hP1
  obtain ⟨hPn, hDn⟩ := g_join hP hD hC hadr (gput_adr gs mk cs' (by rw [hC]; exact hadr)) hk1 hP1
  rw [hN] at hPn hDn
  exact kk H1 locs1 ls hPn hDn hS1 hl
theorem ww_gSv (X : CX p s m args meth c cc own Ts nL D tys A) (hM : Cv l y wsC rm D tys As (fl cs) (fl cs')) (hG : GoodIn Ts (wsS own index y wsC)) (hw : wsC = Cond.code y bytes maxL ret :: ws') (hd : y.cls = own ∧ y.cls ≠ "java/lang/invoke/MethodHandle" ∧ y.cls ≠ "java/lang/invoke/VarHandle" ∧ (parseMethodDescriptor y.desc).map (fun d => d.parameters.length) = some As.length) (mk : List Bool) (hC : gpick gs mk = cs) (hadr : cs'.map (fun g => g.map Prod.fst) = cs.map (fun g => g.map Prod.fst)) (hN : gput gs mk cs' = gsN) (hst : st = As.reverse ++ rest) (hrm : rm.cells = 0 ∧ rm.slots = 0) (hR : rm.frames + 1 ≤ R.frames ∧ 8 + (maxL + 11) + rm.locals ≤ R.locals) (hrest : (rest.map fun v => v.category).sum ≤ 8) (hf : k9 ≤ R.cells ∧ n9 ≤ R.slots) (hdg : decode cc pc = .ok (.invokestatic index, 3)) (kk : WW p l e R s m args below meth c nL D A k9 n9 Q (fl gsN) lv (pc + 3) (rest)) : WW p l e R s m args below meth c nL D A k9 n9 Q (fl gs) lv pc st := by
  intro H locs ls hP hD hS hl
  have hPc : va_P D vwCl (fl cs) H := va_P_mem.mpr (fun q hq => by
    obtain ⟨g, h1, h2⟩ := List.mem_flatten.mp hq
    rw [← hC] at h1
    exact va_P_mem.mp hP q (List.mem_flatten.mpr ⟨g, (gpick_sub gs mk).subset h1, h2⟩))
  have hDc : va_D A (fl cs) := by
    obtain ⟨h1, h2⟩ := va_D_nd.mp hD
    rw [va_D_nd, ← hC]
    exact ⟨((gpick_fsub gs mk).map Prod.fst).nodup h1, fun q hq => h2 q ((gpick_fsub gs mk).subset hq)⟩
  have hFc : ∀ q, va_A (fl cs) H.size q → A q := fun q h => by
    rcases h with ⟨k2, e2, h⟩ | h
    · exact hDc.2 k2 _ h
    · exact X.2.2.2.2.2.2.1 q (Nat.le_trans hS.1 h)
  skip
  refine va_callv (va_runS (As := As) (rest := rest) ⟨X.1, X.2.1, X.2.2.1, X.2.2.2.1, X.2.2.2.2.1⟩ (hM H.size) (cwS As.length X.2.2.2.2.1 hG hw hrm.1 hrm.2 hd hR) ⟨w_blind, w_pre hPc X.2.2.2.2.2.1 hDc⟩ rfl rfl hl.1 hst (lv_room hrest) hdg hf) hS (fun q _ h => hFc q h) hFc (fun u t H1 locs1 ht hvm hw9 hB hz1 hk1 hS1 => ?_)
  obtain ⟨hP1, hD1⟩ := hB
  rw [ht] at hP1
  obtain ⟨hPn, hDn⟩ := g_join hP hD hC hadr (gput_adr gs mk cs' (by rw [hC]; exact hadr)) hk1 hP1
  rw [hN] at hPn hDn
  exact kk H1 locs1 ls hPn hDn hS1 hl
end WWg
