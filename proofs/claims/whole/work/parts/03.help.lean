theorem vl_in {x : Int32} {n : Nat} (h : (decide (0 ≤ x.toInt) && decide (x.toInt < (n : Int))) = true) : vp_in x n := by
  rw [Bool.and_eq_true, decide_eq_true_eq, decide_eq_true_eq] at h
  exact vp_in_iff.mpr h
theorem vn {x : Int32} {m n : Nat} (hx : x = nI m) (h : m < n) (hn : n < 2 ^ 31) : vp_in x n := by
  rw [hx]
  exact vp_in_nI h hn
theorem nat_iadd {x y : Int32} {a b : Nat} (hx : x = nI a) (hy : y = nI b) : x + y = nI (a + b) := by
  rw [hx, hy, nI_add]
theorem nat_imul {x y : Int32} {a b : Nat} (hx : x = nI a) (hy : y = nI b) : x * y = nI (a * b) := by
  rw [hx, hy, pk_mul]
theorem cl_eq {x : Int32} (h : ¬ x < 0) : x = nI x.toNatClampNeg := by
  obtain ⟨j, hj, rfl⟩ := nI_of h
  rw [nI_clamp hj]
theorem cl_lt (x : Int32) : x.toNatClampNeg < 2 ^ 31 := by
  rcases Int.lt_or_le x.toInt 0 with h | h
  · have : x.toNatClampNeg = 0 := by
      show x.toInt.toNat = 0
      omega
    omega
  · have h2 := Int32.toInt_lt x
    show x.toInt.toNat < 2 ^ 31
    omega
theorem lp_ge0 {bx : Int32} {B j : Nat} (hB : bx = nI B) (h : B ≤ j) (hj : j < 2 ^ 31) : bx ≤ nI j := by
  rw [hB]
  exact nI_le h hj
theorem lp_ge1 {bx : Int32} {B j : Nat} (hB : bx = nI B) (h : j < B) (hb : B < 2 ^ 31) : ¬ bx ≤ nI j := by
  rw [hB]
  exact nI_ge h hb
theorem lp_gt0 {bx : Int32} {b j : Nat} (hB : bx = nI b) (h : b + 1 ≤ j) (hj : j < 2 ^ 31) : bx < nI j := by
  rw [hB]
  exact nI_lt h hj
theorem lp_gt1 {bx : Int32} {b j : Nat} (hB : bx = nI b) (h : j < b + 1) (hb : b + 1 < 2 ^ 31) : ¬ bx < nI j := by
  rw [hB]
  exact nI_nlt (by omega) (by omega)
theorem lp_ge0c {bx : Int32} {j : Nat} (h : bx.toNatClampNeg ≤ j) (hj : j < 2 ^ 31) : bx ≤ nI j := by
  rw [Int32.le_iff_toInt_le, nI_toInt hj]
  have : bx.toInt.toNat ≤ j := h
  omega
theorem lp_ge1c {bx : Int32} {j : Nat} (h : j < bx.toNatClampNeg) : ¬ bx ≤ nI j := by
  have h2 : j < bx.toInt.toNat := h
  have h3 := Int32.toInt_lt bx
  rw [Int32.le_iff_toInt_le, nI_toInt (by omega)]
  omega
theorem vp_off {x c : Int32} {k n N : Nat} (h : vp_in x n) (hc : c = nI k) (hN : k + n ≤ N) (hs : N < 2 ^ 31) : vp_in (c + x) N := by
  obtain ⟨j, hj, rfl⟩ := vp_in_of h (by omega)
  rw [hc, nI_add]
  exact vp_in_nI (by omega) hs
theorem vp_mono {x : Int32} {n N : Nat} (h : vp_in x n) (hN : n ≤ N) : vp_in x N := fun q => h (q.elim Or.inl (fun q => Or.inr (Nat.le_trans hN q)))
theorem vin_lt {x N : Int32} {n : Nat} (h0 : ¬ x < 0) (h : x < N) (hN : N = nI n) : vp_in x n := by
  obtain ⟨j, hj, rfl⟩ := nI_of h0
  intro q
  rcases q with q | q
  · exact h0 q
  · rw [nI_clamp hj] at q
    rw [hN] at h
    exact nI_nlt q hj h
theorem vin_nge {x N : Int32} {n : Nat} (h0 : ¬ x < 0) (h : ¬ N ≤ x) (hN : N = nI n) : vp_in x n := vin_lt h0 (Int32.not_le.mp h) hN
theorem vin_ne {x N : Int32} {n : Nat} (h0 : ¬ x < 0) (h1 : x ≤ N) (h : ¬ x = N) (hN : N = nI n) : vp_in x n := by
  refine vin_lt h0 ?_ hN
  rw [Int32.lt_iff_toInt_lt]
  rw [Int32.le_iff_toInt_le] at h1
  have : x.toInt ≠ N.toInt := fun e => h (Int32.toInt_inj.mp e)
  omega
theorem ne_nle {x : Int32} (h : ¬ x ≤ 0) : ¬ x = 0 := fun e => h (by rw [e]; decide)
theorem aq {i : Int32} {k b n : Nat} {r : Nat → Nat} (h : i = nI k) (hk : k < n) (hn : n < 2 ^ 31 := by decide) : (fun z => if z < n then some (r (b + z)) else none) i.toNatClampNeg = some (r (b + k)) := by
  subst h
  simp only [nI_clamp (show k < 2 ^ 31 by omega), if_pos hk]
theorem c2_ {P : Nat → Prop} (h0 : P 0) (h1 : P 1) {k : Nat} (hk : k < 2) : P k := by
  rcases (show k = 0 ∨ k = 1 by omega) with rfl | rfl
  · exact h0
  · exact h1
theorem c6_ {P : Nat → Prop} (h0 : P 0) (h1 : P 1) (h2 : P 2) (h3 : P 3) (h4 : P 4) (h5 : P 5) {k : Nat} (hk : k < 6) : P k := by
  rcases (show k = 0 ∨ k = 1 ∨ k = 2 ∨ k = 3 ∨ k = 4 ∨ k = 5 by omega) with rfl | rfl | rfl | rfl | rfl | rfl
  · exact h0
  · exact h1
  · exact h2
  · exact h3
  · exact h4
  · exact h5
theorem c20_ {P : Nat → Prop} (h0 : P 0) (h1 : P 1) (h2 : P 2) (h3 : P 3) (h4 : P 4) (h5 : P 5) (h6 : P 6) (h7 : P 7) (h8 : P 8) (h9 : P 9) (h10 : P 10) (h11 : P 11) (h12 : P 12) (h13 : P 13) (h14 : P 14) (h15 : P 15) (h16 : P 16) (h17 : P 17) (h18 : P 18) (h19 : P 19) {k : Nat} (hk : k < 20) : P k := by
  rcases (show k = 0 ∨ k = 1 ∨ k = 2 ∨ k = 3 ∨ k = 4 ∨ k = 5 ∨ k = 6 ∨ k = 7 ∨ k = 8 ∨ k = 9 ∨ k = 10 ∨ k = 11 ∨ k = 12 ∨ k = 13 ∨ k = 14 ∨ k = 15 ∨ k = 16 ∨ k = 17 ∨ k = 18 ∨ k = 19 by omega) with rfl | rfl | rfl | rfl | rfl | rfl | rfl | rfl | rfl | rfl | rfl | rfl | rfl | rfl | rfl | rfl | rfl | rfl | rfl | rfl
  · exact h0
  · exact h1
  · exact h2
  · exact h3
  · exact h4
  · exact h5
  · exact h6
  · exact h7
  · exact h8
  · exact h9
  · exact h10
  · exact h11
  · exact h12
  · exact h13
  · exact h14
  · exact h15
  · exact h16
  · exact h17
  · exact h18
  · exact h19
theorem clb {x : Int32} {n : Nat} (h : vp_in x n) : x.toNatClampNeg < n := Nat.not_le.mp fun q => h (Or.inr q)
theorem cl_of {x : Int32} {n : Nat} (h : vp_in x n) : x = nI x.toNatClampNeg := cl_eq (fun q => h (Or.inl q))
section WWmore
variable {p : Program} {l : Launch} {e : Env} {R : Room} {s : State} {m : MethodId} {args : Array Value} {below : List Frame} {meth : Method} {c : Code} {Q : State → Prop} {D : va_G} {A : Nat → Prop} {nL k9 n9 : Nat} {ws ws' : va_W} {lv lv' : List (Nat × Value)} {pc : Nat} {st : List Value}
theorem ww_lsub (ks : List Nat) (hl : lv_pick lv ks = lv') (k : WW p l e R s m args below meth c nL D A k9 n9 Q ws lv' pc st) : WW p l e R s m args below meth c nL D A k9 n9 Q ws lv pc st :=
  fun H locs ls hP hD hS h => k H locs ls hP hD hS (lv_sub h ks hl)
theorem ww_cast (hw : ws = ws') (hl : lv = lv') (k : WW p l e R s m args below meth c nL D A k9 n9 Q ws lv pc st) : WW p l e R s m args below meth c nL D A k9 n9 Q ws' lv' pc st := by
  subst hw
  subst hl
  exact k
theorem ww_aald {cc : ByteArray} {own : String} {Ts : List Cond} {tys : List (ClassId × FieldType)} {rest : List Value} (X : CX p s m args meth c cc own Ts nL D tys A) {a : Nat} (q0 t0 : Nat) {cA : ClassId} {ty : FieldType} {n q : Nat} {f : Nat → Option Nat} (ha : ws[q0]? = some (a, .inl (cA, n, .inr (.inr (.inr (.inr f)))))) (ht : tys[t0]? = some (cA, .array ty)) {i : Int32} (hin : vp_in i n) (hq : f i.toNatClampNeg = some q) (hdg : decode cc pc = .ok (.aaload, 1)) (kk : WW p l e R s m args below meth c nL D A k9 n9 Q ws lv (pc + 1) (.ref q :: rest)) : WW p l e R s m args below meth c nL D A k9 n9 Q ws lv pc (.int i :: .ref a :: rest) := by
  intro H locs ls hP hD hS hl
  have hlt : i.toNatClampNeg < n := Nat.not_le.mp fun z => hin (Or.inr z)
  refine W.aald (v := .ref q) (ty := .array ty) X.1 X.2.1 (hP q0 _ ha) ((X.2.2.2.2.2.1.2 t0 _ ht).1 n (fun j => va_rf (f j))) rfl (fun z => by cases z) (by show ¬ (i < 0 ∨ (arrV _ _ _).slots.size ≤ _); rw [arrV_size]; exact hin) (by show (arrV _ _ _).slots[_]? = _; rw [arrV_read _ _ hlt, hq]; rfl) rfl rfl hdg (kk H locs ls hP hD hS hl)
theorem ww_castI {σ : Type} (F : σ → va_W) (G : σ → Int32 → List (Nat × Value)) {u u' : σ} {j : Nat} (h : u = u') (k : WW p l e R s m args below meth c nL D A k9 n9 Q (F u) (G u (nI (j + 1))) pc st) : WW p l e R s m args below meth c nL D A k9 n9 Q (F u') (G u' (nI j + 1)) pc st := by
  subst h
  rw [nI_1]
  exact k
theorem ww_copyi {cc : ByteArray} {own : String} {Ts : List Cond} {tys : List (ClassId × FieldType)} {rest : List Value} (X : CX p s m args meth c cc own Ts nL D tys A) {index : Nat} (h1 : Cond.methodLink own index arraycopyName ∈ Ts) (h2 : Cond.native arraycopyName ∈ Ts) (h3 : Cond.static arraycopyName ∈ Ts) (h4 : Cond.initialized "java/lang/System" ∈ Ts) (q0 q1 t0 t1 : Nat) {a a0 : Nat} {c0 c1 : ClassId} {n0 n1 : Nat} {f g : Nat → Int32} (ha0 : ws[q0]? = some (a0, .inl (c0, n0, .inl f))) (ha1 : ws[q1]? = some (a, .inl (c1, n1, .inl g))) (ht0 : tys[t0]? = some (c0, .int)) (ht1 : tys[t1]? = some (c1, .int))
    {sp dp n : Int32} (g1 : ¬ sp < 0) (g2 : ¬ dp < 0) (g3 : ¬ n < 0) (g4 : sp.toNatClampNeg + n.toNatClampNeg ≤ n0) (g5 : dp.toNatClampNeg + n.toNatClampNeg ≤ n1) (hf : 1 ≤ R.frames) (hlo : (rest.map fun v => v.category).sum + (nativeFrameWords "java/lang/System" "arraycopy" 5 + 11) ≤ R.locals) {ws'' : va_W} (hw : ws.set q1 (a, .inl (c1, n1, .inl (va_cpy f g sp.toNatClampNeg dp.toNatClampNeg n.toNatClampNeg))) = ws'') (hdg : decode cc pc = .ok (.invokestatic index, 3))
    (kk : WW p l e R s m args below meth c nL D A k9 n9 Q ws'' lv (pc + 3) rest) : WW p l e R s m args below meth c nL D A k9 n9 Q ws lv pc (.int n :: .int dp :: .ref a :: .int sp :: .ref a0 :: rest) :=
  fun H locs ls hP hD hS hl => va_copyi X.1 X.2.1 (X.2.2.1.trans hl.1.symm) X.2.2.2.1 (X.2.2.2.2.1 _ h1) (X.2.2.2.2.1 _ h2) (X.2.2.2.2.1 _ h3) (X.2.2.2.2.1 _ h4) X.2.2.2.2.2.1 hP hD hS q0 q1 t0 t1 ha0 ha1 ht0 ht1 rfl g1 g2 g3 g4 g5 (fun _ _ => rfl) hf hlo hdg (fun H1 locs1 hP1 hD1 hS1 => kk H1 locs1 ls (by rw [← hw]; exact hP1) (by rw [← hw]; exact hD1) hS1 hl)
end WWmore
