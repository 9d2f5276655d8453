/-- the world of the two objects -/
abbrev wAll (cI cZ cQ : ClassId) (g : Nat → Nat → Nat) (rM : Nat → Nat) (ST SX SL SD SF SP SI SN SB SM : St) : List va_W := [wX7 cI cZ cQ g ST, wX6 cI cZ cQ (g 1) SX, wX5 cI cZ cQ (g 2) SL, wX5 cI cZ cQ (g 3) SD, wX3 cI cZ cQ (g 4) SF, wX4 cI cZ cQ (g 5) SP, wX2 cI cZ cQ (g 6) SI, wX1 cI cZ cQ (g 7) SN, wX0 cI cZ cQ (g 8) SB, wX8 cI cZ cQ rM SM]
section LawR
variable {p : Program} {l : Launch} {e : Env} {s : State} {m : MethodId} {args : Array Value} {below : List Frame} {meth : Method} {c : Code} {Q : State → Prop} {Dg : va_G} {A : Nat → Prop} {k9 n9 : Nat} {cI cZ cQ : ClassId} {b Ls : Nat} {xs : Nat → Int32}
/-- behind a call of both -/
def LwK (p : Program) (l : Launch) (e : Env) (s : State) (m : MethodId) (args : Array Value) (below : List Frame) (meth : Method) (c : Code) (Dg : va_G) (A : Nat → Prop) (k9 n9 : Nat) (Q : State → Prop) (cI cZ cQ : ClassId) (b i : Nat) (rM : Nat → Nat) (h7 : Nat) : Prop :=
  ∀ (g : Nat → Nat → Nat) (ST SX SL SD SF SP SI SN SB SM : St), g 0 0 = h7 → Rel ST SX SL SF SP SI SN SB SM → WW p l e room_1 s m args below meth c 4 Dg A k9 n9 Q (fl (wAll cI cZ cQ g rM ST SX SL SD SF SP SI SN SB SM)) [(3, .int (nI i)), (2, .ref (rM 0)), (1, .ref h7), (0, .ref b)] 1002 []
theorem ww_sld {Ts : List Cond} {nL pc : Nat} {cc : ByteArray} {own : String} {tys : List (ClassId × FieldType)} {R : Room} {ws : va_W} {lv : List (Nat × Value)} {rest : List Value} (X : CX p s m args meth c cc own Ts nL Dg tys A) (hX : va_X b Ls xs s s.heap) (hbl : b < s.heap.size) (hbA : ¬ A b) {i : Int32} (hin : vp_in i Ls) (hdg : decode cc pc = .ok (.iaload, 1)) (kk : WW p l e R s m args below meth c nL Dg A k9 n9 Q ws lv (pc + 1) (.int (xs i.toNatClampNeg) :: rest)) : WW p l e R s m args below meth c nL Dg A k9 n9 Q ws lv pc (.int i :: .ref b :: rest) :=
  fun H locs ls hP hD hS hl => va_sld X.1 X.2.1 hX hbl hbA hS hin hdg (kk H locs ls hP hD hS hl)
theorem ww_slen {Ts : List Cond} {nL pc : Nat} {cc : ByteArray} {own : String} {tys : List (ClassId × FieldType)} {R : Room} {ws : va_W} {lv : List (Nat × Value)} {rest : List Value} (X : CX p s m args meth c cc own Ts nL Dg tys A) (hX : va_X b Ls xs s s.heap) (hbl : b < s.heap.size) (hbA : ¬ A b) (hdg : decode cc pc = .ok (.arraylength, 1)) (kk : WW p l e R s m args below meth c nL Dg A k9 n9 Q ws lv (pc + 1) (.int (nI Ls) :: rest)) : WW p l e R s m args below meth c nL Dg A k9 n9 Q ws lv pc (.ref b :: rest) :=
  fun H locs ls hP hD hS hl => va_slen X.1 X.2.1 hX hbl hbA hS hdg (kk H locs ls hP hD hS hl)
theorem in_s {i : Nat} (hi : i + 6 ≤ Ls) (hL : Ls ≤ 384) {n : Nat} (hn : n < 6) : vp_in (nI i + nI n) Ls := by
  rw [addI]
  exact vp_in_nI (by omega) (by omega)
theorem ww_perm {nL pc : Nat} {R : Room} {ws ws' : va_W} {lv : List (Nat × Value)} {st : List Value} (hp : ws.Perm ws') (kk : WW p l e R s m args below meth c nL Dg A k9 n9 Q ws' lv pc st) : WW p l e R s m args below meth c nL Dg A k9 n9 Q ws lv pc st :=
  fun H locs ls hP hD hS hl => kk H locs ls (va_P_mem.mpr (fun q hq => va_P_mem.mp hP q (hp.mem_iff.mpr hq))) (by
    obtain ⟨h1, h2⟩ := va_D_nd.mp hD
    exact va_D_nd.mpr ⟨(hp.map Prod.fst).nodup_iff.mp h1, fun q hq => h2 q (hp.mem_iff.mpr hq)⟩) hS hl
end LawR
theorem nd_t0 {T X L F P I N B M : St} (h : Rel T X L F P I N B M) : X.1 0 = M.1 0 := by
  obtain ⟨c, -, h0, h1, -⟩ := h.1
  rw [h0, h1]
theorem nd_t1 {T X L F P I N B M : St} (h : Rel T X L F P I N B M) : N.1 0 = M.1 4 := by
  obtain ⟨c, -, h0, h1, -⟩ := h.2.2.2.2.2.2.2.1
  rw [h0, h1]
theorem nd_t2 {T X L F P I N B M : St} (h : Rel T X L F P I N B M) : B.1 0 = M.1 5 := h.2.2.2.2.2.2.2.2.1
theorem nd_t3 {T X L F P I N B M : St} (h : Rel T X L F P I N B M) : P.1 1 = M.1 2 := by
  obtain ⟨n, c, -, -, -, h1, h2, -⟩ := h.2.2.2.2.1
  rw [h1, h2]
