abbrev St : Type := (Nat → Int32) × (Nat → Nat → Int32)
def sI (S : St) (k : Nat) (v : Int32) : St := (upd S.1 k v, S.2)
def sA (S : St) (j : Nat) (f : Nat → Int32) : St := (S.1, va_up S.2 j f)
abbrev tyL (cI cZ cQ : ClassId) : List (ClassId × FieldType) := [(cI, .int), (cZ, .boolean), (cQ, .array .int)]
abbrev wX0 (cI cZ cQ : ClassId) (r : Nat → Nat) (S : St) : va_W := [(r 0, .inr (0, [.ref (r 1), .ref (r 2), .int (S.1 0)])), (r 1, .inl (cI, 15, .inl (S.2 0))), (r 2, .inl (cI, 15, .inl (S.2 1)))]
abbrev wX1 (cI cZ cQ : ClassId) (r : Nat → Nat) (S : St) : va_W := [(r 0, .inr (1, [.ref (r 1), .ref (r 2), .ref (r 3), .int (S.1 0), .ref (r 4), .int (S.1 1), .ref (r 5), .int (S.1 2), .int (S.1 3)])), (r 1, .inl (cI, 6, .inl (S.2 0))), (r 2, .inl (cI, 6, .inl (S.2 1))), (r 3, .inl (cI, 6, .inl (S.2 2))), (r 4, .inl (cQ, 6, .inr (.inr (.inr (.inr (fun i => if i < 6 then some (r (6 + i)) else none)))))), (r 5, .inl (cI, 124, .inl (S.2 3))), (r 6, .inl (cI, 124, .inl (S.2 4))), (r 7, .inl (cI, 124, .inl (S.2 5))), (r 8, .inl (cI, 124, .inl (S.2 6))), (r 9, .inl (cI, 124, .inl (S.2 7))), (r 10, .inl (cI, 124, .inl (S.2 8))), (r 11, .inl (cI, 124, .inl (S.2 9)))]
abbrev wX2 (cI cZ cQ : ClassId) (r : Nat → Nat) (S : St) : va_W := [(r 0, .inr (2, [.ref (r 1), .ref (r 2), .ref (r 3)])), (r 1, .inl (cQ, 2, .inr (.inr (.inr (.inr (fun i => if i < 2 then some (r (4 + i)) else none)))))), (r 2, .inl (cI, 2, .inl (S.2 0))), (r 3, .inl (cZ, 2, .inl (S.2 1))), (r 4, .inl (cI, 35, .inl (S.2 2))), (r 5, .inl (cI, 35, .inl (S.2 3)))]
abbrev wX3 (cI cZ cQ : ClassId) (r : Nat → Nat) (S : St) : va_W := [(r 0, .inr (3, [.ref (r 1)])), (r 1, .inl (cI, 35, .inl (S.2 0)))]
abbrev wX4 (cI cZ cQ : ClassId) (r : Nat → Nat) (S : St) : va_W := [(r 0, .inr (4, [.ref (r 1), .int (S.1 0), .int (S.1 1)])), (r 1, .inl (cQ, 20, .inr (.inr (.inr (.inr (fun i => if i < 20 then some (r (2 + i)) else none)))))), (r 2, .inl (cI, 35, .inl (S.2 0))), (r 3, .inl (cI, 35, .inl (S.2 1))), (r 4, .inl (cI, 35, .inl (S.2 2))), (r 5, .inl (cI, 35, .inl (S.2 3))), (r 6, .inl (cI, 35, .inl (S.2 4))), (r 7, .inl (cI, 35, .inl (S.2 5))), (r 8, .inl (cI, 35, .inl (S.2 6))), (r 9, .inl (cI, 35, .inl (S.2 7))), (r 10, .inl (cI, 35, .inl (S.2 8))), (r 11, .inl (cI, 35, .inl (S.2 9))), (r 12, .inl (cI, 35, .inl (S.2 10))), (r 13, .inl (cI, 35, .inl (S.2 11))), (r 14, .inl (cI, 35, .inl (S.2 12))), (r 15, .inl (cI, 35, .inl (S.2 13))), (r 16, .inl (cI, 35, .inl (S.2 14))), (r 17, .inl (cI, 35, .inl (S.2 15))), (r 18, .inl (cI, 35, .inl (S.2 16))), (r 19, .inl (cI, 35, .inl (S.2 17))), (r 20, .inl (cI, 35, .inl (S.2 18))), (r 21, .inl (cI, 35, .inl (S.2 19)))]
abbrev wX5 (cI cZ cQ : ClassId) (r : Nat → Nat) (S : St) : va_W := [(r 0, .inr (5, [.int (S.1 0), .int (S.1 1), .int (S.1 2), .int (S.1 3), .int (S.1 4), .ref (r 1), .ref (r 2), .ref (r 3), .ref (r 4), .ref (r 5), .ref (r 6)])), (r 1, .inl (cI, 4, .inl (S.2 0))), (r 2, .inl (cI, 7, .inl (S.2 1))), (r 3, .inl (cI, 7, .inl (S.2 2))), (r 4, .inl (cI, 6, .inl (S.2 3))), (r 5, .inl (cI, 6, .inl (S.2 4))), (r 6, .inl (cI, 6, .inl (S.2 5)))]
abbrev wX6 (cI cZ cQ : ClassId) (r : Nat → Nat) (S : St) : va_W := [(r 0, .inr (6, [.ref (r 1), .ref (r 2), .int (S.1 0), .int (S.1 1), .int (S.1 2), .int (S.1 3)])), (r 1, .inl (cI, 240, .inl (S.2 0))), (r 2, .inl (cI, 3, .inl (S.2 1)))]
abbrev wX8 (cI cZ cQ : ClassId) (r : Nat → Nat) (S : St) : va_W := [(r 0, .inr (8, [.ref (r 1), .int (S.1 0), .int (S.1 1), .ref (r 2), .ref (r 3), .ref (r 4), .ref (r 5), .ref (r 6), .ref (r 7), .ref (r 8), .ref (r 9), .ref (r 10), .ref (r 11), .int (S.1 2), .ref (r 12), .ref (r 13), .ref (r 14), .int (S.1 3), .ref (r 15), .int (S.1 4), .ref (r 16), .int (S.1 5), .int (S.1 6), .int (S.1 7), .ref (r 17), .ref (r 18), .ref (r 19)])), (r 1, .inl (cI, 240, .inl (S.2 0))), (r 2, .inl (cI, 5, .inl (S.2 1))), (r 3, .inl (cI, 4, .inl (S.2 2))), (r 4, .inl (cI, 14, .inl (S.2 3))), (r 5, .inl (cI, 18, .inl (S.2 4))), (r 6, .inl (cI, 5, .inl (S.2 5))), (r 7, .inl (cI, 4, .inl (S.2 6))), (r 8, .inl (cI, 14, .inl (S.2 7))), (r 9, .inl (cI, 18, .inl (S.2 8))), (r 10, .inl (cI, 35, .inl (S.2 9))), (r 11, .inl (cI, 700, .inl (S.2 10))), (r 12, .inl (cI, 70, .inl (S.2 11))), (r 13, .inl (cI, 2, .inl (S.2 12))), (r 14, .inl (cZ, 2, .inl (S.2 13))), (r 15, .inl (cI, 18, .inl (S.2 14))), (r 16, .inl (cI, 30, .inl (S.2 15))), (r 17, .inl (cI, 6, .inl (S.2 16))), (r 18, .inl (cI, 124, .inl (S.2 17))), (r 19, .inl (cI, 744, .inl (S.2 18)))]
theorem ad0 (cI cZ cQ : ClassId) (r : Nat → Nat) (S S' : St) : (wX0 cI cZ cQ r S').map Prod.fst = (wX0 cI cZ cQ r S).map Prod.fst := rfl
theorem ad1 (cI cZ cQ : ClassId) (r : Nat → Nat) (S S' : St) : (wX1 cI cZ cQ r S').map Prod.fst = (wX1 cI cZ cQ r S).map Prod.fst := rfl
theorem ad2 (cI cZ cQ : ClassId) (r : Nat → Nat) (S S' : St) : (wX2 cI cZ cQ r S').map Prod.fst = (wX2 cI cZ cQ r S).map Prod.fst := rfl
theorem ad3 (cI cZ cQ : ClassId) (r : Nat → Nat) (S S' : St) : (wX3 cI cZ cQ r S').map Prod.fst = (wX3 cI cZ cQ r S).map Prod.fst := rfl
theorem ad4 (cI cZ cQ : ClassId) (r : Nat → Nat) (S S' : St) : (wX4 cI cZ cQ r S').map Prod.fst = (wX4 cI cZ cQ r S).map Prod.fst := rfl
theorem ad5 (cI cZ cQ : ClassId) (r : Nat → Nat) (S S' : St) : (wX5 cI cZ cQ r S').map Prod.fst = (wX5 cI cZ cQ r S).map Prod.fst := rfl
theorem ad6 (cI cZ cQ : ClassId) (r : Nat → Nat) (S S' : St) : (wX6 cI cZ cQ r S').map Prod.fst = (wX6 cI cZ cQ r S).map Prod.fst := rfl
theorem ad8 (cI cZ cQ : ClassId) (r : Nat → Nat) (S S' : St) : (wX8 cI cZ cQ r S').map Prod.fst = (wX8 cI cZ cQ r S).map Prod.fst := rfl
abbrev wX7 (cI cZ cQ : ClassId) (g : Nat → Nat → Nat) (S : St) : va_W := [(g 0 0, .inr (7, [.ref (g 1 0), .ref (g 2 0), .ref (g 3 0), .ref (g 4 0), .ref (g 5 0), .ref (g 6 0), .ref (g 7 0), .ref (g 8 0), .int (S.1 0)]))]
theorem ad7 (cI cZ cQ : ClassId) (g : Nat → Nat → Nat) (S S' : St) : (wX7 cI cZ cQ g S').map Prod.fst = (wX7 cI cZ cQ g S).map Prod.fst := rfl
theorem acons {g g' : va_W} {cs cs' : List va_W} (h : g'.map Prod.fst = g.map Prod.fst) (t : cs'.map (fun g => g.map Prod.fst) = cs.map (fun g => g.map Prod.fst)) : (g' :: cs').map (fun g => g.map Prod.fst) = (g :: cs).map (fun g => g.map Prod.fst) := by rw [List.map_cons, List.map_cons, t, h]
theorem cl_le {x N : Int32} {n : Nat} (h : x ≤ N) (hN : N = nI n) (hn : n < 2 ^ 31) : x.toNatClampNeg ≤ n := by
  subst hN
  rw [Int32.le_iff_toInt_le, nI_toInt hn] at h
  show x.toInt.toNat ≤ n
  omega
/-- how many there may be of what the text tells -/
def okS (S : St) : Prop := S.1 2 ≤ 4 ∧ S.1 3 ≤ 7 ∧ S.1 4 ≤ 6
def okN (S : St) : Prop := ¬ S.1 2 < 0 ∧ ¬ S.1 3 < 0 ∧ ¬ S.1 4 < 0
theorem okS_d {S : St} (h : okS S) : (S.1 2).toNatClampNeg ≤ 4 := cl_le h.1 rfl (by decide)
theorem okS_p {S : St} (h : okS S) : (S.1 3).toNatClampNeg ≤ 7 := cl_le h.2.1 rfl (by decide)
theorem okS_g {S : St} (h : okS S) : (S.1 4).toNatClampNeg ≤ 6 := cl_le h.2.2 rfl (by decide)
def cp35 (f g : Nat → Int32) : Nat → Int32 := va_cpy f g 0 0 35
theorem pb_in {x : Int32} (h : vp_in x 20) : vp_in (((x + 20) - 1) - ((x + 20) - 1) / 20 * 20) 20 := by
  obtain ⟨j, hj, rfl⟩ := vp_in_of h (by decide)
  have e : (nI j + 20) - 1 = nI (j + 19) := by
    rw [show (20 : Int32) = nI 20 from rfl, nI_add]
    exact nI_pred (j + 19)
  rw [e, show (20 : Int32) = nI 20 from rfl, pk_rem (by omega) (by decide) (by decide)]
  exact vp_in_nI (Nat.mod_lt _ (by decide)) (by decide)
