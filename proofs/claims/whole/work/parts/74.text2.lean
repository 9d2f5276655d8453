/-- the model's draft, as a shore -/
def Dm (M : St) : St := (M.1, fun k => M.2 (k + 4))
def DSh (D M : St) : Prop := Sh D (Dm M)
section TextB
variable {X D M M' : St} {x y z : Int32} {len at0 : Nat}
theorem ds_d {c : Nat} {v a b : Int32} (h : DSh D M) (hc : nD D = c) (h4 : c < 4) (ht : 1 ≤ (D.1 0).toInt ∧ 1 ≤ (D.1 1).toInt) (v1 : 1 ≤ v.toInt) (v2 : v.toInt ≤ 200) (e5 : M'.2 5 = upd (M.2 5) 2 (nI (c + 1))) (e6 : M'.2 6 = upd (M.2 6) c v) (e7 : M'.2 7 = M.2 7) (e8 : M'.2 8 = M.2 8) : DSh (f_X5_add D 100 v a b) M' := by
  obtain ⟨ok, ⟨p0, p1, p2, p3, p4⟩, q1, q2, q3, q4⟩ := h
  have ec : D.1 2 = nI c := by rw [← hc]; exact nDI ok
  unfold f_X5_add f_X5_hasRoomFor
  rw [if_pos (show (100 : Int32) = 100 from rfl), ec, if_neg (show ¬ 4 ≤ nI c from nI_ge (b := 4) h4 (by omega)), if_neg ne10, if_pos (show (100 : Int32) = 100 from rfl), clI (by omega), show nI c + 1 = nI (c + 1) from addI c 1]
  have n2 : (sA (sI D 2 (nI (c + 1))) 0 (upd (D.2 0) c v)).1 2 = nI (c + 1) := sI_eq (S := D) (k := 2) (v := nI (c + 1))
  have ni : ∀ k : Nat, k ≠ 2 → (sA (sI D 2 (nI (c + 1))) 0 (upd (D.2 0) c v)).1 k = D.1 k := fun k hk => sI_ne hk
  have a0 : (sA (sI D 2 (nI (c + 1))) 0 (upd (D.2 0) c v)).2 0 = upd (D.2 0) c v := sA_eq
  have ai : ∀ k : Nat, k ≠ 0 → (sA (sI D 2 (nI (c + 1))) 0 (upd (D.2 0) c v)).2 k = D.2 k := fun k hk => sA_ne hk
  generalize sA (sI D 2 (nI (c + 1))) 0 (upd (D.2 0) c v) = E at n2 ni a0 ai ⊢
  have nd : nD E = c + 1 := by unfold nD; rw [n2, clI (by omega)]
  have np : nP E = nP D := by unfold nP; rw [ni 3 (by decide)]
  have ng : nG E = nG D := by unfold nG; rw [ni 4 (by decide)]
  refine ⟨⟨⟨by rw [n2]; exact nI_pos (by omega), by rw [ni 3 (by decide)]; exact ok.1.2.1, by rw [ni 4 (by decide)]; exact ok.1.2.2⟩, by rw [n2]; exact nI_le (b := 4) (by omega) (by omega), by rw [ni 3 (by decide)]; exact ok.2.2.1, by rw [ni 4 (by decide)]; exact ok.2.2.2⟩, ?_, ?_, ?_, ?_, ?_⟩
  · show M'.2 5 0 = _ ∧ M'.2 5 1 = _ ∧ M'.2 5 2 = _ ∧ M'.2 5 3 = _ ∧ M'.2 5 4 = _
    rw [e5, un (by decide), un (by decide), us, un (by decide), un (by decide), n2, ni 0 (by decide), ni 1 (by decide), ni 3 (by decide), ni 4 (by decide)]
    exact ⟨p0, p1, rfl, p3, p4⟩
  · intro d hd
    show M'.2 6 d = _ ∧ _
    rw [nd] at hd
    rw [e6, a0]
    by_cases e : d = c
    · subst e
      rw [us, us]
      exact ⟨rfl, v1, v2⟩
    · rw [un e, un e]
      exact q1 d (by omega)
  · intro p hp
    show M'.2 7 (2 * p) = _ ∧ M'.2 7 (2 * p + 1) = _ ∧ _
    rw [np] at hp
    rw [e7, ai 1 (by decide), ai 2 (by decide)]
    exact q2 p hp
  · intro g hg
    show M'.2 8 (3 * g) = _ ∧ M'.2 8 (3 * g + 1) = _ ∧ M'.2 8 (3 * g + 2) = _
    rw [ng] at hg
    rw [e8, ai 3 (by decide), ai 4 (by decide), ai 5 (by decide)]
    exact q3 g hg
  · rw [ni 0 (by decide), ni 1 (by decide)]
    exact Or.inr ht
theorem ds_p {c : Nat} {v w b : Int32} (h : DSh D M) (hc : nP D = c) (h4 : c < 7) (ht : 1 ≤ (D.1 0).toInt ∧ 1 ≤ (D.1 1).toInt) (v1 : 0 ≤ v.toInt) (w1 : 1 ≤ w.toInt) (w2 : w.toInt ≤ 150) (e5 : M'.2 5 = upd (M.2 5) 3 (nI (c + 1))) (e6 : M'.2 6 = M.2 6) (e7 : M'.2 7 = upd (upd (M.2 7) (2 * c) v) (2 * c + 1) w) (e8 : M'.2 8 = M.2 8) : DSh (f_X5_add D 112 v w b) M' := by
  obtain ⟨ok, ⟨p0, p1, p2, p3, p4⟩, q1, q2, q3, q4⟩ := h
  have ec : D.1 3 = nI c := by rw [← hc]; exact nPI ok
  unfold f_X5_add f_X5_hasRoomFor
  rw [if_neg (show ¬ (112 : Int32) = 100 by decide), if_neg (show ¬ (112 : Int32) = 103 by decide), if_pos (show (112 : Int32) = 112 from rfl), ec, if_neg (show ¬ 7 ≤ nI c from nI_ge (b := 7) h4 (by omega)), if_neg ne10, if_neg (show ¬ (112 : Int32) = 100 by decide), if_pos (show (112 : Int32) = 112 from rfl), clI (by omega), show nI c + 1 = nI (c + 1) from addI c 1]
  have n2 : (sA (sA (sI D 3 (nI (c + 1))) 1 (upd (D.2 1) c v)) 2 (upd (D.2 2) c w)).1 3 = nI (c + 1) := sI_eq (S := D) (k := 3) (v := nI (c + 1))
  have ni : ∀ k : Nat, k ≠ 3 → (sA (sA (sI D 3 (nI (c + 1))) 1 (upd (D.2 1) c v)) 2 (upd (D.2 2) c w)).1 k = D.1 k := fun k hk => sI_ne hk
  have a1 : (sA (sA (sI D 3 (nI (c + 1))) 1 (upd (D.2 1) c v)) 2 (upd (D.2 2) c w)).2 1 = upd (D.2 1) c v := by rw [sA_ne (by decide), sA_eq]
  have a2 : (sA (sA (sI D 3 (nI (c + 1))) 1 (upd (D.2 1) c v)) 2 (upd (D.2 2) c w)).2 2 = upd (D.2 2) c w := sA_eq
  have ai : ∀ k : Nat, k ≠ 1 → k ≠ 2 → (sA (sA (sI D 3 (nI (c + 1))) 1 (upd (D.2 1) c v)) 2 (upd (D.2 2) c w)).2 k = D.2 k := fun k hk h2 => by rw [sA_ne h2, sA_ne hk]; rfl
  generalize sA (sA (sI D 3 (nI (c + 1))) 1 (upd (D.2 1) c v)) 2 (upd (D.2 2) c w) = E at n2 ni a1 a2 ai ⊢
  have nd : nD E = nD D := by unfold nD; rw [ni 2 (by decide)]
  have np : nP E = c + 1 := by unfold nP; rw [n2, clI (by omega)]
  have ng : nG E = nG D := by unfold nG; rw [ni 4 (by decide)]
  refine ⟨⟨⟨by rw [ni 2 (by decide)]; exact ok.1.1, by rw [n2]; exact nI_pos (by omega), by rw [ni 4 (by decide)]; exact ok.1.2.2⟩, by rw [ni 2 (by decide)]; exact ok.2.1, by rw [n2]; exact nI_le (b := 7) (by omega) (by omega), by rw [ni 4 (by decide)]; exact ok.2.2.2⟩, ?_, ?_, ?_, ?_, ?_⟩
  · show M'.2 5 0 = _ ∧ M'.2 5 1 = _ ∧ M'.2 5 2 = _ ∧ M'.2 5 3 = _ ∧ M'.2 5 4 = _
    rw [e5, un (by decide), un (by decide), un (by decide), us, un (by decide), n2, ni 0 (by decide), ni 1 (by decide), ni 2 (by decide), ni 4 (by decide)]
    exact ⟨p0, p1, p2, rfl, p4⟩
  · intro d hd
    show M'.2 6 d = _ ∧ _
    rw [nd] at hd
    rw [e6, ai 0 (by decide) (by decide)]
    exact q1 d hd
  · intro p hp
    show M'.2 7 (2 * p) = _ ∧ M'.2 7 (2 * p + 1) = _ ∧ _
    rw [np] at hp
    rw [e7, a1, a2]
    by_cases e : p = c
    · subst e
      rw [us, us, us, un (by omega), us]
      exact ⟨rfl, rfl, v1, w1, w2⟩
    · rw [un e, un e, un (show 2 * p ≠ 2 * c + 1 by omega), un (show 2 * p ≠ 2 * c by omega), un (show 2 * p + 1 ≠ 2 * c + 1 by omega), un (show 2 * p + 1 ≠ 2 * c by omega)]
      exact q2 p (by omega)
  · intro g hg
    show M'.2 8 (3 * g) = _ ∧ M'.2 8 (3 * g + 1) = _ ∧ M'.2 8 (3 * g + 2) = _
    rw [ng] at hg
    rw [e8, ai 3 (by decide) (by decide), ai 4 (by decide) (by decide), ai 5 (by decide) (by decide)]
    exact q3 g hg
  · rw [ni 0 (by decide), ni 1 (by decide)]
    exact Or.inr ht
theorem ds_g {c : Nat} {v w b : Int32} (h : DSh D M) (hc : nG D = c) (h4 : c < 6) (ht : 1 ≤ (D.1 0).toInt ∧ 1 ≤ (D.1 1).toInt) (e5 : M'.2 5 = upd (M.2 5) 4 (nI (c + 1))) (e6 : M'.2 6 = M.2 6) (e7 : M'.2 7 = M.2 7) (e8 : M'.2 8 = upd (upd (upd (M.2 8) (3 * c) v) (3 * c + 1) w) (3 * c + 2) b) : DSh (f_X5_add D 103 v w b) M' := by
  obtain ⟨ok, ⟨p0, p1, p2, p3, p4⟩, q1, q2, q3, q4⟩ := h
  have ec : D.1 4 = nI c := by rw [← hc]; exact nGI ok
  unfold f_X5_add f_X5_hasRoomFor
  rw [if_neg (show ¬ (103 : Int32) = 100 by decide), if_pos (show (103 : Int32) = 103 from rfl), ec, if_neg (show ¬ 6 ≤ nI c from nI_ge (b := 6) h4 (by omega)), if_neg ne10, if_neg (show ¬ (103 : Int32) = 100 by decide), if_neg (show ¬ (103 : Int32) = 112 by decide), if_neg (show ¬ (103 : Int32) = 115 by decide), clI (by omega), show nI c + 1 = nI (c + 1) from addI c 1]
  have n2 : (sA (sA (sA (sI D 4 (nI (c + 1))) 3 (upd (D.2 3) c v)) 4 (upd (D.2 4) c w)) 5 (upd (D.2 5) c b)).1 4 = nI (c + 1) := sI_eq (S := D) (k := 4) (v := nI (c + 1))
  have ni : ∀ k : Nat, k ≠ 4 → (sA (sA (sA (sI D 4 (nI (c + 1))) 3 (upd (D.2 3) c v)) 4 (upd (D.2 4) c w)) 5 (upd (D.2 5) c b)).1 k = D.1 k := fun k hk => sI_ne hk
  have a3 : (sA (sA (sA (sI D 4 (nI (c + 1))) 3 (upd (D.2 3) c v)) 4 (upd (D.2 4) c w)) 5 (upd (D.2 5) c b)).2 3 = upd (D.2 3) c v := by rw [sA_ne (by decide), sA_ne (by decide), sA_eq]
  have a4 : (sA (sA (sA (sI D 4 (nI (c + 1))) 3 (upd (D.2 3) c v)) 4 (upd (D.2 4) c w)) 5 (upd (D.2 5) c b)).2 4 = upd (D.2 4) c w := by rw [sA_ne (by decide), sA_eq]
  have a5 : (sA (sA (sA (sI D 4 (nI (c + 1))) 3 (upd (D.2 3) c v)) 4 (upd (D.2 4) c w)) 5 (upd (D.2 5) c b)).2 5 = upd (D.2 5) c b := sA_eq
  have ai : ∀ k : Nat, k < 3 → (sA (sA (sA (sI D 4 (nI (c + 1))) 3 (upd (D.2 3) c v)) 4 (upd (D.2 4) c w)) 5 (upd (D.2 5) c b)).2 k = D.2 k := fun k hk => by rw [sA_ne (by omega), sA_ne (by omega), sA_ne (by omega)]; rfl
  generalize sA (sA (sA (sI D 4 (nI (c + 1))) 3 (upd (D.2 3) c v)) 4 (upd (D.2 4) c w)) 5 (upd (D.2 5) c b) = E at n2 ni a3 a4 a5 ai ⊢
  have nd : nD E = nD D := by unfold nD; rw [ni 2 (by decide)]
  have np : nP E = nP D := by unfold nP; rw [ni 3 (by decide)]
  have ng : nG E = c + 1 := by unfold nG; rw [n2, clI (by omega)]
  refine ⟨⟨⟨by rw [ni 2 (by decide)]; exact ok.1.1, by rw [ni 3 (by decide)]; exact ok.1.2.1, by rw [n2]; exact nI_pos (by omega)⟩, by rw [ni 2 (by decide)]; exact ok.2.1, by rw [ni 3 (by decide)]; exact ok.2.2.1, by rw [n2]; exact nI_le (b := 6) (by omega) (by omega)⟩, ?_, ?_, ?_, ?_, ?_⟩
  · show M'.2 5 0 = _ ∧ M'.2 5 1 = _ ∧ M'.2 5 2 = _ ∧ M'.2 5 3 = _ ∧ M'.2 5 4 = _
    rw [e5, un (by decide), un (by decide), un (by decide), un (by decide), us, n2, ni 0 (by decide), ni 1 (by decide), ni 2 (by decide), ni 3 (by decide)]
    exact ⟨p0, p1, p2, p3, rfl⟩
  · intro d hd
    show M'.2 6 d = _ ∧ _
    rw [nd] at hd
    rw [e6, ai 0 (by decide)]
    exact q1 d hd
  · intro p hp
    show M'.2 7 (2 * p) = _ ∧ M'.2 7 (2 * p + 1) = _ ∧ _
    rw [np] at hp
    rw [e7, ai 1 (by decide), ai 2 (by decide)]
    exact q2 p hp
  · intro g hg
    show M'.2 8 (3 * g) = _ ∧ M'.2 8 (3 * g + 1) = _ ∧ M'.2 8 (3 * g + 2) = _
    rw [ng] at hg
    rw [e8, a3, a4, a5]
    by_cases e : g = c
    · subst e
      rw [us, us, us, us, un (show 3 * g ≠ 3 * g + 2 by omega), un (show 3 * g ≠ 3 * g + 1 by omega), us, un (show 3 * g + 1 ≠ 3 * g + 2 by omega), us]
      exact ⟨rfl, rfl, rfl⟩
    · rw [un e, un e, un e, un (show 3 * g ≠ 3 * c + 2 by omega), un (show 3 * g ≠ 3 * c + 1 by omega), un (show 3 * g ≠ 3 * c by omega), un (show 3 * g + 1 ≠ 3 * c + 2 by omega), un (show 3 * g + 1 ≠ 3 * c + 1 by omega), un (show 3 * g + 1 ≠ 3 * c by omega), un (show 3 * g + 2 ≠ 3 * c + 2 by omega), un (show 3 * g + 2 ≠ 3 * c + 1 by omega), un (show 3 * g + 2 ≠ 3 * c by omega)]
      exact q3 g (by omega)
  · rw [ni 0 (by decide), ni 1 (by decide)]
    exact Or.inr ht
theorem ds_s {v w b : Int32} (h : DSh D M) (ht : f_X5_isTold D = 0) (v1 : 1 ≤ v.toInt) (w1 : 1 ≤ w.toInt) (e5 : M'.2 5 = upd (upd (M.2 5) 0 v) 1 w) (e6 : M'.2 6 = M.2 6) (e7 : M'.2 7 = M.2 7) (e8 : M'.2 8 = M.2 8) : DSh (f_X5_add D 115 v w b) M' := by
  obtain ⟨ok, ⟨p0, p1, p2, p3, p4⟩, q1, q2, q3, q4⟩ := h
  unfold f_X5_add f_X5_hasRoomFor
  rw [if_neg (show ¬ (115 : Int32) = 100 by decide), if_neg (show ¬ (115 : Int32) = 103 by decide), if_neg (show ¬ (115 : Int32) = 112 by decide), if_pos (show (115 : Int32) = 115 from rfl), if_pos ht, if_neg ne10, if_neg (show ¬ (115 : Int32) = 100 by decide), if_neg (show ¬ (115 : Int32) = 112 by decide), if_pos (show (115 : Int32) = 115 from rfl)]
  have n0 : (sI (sI D 0 v) 1 w).1 0 = v := by rw [sI_ne (by decide), sI_eq]
  have n1 : (sI (sI D 0 v) 1 w).1 1 = w := sI_eq
  have ni : ∀ k : Nat, k ≠ 0 → k ≠ 1 → (sI (sI D 0 v) 1 w).1 k = D.1 k := fun k hk h1 => by rw [sI_ne h1, sI_ne hk]
  have ai : (sI (sI D 0 v) 1 w).2 = D.2 := rfl
  generalize sI (sI D 0 v) 1 w = E at n0 n1 ni ai ⊢
  have nd : nD E = nD D := by unfold nD; rw [ni 2 (by decide) (by decide)]
  have np : nP E = nP D := by unfold nP; rw [ni 3 (by decide) (by decide)]
  have ng : nG E = nG D := by unfold nG; rw [ni 4 (by decide) (by decide)]
  refine ⟨⟨⟨by rw [ni 2 (by decide) (by decide)]; exact ok.1.1, by rw [ni 3 (by decide) (by decide)]; exact ok.1.2.1, by rw [ni 4 (by decide) (by decide)]; exact ok.1.2.2⟩, by rw [ni 2 (by decide) (by decide)]; exact ok.2.1, by rw [ni 3 (by decide) (by decide)]; exact ok.2.2.1, by rw [ni 4 (by decide) (by decide)]; exact ok.2.2.2⟩, ?_, ?_, ?_, ?_, ?_⟩
  · show M'.2 5 0 = _ ∧ M'.2 5 1 = _ ∧ M'.2 5 2 = _ ∧ M'.2 5 3 = _ ∧ M'.2 5 4 = _
    rw [e5, n0, n1, ni 2 (by decide) (by decide), ni 3 (by decide) (by decide), ni 4 (by decide) (by decide), un (show (0 : Nat) ≠ 1 by decide), us, us, un (show (2 : Nat) ≠ 1 by decide), un (show (2 : Nat) ≠ 0 by decide), un (show (3 : Nat) ≠ 1 by decide), un (show (3 : Nat) ≠ 0 by decide), un (show (4 : Nat) ≠ 1 by decide), un (show (4 : Nat) ≠ 0 by decide)]
    exact ⟨rfl, rfl, p2, p3, p4⟩
  · intro d hd
    show M'.2 6 d = _ ∧ _
    rw [nd] at hd
    rw [e6, ai]
    exact q1 d hd
  · intro p hp
    show M'.2 7 (2 * p) = _ ∧ M'.2 7 (2 * p + 1) = _ ∧ _
    rw [np] at hp
    rw [e7, ai]
    exact q2 p hp
  · intro g hg
    show M'.2 8 (3 * g) = _ ∧ M'.2 8 (3 * g + 1) = _ ∧ M'.2 8 (3 * g + 2) = _
    rw [ng] at hg
    rw [e8, ai]
    exact q3 g hg
  · rw [n0, n1]
    exact Or.inr ⟨v1, w1⟩
end TextB
