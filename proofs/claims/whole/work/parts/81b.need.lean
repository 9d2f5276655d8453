section Need
variable {T X L F P I N B M : St} {x y z : Int32} {j d p q g : Nat}
theorem nd_L (h : Rel T X L F P I N B M) : okS L := h.2.2.1.1.2
theorem nd_N (h : Rel T X L F P I N B M) : okN L := h.2.2.1.1.1
theorem nd_P (h : Rel T X L F P I N B M) : vp_in (P.1 0) 20 := by
  obtain ⟨n, c, hn, -, h0, -⟩ := h.2.2.2.2.1
  rw [h0]
  exact vp_in_nI hn (by decide)
theorem nd_X0 (h : Rel T X L F P I N B M) : ¬ X.1 0 < 0 := by
  obtain ⟨c, hc, h0, -⟩ := h.1
  rw [h0]
  exact nI_pos (by omega)
theorem nd_l0 (h : Rel T X L F P I N B M) : ¬ M.1 0 < 0 ∧ M.1 0 ≤ 240 := by
  obtain ⟨c, hc, -, h0, -⟩ := h.1
  rw [h0]
  exact ⟨nI_pos (by omega), nI_le (b := 240) hc (by omega)⟩
theorem nd_d0 (h : Rel T X L F P I N B M) : ¬ M.1 2 < 0 ∧ M.1 2 ≤ 20 := by
  obtain ⟨n, c, -, hc, -, -, h0, -⟩ := h.2.2.2.2.1
  rw [h0]
  exact ⟨nI_pos (by omega), nI_le (b := 20) hc (by omega)⟩
theorem nd_F (h : Rel T X L F P I N B M) : (¬ N.1 0 < 0 ∧ N.1 0 ≤ 6) ∧ (¬ M.1 4 < 0 ∧ M.1 4 ≤ 6) := by
  obtain ⟨c, hc, h0, h1, -⟩ := h.2.2.2.2.2.2.2.1
  rw [h0, h1]
  exact ⟨⟨nI_pos (by omega), nI_le (b := 6) hc (by omega)⟩, nI_pos (by omega), nI_le (b := 6) hc (by omega)⟩
theorem nd_s (h : Rel T X L F P I N B M) : N.1 3 = 0 ∨ (¬ N.1 2 < 0 ∧ N.1 2 ≤ 124) := by
  have h4 := nD_le h.2.2.1.1
  obtain ⟨c, -, -, -, -, -, q⟩ := h.2.2.2.2.2.2.2.1
  by_cases e : N.1 3 = 0
  · exact Or.inl e
  · have hl := allL_len (Q := fitB L N c) (nD L)
    rw [(q e).2.1]
    exact Or.inr ⟨nI_pos (by omega), nI_le (b := 124) (by omega) (by omega)⟩
theorem nd_B (h : Rel T X L F P I N B M) : (¬ B.1 0 < 0 ∧ B.1 0 ≤ 15) ∧ (¬ M.1 5 < 0 ∧ M.1 5 ≤ 15) := by
  obtain ⟨a, b, c, -⟩ := h.2.2.2.2.2.2.2.2
  rw [a]
  exact ⟨⟨b, c⟩, b, c⟩
theorem nd_M (h : Rel T X L F P I N B M) : okM M := by
  have s := h.2.2.1
  have a := s.1
  have p := s.2.1
  unfold okM
  rw [k2, k3, k4, p.2.2.1, p.2.2.2.1, p.2.2.2.2]
  exact ⟨⟨a.1.1, a.2.1⟩, ⟨a.1.2.1, a.2.2.1⟩, a.1.2.2, a.2.2.2⟩
theorem nd_g (h : Rel T X L F P I N B M) : ¬ f_X8_isShore M = 0 → ¬ (M.2 1) ((1 : Int32)).toNatClampNeg = 0 := by
  have s := h.2.2.1
  intro k
  rw [k1, s.2.1.2.1]
  rcases s.2.2.2.2.2 with ⟨a, -⟩ | ⟨-, b⟩
  · refine absurd ?_ k
    unfold f_X8_isShore
    rw [k0, s.2.1.1, a]
    rfl
  · rw [fa_eq, show (0 : Int32).toInt = 0 from rfl]
    omega
theorem nd_r (h : Rel T X L F P I N B M) : 0 < ((M.2 1) ((2 : Int32)).toNatClampNeg).toNatClampNeg → ¬ (M.2 1) ((1 : Int32)).toNatClampNeg = 0 := by
  have s := h.2.2.1
  intro k
  rw [k2, Sh_nD s] at k
  rw [k1, s.2.1.2.1]
  rcases s.2.2.2.2.2 with ⟨-, -, a, -⟩ | ⟨-, b⟩
  · have e : nD L = 0 := by unfold nD; rw [a]; rfl
    omega
  · rw [fa_eq, show (0 : Int32).toInt = 0 from rfl]
    omega
theorem nd_W (h : Rel T X L F P I N B M) : ¬ f_X8_isPerson M x = 0 → okW M x := by
  have s := h.2.2.1
  have h4 := nD_le s.1
  have h7 := nP_le s.1
  intro k k2
  rw [eqP s] at k
  obtain ⟨p, hp, rfl⟩ := hasP k
  rw [mbe_ (by omega)] at k2
  have c : ¬ M.2 9 (8 + p) < 10 := fun q => k2 (if_pos q)
  obtain ⟨d, hd, e⟩ := below_d h.2.2.2.1.1 hp c
  rw [i8 (by omega), e, sub10 (by omega), i0 (by omega), (s.2.2.1 d hd).1]
  exact ⟨vp_in_nI (by omega) (by decide), (rate_pos s hd).2⟩
theorem nd_D (h : Rel T X L F P I N B M) : okD M := by
  have s := h.2.2.1
  have h4 := nD_le s.1
  intro x k
  rw [eqD s] at k
  obtain ⟨d, hd, rfl⟩ := hasD k
  rw [i0 (by omega), (s.2.2.1 d hd).1]
  exact (rate_pos s hd).2
theorem nd_f (h : Rel T X L F P I N B M) : okF M := by
  have h6 := nG_le h.2.2.1.1
  obtain ⟨c, hc, -, h1, q, -⟩ := h.2.2.2.2.2.2.2.1
  unfold okF
  rw [h1, clI (by omega)]
  refine ⟨hc, fun j hj => ?_⟩
  rw [t0 (by omega), t1 (by omega)]
  intro k
  obtain ⟨g, hg, e⟩ := (q j hj).2.2.2 k
  rw [e]
  exact vp_in_nI (by omega) (by decide)
theorem nd_b (h : Rel T X L F P I N B M) : okB M := by
  have h7 := nP_le h.2.2.1.1
  have b := h.2.2.2.2.2.2.2.2
  have hc := RB_le b
  refine ⟨hc, fun j hj => ?_⟩
  obtain ⟨-, -, p, hp, e⟩ := b.2.2.2 j hj
  rw [d0 (by omega), e]
  exact vp_in_nI (by omega) (by decide)
end Need
