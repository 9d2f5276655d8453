section Past
variable {T X L F P I N B M M' : St} {x y : Int32} {j d p g : Nat}
theorem nI0 : (0 : Int32) = nI 0 := rfl
theorem clI {n : Nat} (h : n < 1000) : (nI n).toNatClampNeg = n := nI_clamp (by omega)
theorem addI (a b : Nat) : nI a + nI b = nI (a + b) := nat_iadd rfl rfl
theorem mulI (a b : Nat) : nI a * nI b = nI (a * b) := nat_imul rfl rfl
theorem inj_nI {a b : Nat} (ha : a < 2 ^ 31) (hb : b < 2 ^ 31) : (nI a = nI b) ↔ a = b := by
  rw [fa_eq, nI_toInt ha, nI_toInt hb]
  omega
theorem subI1 {c : Nat} (h : 0 < c) (hc : c < 2 ^ 31) : nI c - 1 = nI (c - 1) := by
  have e1 : (1 : Int32).toInt = 1 := rfl
  rw [fa_eq, fb_subI, nI_toInt (by omega), nI_toInt (by omega), e1]
  · omega
  · rw [nI_toInt (by omega), e1]; omega
  · rw [nI_toInt (by omega), e1]; omega
theorem cp_lt {f g : Nat → Int32} {i : Nat} (h : i < 35) : cp35 f g i = f i := by
  unfold cp35 va_cpy
  rw [if_pos ⟨by omega, by omega⟩]
  congr 1
  omega
/-- what a change leaves -/
def Same (is js : List Nat) (S S' : St) : Prop := (∀ k : Nat, k ∉ is → S'.1 k = S.1 k) ∧ ∀ k : Nat, k ∉ js → S'.2 k = S.2 k
theorem Same_rf {is js : List Nat} (S : St) : Same is js S S := ⟨fun _ _ => rfl, fun _ _ => rfl⟩
theorem Same_t {is js : List Nat} {S S' S'' : St} (h : Same is js S S') (h' : Same is js S' S'') : Same is js S S'' := ⟨fun k hk => (h'.1 k hk).trans (h.1 k hk), fun k hk => (h'.2 k hk).trans (h.2 k hk)⟩
theorem Same_w {is js is' js' : List Nat} {S S' : St} (h : Same is js S S') (hi : ∀ k ∈ is, k ∈ is') (hj : ∀ k ∈ js, k ∈ js') : Same is' js' S S' := ⟨fun k hk => h.1 k (fun q => hk (hi k q)), fun k hk => h.2 k (fun q => hk (hj k q))⟩
theorem Same_I {is js : List Nat} {S : St} {k : Nat} {v : Int32} (h : k ∈ is) : Same is js S (sI S k v) := ⟨fun i hi => sI_ne (fun e => hi (e ▸ h)), fun _ _ => rfl⟩
theorem Same_A {is js : List Nat} {S : St} {k : Nat} {f : Nat → Int32} (h : k ∈ js) : Same is js S (sA S k f) := ⟨fun _ _ => rfl, fun i hi => sA_ne (fun e => hi (e ▸ h))⟩
theorem Same_ot9 {S S' : St} (h : ot9 S S') : Same [] [9] S S' := ⟨fun k _ => by rw [h.1], fun k hk => h.2 k (fun e => hk (by rw [e]; exact List.mem_singleton.mpr rfl))⟩
/-- the life of the two sides, the boxes bounded -/
def RowB (L : St) (r m : Nat → Int32) : Prop := Row L r m ∧ ∀ p : Nat, p < nP L → 0 ≤ (m (15 + p)).toInt ∧ (m (15 + p)).toInt ≤ (m 0).toInt
theorem RowB_c {r r' m m' : Nat → Int32} (ok : okA L) (hr : ∀ i : Nat, i < 35 → r' i = r i) (hm : ∀ i : Nat, i < 35 → m' i = m i) (h : RowB L r m) : RowB L r' m' := by
  have h7 := nP_le ok
  have h6 := nG_le ok
  obtain ⟨⟨a, b, c⟩, e⟩ := h
  refine ⟨⟨?_, fun p hp => ?_, fun g hg => ?_⟩, fun p hp => ?_⟩
  · rw [hr 0 (by omega), hm 0 (by omega)]
    exact a
  · rw [hr (1 + p) (by omega), hr (8 + p) (by omega), hr (15 + p) (by omega), hr (22 + p) (by omega), hm (1 + p) (by omega), hm (8 + p) (by omega), hm (15 + p) (by omega), hm (22 + p) (by omega), hm 0 (by omega)]
    exact b p hp
  · rw [hr (29 + g) (by omega), hm (29 + g) (by omega)]
    exact c g hg
  · rw [hm (15 + p) (by omega), hm 0 (by omega)]
    exact e p hp
/-- what can be undone -/
def RPa (L P M : St) : Prop := ∃ n c : Nat, n < 20 ∧ c ≤ 20 ∧ P.1 0 = nI n ∧ P.1 1 = nI c ∧ M.1 2 = nI c ∧ ∀ k : Nat, k < c → RowB L (P.2 ((n + 20 - c + k) % 20)) (fun i => M.2 10 (35 * k + i))
theorem nt11 {u : St} : ∀ n : Nat, n ≤ 665 → Same [] [10] u (it_X8_notes_11 u n) ∧ ∀ i : Nat, (it_X8_notes_11 u n).2 10 i = if i < n then u.2 10 (i + 35) else u.2 10 i
  | 0, _ => ⟨Same_rf u, fun i => by rw [if_neg (by omega)]; rfl⟩
  | n + 1, h => by
    obtain ⟨a, b⟩ := nt11 (u := u) n (by omega)
    show Same [] [10] u (bd_X8_notes_11 n (it_X8_notes_11 u n)) ∧ ∀ i : Nat, (bd_X8_notes_11 n (it_X8_notes_11 u n)).2 10 i = _
    unfold bd_X8_notes_11
    have e : ((nI n : Int32) + 35).toNatClampNeg = n + 35 := ix (nat_iadd (a := n) (b := 35) rfl rfl) (by omega)
    rw [clI (n := n) (by omega), e]
    refine ⟨Same_t a (Same_A (List.mem_singleton.mpr rfl)), fun i => ?_⟩
    rw [sA_eq]
    by_cases c : i = n
    · subst c
      rw [us, b, if_neg (by omega), if_pos (by omega)]
    · rw [un c, b]
      by_cases c2 : i < n
      · rw [if_pos c2, if_pos (by omega)]
      · rw [if_neg c2, if_neg (by omega)]
theorem nt51 {u : St} {c : Nat} (hc : c < 20) (hu : u.1 2 = nI c) : ∀ n : Nat, n ≤ 35 → Same [] [10] u (it_X8_notes_51 u n) ∧ (∀ k : Nat, k < n → (it_X8_notes_51 u n).2 10 (35 * c + k) = u.2 9 k) ∧ ∀ i : Nat, i < 35 * c → (it_X8_notes_51 u n).2 10 i = u.2 10 i
  | 0, _ => ⟨Same_rf u, fun k hk => absurd hk (Nat.not_lt_zero k), fun i _ => rfl⟩
  | n + 1, h => by
    obtain ⟨a, b, b2⟩ := nt51 hc hu n (by omega)
    show Same [] [10] u (bd_X8_notes_51 n (it_X8_notes_51 u n)) ∧ (∀ k : Nat, k < n + 1 → (bd_X8_notes_51 n (it_X8_notes_51 u n)).2 10 (35 * c + k) = _) ∧ ∀ i : Nat, i < 35 * c → (bd_X8_notes_51 n (it_X8_notes_51 u n)).2 10 i = _
    unfold bd_X8_notes_51
    have e : ((35 * nI c : Int32) + nI n).toNatClampNeg = 35 * c + n := ix (nat_iadd (a := 35 * c) (b := n) (nat_imul (a := 35) (b := c) rfl rfl) rfl) (by omega)
    rw [a.1 2 (by decide), hu, e, clI (n := n) (by omega), a.2 9 (by decide)]
    refine ⟨Same_t a (Same_A (List.mem_singleton.mpr rfl)), fun k hk => ?_, fun i hi => ?_⟩
    · rw [sA_eq]
      by_cases c : k = n
      · subst c
        rw [us]
      · rw [un (by omega)]
        exact b k (by omega)
    · rw [sA_eq, un (by omega)]
      exact b2 i hi
theorem ntM {c : Nat} (hc : c ≤ 20) (hM : M.1 2 = nI c) : Same [2] [10] M (f_X8_notes M) ∧ (f_X8_notes M).1 2 = nI (if c = 20 then 20 else c + 1) ∧
    (∀ k : Nat, k < (if c = 20 then 19 else c) → ∀ i : Nat, i < 35 → (f_X8_notes M).2 10 (35 * k + i) = M.2 10 (35 * (if c = 20 then k + 1 else k) + i)) ∧
    ∀ i : Nat, i < 35 → (f_X8_notes M).2 10 (35 * (if c = 20 then 19 else c) + i) = M.2 9 i := by
  unfold f_X8_notes
  by_cases e : c = 20
  · rw [hM, if_pos (by rw [e]; rfl)]
    repeat rw [if_pos e]
    unfold f_X8_notes_k2 f_X8_notes_k3
    obtain ⟨a, b⟩ := nt11 (u := M) 665 (by omega)
    generalize it_X8_notes_11 M 665 = v at a b ⊢
    have hv : (sI v 2 (v.1 2 - 1)).1 2 = nI 19 := by
      rw [sI_eq, a.1 2 (by decide), hM, e]
      rfl
    have s1 : Same [2] [10] M (sI v 2 (v.1 2 - 1)) := Same_t (Same_w a (fun k hk => absurd hk List.not_mem_nil) (fun k hk => hk)) (Same_I (List.mem_singleton.mpr rfl))
    have hv2 : (sI v 2 (v.1 2 - 1)).2 10 = v.2 10 := rfl
    generalize sI v 2 (v.1 2 - 1) = w at hv s1 hv2 ⊢
    obtain ⟨a2, b2, b3⟩ := nt51 (u := w) (c := 19) (by omega) hv 35 (by omega)
    generalize it_X8_notes_51 w 35 = z at a2 b2 b3 ⊢
    have hz : z.1 2 = nI 19 := by rw [a2.1 2 (by decide)]; exact hv
    refine ⟨Same_t s1 (Same_t (Same_w a2 (fun k hk => absurd hk List.not_mem_nil) (fun k hk => hk)) (Same_I (List.mem_singleton.mpr rfl))), ?_, fun k hk i hi => ?_, fun i hi => ?_⟩
    · rw [sI_eq, hz]
      rfl
    · show z.2 10 (35 * k + i) = _
      rw [b3 _ (by omega), hv2, b, if_pos (show 35 * k + i < 665 by omega), if_pos e, show 35 * k + i + 35 = 35 * (k + 1) + i by omega]
    · show z.2 10 (35 * 19 + i) = _
      rw [b2 i hi, s1.2 9 (by decide)]
  · have hne : ¬ nI c = 20 := fun q => e ((inj_nI (b := 20) (by omega) (by omega)).mp q)
    rw [hM, if_neg hne]
    repeat rw [if_neg e]
    unfold f_X8_notes_k1
    obtain ⟨a2, b2, b3⟩ := nt51 (u := M) (c := c) (by omega) hM 35 (by omega)
    generalize it_X8_notes_51 M 35 = z at a2 b2 b3 ⊢
    have hz : z.1 2 = nI c := by rw [a2.1 2 (by decide)]; exact hM
    refine ⟨Same_t (Same_w a2 (fun k hk => absurd hk List.not_mem_nil) (fun k hk => hk)) (Same_I (List.mem_singleton.mpr rfl)), ?_, fun k hk i hi => ?_, fun i hi => ?_⟩
    · rw [sI_eq, hz]
      exact addI c 1
    · show z.2 10 (35 * k + i) = _
      rw [b3 _ (by omega), if_neg e]
    · show z.2 10 (35 * c + i) = _
      exact b2 i hi
theorem rmP {n c : Nat} (hn : n < 20) (hc : c ≤ 20) (h0 : P.1 0 = nI n) (h1 : P.1 1 = nI c) : (f_X4_remember F P).1 0 = nI ((n + 1) % 20) ∧ (f_X4_remember F P).1 1 = nI (if c = 20 then 20 else c + 1) ∧
    (∀ i : Nat, i < 35 → (f_X4_remember F P).2 n i = F.2 0 i) ∧ ∀ k : Nat, k ≠ n → (f_X4_remember F P).2 k = P.2 k := by
  unfold f_X4_remember
  rw [show (sA P (0 + (P.1 0).toNatClampNeg) (cp35 (F.2 0) (P.2 (0 + (P.1 0).toNatClampNeg)))).1 = P.1 from rfl, h0, h1, clI (by omega), Nat.zero_add]
  have e1 : nI n + 1 = nI (n + 1) := addI n 1
  have e2 : nI c + 1 = nI (c + 1) := addI c 1
  have e3 : nI (n + 1) - nI (n + 1) / 20 * 20 = nI ((n + 1) % 20) := pk_rem (by omega) (by decide) (by decide)
  refine ⟨?_, ?_, fun i hi => ?_, fun k hk => ?_⟩
  · rw [sI_ne (by decide), sI_eq, e1, e3]
  · rw [sI_eq, e2]
    by_cases e : c = 20
    · rw [if_pos e, if_pos (by rw [e]; decide)]
      rfl
    · rw [if_neg e, if_neg]
      rw [fa_lt, nI_toInt (by omega), show (20 : Int32).toInt = 20 from rfl]
      omega
  · show (sA P n (cp35 (F.2 0) (P.2 n))).2 n i = _
    rw [sA_eq, cp_lt hi]
  · show (sA P n (cp35 (F.2 0) (P.2 n))).2 k = _
    exact sA_ne hk
theorem RPa_note (ok : okA L) (r : RowB L (F.2 0) (M.2 9)) (h : RPa L P M) : RPa L (f_X4_remember F P) (f_X8_notes M) ∧ Same [2] [10] M (f_X8_notes M) := by
  obtain ⟨n, c, hn, hc, h0, h1, h2, h3⟩ := h
  obtain ⟨p0, p1, p2, p3⟩ := rmP (F := F) hn hc h0 h1
  obtain ⟨m0, m1, m2, m3⟩ := ntM hc h2
  refine ⟨⟨(n + 1) % 20, if c = 20 then 20 else c + 1, Nat.mod_lt _ (by decide), ?_, p0, p1, m1, fun k hk => ?_⟩, m0⟩
  · split <;> omega
  · by_cases e : c = 20
    · simp only [if_pos e] at hk m2 m3 ⊢
      by_cases ek : k = 19
      · subst ek
        rw [show ((n + 1) % 20 + 20 - 20 + 19) % 20 = n by omega]
        exact RowB_c ok p2 m3 r
      · rw [p3 _ (show ((n + 1) % 20 + 20 - 20 + k) % 20 ≠ n by omega), show ((n + 1) % 20 + 20 - 20 + k) % 20 = (n + 20 - c + (k + 1)) % 20 by omega]
        exact RowB_c ok (fun i _ => rfl) (m2 k (by omega)) (h3 (k + 1) (by omega))
    · simp only [if_neg e] at hk m2 m3 ⊢
      by_cases ek : k = c
      · subst ek
        rw [show ((n + 1) % 20 + 20 - (k + 1) + k) % 20 = n by omega]
        exact RowB_c ok p2 m3 r
      · rw [p3 _ (show ((n + 1) % 20 + 20 - (c + 1) + k) % 20 ≠ n by omega), show ((n + 1) % 20 + 20 - (c + 1) + k) % 20 = (n + 20 - c + k) % 20 by omega]
        exact RowB_c ok (fun i _ => rfl) (m2 k (by omega)) (h3 k (by omega))
theorem RPa_s (a : M'.1 2 = M.1 2) (b : M'.2 10 = M.2 10) (h : RPa L P M) : RPa L P M' := by
  unfold RPa at h ⊢
  rw [a, b]
  exact h
theorem un22 {c : Nat} {u : St} (hc : c < 20) (hu : u.1 2 = nI c) : ∀ n : Nat, n ≤ 35 → Same [] [9] u (it_X8_undo_22 u n) ∧ ∀ i : Nat, i < n → (it_X8_undo_22 u n).2 9 i = u.2 10 (35 * c + i)
  | 0, _ => ⟨Same_rf u, fun k hk => absurd hk (Nat.not_lt_zero k)⟩
  | n + 1, h => by
    obtain ⟨a, b⟩ := un22 hc hu n (by omega)
    show Same [] [9] u (bd_X8_undo_22 n (it_X8_undo_22 u n)) ∧ ∀ i : Nat, i < n + 1 → (bd_X8_undo_22 n (it_X8_undo_22 u n)).2 9 i = _
    unfold bd_X8_undo_22
    have e : ((35 * nI c : Int32) + nI n).toNatClampNeg = 35 * c + n := ix (nat_iadd (a := 35 * c) (b := n) (nat_imul (a := 35) (b := c) rfl rfl) rfl) (by omega)
    rw [a.1 2 (by decide), hu, e, clI (n := n) (by omega), a.2 10 (by decide)]
    refine ⟨Same_t a (Same_A (List.mem_singleton.mpr rfl)), fun i hi => ?_⟩
    rw [sA_eq]
    by_cases c : i = n
    · subst c
      rw [us]
    · rw [un c]
      exact b i (by omega)
theorem r_undo (ok : okA L) (r : RowB L (F.2 0) (M.2 9)) (h : RPa L P M) : (f_X7_undo T F P).1 = (f_X8_undo M).1 ∧ RowB L ((f_X7_undo T F P).2.1.2 0) ((f_X8_undo M).2.2 9) ∧ RPa L (f_X7_undo T F P).2.2 (f_X8_undo M).2 ∧ Same [2] [9] M (f_X8_undo M).2 := by
  have h' := h
  obtain ⟨n, c, hn, hc, h0, h1, h2, h3⟩ := h
  unfold f_X7_undo f_X8_undo
  rw [h1, h2]
  by_cases e : c = 0
  · rw [if_pos (by rw [e]; rfl), if_pos (by rw [e]; rfl)]
    exact ⟨rfl, r, h', Same_rf M⟩
  · have hne : ¬ nI c = 0 := fun q => e ((inj_nI (b := 0) (by omega) (by omega)).mp q)
    rw [if_neg hne, if_neg hne]
    unfold f_X8_undo_k1 f_X7_undo_k1 f_X4_bringBack
    have hle : ¬ P.1 1 ≤ 0 := by
      rw [h1, fa_le, nI_toInt (by omega), show (0 : Int32).toInt = 0 from rfl]
      omega
    rw [if_neg hle]
    have e1 : (nI n + 20) - 1 = nI (n + 19) := by
      rw [show (20 : Int32) = nI 20 from rfl, addI, subI1 (by omega) (by omega)]
      rfl
    have e3 : nI (n + 19) - nI (n + 19) / 20 * 20 = nI ((n + 19) % 20) := pk_rem (by omega) (by decide) (by decide)
    have e4 : nI c - 1 = nI (c - 1) := subI1 (by omega) (by omega)
    rw [h0, h1, e1, e3, e4, clI (show (n + 19) % 20 < 1000 by omega), Nat.zero_add]
    have s0 : (sI M 2 (nI (c - 1))).1 2 = nI (c - 1) := sI_eq
    have s1 : Same [2] [9] M (sI M 2 (nI (c - 1))) := Same_I (List.mem_singleton.mpr rfl)
    have s2 : (sI M 2 (nI (c - 1))).2 10 = M.2 10 := rfl
    generalize sI M 2 (nI (c - 1)) = v at s0 s1 s2 ⊢
    obtain ⟨a2, b2⟩ := un22 (u := v) (c := c - 1) (by omega) s0 35 (by omega)
    generalize it_X8_undo_22 v 35 = z at a2 b2 ⊢
    have hz : z.1 2 = nI (c - 1) := by rw [a2.1 2 (by decide)]; exact s0
    have hz10 : z.2 10 = M.2 10 := by rw [a2.2 10 (by decide)]; exact s2
    refine ⟨?_, ?_, ⟨(n + 19) % 20, c - 1, Nat.mod_lt _ (by decide), by omega, ?_, ?_, hz, fun k hk => ?_⟩, Same_t s1 (Same_w a2 (fun k hk => absurd hk List.not_mem_nil) (fun k hk => hk))⟩
    · show (sI (sI P 0 (nI ((n + 19) % 20))) 1 (nI (c - 1))).1 1 = z.1 2
      rw [sI_eq, hz]
    · show RowB L ((sA F 0 (cp35 (P.2 ((n + 19) % 20)) (F.2 0))).2 0) (z.2 9)
      rw [sA_eq]
      have q := h3 (c - 1) (by omega)
      rw [show (n + 20 - c + (c - 1)) % 20 = (n + 19) % 20 by omega] at q
      exact RowB_c ok (fun i hi => cp_lt hi) (fun i hi => by rw [b2 i hi, s2]) q
    · show (sI (sI P 0 (nI ((n + 19) % 20))) 1 (nI (c - 1))).1 0 = _
      rw [sI_ne (by decide), sI_eq]
    · show (sI (sI P 0 (nI ((n + 19) % 20))) 1 (nI (c - 1))).1 1 = _
      rw [sI_eq]
    · show RowB L (P.2 (((n + 19) % 20 + 20 - (c - 1) + k) % 20)) (fun i => z.2 10 (35 * k + i))
      rw [hz10, show ((n + 19) % 20 + 20 - (c - 1) + k) % 20 = (n + 20 - c + k) % 20 by omega]
      exact h3 k (by omega)
end Past
