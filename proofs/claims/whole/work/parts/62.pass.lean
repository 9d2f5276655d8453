/-- a step touches the cells of one person alone -/
def stepP (A W : Nat → Int32 → Int32 → Int32) (Bx : Int32 → Int32 → Int32) (k : Nat) (v v' : Nat → Int32) : Prop :=
  v' (1 + k) = A k (v (1 + k)) (v (8 + k)) ∧ v' (8 + k) = W k (v (1 + k)) (v (8 + k)) ∧ v' (15 + k) = Bx (v (8 + k)) (v (15 + k)) ∧ v' (22 + k) = Bx (v (8 + k)) (v (22 + k)) ∧ ∀ c : Nat, c ≠ 1 + k → c ≠ 8 + k → c ≠ 15 + k → c ≠ 22 + k → v' c = v c
theorem seqP {A W : Nat → Int32 → Int32 → Int32} {Bx : Int32 → Int32 → Int32} {R : Nat → Nat → Int32} : ∀ {n : Nat}, n ≤ 7 → (∀ k : Nat, k < n → stepP A W Bx k (R k) (R (k + 1))) →
    (∀ p : Nat, p < n → R n (1 + p) = A p (R 0 (1 + p)) (R 0 (8 + p)) ∧ R n (8 + p) = W p (R 0 (1 + p)) (R 0 (8 + p)) ∧ R n (15 + p) = Bx (R 0 (8 + p)) (R 0 (15 + p)) ∧ R n (22 + p) = Bx (R 0 (8 + p)) (R 0 (22 + p))) ∧
    ∀ c : Nat, (∀ p : Nat, p < n → c ≠ 1 + p ∧ c ≠ 8 + p ∧ c ≠ 15 + p ∧ c ≠ 22 + p) → R n c = R 0 c
  | 0, _, _ => ⟨fun p hp => absurd hp (Nat.not_lt_zero p), fun c _ => rfl⟩
  | n + 1, hn, h => by
    obtain ⟨i1, i2⟩ := seqP (n := n) (by omega) (fun k hk => h k (by omega))
    obtain ⟨s1, s2, s3, s4, s5⟩ := h n (by omega)
    have u1 := i2 (1 + n) (fun p hp => by omega)
    have u2 := i2 (8 + n) (fun p hp => by omega)
    have u3 := i2 (15 + n) (fun p hp => by omega)
    have u4 := i2 (22 + n) (fun p hp => by omega)
    refine ⟨fun p hp => ?_, fun c hc => ?_⟩
    · by_cases e : p = n
      · subst e
        rw [s1, s2, s3, s4, u1, u2, u3, u4]
        exact ⟨rfl, rfl, rfl, rfl⟩
      · obtain ⟨q1, q2, q3, q4⟩ := i1 p (by omega)
        rw [s5 (1 + p) (by omega) (by omega) (by omega) (by omega), s5 (8 + p) (by omega) (by omega) (by omega) (by omega), s5 (15 + p) (by omega) (by omega) (by omega) (by omega), s5 (22 + p) (by omega) (by omega) (by omega) (by omega)]
        exact ⟨q1, q2, q3, q4⟩
    · have a := hc n (by omega)
      rw [s5 c a.1 a.2.1 a.2.2.1 a.2.2.2]
      exact i2 c (fun p hp => hc p (by omega))
theorem seqG {f : Nat → Int32 → Int32} {R : Nat → Nat → Int32} : ∀ {n : Nat}, (∀ k : Nat, k < n → R (k + 1) (29 + k) = f k (R k (29 + k)) ∧ ∀ c : Nat, c ≠ 29 + k → R (k + 1) c = R k c) →
    (∀ g : Nat, g < n → R n (29 + g) = f g (R 0 (29 + g))) ∧ ∀ c : Nat, (∀ g : Nat, g < n → c ≠ 29 + g) → R n c = R 0 c
  | 0, _ => ⟨fun p hp => absurd hp (Nat.not_lt_zero p), fun c _ => rfl⟩
  | n + 1, h => by
    obtain ⟨i1, i2⟩ := seqG (n := n) (fun k hk => h k (by omega))
    obtain ⟨s1, s2⟩ := h n (by omega)
    refine ⟨fun g hg => ?_, fun c hc => ?_⟩
    · by_cases e : g = n
      · subst e
        rw [s1, i2 (29 + g) (fun q hq => by omega)]
      · rw [s2 (29 + g) (by omega)]
        exact i1 g (by omega)
    · rw [s2 c (hc n (by omega))]
      exact i2 c (fun g hg => hc g (by omega))
section Pass
variable {T X L F P I N B M : St} {x y : Int32} {j d p g : Nat}
theorem us {f : Nat → Int32} {i : Nat} {v : Int32} : upd f i v i = v := pk_us
theorem un {f : Nat → Int32} {i k : Nat} {v : Int32} (h : k ≠ i) : upd f i v k = f k := pk_un h
/-- the class's step by n years -/
def pA (L : St) (n : Int32) (p : Nat) (a w : Int32) : Int32 := if w = 0 then a + (if L.2 2 p - a < n then L.2 2 p - a else n) else a
def pW (L : St) (n : Int32) (p : Nat) (a w : Int32) : Int32 := if w = 0 then (if pA L n p a w < L.2 2 p then 0 else 1) else w
def pB (n : Int32) (w b : Int32) : Int32 := if w = 0 then b else if w < 10 then b else b + n
theorem bdC {n : Int32} {k : Nat} (hk : k < 7) (u : St) : stepP (pA L n) (pW L n) (pB n) k (u.2 0) ((bd_X3_passYears_12 L n k u).2 0) := by
  unfold bd_X3_passYears_12 bd_X3_passYears_12_k1 f_X3_buryIfOld
  rw [ab_ hk, be_ hk, i1 (by omega), i8 (by omega), i15 (by omega), i22 (by omega), i0 (by omega)]
  unfold stepP pW pB pA
  by_cases c : u.2 0 (8 + k) = 0
  · rw [if_pos c, if_pos c, if_pos c, if_pos c, if_pos c, if_neg ne10]
    rw [sA_eq, us]
    generalize (u.2 0 (1 + k) + if L.2 2 k - u.2 0 (1 + k) < n then L.2 2 k - u.2 0 (1 + k) else n) = a
    by_cases c2 : a < L.2 2 k
    · rw [if_pos c2, if_pos c2, sA_eq]
      exact ⟨us, by rw [un (by omega), c], un (by omega), un (by omega), fun c0 h1 h2 h3 h4 => un h1⟩
    · rw [if_neg c2, if_neg c2, sA_eq]
      exact ⟨by rw [un (by omega), us], us, by rw [un (by omega), un (by omega)], by rw [un (by omega), un (by omega)], fun c0 h1 h2 h3 h4 => by rw [un h2, un h1]⟩
  · rw [if_neg c, if_neg c, if_neg c, if_neg c, if_neg c, if_pos rfl]
    by_cases c2 : u.2 0 (8 + k) < 10
    · rw [if_pos c2, if_pos c2, if_pos c2, if_pos rfl]
      exact ⟨rfl, rfl, rfl, rfl, fun c0 h1 h2 h3 h4 => rfl⟩
    · rw [if_neg c2, if_neg c2, if_neg c2, if_neg ne10, sA_eq]
      refine ⟨by rw [un (by omega), un (by omega)], by rw [un (by omega), un (by omega)], by rw [un (by omega), us], ?_, fun c0 h1 h2 h3 h4 => by rw [un h4, un h3]⟩
      rw [us, un (by omega)]
theorem pyC (h : okA L) (n : Int32) : (∀ p : Nat, p < nP L → (f_X3_passYears L F n).2 0 (1 + p) = pA L n p (F.2 0 (1 + p)) (F.2 0 (8 + p)) ∧ (f_X3_passYears L F n).2 0 (8 + p) = pW L n p (F.2 0 (1 + p)) (F.2 0 (8 + p)) ∧ (f_X3_passYears L F n).2 0 (15 + p) = pB n (F.2 0 (8 + p)) (F.2 0 (15 + p)) ∧ (f_X3_passYears L F n).2 0 (22 + p) = pB n (F.2 0 (8 + p)) (F.2 0 (22 + p))) ∧
    (∀ g : Nat, g < nG L → (f_X3_passYears L F n).2 0 (29 + g) = f_X5_worthBehind L (nI g) (F.2 0 (29 + g)) n) ∧ (f_X3_passYears L F n).2 0 0 = F.2 0 0 + n := by
  have h7 := nP_le h
  have h6 := nG_le h
  unfold f_X3_passYears f_X3_passYears_k1 f_X3_passYears_k2
  rw [k0, show (L.1 3).toNatClampNeg = nP L from rfl, show (L.1 4).toNatClampNeg = nG L from rfl]
  have e0 : ∀ c : Nat, c ≠ 0 → ((sA F 0 (upd (F.2 0) 0 (F.2 0 0 + n))).2 0) c = F.2 0 c := fun c hc => by rw [sA_eq, un hc]
  have e1 : ((sA F 0 (upd (F.2 0) 0 (F.2 0 0 + n))).2 0) 0 = F.2 0 0 + n := by rw [sA_eq, us]
  generalize sA F 0 (upd (F.2 0) 0 (F.2 0 0 + n)) = u at e0 e1 ⊢
  have a := seqP (A := pA L n) (W := pW L n) (Bx := pB n) (R := fun k => (it_X3_passYears_12 L n u k).2 0) (n := nP L) h7 (fun k hk => bdC (by omega) _)
  have b0 : it_X3_passYears_12 L n u 0 = u := rfl
  have b := seqG (f := fun g w => f_X5_worthBehind L (nI g) w n) (R := fun k => (it_X3_passYears_109 L n (it_X3_passYears_12 L n u (nP L)) k).2 0) (n := nG L) (fun k hk => by
    show (bd_X3_passYears_109 L n k (it_X3_passYears_109 L n (it_X3_passYears_12 L n u (nP L)) k)).2 0 (29 + k) = _ ∧ ∀ c : Nat, c ≠ 29 + k → (bd_X3_passYears_109 L n k (it_X3_passYears_109 L n (it_X3_passYears_12 L n u (nP L)) k)).2 0 c = _
    unfold bd_X3_passYears_109
    rw [i29 (by omega), sA_eq]
    exact ⟨us, fun c hc => un hc⟩)
  obtain ⟨a1, a2⟩ := a
  obtain ⟨b1, b2⟩ := b
  try dsimp only at a1 a2 b1 b2
  have b3 : it_X3_passYears_109 L n (it_X3_passYears_12 L n u (nP L)) 0 = it_X3_passYears_12 L n u (nP L) := rfl
  rw [b0] at a1 a2
  rw [b3] at b1 b2
  refine ⟨fun p hp => ?_, fun g hg => ?_, ?_⟩
  · rw [b2 (1 + p) (fun g hg => by omega), b2 (8 + p) (fun g hg => by omega), b2 (15 + p) (fun g hg => by omega), b2 (22 + p) (fun g hg => by omega)]
    have q := a1 p hp
    rw [e0 (1 + p) (by omega), e0 (8 + p) (by omega), e0 (15 + p) (by omega), e0 (22 + p) (by omega)] at q
    exact q
  · rw [b1 g hg, a2 (29 + g) (fun p hp => by omega), e0 (29 + g) (by omega)]
  · show (it_X3_passYears_109 L n (it_X3_passYears_12 L n u (nP L)) (nG L)).2 0 0 = _
    rw [b2 0 (fun g hg => by omega), a2 0 (fun p hp => by omega), e1]
/-- all but the life is as it was -/
def ot9 (S S' : St) : Prop := S'.1 = S.1 ∧ ∀ k : Nat, k ≠ 9 → S'.2 k = S.2 k
theorem ot9_rf (S : St) : ot9 S S := ⟨rfl, fun _ _ => rfl⟩
theorem ot9_t {S S' S'' : St} (h : ot9 S S') (h' : ot9 S' S'') : ot9 S S'' := ⟨h'.1.trans h.1, fun k hk => (h'.2 k hk).trans (h.2 k hk)⟩
theorem ot9_s {S : St} {f : Nat → Int32} : ot9 S (sA S 9 f) := ⟨rfl, fun k hk => sA_ne hk⟩
theorem Sh_of {M M' : St} (e : ∀ k : Nat, 1 ≤ k → k ≤ 4 → M'.2 k = M.2 k) (h : Sh L M) : Sh L M' := by
  unfold Sh at h ⊢
  rw [e 1 (by omega) (by omega), e 2 (by omega) (by omega), e 3 (by omega) (by omega), e 4 (by omega) (by omega)]
  exact h
theorem Sh_ot9 {M M' : St} (o : ot9 M M') (h : Sh L M) : Sh L M' := Sh_of (fun k h1 h2 => o.2 k (by omega)) h
/-- the model's step by one year -/
def mA (_p : Nat) (a w : Int32) : Int32 := if w = 0 then a + 1 else a
def mW (E : Nat → Int32) (p : Nat) (a w : Int32) : Int32 := if w = 0 then (if a + 1 < E (2 * p + 1) then 0 else 1) else w
theorem bdM {k : Nat} (hk : k < 7) (u : St) : stepP mA (mW (u.2 3)) (pB 1) k (u.2 9) ((bd_X8_passes_2 k u).2 9) ∧ ot9 u (bd_X8_passes_2 k u) := by
  unfold bd_X8_passes_2
  rw [mab_ hk, mbe_ hk, i1 (by omega), i8 (by omega), i15 (by omega), i22 (by omega), us, men_ hk, sA_ne (show (3 : Nat) ≠ 9 by decide)]
  unfold stepP pB mA mW
  by_cases c : u.2 9 (8 + k) = 0
  · repeat rw [if_pos c]
    rw [if_neg ne10]
    by_cases c2 : u.2 9 (1 + k) + 1 < u.2 3 (2 * k + 1)
    · rw [if_pos c2, if_pos c2, sA_eq]
      exact ⟨⟨by rw [un (by omega), us], us, by rw [un (by omega), un (by omega)], by rw [un (by omega), un (by omega)], fun c0 h1 h2 h3 h4 => by rw [un h2, un h1]⟩, ot9_s⟩
    · rw [if_neg c2, if_neg c2, sA_eq]
      exact ⟨⟨by rw [un (by omega), us], us, by rw [un (by omega), un (by omega)], by rw [un (by omega), un (by omega)], fun c0 h1 h2 h3 h4 => by rw [un h2, un h1]⟩, ot9_s⟩
  · repeat rw [if_neg c]
    rw [if_pos rfl]
    by_cases c2 : u.2 9 (8 + k) < 10
    · rw [if_pos c2, if_pos c2, if_pos c2, if_pos rfl]
      exact ⟨⟨rfl, rfl, rfl, rfl, fun c0 h1 h2 h3 h4 => rfl⟩, ot9_rf u⟩
    · rw [if_neg c2, if_neg c2, if_neg c2, if_neg ne10, sA_eq]
      refine ⟨⟨by rw [un (by omega), un (by omega)], by rw [un (by omega), un (by omega)], by rw [un (by omega), us], ?_, fun c0 h1 h2 h3 h4 => by rw [un h4, un h3]⟩, ot9_s⟩
      rw [us, un (by omega)]
theorem itM_o (u : St) : ∀ k : Nat, k ≤ 7 → ot9 u (it_X8_passes_2 u k)
  | 0, _ => ot9_rf u
  | k + 1, h => ot9_t (itM_o u k (by omega)) (bdM (by omega) _).2
theorem itG_o (u : St) : ∀ k : Nat, ot9 u (it_X8_passes_107 u k)
  | 0 => ot9_rf u
  | k + 1 => ot9_t (itG_o u k) ot9_s
theorem pyM (h : Sh L M) : ot9 M (f_X8_passes M) ∧ (∀ p : Nat, p < nP L → (f_X8_passes M).2 9 (1 + p) = mA p (M.2 9 (1 + p)) (M.2 9 (8 + p)) ∧ (f_X8_passes M).2 9 (8 + p) = mW (M.2 3) p (M.2 9 (1 + p)) (M.2 9 (8 + p)) ∧ (f_X8_passes M).2 9 (15 + p) = pB 1 (M.2 9 (8 + p)) (M.2 9 (15 + p)) ∧ (f_X8_passes M).2 9 (22 + p) = pB 1 (M.2 9 (8 + p)) (M.2 9 (22 + p))) ∧
    (∀ g : Nat, g < nG L → (f_X8_passes M).2 9 (29 + g) = f_X5_worthNextYear L (nI g) (M.2 9 (29 + g))) ∧ (f_X8_passes M).2 9 0 = M.2 9 0 + 1 := by
  have h7 := nP_le h.1
  have h6 := nG_le h.1
  unfold f_X8_passes f_X8_passes_k1 f_X8_passes_k2
  rw [k0, k3, k4, Sh_nP h]
  have o1 := itM_o M (nP L) h7
  have a := seqP (A := mA) (W := mW (M.2 3)) (Bx := pB 1) (R := fun k => (it_X8_passes_2 M k).2 9) (n := nP L) h7 (fun k hk => by
    have := (bdM (k := k) (by omega) (it_X8_passes_2 M k)).1
    rw [(itM_o M k (by omega)).2 3 (by decide)] at this
    exact this)
  have b0 : it_X8_passes_2 M 0 = M := rfl
  obtain ⟨a1, a2⟩ := a
  try dsimp only at a1 a2
  rw [b0] at a1 a2
  generalize it_X8_passes_2 M (nP L) = u at o1 a1 a2 ⊢
  have hu := Sh_ot9 o1 h
  rw [Sh_nG hu]
  have o2 := itG_o u (nG L)
  have b := seqG (f := fun g w => f_X5_worthNextYear L (nI g) w) (R := fun k => (it_X8_passes_107 u k).2 9) (n := nG L) (fun k hk => by
    show (bd_X8_passes_107 k (it_X8_passes_107 u k)).2 9 (29 + k) = _ ∧ ∀ c : Nat, c ≠ 29 + k → (bd_X8_passes_107 k (it_X8_passes_107 u k)).2 9 c = _
    unfold bd_X8_passes_107
    rw [i29 (by omega), sA_eq, eqW (Sh_ot9 (itG_o u k) hu) hk]
    exact ⟨us, fun c hc => un hc⟩)
  obtain ⟨b1, b2⟩ := b
  try dsimp only at b1 b2
  have b3 : it_X8_passes_107 u 0 = u := rfl
  rw [b3] at b1 b2
  generalize it_X8_passes_107 u (nG L) = v at o2 b1 b2 ⊢
  refine ⟨ot9_t o1 (ot9_t o2 ot9_s), ?_⟩
  rw [sA_eq]
  refine ⟨fun p hp => ?_, fun g hg => ?_, ?_⟩
  · rw [un (by omega), un (by omega), un (by omega), un (by omega), b2 (1 + p) (fun g hg => by omega), b2 (8 + p) (fun g hg => by omega), b2 (15 + p) (fun g hg => by omega), b2 (22 + p) (fun g hg => by omega)]
    exact a1 p hp
  · rw [un (by omega), b1 g hg, a2 (29 + g) (fun p hp => by omega)]
  · rw [us, b2 0 (fun g hg => by omega), a2 0 (fun p hp => by omega)]
end Pass
