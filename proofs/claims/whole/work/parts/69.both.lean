section Both
variable {T X L F P I N B M M' : St} {x y z : Int32} {j d p q g : Nat}
def omin (o v : Option Nat) : Option Nat :=
  match o, v with
  | none, v => v
  | some a, none => some a
  | some a, some b => if b < a then some b else some a
def Mn (S : Nat → Prop) (o : Option Nat) : Prop :=
  match o with
  | none => ∀ m : Nat, ¬ S m
  | some m => S m ∧ ∀ m' : Nat, S m' → m ≤ m'
theorem Mn_step {S : Nat → Prop} {o v : Option Nat} (h : Mn S o) : Mn (fun m => S m ∨ v = some m) (omin o v) := by
  cases o with
  | none =>
    cases v with
    | none => exact fun m k => k.elim (h m) (fun k => by cases k)
    | some b => exact ⟨Or.inr rfl, fun m' k => k.elim (fun k => absurd k (h m')) (fun k => by cases k; exact Nat.le_refl _)⟩
  | some a =>
    cases v with
    | none => exact ⟨Or.inl h.1, fun m' k => k.elim (h.2 m') (fun k => by cases k)⟩
    | some b =>
      show Mn _ (if b < a then some b else some a)
      by_cases c : b < a
      · rw [if_pos c]
        exact ⟨Or.inr rfl, fun m' k => k.elim (fun k => Nat.le_trans (Nat.le_of_lt c) (h.2 m' k)) (fun k => by cases k; exact Nat.le_refl _)⟩
      · rw [if_neg c]
        exact ⟨Or.inl h.1, fun m' k => k.elim (h.2 m') (fun k => by cases k; omega)⟩
theorem Mn_c {S S' : Nat → Prop} {o : Option Nat} (e : ∀ m : Nat, S m ↔ S' m) (h : Mn S o) : Mn S' o := by
  have : S = S' := funext (fun m => propext (e m))
  rw [← this]
  exact h
theorem Mn_u {S : Nat → Prop} {o o' : Option Nat} (h : Mn S o) (h' : Mn S o') : o = o' := by
  cases o with
  | none =>
    cases o' with
    | none => rfl
    | some b => exact absurd h'.1 (h b)
  | some a =>
    cases o' with
    | none => exact absurd h.1 (h' a)
    | some b => exact congrArg some (Nat.le_antisymm (h.2 b h'.1) (h'.2 a h.1))
def encO : Option Nat → Int32
  | none => 2147483647
  | some m => nI m
def decO : Option Nat → Int32 × Int32
  | none => (-1, -1)
  | some m => (nI (m / 10000), nI (m % 10000))
theorem enc_min {o v : Option Nat} (ho : ∀ m, o = some m → m < 2147483647) (hv : ∀ m, v = some m → m < 2147483647) : (if encO v < encO o then encO v else encO o) = encO (omin o v) := by
  cases o with
  | none =>
    cases v with
    | none => exact if_neg (show ¬ (2147483647 : Int32) < 2147483647 by decide)
    | some b => exact if_pos (show nI b < 2147483647 from nI_lt (b := 2147483647) (hv b rfl) (by decide))
  | some a =>
    have ha := ho a rfl
    cases v with
    | none => exact if_neg (show ¬ (2147483647 : Int32) < nI a from nI_nlt (a := 2147483647) (b := a) (by omega) (by decide))
    | some b =>
      have hb := hv b rfl
      show (if nI b < nI a then nI b else nI a) = encO (if b < a then some b else some a)
      by_cases c : b < a
      · rw [if_pos c, if_pos (nI_lt c (by omega))]
        rfl
      · rw [if_neg c, if_neg (nI_nlt (by omega) (by omega))]
        rfl
def figN (i : Nat) : Nat := if i = 0 then 0 else 10 * ((i - 1) / 9 + 1) + (i - 1) % 9 + 1
def spn (L : St) (a : Nat) : Nat := if a = 0 then 0 else (L.2 0 (a / 10 - 1)).toNatClampNeg * (a % 10)
def stayN (n a : Nat) : Prop := a = 0 ∨ (0 < a % 10 ∧ 1 ≤ a / 10 ∧ a / 10 ≤ n)
def tl (sa sb : Nat) : Nat := if sa < sb then sb else sa
def keyO (x y lp lq sa sb ab : Nat) : Option Nat := if x + tl sa sb - sa = y + tl sa sb - sb ∧ x + tl sa sb - sa < lp ∧ y + tl sa sb - sb < lq then some (tl sa sb * 10000 + ab) else none
theorem fig_50 {i n : Nat} (h : i ≤ 9 * n) (hn : n ≤ 4) : figN i < 50 ∧ stayN n (figN i) := by
  unfold figN stayN
  by_cases c : i = 0
  · rw [if_pos c]
    exact ⟨by omega, Or.inl rfl⟩
  · rw [if_neg c]
    exact ⟨by omega, Or.inr ⟨by omega, by omega, by omega⟩⟩
theorem fig_on {a n : Nat} (h : stayN n a) : ∃ i : Nat, i ≤ 9 * n ∧ figN i = a := by
  rcases h with h | ⟨h1, h2, h3⟩
  · exact ⟨0, by omega, by rw [h]; rfl⟩
  · refine ⟨9 * (a / 10 - 1) + a % 10, by omega, ?_⟩
    unfold figN
    rw [if_neg (by omega)]
    omega
theorem rateI (h : Sh L M) (hd : d < nD L) : ∃ R : Nat, R ≤ 200 ∧ 1 ≤ R ∧ L.2 0 d = nI R := by
  obtain ⟨c1, c2, c3⟩ := h.2.2.1 d hd
  obtain ⟨R, hR, eR⟩ := natI (x := L.2 0 d) (b := 201) (by omega) (by omega)
  rw [eR, nI_toInt (by omega)] at c2
  exact ⟨R, by omega, by omega, eR⟩
theorem spn_le (h : Sh L M) {a : Nat} (ha : stayN (nD L) a) : spn L a ≤ 1800 := by
  unfold spn
  by_cases c : a = 0
  · rw [if_pos c]; omega
  · rw [if_neg c]
    obtain ⟨h1, h2, h3⟩ := ha.resolve_left c
    obtain ⟨R, hR, -, eR⟩ := rateI h (d := a / 10 - 1) (by omega)
    rw [eR, clI (by omega)]
    exact Nat.mul_le_mul (show R ≤ 200 from hR) (show a % 10 ≤ 9 by omega)
theorem yos_ (h : Sh L M) {i : Nat} (hi : i ≤ 9 * nD L) : f_X7_yearsOfStay T L (nI i) = nI (spn L (figN i)) := by
  have h4 := nD_le h.1
  unfold f_X7_yearsOfStay
  by_cases c : i = 0
  · subst c
    exact if_pos (show (nI 0 : Int32) < 1 by decide)
  · rw [if_neg (show ¬ nI i < 1 from nI_nlt (b := 1) (by omega) (by omega)), subI1 (by omega) (by omega), show (9 : Int32) = nI 9 from rfl, pk_div (by omega) (by decide) (by decide), hasD1 h.1 (by omega), if_neg ne10, clI (by omega)]
    have er : nI (i - 1) - nI ((i - 1) / 9) * nI 9 = nI ((i - 1) % 9) := by
      rw [← pk_div (d := 9) (by omega) (by decide) (by decide)]
      exact pk_rem (by omega) (by decide) (by decide)
    obtain ⟨R, hR, -, eR⟩ := rateI h (d := (i - 1) / 9) (by omega)
    rw [er, show nI ((i - 1) % 9) + 1 = nI ((i - 1) % 9 + 1) from addI _ 1, eR, mulI]
    unfold spn
    have hf : figN i = 10 * ((i - 1) / 9 + 1) + (i - 1) % 9 + 1 := if_neg c
    rw [hf, if_neg (by omega), show (10 * ((i - 1) / 9 + 1) + (i - 1) % 9 + 1) / 10 - 1 = (i - 1) / 9 by omega, show (10 * ((i - 1) / 9 + 1) + (i - 1) % 9 + 1) % 10 = (i - 1) % 9 + 1 by omega, eR, clI (by omega)]
theorem fos_ {i : Nat} (hi : i ≤ 1000) : f_X7_figuresOfStay T (nI i) = nI (figN i) := by
  unfold f_X7_figuresOfStay
  by_cases c : i = 0
  · subst c
    exact if_neg (show ¬ (1 : Int32) ≤ nI 0 by decide)
  · rw [if_pos (show (1 : Int32) ≤ nI i from nI_le (a := 1) (by omega) (by omega)), subI1 (by omega) (by omega), show (9 : Int32) = nI 9 from rfl, pk_rem (by omega) (by decide) (by decide), pk_div (by omega) (by decide) (by decide), show nI ((i - 1) / 9) + 1 = nI ((i - 1) / 9 + 1) from addI _ 1, show (10 : Int32) = nI 10 from rfl, mulI, addI]
    have hf : figN i = 10 * ((i - 1) / 9 + 1) + (i - 1) % 9 + 1 := if_neg c
    rw [hf]
    exact addI _ 1
theorem key_lt {x y lp lq sa sb ab m : Nat} (hs : sa ≤ 1800) (hb : sb ≤ 1800) (hab : ab < 10000) (h : keyO x y lp lq sa sb ab = some m) : m < 2147483647 ∧ m % 10000 = ab ∧ m / 10000 = tl sa sb := by
  unfold keyO at h
  split at h
  · have : tl sa sb * 10000 + ab = m := Option.some.inj h
    have ht : tl sa sb ≤ 1800 := by unfold tl; split <;> omega
    omega
  · cases h
theorem tl_le (sa sb : Nat) : sa ≤ tl sa sb ∧ sb ≤ tl sa sb := by unfold tl; split <;> omega
theorem bb_ (h : Sh L M) {A Q lp lq i j : Nat} (hi : i ≤ 9 * nD L) (hj : j ≤ 9 * nD L) (hp : p < 7) (hq : q < 7) (eA : F.2 0 (1 + p) = nI A) (eQ : F.2 0 (1 + q) = nI Q) (hA : A < 150) (hQ : Q < 150) (elp : L.2 2 p = nI lp) (elq : L.2 2 q = nI lq) (hlp : lp < 151) (hlq : lq < 151) :
    f_X7_bothBy T L F (nI p) (nI i) (nI q) (nI j) = encO (keyO A Q lp lq (spn L (figN i)) (spn L (figN j)) (100 * figN i + figN j)) := by
  have h4 := nD_le h.1
  obtain ⟨fi, si⟩ := fig_50 hi h4
  obtain ⟨fj, sj⟩ := fig_50 hj h4
  have si := spn_le h si
  have sj := spn_le h sj
  unfold f_X7_bothBy f_X7_bothBy_k1
  rw [yos_ h hi, yos_ h hj, fos_ (by omega), fos_ (by omega), ag_ hp, ag_ hq, i0 (by omega), i0 (by omega), eA, eQ, elp, elq]
  generalize spn L (figN i) = sa at si ⊢
  generalize spn L (figN j) = sb at sj ⊢
  have et : (if nI sa < nI sb then nI sb else nI sa) = nI (tl sa sb) := by
    unfold tl
    by_cases c : sa < sb
    · rw [if_pos c, if_pos (nI_lt c (by omega))]
    · rw [if_neg c, if_neg (nI_nlt (by omega) (by omega))]
  obtain ⟨t1, t2⟩ := tl_le sa sb
  have t3 : tl sa sb ≤ 1800 := by unfold tl; split <;> omega
  rw [et]
  unfold keyO
  generalize tl sa sb = t at t1 t2 t3 ⊢
  rw [addI, addI, pk_sub (by omega), pk_sub (by omega), show (10000 : Int32) = nI 10000 from rfl, show (100 : Int32) = nI 100 from rfl, mulI, mulI, addI, addI]
  by_cases c1 : A + t - sa = Q + t - sb
  · rw [if_pos (by rw [c1])]
    by_cases c2 : A + t - sa < lp
    · rw [if_neg (nI_ge c2 (by omega))]
      by_cases c3 : Q + t - sb < lq
      · rw [if_pos (nI_lt c3 (by omega)), if_pos ⟨c1, c2, c3⟩]
        show nI (t * 10000 + figN i * 100 + figN j) = nI (t * 10000 + (100 * figN i + figN j))
        rw [show t * 10000 + figN i * 100 + figN j = t * 10000 + (100 * figN i + figN j) by omega]
      · rw [if_neg (nI_nlt (by omega) (by omega)), if_neg (fun k => c3 k.2.2)]
        rfl
    · rw [if_pos (nI_le (by omega) (by omega)), if_neg (fun k => c2 k.2.1)]
      rfl
  · rw [if_neg (fun k => c1 ((inj_nI (by omega) (by omega)).mp k)), if_neg (fun k => c1 k.1)]
    rfl
theorem cB1 (h : Sh L M) {A Q lp lq i : Nat} (hi : i ≤ 9 * nD L) (hp : p < 7) (hq : q < 7) (eA : F.2 0 (1 + p) = nI A) (eQ : F.2 0 (1 + q) = nI Q) (hA : A < 150) (hQ : Q < 150) (elp : L.2 2 p = nI lp) (elq : L.2 2 q = nI lq) (hlp : lp < 151) (hlq : lq < 151)
    {S : Nat → Prop} {o : Option Nat} (hS : Mn S o) (hb : ∀ m, S m → m < 2147483647) : ∀ n : Nat, n ≤ 9 * nD L + 1 → ∃ o' : Option Nat, it_X7_both_74 T L F (nI p) (nI q) z i (encO o) n = encO o' ∧ Mn (fun m => S m ∨ ∃ j : Nat, j < n ∧ keyO A Q lp lq (spn L (figN i)) (spn L (figN j)) (100 * figN i + figN j) = some m) o'
  | 0, _ => ⟨o, rfl, Mn_c (fun m => ⟨Or.inl, fun k => k.elim id (fun ⟨j, hj, _⟩ => absurd hj (Nat.not_lt_zero j))⟩) hS⟩
  | n + 1, hn => by
    obtain ⟨o', e1, e2⟩ := cB1 h hi hp hq eA eQ hA hQ elp elq hlp hlq hS hb n (by omega)
    have h4 := nD_le h.1
    show ∃ o' : Option Nat, bd_X7_both_74 T L F (nI p) (nI q) z i n (it_X7_both_74 T L F (nI p) (nI q) z i (encO o) n) = encO o' ∧ _
    rw [e1]
    unfold bd_X7_both_74 bd_X7_both_74_k1
    rw [bb_ h hi (j := n) (by omega) hp hq eA eQ hA hQ elp elq hlp hlq]
    have kb : ∀ (j m : Nat), j ≤ 9 * nD L → keyO A Q lp lq (spn L (figN i)) (spn L (figN j)) (100 * figN i + figN j) = some m → m < 2147483647 := fun j m hj e => by
      obtain ⟨fi, si⟩ := fig_50 hi h4
      obtain ⟨fj, sj⟩ := fig_50 hj h4
      exact (key_lt (spn_le h si) (spn_le h sj) (by omega) e).1
    refine ⟨_, enc_min (fun m e => ?_) (fun m e => kb n m (by omega) e), ?_⟩
    · rw [e] at e2
      rcases e2.1 with k | ⟨j, hj, k⟩
      · exact hb m k
      · exact kb j m (by omega) k
    · refine Mn_c (fun m => ?_) (Mn_step e2)
      constructor
      · rintro ((k | ⟨j, hj, k⟩) | k)
        · exact Or.inl k
        · exact Or.inr ⟨j, by omega, k⟩
        · exact Or.inr ⟨n, by omega, k⟩
      · rintro (k | ⟨j, hj, k⟩)
        · exact Or.inl (Or.inl k)
        · by_cases e : j = n
          · subst e
            exact Or.inr k
          · exact Or.inl (Or.inr ⟨j, by omega, k⟩)
theorem cB2 (h : Sh L M) {A Q lp lq : Nat} (hp : p < 7) (hq : q < 7) (eA : F.2 0 (1 + p) = nI A) (eQ : F.2 0 (1 + q) = nI Q) (hA : A < 150) (hQ : Q < 150) (elp : L.2 2 p = nI lp) (elq : L.2 2 q = nI lq) (hlp : lp < 151) (hlq : lq < 151) :
    ∀ n : Nat, n ≤ 9 * nD L + 1 → ∃ o' : Option Nat, it_X7_both_56 T L F (nI p) (nI q) z 2147483647 n = encO o' ∧ Mn (fun m => ∃ i j : Nat, i < n ∧ j ≤ 9 * nD L ∧ keyO A Q lp lq (spn L (figN i)) (spn L (figN j)) (100 * figN i + figN j) = some m) o'
  | 0, _ => ⟨none, rfl, fun m ⟨i, j, hi, _⟩ => absurd hi (Nat.not_lt_zero i)⟩
  | n + 1, hn => by
    obtain ⟨o', e1, e2⟩ := cB2 h hp hq eA eQ hA hQ elp elq hlp hlq n (by omega)
    have h4 := nD_le h.1
    show ∃ o' : Option Nat, bd_X7_both_56 T L F (nI p) (nI q) z n (it_X7_both_56 T L F (nI p) (nI q) z 2147483647 n) = encO o' ∧ _
    rw [e1]
    unfold bd_X7_both_56 bd_X7_both_56_k1
    obtain ⟨o2, f1, f2⟩ := cB1 (T := T) (z := z) h (i := n) (by omega) hp hq eA eQ hA hQ elp elq hlp hlq e2 (fun m ⟨i, j, hi, hj, e⟩ => by
      obtain ⟨fi, si⟩ := fig_50 (i := i) (n := nD L) (by omega) h4
      obtain ⟨fj, sj⟩ := fig_50 hj h4
      exact (key_lt (spn_le h si) (spn_le h sj) (by omega) e).1) (9 * nD L + 1) (Nat.le_refl _)
    refine ⟨o2, f1, Mn_c (fun m => ?_) f2⟩
    constructor
    · rintro (⟨i, j, hi, hj, e⟩ | ⟨j, hj, e⟩)
      · exact ⟨i, j, by omega, hj, e⟩
      · exact ⟨n, j, by omega, by omega, e⟩
    · rintro ⟨i, j, hi, hj, e⟩
      by_cases k : i = n
      · subst k
        exact Or.inr ⟨j, by omega, e⟩
      · exact Or.inl ⟨i, j, by omega, hj, e⟩
theorem isS_ (h : Sh L M) {a : Nat} (ha : a < 1000) : (f_X8_isStay M (nI a) = 0) ↔ ¬ stayN (nD L) a := by
  have h4 := nD_le h.1
  unfold f_X8_isStay stayN
  rw [k2, h.2.1.2.2.1, nDI h.1]
  by_cases c : a = 0
  · rw [if_pos (by rw [c]; rfl)]
    exact ⟨fun k => absurd k ne10, fun k => absurd (Or.inl c) k⟩
  rw [if_neg (show ¬ nI a = 0 from fun q => c ((inj_nI (b := 0) (by omega) (by omega)).mp q)), show (10 : Int32) = nI 10 from rfl, pk_rem (by omega) (by decide) (by decide), pk_div (by omega) (by decide) (by decide)]
  by_cases c1 : a % 10 = 0
  · rw [if_pos ((le_0 (by omega)).mpr c1)]
    exact ⟨fun _ k => k.elim c (fun k => by omega), fun _ => rfl⟩
  rw [if_neg (fun k => c1 ((le_0 (by omega)).mp k))]
  by_cases c2 : 1 ≤ a / 10 ∧ a / 10 ≤ nD L
  · rw [in_1 (show ¬ nI (a / 10) < 1 from nI_nlt (b := 1) c2.1 (by omega)) (nI_nlt c2.2 (by omega)), if_neg ne10]
    exact ⟨fun k => absurd k ne10, fun k => absurd (Or.inr ⟨by omega, c2⟩) k⟩
  · rw [in_0, if_pos rfl]
    · exact ⟨fun _ k => k.elim c (fun k => c2 k.2), fun _ => rfl⟩
    · by_cases c3 : 1 ≤ a / 10
      · exact Or.inr (nI_lt (by omega) (by omega))
      · exact Or.inl (nI_lt (b := 1) (by omega) (by omega))
theorem spM (h : Sh L M) {a : Nat} (ha : a < 1000) (hs : stayN (nD L) a) : f_X8_spanOf M (nI a) = nI (spn L a) := by
  have h4 := nD_le h.1
  unfold f_X8_spanOf spn
  by_cases c : a = 0
  · rw [if_pos (by rw [c]; rfl), if_pos c]
    rfl
  obtain ⟨h1, h2, h3⟩ := hs.resolve_left c
  rw [if_neg (show ¬ nI a = 0 from fun q => c ((inj_nI (b := 0) (by omega) (by omega)).mp q)), if_neg c, show (10 : Int32) = nI 10 from rfl, pk_rem (by omega) (by decide) (by decide), pk_div (by omega) (by decide) (by decide), subI1 (by omega) (by omega), clI (by omega), (h.2.2.1 (a / 10 - 1) (by omega)).1]
  obtain ⟨R, hR, -, eR⟩ := rateI h (d := a / 10 - 1) (by omega)
  rw [eR, clI (by omega), mulI]
/-- the model's step, said once -/
theorem mB0 (h : Sh L M) {A Q lp lq k : Nat} (hk : k < 2500) (hp : p < nP L) (hq : q < nP L) (eA : M.2 9 (1 + p) = nI A) (eQ : M.2 9 (1 + q) = nI Q) (hA : A < 150) (hQ : Q < 150) (elp : L.2 2 p = nI lp) (elq : L.2 2 q = nI lq) (hlp : lp < 151) (hlq : lq < 151) (ha : stayN (nD L) (k / 50)) (hb : stayN (nD L) (k % 50)) {o : Option Nat} (ho : ∀ m, o = some m → m < 2147483647 ∧ m % 10000 < 100 * (k / 50) + k % 50) :
    bd_X8_both_64 M (nI p) (nI q) z k (decO o) = decO (omin o (keyO A Q lp lq (spn L (k / 50)) (spn L (k % 50)) (100 * (k / 50) + k % 50))) := by
  have h7 := nP_le h.1
  have sa := spn_le h ha
  have sb := spn_le h hb
  unfold bd_X8_both_64
  rw [show (50 : Int32) = nI 50 from rfl, pk_rem (by omega) (by decide) (by decide), pk_div (by omega) (by decide) (by decide), if_neg (fun q => (isS_ h (by omega)).mp q ha), if_neg (fun q => (isS_ h (by omega)).mp q hb), spM h (by omega) ha, spM h (by omega) hb]
  unfold bd_X8_both_64_k1 bd_X8_both_64_k2 bd_X8_both_64_k3 bd_X8_both_64_k4
  rw [show (50 : Int32) = nI 50 from rfl, pk_rem (by omega) (by decide) (by decide), pk_div (by omega) (by decide) (by decide), spM h (by omega) ha, spM h (by omega) hb, eqE h hp, eqE h hq, i1 (by omega), i1 (by omega), eA, eQ, elp, elq, show (100 : Int32) = nI 100 from rfl, mulI, addI, addI, addI, addI, addI]
  have hc : 100 * (k / 50) + k % 50 < 10000 := by omega
  generalize 100 * (k / 50) + k % 50 = ab at ho hc ⊢
  generalize spn L (k / 50) = a at sa ⊢
  generalize spn L (k % 50) = b at sb ⊢
  have fin : ∀ t : Nat, t = tl a b → a ≤ t → b ≤ t → t ≤ 1800 → (if nI (A + t) - nI a = nI (Q + t) - nI b then if nI lp ≤ nI (A + t) - nI a then ((decO o).1, (decO o).2) else if nI lq ≤ nI (Q + t) - nI b then ((decO o).1, (decO o).2) else if (decO o).2 = -1 then (nI t, nI ab) else if (decO o).1 ≤ nI t then ((decO o).1, (decO o).2) else (nI t, nI ab) else ((decO o).1, (decO o).2)) = decO (omin o (keyO A Q lp lq a b ab)) := by
    intro t et t1 t2 t3
    rw [pk_sub (by omega), pk_sub (by omega)]
    unfold keyO
    rw [← et]
    have hn : decO (omin o none) = decO o := by cases o <;> rfl
    by_cases c1 : A + t - a = Q + t - b
    · rw [if_pos (by rw [c1])]
      by_cases c2 : A + t - a < lp
      · rw [if_neg (nI_ge c2 (by omega))]
        by_cases c3 : Q + t - b < lq
        · rw [if_neg (nI_ge c3 (by omega)), if_pos (show A + t - a = Q + t - b ∧ A + t - a < lp ∧ Q + t - b < lq from ⟨c1, c2, c3⟩)]
          have ek : decO (some (t * 10000 + ab)) = (nI t, nI ab) := by
            show (nI ((t * 10000 + ab) / 10000), nI ((t * 10000 + ab) % 10000)) = _
            rw [show (t * 10000 + ab) / 10000 = t by omega, show (t * 10000 + ab) % 10000 = ab by omega]
          cases o with
          | none =>
            rw [if_pos (show (decO none).2 = -1 from rfl)]
            exact ek.symm
          | some m =>
            obtain ⟨o1, o2⟩ := ho m rfl
            rw [if_neg (show ¬ (decO (some m)).2 = -1 from neg1 (by omega))]
            show _ = decO (if t * 10000 + ab < m then some (t * 10000 + ab) else some m)
            by_cases c4 : m / 10000 ≤ t
            · rw [if_pos (show (decO (some m)).1 ≤ nI t from nI_le c4 (by omega)), if_neg (by omega)]
            · rw [if_neg (show ¬ (decO (some m)).1 ≤ nI t from nI_ge (by omega) (by omega)), if_pos (by omega), ek]
        · rw [if_pos (nI_le (by omega) (by omega)), if_neg (fun k => c3 k.2.2), hn]
      · rw [if_pos (nI_le (by omega) (by omega)), if_neg (fun k => c2 k.2.1), hn]
    · rw [if_neg (fun k => c1 ((inj_nI (by omega) (by omega)).mp k)), if_neg (fun k => c1 k.1), hn]
  by_cases c : a ≤ b
  · rw [if_pos (nI_le c (by omega))]
    refine fin b ?_ c (Nat.le_refl _) sb
    unfold tl
    split <;> omega
  · rw [if_neg (nI_ge (by omega) (by omega))]
    refine fin a ?_ (Nat.le_refl _) (by omega) sa
    unfold tl
    split <;> omega
theorem mB (h : Sh L M) {A Q lp lq : Nat} (hp : p < nP L) (hq : q < nP L) (eA : M.2 9 (1 + p) = nI A) (eQ : M.2 9 (1 + q) = nI Q) (hA : A < 150) (hQ : Q < 150) (elp : L.2 2 p = nI lp) (elq : L.2 2 q = nI lq) (hlp : lp < 151) (hlq : lq < 151) :
    ∀ n : Nat, n ≤ 2500 → ∃ o : Option Nat, it_X8_both_64 M (nI p) (nI q) z (-1, -1) n = decO o ∧ Mn (fun m => ∃ k : Nat, k < n ∧ stayN (nD L) (k / 50) ∧ stayN (nD L) (k % 50) ∧ keyO A Q lp lq (spn L (k / 50)) (spn L (k % 50)) (100 * (k / 50) + k % 50) = some m) o
  | 0, _ => ⟨none, rfl, fun m ⟨i, hi, _⟩ => absurd hi (Nat.not_lt_zero i)⟩
  | n + 1, hn => by
    obtain ⟨o, e1, e2⟩ := mB h hp hq eA eQ hA hQ elp elq hlp hlq n (by omega)
    show ∃ o : Option Nat, bd_X8_both_64 M (nI p) (nI q) z n (it_X8_both_64 M (nI p) (nI q) z (-1, -1) n) = decO o ∧ _
    rw [e1]
    by_cases c : stayN (nD L) (n / 50) ∧ stayN (nD L) (n % 50)
    · refine ⟨_, mB0 h (by omega) hp hq eA eQ hA hQ elp elq hlp hlq c.1 c.2 (fun m e => ?_), Mn_c (fun m => ?_) (Mn_step e2)⟩
      · rw [e] at e2
        obtain ⟨k, k1, k2, k3, k4⟩ := e2.1
        obtain ⟨u1, u2, -⟩ := key_lt (spn_le h k2) (spn_le h k3) (by omega) k4
        exact ⟨u1, by omega⟩
      · constructor
        · rintro (⟨k, k1, k2⟩ | k)
          · exact ⟨k, by omega, k2⟩
          · exact ⟨n, by omega, c.1, c.2, k⟩
        · rintro ⟨k, k1, k2, k3, k4⟩
          by_cases e : k = n
          · subst e
            exact Or.inr k4
          · exact Or.inl ⟨k, by omega, k2, k3, k4⟩
    · refine ⟨o, ?_, Mn_c (fun m => ?_) e2⟩
      · unfold bd_X8_both_64
        rw [show (50 : Int32) = nI 50 from rfl, pk_rem (by omega) (by decide) (by decide), pk_div (by omega) (by decide) (by decide)]
        by_cases c1 : stayN (nD L) (n / 50)
        · rw [if_neg (fun q => (isS_ h (by omega)).mp q c1), if_pos ((isS_ h (by omega)).mpr (fun k => c ⟨c1, k⟩))]
        · rw [if_pos ((isS_ h (by omega)).mpr c1)]
      · constructor
        · rintro ⟨k, k1, k2⟩
          exact ⟨k, by omega, k2⟩
        · rintro ⟨k, k1, k2, k3, k4⟩
          by_cases e : k = n
          · subst e
            exact absurd ⟨k2, k3⟩ c
          · exact ⟨k, by omega, k2, k3, k4⟩
theorem q_both (h : Sh L M) (r : Row L (F.2 0) (M.2 9)) {x1 x2 x3 : Int32} : f_X7_both T L F x1 x2 x3 = f_X8_both M x1 x2 x3 := by
  unfold f_X7_both f_X8_both
  rw [two_ h]
  by_cases c1 : f_X8_isPerson M x1 = 0
  · rw [if_pos c1, if_pos c1, if_pos rfl]
  rw [if_neg c1, if_neg c1]
  by_cases c2 : f_X8_isPerson M x2 = 0
  · rw [if_pos c2, if_pos c2, if_pos rfl]
  rw [if_neg c2, if_neg c2]
  by_cases c3 : x1 = x2
  · rw [if_pos c3, if_pos c3, if_pos rfl]
  rw [if_neg c3, if_neg c3, if_neg ne10]
  by_cases c7 : x3 < 0
  · rw [if_pos c7, in_0 (Or.inl c7), if_pos rfl]
  rw [if_neg c7]
  by_cases c8 : x3 ≤ 1
  · rw [if_pos c8, in_1 c7 (Int32.not_lt.mpr c8), if_neg ne10]
    rw [eqP h] at c1 c2
    obtain ⟨p, hp, rfl⟩ := hasP c1
    obtain ⟨q, hq, rfl⟩ := hasP c2
    have h7 := nP_le h.1
    have h4 := nD_le h.1
    rw [eqA h r hp, eqA h r hq]
    by_cases c9 : f_X3_isAbove F (nI p) = 0
    · rw [if_pos c9, if_pos c9]
    rw [if_neg c9, if_neg c9]
    by_cases c10 : f_X3_isAbove F (nI q) = 0
    · rw [if_pos c10, if_pos c10]
    rw [if_neg c10, if_neg c10]
    rw [ab_ (by omega), (r.2.1 p hp).2.1] at c9
    rw [ab_ (by omega), (r.2.1 q hq).2.1] at c10
    have wp : M.2 9 (8 + p) = 0 := Classical.byContradiction (fun k => c9 (if_neg k))
    have wq : M.2 9 (8 + q) = 0 := Classical.byContradiction (fun k => c10 (if_neg k))
    obtain ⟨a1, a2, a3, a4, a5⟩ := r.2.1 p hp
    obtain ⟨b1, b2, b3, b4, b5⟩ := r.2.1 q hq
    have lp := (h.2.2.2.1 p hp).2.2.2
    have lq := (h.2.2.2.1 q hq).2.2.2
    rw [wp] at a5
    rw [wq] at b5
    have ap := a5.2.resolve_left (by decide)
    have aq := b5.2.resolve_left (by decide)
    obtain ⟨A, hA, eA⟩ := natI (b := 150) ap.1 (by omega)
    obtain ⟨Q, hQ, eQ⟩ := natI (b := 150) aq.1 (by omega)
    obtain ⟨lpn, hlp, elp⟩ := natI (x := L.2 2 p) (b := 151) (by omega) (by omega)
    obtain ⟨lqn, hlq, elq⟩ := natI (x := L.2 2 q) (b := 151) (by omega) (by omega)
    obtain ⟨o1, u1, u2⟩ := cB2 (T := T) (z := x3) h (show p < 7 by omega) (show q < 7 by omega) (a1.trans eA) (b1.trans eQ) hA hQ elp elq hlp hlq (9 * nD L + 1) (Nat.le_refl _)
    obtain ⟨o2, v1, v2⟩ := mB (z := x3) h hp hq eA eQ hA hQ elp elq hlp hlq 2500 (Nat.le_refl _)
    have eo : o1 = o2 := by
      refine Mn_u u2 (Mn_c (fun m => ?_) v2)
      constructor
      · rintro ⟨k, k1, k2, k3, k4⟩
        obtain ⟨i, i1, i2⟩ := fig_on k2
        obtain ⟨j, j1, j2⟩ := fig_on k3
        exact ⟨i, j, by omega, j1, by rw [i2, j2]; exact k4⟩
      · rintro ⟨i, j, hi, hj, e⟩
        obtain ⟨fi, si⟩ := fig_50 (i := i) (n := nD L) (by omega) h4
        obtain ⟨fj, sj⟩ := fig_50 hj h4
        refine ⟨50 * figN i + figN j, by omega, ?_⟩
        rw [show (50 * figN i + figN j) / 50 = figN i by omega, show (50 * figN i + figN j) % 50 = figN j by omega]
        exact ⟨si, sj, e⟩
    have hb : ∀ m, o2 = some m → m < 2147483647 := fun m e => by
      rw [e] at v2
      obtain ⟨k, k1, k2, k3, k4⟩ := v2.1
      exact (key_lt (spn_le h k2) (spn_le h k3) (by omega) k4).1
    rw [show (L.1 2).toNatClampNeg = nD L from rfl, u1, v1, eo]
    unfold f_X7_both_k1 f_X8_both_k1
    cases o2 with
    | none =>
      rw [if_pos (show encO none = 2147483647 from rfl)]
      show (-1 : Int32) = if x3 = 0 then -1 else -1
      split <;> rfl
    | some m =>
      have hm := hb m rfl
      show (if nI m = 2147483647 then (-1 : Int32) else if x3 = 0 then nI m / 10000 else nI m - nI m / 10000 * 10000) = if x3 = 0 then nI (m / 10000) else nI (m % 10000)
      rw [if_neg (show ¬ nI m = 2147483647 from fun k => by
        have := (inj_nI (b := 2147483647) (by omega) (by decide)).mp k
        omega), show (10000 : Int32) = nI 10000 from rfl, pk_rem (by omega) (by decide) (by decide), pk_div (by omega) (by decide) (by decide)]
  · rw [if_neg c8, in_0 (Or.inr (nle_lt c8)), if_pos rfl]
end Both
