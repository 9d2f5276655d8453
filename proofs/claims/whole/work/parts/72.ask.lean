def cnt (v : Nat → Int32) (a : Int32) (j : Nat) : Nat → Nat
  | 0 => 0
  | k + 1 => cnt v a j k + (if v (j + k) = a then 1 else 0)
theorem cnt_le (v : Nat → Int32) (a : Int32) (j : Nat) : ∀ k : Nat, cnt v a j k ≤ k
  | 0 => Nat.le_refl _
  | k + 1 => by
    have := cnt_le v a j k
    show cnt v a j k + (if v (j + k) = a then 1 else 0) ≤ k + 1
    split <;> omega
theorem cnt_add (v : Nat → Int32) (a : Int32) (j m : Nat) : ∀ k : Nat, cnt v a j (m + k) = cnt v a j m + cnt v a (j + m) k
  | 0 => rfl
  | k + 1 => by
    have := cnt_add v a j m k
    show cnt v a j (m + k) + (if v (j + (m + k)) = a then 1 else 0) = cnt v a j m + (cnt v a (j + m) k + (if v (j + m + k) = a then 1 else 0))
    rw [this, Nat.add_assoc j m k]
    omega
theorem cnt_0 {v : Nat → Int32} {a : Int32} {j : Nat} : ∀ {k : Nat}, (∀ i : Nat, i < k → ¬ v (j + i) = a) → cnt v a j k = 0
  | 0, _ => rfl
  | k + 1, h => by
    show cnt v a j k + (if v (j + k) = a then 1 else 0) = 0
    rw [cnt_0 (fun i hi => h i (by omega)), if_neg (h k (by omega))]
theorem cnt_h (v : Nat → Int32) (a : Int32) (j k : Nat) : cnt v a j (k + 1) = (if v j = a then 1 else 0) + cnt v a (j + 1) k := by
  have := cnt_add v a j 1 k
  rw [Nat.add_comm 1 k] at this
  rw [this]
  show (0 + (if v (j + 0) = a then 1 else 0)) + _ = _
  rw [Nat.add_zero, Nat.zero_add]
def mxN (A : Nat → Nat) : Nat → Nat
  | 0 => 0
  | k + 1 => if mxN A k < A k then A k else mxN A k
theorem mx_ge (A : Nat → Nat) : ∀ {n i : Nat}, i < n → A i ≤ mxN A n
  | 0, i, h => absurd h (Nat.not_lt_zero i)
  | n + 1, i, h => by
    show A i ≤ if mxN A n < A n then A n else mxN A n
    by_cases e : i = n
    · subst e
      split <;> omega
    · have := mx_ge A (n := n) (i := i) (by omega)
      split <;> omega
theorem mx_le (A : Nat → Nat) {b : Nat} : ∀ {n : Nat}, (∀ i : Nat, i < n → A i ≤ b) → mxN A n ≤ b
  | 0, _ => Nat.zero_le b
  | n + 1, h => by
    show (if mxN A n < A n then A n else mxN A n) ≤ b
    split
    · exact h n (by omega)
    · exact mx_le A (fun i hi => h i (by omega))
theorem mx_same (v : Nat → Int32) (n : Nat) : mxN (fun i => cnt v (v i) i (n - i)) n = mxN (fun i => cnt v (v i) 0 n) n := by
  apply Nat.le_antisymm
  · refine mx_le _ (fun i hi => ?_)
    have e := cnt_add v (v i) 0 i (n - i)
    rw [show i + (n - i) = n by omega, Nat.zero_add] at e
    have := mx_ge (fun i => cnt v (v i) 0 n) (n := n) (i := i) hi
    try dsimp only at this ⊢
    omega
  · refine mx_le _ (fun k hk => ?_)
    obtain ⟨i, h1, h2, h3⟩ := fb_first (p := fun i => v i = v k) (n := k + 1) ⟨k, by omega, rfl⟩
    have e := cnt_add v (v k) 0 i (n - i)
    rw [show i + (n - i) = n by omega, Nat.zero_add, cnt_0 (k := i) (fun j hj => by rw [Nat.zero_add]; exact h3 j hj)] at e
    have := mx_ge (fun i => cnt v (v i) i (n - i)) (n := n) (i := i) (by omega)
    try dsimp only at this ⊢
    rw [h2] at this
    omega
section Ask
variable {T X L F P I N B M M' : St} {x y z : Int32} {d p q g : Nat}
def vL (L : St) (g : Nat) (l : List (Nat × Nat)) (i : Nat) : Int32 :=
  match l[i]? with
  | some (d, t) => Wt L g d t
  | none => 0
theorem vL_C (ok : okA L) {l : List (Nat × Nat)} (h2 : ∀ i d t : Nat, l[i]? = some (d, t) → d < nD L ∧ t < 31) (hC : HoC N l) (hW : Ctd L N) (hg : g < nG L) {i : Nat} (hi : i < l.length) : f_X1_worthBy N (nI g) (N.2 3 i) = vL L g l i := by
  have e : l[i]? = some ((l[i]).1, (l[i]).2) := List.getElem?_eq_getElem hi
  obtain ⟨a, b⟩ := h2 _ _ _ e
  rw [hC.2 _ _ _ e, wby ok hW hg a b]
  unfold vL
  rw [e]
theorem vL_M {l : List (Nat × Nat)} {n : Int32} (hM : HoM L M n l) (hg : g < nG L) {i : Nat} (hi : i < l.length) : M.2 18 (6 * i + g) = vL L g l i := by
  have e : l[i]? = some ((l[i]).1, (l[i]).2) := List.getElem?_eq_getElem hi
  rw [(hM.2 _ _ _ e).2 g hg]
  unfold vL
  rw [e]
theorem al_lp {v : Nat → Int32} {n : Nat} (hn : n ≤ 124) (hv : ∀ i : Nat, i < n → f_X1_worthBy N (nI g) (N.2 3 i) = v i) {a : Int32} {a2 : Nat} : ∀ (k j u : Nat), j + k = n → lp_X1_alikeFrom_18 N (nI g) a2 a k j (nI u) = nI (u + cnt v a j k)
  | 0, j, u, _ => rfl
  | k + 1, j, u, e => by
    show lb_X1_alikeFrom_18 N (nI g) a2 a (lp_X1_alikeFrom_18 N (nI g) a2 a k) j (nI u) = _
    unfold lb_X1_alikeFrom_18
    rw [clI (by omega), hv j (by omega), show nI u + 1 = nI (u + 1) from addI u 1, al_lp hn hv k (j + 1) (u + 1) (by omega), al_lp hn hv k (j + 1) u (by omega), cnt_h]
    by_cases c : v j = a
    · rw [if_pos c, if_pos c, Nat.add_assoc]
    · rw [if_neg c, if_neg c, Nat.zero_add]
theorem al_ {v : Nat → Int32} {n : Nat} (hn : n ≤ 124) (h2 : N.1 2 = nI n) (hv : ∀ i : Nat, i < n → f_X1_worthBy N (nI g) (N.2 3 i) = v i) {i : Nat} (hi : i < n) : f_X1_alikeFrom N (nI g) i = nI (cnt v (v i) i (n - i)) := by
  unfold f_X1_alikeFrom f_X1_alikeFrom_k1
  rw [clI (show i < 1000 by omega), hv i hi, h2, clI (by omega), show (0 : Int32) = nI 0 from rfl, al_lp hn hv (n - i) i 0 (by omega), Nat.zero_add]
theorem gp_lp {v : Nat → Int32} {n : Nat} (hn : n ≤ 124) (h2 : N.1 2 = nI n) (hv : ∀ i : Nat, i < n → f_X1_worthBy N (nI g) (N.2 3 i) = v i) : ∀ (k j : Nat), j ≤ n → n < j + k → lp_X1_greatestPart_4 N (nI g) k j (nI (mxN (fun i => cnt v (v i) i (n - i)) j)) = nI (mxN (fun i => cnt v (v i) i (n - i)) n)
  | 0, j, h, h' => by omega
  | k + 1, j, h, h' => by
    have hb : ∀ m : Nat, m ≤ n → mxN (fun i => cnt v (v i) i (n - i)) m ≤ n := fun m _ => mx_le _ (fun i _ => by
      have := cnt_le v (v i) i (n - i)
      try dsimp only
      omega)
    have hm := hb j h
    show lb_X1_greatestPart_4 N (nI g) (lp_X1_greatestPart_4 N (nI g) k) j (nI (mxN (fun i => cnt v (v i) i (n - i)) j)) = _
    unfold lb_X1_greatestPart_4 lb_X1_greatestPart_4_k1
    rw [h2, pk_sub hm]
    by_cases c : n - mxN (fun i => cnt v (v i) i (n - i)) j ≤ j
    · rw [if_pos (nI_le c (by omega))]
      congr 1
      apply Nat.le_antisymm
      · refine mx_le _ (fun i hi => ?_)
        exact mx_ge (fun i => cnt v (v i) i (n - i)) (n := n) (i := i) (by omega)
      · refine mx_le _ (fun i hi => ?_)
        by_cases e : i < j
        · exact mx_ge (fun i => cnt v (v i) i (n - i)) (n := j) (i := i) e
        · have := cnt_le v (v i) i (n - i)
          try dsimp only
          omega
    · have hj : j < n := by omega
      rw [if_neg (nI_ge (by omega) (by omega)), al_ hn h2 hv hj]
      have e : (if nI (mxN (fun i => cnt v (v i) i (n - i)) j) < nI (cnt v (v j) j (n - j)) then nI (cnt v (v j) j (n - j)) else nI (mxN (fun i => cnt v (v i) i (n - i)) j)) = nI (mxN (fun i => cnt v (v i) i (n - i)) (j + 1)) := by
        have := cnt_le v (v j) j (n - j)
        show _ = nI (if mxN (fun i => cnt v (v i) i (n - i)) j < cnt v (v j) j (n - j) then cnt v (v j) j (n - j) else mxN (fun i => cnt v (v i) i (n - i)) j)
        by_cases c2 : mxN (fun i => cnt v (v i) i (n - i)) j < cnt v (v j) j (n - j)
        · rw [if_pos c2, if_pos (nI_lt c2 (by omega))]
        · rw [if_neg c2, if_neg (nI_nlt (by omega) (by omega))]
      rw [e]
      exact gp_lp hn h2 hv k (j + 1) hj (by omega)
theorem gp_ {v : Nat → Int32} {n : Nat} (hn : n ≤ 124) (h2 : N.1 2 = nI n) (hv : ∀ i : Nat, i < n → f_X1_worthBy N (nI g) (N.2 3 i) = v i) : f_X1_greatestPart N (nI g) = nI (mxN (fun i => cnt v (v i) 0 n) n) := by
  rw [← mx_same]
  exact gp_lp hn h2 hv 125 0 (by omega) (by omega)
theorem ak41 {v : Nat → Int32} {n : Nat} (hn : n ≤ 124) (hg : g < 6) (hv : ∀ i : Nat, i < n → M.2 18 (6 * i + g) = v i) {a b c e : Int32} {k : Nat} (hk : k < n) : ∀ j : Nat, j ≤ n → it_X8_ask_41 M a b c g e k 0 j = nI (cnt v (v k) 0 j)
  | 0, _ => rfl
  | j + 1, hj => by
    have ih := ak41 hn hg hv (a := a) (b := b) (c := c) (e := e) hk j (by omega)
    show bd_X8_ask_41 M a b c g e k j (it_X8_ask_41 M a b c g e k 0 j) = nI (cnt v (v k) 0 j + (if v (0 + j) = v k then 1 else 0))
    rw [ih, Nat.zero_add]
    unfold bd_X8_ask_41
    rw [show (6 : Int32) = nI 6 from rfl, mulI, mulI, addI, addI, clI (by omega), clI (by omega), hv j (by omega), hv k hk]
    by_cases q : v j = v k
    · rw [if_pos q, if_pos q]
      exact addI _ 1
    · rw [if_neg q, if_neg q]
      exact addI _ 0
theorem ak29 {v : Nat → Int32} {n : Nat} (hn : n ≤ 124) (hg : g < 6) (hv : ∀ i : Nat, i < n → M.2 18 (6 * i + g) = v i) {b c : Int32} : ∀ k : Nat, k ≤ n → it_X8_ask_29 M (nI n) b c g 0 k = nI (mxN (fun i => cnt v (v i) 0 n) k)
  | 0, _ => rfl
  | k + 1, hk => by
    have ih := ak29 hn hg hv (b := b) (c := c) k (by omega)
    have hb : mxN (fun i => cnt v (v i) 0 n) k ≤ n := mx_le _ (fun i _ => cnt_le v (v i) 0 n)
    have hc := cnt_le v (v k) 0 n
    show bd_X8_ask_29 M (nI n) b c g k (it_X8_ask_29 M (nI n) b c g 0 k) = nI (if mxN (fun i => cnt v (v i) 0 n) k < cnt v (v k) 0 n then cnt v (v k) 0 n else mxN (fun i => cnt v (v i) 0 n) k)
    unfold bd_X8_ask_29 bd_X8_ask_29_k1
    rw [ih, clI (show n < 1000 by omega), ak41 hn hg hv (by omega) n (Nat.le_refl _)]
    by_cases q : mxN (fun i => cnt v (v i) 0 n) k < cnt v (v k) 0 n
    · rw [if_pos q, if_neg (nI_ge q (by omega))]
    · rw [if_neg q, if_pos (nI_le (by omega) (by omega))]
theorem r_ask (h : Sh L M) (r : RFi L N M) : (f_X7_ask T L N).1 = (f_X8_ask M).1 ∧ RFi L (f_X7_ask T L N).2 (f_X8_ask M).2 ∧ Same [] [16, 17, 18] M (f_X8_ask M).2 := by
  obtain ⟨l, l1, l2, hC, hW, hM, hR, hS⟩ := both_l h r
  have h6 := nG_le h.1
  unfold f_X7_ask f_X8_ask f_X7_ask_k1 f_X7_ask_k2 f_X8_ask_k1 f_X8_ask_k2
  generalize f_X1_seek L N = N' at hC hW hR ⊢
  generalize f_X8_lays M = v at hM hS ⊢
  have hR' : RFi L N' v.2 := RFi_s (hS.1 4 (by decide)) (hS.2 14 (by decide)) hR
  refine ⟨?_, hR', hS⟩
  have lt : ∀ g : Nat, g ≤ nG L → it_X7_ask_23 T L N' (-1, nI l.length) g = it_X8_ask_12 v.2 (nI l.length) (-1, nI l.length) g := by
    intro g
    induction g with
    | zero => exact fun _ => rfl
    | succ g ih =>
      intro hg
      show bd_X7_ask_23 T L N' g (it_X7_ask_23 T L N' (-1, nI l.length) g) = bd_X8_ask_12 v.2 (nI l.length) g (it_X8_ask_12 v.2 (nI l.length) (-1, nI l.length) g)
      rw [ih (by omega)]
      generalize it_X8_ask_12 v.2 (nI l.length) (-1, nI l.length) g = u
      unfold bd_X7_ask_23 bd_X8_ask_12 bd_X8_ask_12_k1
      rw [gp_ l1 hC.1 (fun i hi => vL_C h.1 l2 hC hW (show g < nG L by omega) hi), clI (show l.length < 1000 by omega), ak29 l1 (show g < 6 by omega) (fun i hi => vL_M hM (show g < nG L by omega) hi) l.length (Nat.le_refl _)]
  try dsimp only
  rw [hC.1, hM.1, k4, hS.2 1 (by decide), Sh_nG h, show (L.1 4).toNatClampNeg = nG L from rfl, lt (nG L) (Nat.le_refl _)]
end Ask
