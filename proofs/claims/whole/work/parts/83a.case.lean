theorem ad_sw (cI cZ cQ : ClassId) (g : Nat → Nat → Nat) (S U : St) : (wX7 cI cZ cQ (gsw g U) S).map Prod.fst = (wX7 cI cZ cQ g S).map Prod.fst := by
  show [gsw g U 0 0] = [g 0 0]
  unfold gsw
  split <;> rfl
theorem pm_sw {a b c d : va_W} {r : List va_W} : (fl (a :: b :: c :: d :: r)).Perm (fl (a :: b :: d :: c :: r)) := by
  show (a ++ (b ++ (c ++ (d ++ r.flatten)))).Perm (a ++ (b ++ (d ++ (c ++ r.flatten))))
  refine List.Perm.append_left a (List.Perm.append_left b ?_)
  rw [← List.append_assoc, ← List.append_assoc]
  exact List.Perm.append_right _ List.perm_append_comm
section LawR
variable {p : Program} {l : Launch} {e : Env} {s : State} {m : MethodId} {args : Array Value} {below : List Frame} {meth : Method} {c : Code} {Q : State → Prop} {Dg : va_G} {A : Nat → Prop} {k9 n9 : Nat} {cI cZ cQ : ClassId} {b Ls : Nat} {xs : Nat → Int32}
set_option maxHeartbeats 4000000 in
set_option maxRecDepth 100000 in
theorem lc_feed (X : CX p s m args meth c code RL wsL_law 4 Dg (tyL cI cZ cQ) A) (hX : va_X b Ls xs s s.heap) (hbl : b < s.heap.size) (hbA : ¬ A b) (hk : k9 ≤ room_1.cells ∧ n9 ≤ room_1.slots) (hL : Ls ≤ 384) {i : Nat} (hi : i + 6 ≤ Ls) {rM : Nat → Nat} {g : Nat → Nat → Nat} {ST SX SL SD SF SP SI SN SB SM : St} (h : Rel ST SX SL SF SP SI SN SB SM) (kk : LwK p l e s m args below meth c Dg A k9 n9 Q cI cZ cQ b i rM (g 0 0)) : WW p l e room_1 s m args below meth c 4 Dg A k9 n9 Q (fl (wAll cI cZ cQ g rM ST SX SL SD SF SP SI SN SB SM)) [(3, .int (nI i)), (2, .ref (rM 0)), (1, .ref (g 0 0)), (0, .ref b)] 176 [] := by
  refine ww_aload_n (pc := 176) X dL_law_176 2 rfl rfl ?_
  refine ww_aload_n (pc := 177) X dL_law_177 3 rfl rfl ?_
  refine ww_iload_n (pc := 178) X dL_law_178 0 rfl rfl ?_
  refine ww_iconst (pc := 179) (v := 1) X dL_law_179 (by decide) ?_
  refine ww_iadd (pc := 180) X dL_law_180 ?_
  refine ww_sld (pc := 181) X hX hbl hbA (in_s hi hL (n := 1) (by decide)) dL_law_181 ?_
  refine ww_gVi (pc := 182) (rest := []) (gsN := [wX7 cI cZ cQ g ST, wX6 cI cZ cQ (g 1) ((f_X7_feed ST SX (xs (nI i + 1).toNatClampNeg)).2), wX5 cI cZ cQ (g 2) SL, wX5 cI cZ cQ (g 3) SD, wX3 cI cZ cQ (g 4) SF, wX4 cI cZ cQ (g 5) SP, wX2 cI cZ cQ (g 6) SI, wX1 cI cZ cQ (g 7) SN, wX0 cI cZ cQ (g 8) SB, wX8 cI cZ cQ rM SM]) (ci := 7) (gi := 0) (qi := 0) X (c_X7_feed l Dg cI cZ cQ g ST SX (xs (nI i + 1).toNatClampNeg) (nd_X0 h)) gL_law_X7_feed rfl hd_X7_feed [true, true, false, false, false, false, false, false, false, false] rfl (acons (ad7 _ _ _ _ _ _) (acons (ad6 _ _ _ _ _ _) rfl)) rfl rfl rfl rfl rfl rfl ⟨rfl, rfl⟩ ⟨Nat.le_of_ble_eq_true rfl, Nat.le_of_ble_eq_true rfl⟩ (Nat.le_of_ble_eq_true rfl) hk dL_law_182 ?_
  refine ww_aload_n (pc := 185) X dL_law_185 1 rfl rfl ?_
  refine ww_aload_n (pc := 186) X dL_law_186 3 rfl rfl ?_
  refine ww_iload_n (pc := 187) X dL_law_187 0 rfl rfl ?_
  refine ww_iconst (pc := 188) (v := 1) X dL_law_188 (by decide) ?_
  refine ww_iadd (pc := 189) X dL_law_189 ?_
  refine ww_sld (pc := 190) X hX hbl hbA (in_s hi hL (n := 1) (by decide)) dL_law_190 ?_
  refine ww_gVi (pc := 191) (rest := [.int ((f_X7_feed ST SX (xs (nI i + 1).toNatClampNeg)).1)]) (gsN := [wX7 cI cZ cQ g ST, wX6 cI cZ cQ (g 1) ((f_X7_feed ST SX (xs (nI i + 1).toNatClampNeg)).2), wX5 cI cZ cQ (g 2) SL, wX5 cI cZ cQ (g 3) SD, wX3 cI cZ cQ (g 4) SF, wX4 cI cZ cQ (g 5) SP, wX2 cI cZ cQ (g 6) SI, wX1 cI cZ cQ (g 7) SN, wX0 cI cZ cQ (g 8) SB, wX8 cI cZ cQ rM ((f_X8_feed SM (xs (nI i + 1).toNatClampNeg)).2)]) (ci := 8) (gi := 0) (qi := 0) X (c_X8_feed l Dg cI cZ cQ rM SM (xs (nI i + 1).toNatClampNeg) (nd_l0 h).1 (nd_l0 h).2) gL_law_X8_feed rfl hd_X8_feed [false, false, false, false, false, false, false, false, false, true] rfl (acons (ad8 _ _ _ _ _ _) rfl) rfl rfl rfl rfl rfl rfl ⟨rfl, rfl⟩ ⟨Nat.le_of_ble_eq_true rfl, Nat.le_of_ble_eq_true rfl⟩ (Nat.le_of_ble_eq_true rfl) hk dL_law_191 ?_
  obtain ⟨hr1, hr2⟩ := s_feed h (x := xs (nI i + 1).toNatClampNeg)
  refine ww_icmp_eq (tgt := 1002) (pc := 194) X dL_law_194 (by decide) (fun _ => ?_) (fun k => absurd hr1 k)
  exact kk g _ _ _ _ _ _ _ _ _ _ rfl hr2
set_option maxHeartbeats 4000000 in
set_option maxRecDepth 100000 in
theorem lc_shore (X : CX p s m args meth c code RL wsL_law 4 Dg (tyL cI cZ cQ) A) (hX : va_X b Ls xs s s.heap) (hbl : b < s.heap.size) (hbA : ¬ A b) (hk : k9 ≤ room_1.cells ∧ n9 ≤ room_1.slots) (hL : Ls ≤ 384) {tt : Nat → Nat} {ak av : Nat} (hZ : Zs tt ak av A s s.heap) {i : Nat} (hi : i + 6 ≤ Ls) {rM : Nat → Nat} {g : Nat → Nat → Nat} {ST SX SL SD SF SP SI SN SB SM : St} (h : Rel ST SX SL SF SP SI SN SB SM) (kk : LwK p l e s m args below meth c Dg A k9 n9 Q cI cZ cQ b i rM (g 0 0)) : WW p l e room_1 s m args below meth c 4 Dg A k9 n9 Q (fl (wAll cI cZ cQ g rM ST SX SL SD SF SP SI SN SB SM)) [(3, .int (nI i)), (2, .ref (rM 0)), (1, .ref (g 0 0)), (0, .ref b)] 199 [] := by
  refine ww_aload_n (pc := 199) X dL_law_199 2 rfl rfl ?_
  refine ww_zVi (pc := 200) (rest := []) (gsN := [wX7 cI cZ cQ (gsw g ((f_X7_shore ST SX SL SD SF SP SI SN SB).2.1)) ST, wX6 cI cZ cQ (g 1) ((f_X7_shore ST SX SL SD SF SP SI SN SB).2.1), wX5 cI cZ cQ (g 2) SL, wX5 cI cZ cQ (g 3) ((f_X7_shore ST SX SL SD SF SP SI SN SB).2.2.1), wX3 cI cZ cQ (g 4) ((f_X7_shore ST SX SL SD SF SP SI SN SB).2.2.2.1), wX4 cI cZ cQ (g 5) ((f_X7_shore ST SX SL SD SF SP SI SN SB).2.2.2.2.1), wX2 cI cZ cQ (g 6) ((f_X7_shore ST SX SL SD SF SP SI SN SB).2.2.2.2.2.1), wX1 cI cZ cQ (g 7) ((f_X7_shore ST SX SL SD SF SP SI SN SB).2.2.2.2.2.2.1), wX0 cI cZ cQ (g 8) ((f_X7_shore ST SX SL SD SF SP SI SN SB).2.2.2.2.2.2.2), wX8 cI cZ cQ rM SM]) (ci := 7) (gi := 0) (qi := 0) X (Zs_ok tt ak av) hZ (c_X7_shore l Dg cI cZ cQ tt ak av g ST SX SL SD SF SP SI SN SB) gL_law_X7_shore rfl hd_X7_shore [true, true, true, true, true, true, true, true, true, false] rfl (acons (ad_sw _ _ _ _ _ _) (acons (ad6 _ _ _ _ _ _) (acons (ad5 _ _ _ _ _ _) (acons (ad5 _ _ _ _ _ _) (acons (ad3 _ _ _ _ _ _) (acons (ad4 _ _ _ _ _ _) (acons (ad2 _ _ _ _ _ _) (acons (ad1 _ _ _ _ _ _) (acons (ad0 _ _ _ _ _ _) rfl))))))))) rfl rfl rfl rfl rfl rfl ⟨rfl, rfl⟩ ⟨Nat.le_of_ble_eq_true rfl, Nat.le_of_ble_eq_true rfl⟩ (Nat.le_of_ble_eq_true rfl) hk dL_law_200 ?_
  refine ww_aload_n (pc := 203) X dL_law_203 1 rfl rfl ?_
  refine ww_gVi (pc := 204) (rest := [.int ((f_X7_shore ST SX SL SD SF SP SI SN SB).1)]) (gsN := [wX7 cI cZ cQ (gsw g ((f_X7_shore ST SX SL SD SF SP SI SN SB).2.1)) ST, wX6 cI cZ cQ (g 1) ((f_X7_shore ST SX SL SD SF SP SI SN SB).2.1), wX5 cI cZ cQ (g 2) SL, wX5 cI cZ cQ (g 3) ((f_X7_shore ST SX SL SD SF SP SI SN SB).2.2.1), wX3 cI cZ cQ (g 4) ((f_X7_shore ST SX SL SD SF SP SI SN SB).2.2.2.1), wX4 cI cZ cQ (g 5) ((f_X7_shore ST SX SL SD SF SP SI SN SB).2.2.2.2.1), wX2 cI cZ cQ (g 6) ((f_X7_shore ST SX SL SD SF SP SI SN SB).2.2.2.2.2.1), wX1 cI cZ cQ (g 7) ((f_X7_shore ST SX SL SD SF SP SI SN SB).2.2.2.2.2.2.1), wX0 cI cZ cQ (g 8) ((f_X7_shore ST SX SL SD SF SP SI SN SB).2.2.2.2.2.2.2), wX8 cI cZ cQ rM ((f_X8_shore SM).2)]) (ci := 8) (gi := 0) (qi := 0) X (c_X8_shore l Dg cI cZ cQ rM SM (nd_l0 h).1 (nd_l0 h).2) gL_law_X8_shore rfl hd_X8_shore [false, false, false, false, false, false, false, false, false, true] rfl (acons (ad8 _ _ _ _ _ _) rfl) rfl rfl rfl rfl rfl rfl ⟨rfl, rfl⟩ ⟨Nat.le_of_ble_eq_true rfl, Nat.le_of_ble_eq_true rfl⟩ (Nat.le_of_ble_eq_true rfl) hk dL_law_204 ?_
  obtain ⟨hr1, hr2⟩ := r_shore (D := SD) h
  refine ww_icmp_eq (tgt := 1002) (pc := 207) X dL_law_207 (by decide) (fun _ => ?_) (fun k => absurd hr1 k)
  rcases hr2 with ⟨q0, q1⟩ | ⟨q0, q1⟩
  · have eg : gsw g ((f_X7_shore ST SX SL SD SF SP SI SN SB).2.1) = sw g := if_pos q0
    rw [eg]
    refine ww_perm ?_ (kk (sw g) ST ((f_X7_shore ST SX SL SD SF SP SI SN SB).2.1) ((f_X7_shore ST SX SL SD SF SP SI SN SB).2.2.1) SL ((f_X7_shore ST SX SL SD SF SP SI SN SB).2.2.2.1) ((f_X7_shore ST SX SL SD SF SP SI SN SB).2.2.2.2.1) ((f_X7_shore ST SX SL SD SF SP SI SN SB).2.2.2.2.2.1) ((f_X7_shore ST SX SL SD SF SP SI SN SB).2.2.2.2.2.2.1) ((f_X7_shore ST SX SL SD SF SP SI SN SB).2.2.2.2.2.2.2) ((f_X8_shore SM).2) rfl q1)
    exact pm_sw
  · have eg : gsw g ((f_X7_shore ST SX SL SD SF SP SI SN SB).2.1) = g := if_neg q0
    rw [eg]
    exact kk g _ _ _ _ _ _ _ _ _ _ rfl q1
set_option maxHeartbeats 4000000 in
set_option maxRecDepth 100000 in
theorem lc_fault (X : CX p s m args meth c code RL wsL_law 4 Dg (tyL cI cZ cQ) A) (hX : va_X b Ls xs s s.heap) (hbl : b < s.heap.size) (hbA : ¬ A b) (hk : k9 ≤ room_1.cells ∧ n9 ≤ room_1.slots) (hL : Ls ≤ 384) {i : Nat} (hi : i + 6 ≤ Ls) {rM : Nat → Nat} {g : Nat → Nat → Nat} {ST SX SL SD SF SP SI SN SB SM : St} (h : Rel ST SX SL SF SP SI SN SB SM) (kk : LwK p l e s m args below meth c Dg A k9 n9 Q cI cZ cQ b i rM (g 0 0)) : WW p l e room_1 s m args below meth c 4 Dg A k9 n9 Q (fl (wAll cI cZ cQ g rM ST SX SL SD SF SP SI SN SB SM)) [(3, .int (nI i)), (2, .ref (rM 0)), (1, .ref (g 0 0)), (0, .ref b)] 212 [] := by
  refine ww_aload_n (pc := 212) X dL_law_212 2 rfl rfl ?_
  refine ww_gVi (pc := 213) (rest := []) (gsN := [wX7 cI cZ cQ g ST, wX6 cI cZ cQ (g 1) SX, wX5 cI cZ cQ (g 2) SL, wX5 cI cZ cQ (g 3) SD, wX3 cI cZ cQ (g 4) SF, wX4 cI cZ cQ (g 5) SP, wX2 cI cZ cQ (g 6) SI, wX1 cI cZ cQ (g 7) SN, wX0 cI cZ cQ (g 8) SB, wX8 cI cZ cQ rM SM]) (ci := 7) (gi := 0) (qi := 0) X (c_X7_fault l Dg cI cZ cQ g ST SX) gL_law_X7_fault rfl hd_X7_fault [true, true, false, false, false, false, false, false, false, false] rfl rfl rfl rfl rfl rfl rfl rfl ⟨rfl, rfl⟩ ⟨Nat.le_of_ble_eq_true rfl, Nat.le_of_ble_eq_true rfl⟩ (Nat.le_of_ble_eq_true rfl) hk dL_law_213 ?_
  refine ww_aload_n (pc := 216) X dL_law_216 1 rfl rfl ?_
  refine ww_gVi (pc := 217) (rest := [.int ((f_X7_fault ST SX))]) (gsN := [wX7 cI cZ cQ g ST, wX6 cI cZ cQ (g 1) SX, wX5 cI cZ cQ (g 2) SL, wX5 cI cZ cQ (g 3) SD, wX3 cI cZ cQ (g 4) SF, wX4 cI cZ cQ (g 5) SP, wX2 cI cZ cQ (g 6) SI, wX1 cI cZ cQ (g 7) SN, wX0 cI cZ cQ (g 8) SB, wX8 cI cZ cQ rM SM]) (ci := 8) (gi := 0) (qi := 0) X (c_X8_fault l Dg cI cZ cQ rM SM) gL_law_X8_fault rfl hd_X8_fault [false, false, false, false, false, false, false, false, false, true] rfl rfl rfl rfl rfl rfl rfl rfl ⟨rfl, rfl⟩ ⟨Nat.le_of_ble_eq_true rfl, Nat.le_of_ble_eq_true rfl⟩ (Nat.le_of_ble_eq_true rfl) hk dL_law_217 ?_
  refine ww_icmp_eq (tgt := 1002) (pc := 220) X dL_law_220 (by decide) (fun _ => ?_) (fun k => absurd (h.2.1) k)
  exact kk g _ _ _ _ _ _ _ _ _ _ rfl h
set_option maxHeartbeats 4000000 in
set_option maxRecDepth 100000 in
theorem lc_told (X : CX p s m args meth c code RL wsL_law 4 Dg (tyL cI cZ cQ) A) (hX : va_X b Ls xs s s.heap) (hbl : b < s.heap.size) (hbA : ¬ A b) (hk : k9 ≤ room_1.cells ∧ n9 ≤ room_1.slots) (hL : Ls ≤ 384) {i : Nat} (hi : i + 6 ≤ Ls) {rM : Nat → Nat} {g : Nat → Nat → Nat} {ST SX SL SD SF SP SI SN SB SM : St} (h : Rel ST SX SL SF SP SI SN SB SM) (kk : LwK p l e s m args below meth c Dg A k9 n9 Q cI cZ cQ b i rM (g 0 0)) : WW p l e room_1 s m args below meth c 4 Dg A k9 n9 Q (fl (wAll cI cZ cQ g rM ST SX SL SD SF SP SI SN SB SM)) [(3, .int (nI i)), (2, .ref (rM 0)), (1, .ref (g 0 0)), (0, .ref b)] 225 [] := by
  refine ww_aload_n (pc := 225) X dL_law_225 2 rfl rfl ?_
  refine ww_aload_n (pc := 226) X dL_law_226 3 rfl rfl ?_
  refine ww_iload_n (pc := 227) X dL_law_227 0 rfl rfl ?_
  refine ww_iconst (pc := 228) (v := 1) X dL_law_228 (by decide) ?_
  refine ww_iadd (pc := 229) X dL_law_229 ?_
  refine ww_sld (pc := 230) X hX hbl hbA (in_s hi hL (n := 1) (by decide)) dL_law_230 ?_
  refine ww_gVi (pc := 231) (rest := []) (gsN := [wX7 cI cZ cQ g ST, wX6 cI cZ cQ (g 1) SX, wX5 cI cZ cQ (g 2) SL, wX5 cI cZ cQ (g 3) SD, wX3 cI cZ cQ (g 4) SF, wX4 cI cZ cQ (g 5) SP, wX2 cI cZ cQ (g 6) SI, wX1 cI cZ cQ (g 7) SN, wX0 cI cZ cQ (g 8) SB, wX8 cI cZ cQ rM SM]) (ci := 7) (gi := 0) (qi := 0) X (c_X7_told l Dg cI cZ cQ g ST SX SL SF SP SN SB (xs (nI i + 1).toNatClampNeg) (nd_L h)) gL_law_X7_told rfl hd_X7_told [true, true, true, false, true, true, false, true, true, false] rfl rfl rfl rfl rfl rfl rfl rfl ⟨rfl, rfl⟩ ⟨Nat.le_of_ble_eq_true rfl, Nat.le_of_ble_eq_true rfl⟩ (Nat.le_of_ble_eq_true rfl) hk dL_law_231 ?_
  refine ww_aload_n (pc := 234) X dL_law_234 1 rfl rfl ?_
  refine ww_aload_n (pc := 235) X dL_law_235 3 rfl rfl ?_
  refine ww_iload_n (pc := 236) X dL_law_236 0 rfl rfl ?_
  refine ww_iconst (pc := 237) (v := 1) X dL_law_237 (by decide) ?_
  refine ww_iadd (pc := 238) X dL_law_238 ?_
  refine ww_sld (pc := 239) X hX hbl hbA (in_s hi hL (n := 1) (by decide)) dL_law_239 ?_
  refine ww_gVi (pc := 240) (rest := [.int ((f_X7_told ST SX SL SF SP SN SB (xs (nI i + 1).toNatClampNeg)))]) (gsN := [wX7 cI cZ cQ g ST, wX6 cI cZ cQ (g 1) SX, wX5 cI cZ cQ (g 2) SL, wX5 cI cZ cQ (g 3) SD, wX3 cI cZ cQ (g 4) SF, wX4 cI cZ cQ (g 5) SP, wX2 cI cZ cQ (g 6) SI, wX1 cI cZ cQ (g 7) SN, wX0 cI cZ cQ (g 8) SB, wX8 cI cZ cQ rM SM]) (ci := 8) (gi := 0) (qi := 0) X (c_X8_told l Dg cI cZ cQ rM SM (xs (nI i + 1).toNatClampNeg) (nd_M h) (nd_g h)) gL_law_X8_told rfl hd_X8_told [false, false, false, false, false, false, false, false, false, true] rfl rfl rfl rfl rfl rfl rfl rfl ⟨rfl, rfl⟩ ⟨Nat.le_of_ble_eq_true rfl, Nat.le_of_ble_eq_true rfl⟩ (Nat.le_of_ble_eq_true rfl) hk dL_law_240 ?_
  refine ww_icmp_eq (tgt := 1002) (pc := 243) X dL_law_243 (by decide) (fun _ => ?_) (fun k => absurd (q_told h.2.2.1 h.2.2.2.1.1 (nd_t0 h) (nd_t1 h) (nd_t2 h) (nd_t3 h)) k)
  exact kk g _ _ _ _ _ _ _ _ _ _ rfl h
set_option maxHeartbeats 4000000 in
set_option maxRecDepth 100000 in
theorem lc_depth (X : CX p s m args meth c code RL wsL_law 4 Dg (tyL cI cZ cQ) A) (hX : va_X b Ls xs s s.heap) (hbl : b < s.heap.size) (hbA : ¬ A b) (hk : k9 ≤ room_1.cells ∧ n9 ≤ room_1.slots) (hL : Ls ≤ 384) {i : Nat} (hi : i + 6 ≤ Ls) {rM : Nat → Nat} {g : Nat → Nat → Nat} {ST SX SL SD SF SP SI SN SB SM : St} (h : Rel ST SX SL SF SP SI SN SB SM) (kk : LwK p l e s m args below meth c Dg A k9 n9 Q cI cZ cQ b i rM (g 0 0)) : WW p l e room_1 s m args below meth c 4 Dg A k9 n9 Q (fl (wAll cI cZ cQ g rM ST SX SL SD SF SP SI SN SB SM)) [(3, .int (nI i)), (2, .ref (rM 0)), (1, .ref (g 0 0)), (0, .ref b)] 248 [] := by
  refine ww_aload_n (pc := 248) X dL_law_248 2 rfl rfl ?_
  refine ww_aload_n (pc := 249) X dL_law_249 3 rfl rfl ?_
  refine ww_iload_n (pc := 250) X dL_law_250 0 rfl rfl ?_
  refine ww_iconst (pc := 251) (v := 1) X dL_law_251 (by decide) ?_
  refine ww_iadd (pc := 252) X dL_law_252 ?_
  refine ww_sld (pc := 253) X hX hbl hbA (in_s hi hL (n := 1) (by decide)) dL_law_253 ?_
  refine ww_gVi (pc := 254) (rest := []) (gsN := [wX7 cI cZ cQ g ST, wX6 cI cZ cQ (g 1) SX, wX5 cI cZ cQ (g 2) SL, wX5 cI cZ cQ (g 3) SD, wX3 cI cZ cQ (g 4) SF, wX4 cI cZ cQ (g 5) SP, wX2 cI cZ cQ (g 6) SI, wX1 cI cZ cQ (g 7) SN, wX0 cI cZ cQ (g 8) SB, wX8 cI cZ cQ rM SM]) (ci := 7) (gi := 0) (qi := 0) X (c_X7_depth l Dg cI cZ cQ g ST SL (xs (nI i + 1).toNatClampNeg)) gL_law_X7_depth rfl hd_X7_depth [true, false, true, false, false, false, false, false, false, false] rfl rfl rfl rfl rfl rfl rfl rfl ⟨rfl, rfl⟩ ⟨Nat.le_of_ble_eq_true rfl, Nat.le_of_ble_eq_true rfl⟩ (Nat.le_of_ble_eq_true rfl) hk dL_law_254 ?_
  refine ww_aload_n (pc := 257) X dL_law_257 1 rfl rfl ?_
  refine ww_aload_n (pc := 258) X dL_law_258 3 rfl rfl ?_
  refine ww_iload_n (pc := 259) X dL_law_259 0 rfl rfl ?_
  refine ww_iconst (pc := 260) (v := 1) X dL_law_260 (by decide) ?_
  refine ww_iadd (pc := 261) X dL_law_261 ?_
  refine ww_sld (pc := 262) X hX hbl hbA (in_s hi hL (n := 1) (by decide)) dL_law_262 ?_
  refine ww_gVi (pc := 263) (rest := [.int ((f_X7_depth ST SL (xs (nI i + 1).toNatClampNeg)))]) (gsN := [wX7 cI cZ cQ g ST, wX6 cI cZ cQ (g 1) SX, wX5 cI cZ cQ (g 2) SL, wX5 cI cZ cQ (g 3) SD, wX3 cI cZ cQ (g 4) SF, wX4 cI cZ cQ (g 5) SP, wX2 cI cZ cQ (g 6) SI, wX1 cI cZ cQ (g 7) SN, wX0 cI cZ cQ (g 8) SB, wX8 cI cZ cQ rM SM]) (ci := 8) (gi := 0) (qi := 0) X (c_X8_depth l Dg cI cZ cQ rM SM (xs (nI i + 1).toNatClampNeg) (nd_M h)) gL_law_X8_depth rfl hd_X8_depth [false, false, false, false, false, false, false, false, false, true] rfl rfl rfl rfl rfl rfl rfl rfl ⟨rfl, rfl⟩ ⟨Nat.le_of_ble_eq_true rfl, Nat.le_of_ble_eq_true rfl⟩ (Nat.le_of_ble_eq_true rfl) hk dL_law_263 ?_
  refine ww_icmp_eq (tgt := 1002) (pc := 266) X dL_law_266 (by decide) (fun _ => ?_) (fun k => absurd (q_depth h.2.2.1) k)
  exact kk g _ _ _ _ _ _ _ _ _ _ rfl h
set_option maxHeartbeats 4000000 in
set_option maxRecDepth 100000 in
theorem lc_person (X : CX p s m args meth c code RL wsL_law 4 Dg (tyL cI cZ cQ) A) (hX : va_X b Ls xs s s.heap) (hbl : b < s.heap.size) (hbA : ¬ A b) (hk : k9 ≤ room_1.cells ∧ n9 ≤ room_1.slots) (hL : Ls ≤ 384) {i : Nat} (hi : i + 6 ≤ Ls) {rM : Nat → Nat} {g : Nat → Nat → Nat} {ST SX SL SD SF SP SI SN SB SM : St} (h : Rel ST SX SL SF SP SI SN SB SM) (kk : LwK p l e s m args below meth c Dg A k9 n9 Q cI cZ cQ b i rM (g 0 0)) : WW p l e room_1 s m args below meth c 4 Dg A k9 n9 Q (fl (wAll cI cZ cQ g rM ST SX SL SD SF SP SI SN SB SM)) [(3, .int (nI i)), (2, .ref (rM 0)), (1, .ref (g 0 0)), (0, .ref b)] 271 [] := by
  refine ww_aload_n (pc := 271) X dL_law_271 2 rfl rfl ?_
  refine ww_aload_n (pc := 272) X dL_law_272 3 rfl rfl ?_
  refine ww_iload_n (pc := 273) X dL_law_273 0 rfl rfl ?_
  refine ww_iconst (pc := 274) (v := 1) X dL_law_274 (by decide) ?_
  refine ww_iadd (pc := 275) X dL_law_275 ?_
  refine ww_sld (pc := 276) X hX hbl hbA (in_s hi hL (n := 1) (by decide)) dL_law_276 ?_
  refine ww_aload_n (pc := 277) X dL_law_277 3 rfl rfl ?_
  refine ww_iload_n (pc := 278) X dL_law_278 0 rfl rfl ?_
  refine ww_iconst (pc := 279) (v := 2) X dL_law_279 (by decide) ?_
  refine ww_iadd (pc := 280) X dL_law_280 ?_
  refine ww_sld (pc := 281) X hX hbl hbA (in_s hi hL (n := 2) (by decide)) dL_law_281 ?_
  refine ww_gVi (pc := 282) (rest := []) (gsN := [wX7 cI cZ cQ g ST, wX6 cI cZ cQ (g 1) SX, wX5 cI cZ cQ (g 2) SL, wX5 cI cZ cQ (g 3) SD, wX3 cI cZ cQ (g 4) SF, wX4 cI cZ cQ (g 5) SP, wX2 cI cZ cQ (g 6) SI, wX1 cI cZ cQ (g 7) SN, wX0 cI cZ cQ (g 8) SB, wX8 cI cZ cQ rM SM]) (ci := 7) (gi := 0) (qi := 0) X (c_X7_person l Dg cI cZ cQ g ST SL SF (xs (nI i + 1).toNatClampNeg) (xs (nI i + 2).toNatClampNeg)) gL_law_X7_person rfl hd_X7_person [true, false, true, false, true, false, false, false, false, false] rfl rfl rfl rfl rfl rfl rfl rfl ⟨rfl, rfl⟩ ⟨Nat.le_of_ble_eq_true rfl, Nat.le_of_ble_eq_true rfl⟩ (Nat.le_of_ble_eq_true rfl) hk dL_law_282 ?_
  refine ww_aload_n (pc := 285) X dL_law_285 1 rfl rfl ?_
  refine ww_aload_n (pc := 286) X dL_law_286 3 rfl rfl ?_
  refine ww_iload_n (pc := 287) X dL_law_287 0 rfl rfl ?_
  refine ww_iconst (pc := 288) (v := 1) X dL_law_288 (by decide) ?_
  refine ww_iadd (pc := 289) X dL_law_289 ?_
  refine ww_sld (pc := 290) X hX hbl hbA (in_s hi hL (n := 1) (by decide)) dL_law_290 ?_
  refine ww_aload_n (pc := 291) X dL_law_291 3 rfl rfl ?_
  refine ww_iload_n (pc := 292) X dL_law_292 0 rfl rfl ?_
  refine ww_iconst (pc := 293) (v := 2) X dL_law_293 (by decide) ?_
  refine ww_iadd (pc := 294) X dL_law_294 ?_
  refine ww_sld (pc := 295) X hX hbl hbA (in_s hi hL (n := 2) (by decide)) dL_law_295 ?_
  refine ww_gVi (pc := 296) (rest := [.int ((f_X7_person ST SL SF (xs (nI i + 1).toNatClampNeg) (xs (nI i + 2).toNatClampNeg)))]) (gsN := [wX7 cI cZ cQ g ST, wX6 cI cZ cQ (g 1) SX, wX5 cI cZ cQ (g 2) SL, wX5 cI cZ cQ (g 3) SD, wX3 cI cZ cQ (g 4) SF, wX4 cI cZ cQ (g 5) SP, wX2 cI cZ cQ (g 6) SI, wX1 cI cZ cQ (g 7) SN, wX0 cI cZ cQ (g 8) SB, wX8 cI cZ cQ rM SM]) (ci := 8) (gi := 0) (qi := 0) X (c_X8_person2 l Dg cI cZ cQ rM SM (xs (nI i + 1).toNatClampNeg) (xs (nI i + 2).toNatClampNeg) (nd_M h) (nd_W h)) gL_law_X8_person rfl hd_X8_person [false, false, false, false, false, false, false, false, false, true] rfl rfl rfl rfl rfl rfl rfl rfl ⟨rfl, rfl⟩ ⟨Nat.le_of_ble_eq_true rfl, Nat.le_of_ble_eq_true rfl⟩ (Nat.le_of_ble_eq_true rfl) hk dL_law_296 ?_
  refine ww_icmp_eq (tgt := 1002) (pc := 299) X dL_law_299 (by decide) (fun _ => ?_) (fun k => absurd (q_person h.2.2.1 h.2.2.2.1.1) k)
  exact kk g _ _ _ _ _ _ _ _ _ _ rfl h
set_option maxHeartbeats 4000000 in
set_option maxRecDepth 100000 in
theorem lc_good (X : CX p s m args meth c code RL wsL_law 4 Dg (tyL cI cZ cQ) A) (hX : va_X b Ls xs s s.heap) (hbl : b < s.heap.size) (hbA : ¬ A b) (hk : k9 ≤ room_1.cells ∧ n9 ≤ room_1.slots) (hL : Ls ≤ 384) {i : Nat} (hi : i + 6 ≤ Ls) {rM : Nat → Nat} {g : Nat → Nat → Nat} {ST SX SL SD SF SP SI SN SB SM : St} (h : Rel ST SX SL SF SP SI SN SB SM) (kk : LwK p l e s m args below meth c Dg A k9 n9 Q cI cZ cQ b i rM (g 0 0)) : WW p l e room_1 s m args below meth c 4 Dg A k9 n9 Q (fl (wAll cI cZ cQ g rM ST SX SL SD SF SP SI SN SB SM)) [(3, .int (nI i)), (2, .ref (rM 0)), (1, .ref (g 0 0)), (0, .ref b)] 304 [] := by
  refine ww_aload_n (pc := 304) X dL_law_304 2 rfl rfl ?_
  refine ww_aload_n (pc := 305) X dL_law_305 3 rfl rfl ?_
  refine ww_iload_n (pc := 306) X dL_law_306 0 rfl rfl ?_
  refine ww_iconst (pc := 307) (v := 1) X dL_law_307 (by decide) ?_
  refine ww_iadd (pc := 308) X dL_law_308 ?_
  refine ww_sld (pc := 309) X hX hbl hbA (in_s hi hL (n := 1) (by decide)) dL_law_309 ?_
  refine ww_aload_n (pc := 310) X dL_law_310 3 rfl rfl ?_
  refine ww_iload_n (pc := 311) X dL_law_311 0 rfl rfl ?_
  refine ww_iconst (pc := 312) (v := 2) X dL_law_312 (by decide) ?_
  refine ww_iadd (pc := 313) X dL_law_313 ?_
  refine ww_sld (pc := 314) X hX hbl hbA (in_s hi hL (n := 2) (by decide)) dL_law_314 ?_
  refine ww_gVi (pc := 315) (rest := []) (gsN := [wX7 cI cZ cQ g ST, wX6 cI cZ cQ (g 1) SX, wX5 cI cZ cQ (g 2) SL, wX5 cI cZ cQ (g 3) SD, wX3 cI cZ cQ (g 4) SF, wX4 cI cZ cQ (g 5) SP, wX2 cI cZ cQ (g 6) SI, wX1 cI cZ cQ (g 7) SN, wX0 cI cZ cQ (g 8) SB, wX8 cI cZ cQ rM SM]) (ci := 7) (gi := 0) (qi := 0) X (c_X7_good l Dg cI cZ cQ g ST SL SF (xs (nI i + 1).toNatClampNeg) (xs (nI i + 2).toNatClampNeg)) gL_law_X7_good rfl hd_X7_good [true, false, true, false, true, false, false, false, false, false] rfl rfl rfl rfl rfl rfl rfl rfl ⟨rfl, rfl⟩ ⟨Nat.le_of_ble_eq_true rfl, Nat.le_of_ble_eq_true rfl⟩ (Nat.le_of_ble_eq_true rfl) hk dL_law_315 ?_
  refine ww_aload_n (pc := 318) X dL_law_318 1 rfl rfl ?_
  refine ww_aload_n (pc := 319) X dL_law_319 3 rfl rfl ?_
  refine ww_iload_n (pc := 320) X dL_law_320 0 rfl rfl ?_
  refine ww_iconst (pc := 321) (v := 1) X dL_law_321 (by decide) ?_
  refine ww_iadd (pc := 322) X dL_law_322 ?_
  refine ww_sld (pc := 323) X hX hbl hbA (in_s hi hL (n := 1) (by decide)) dL_law_323 ?_
  refine ww_aload_n (pc := 324) X dL_law_324 3 rfl rfl ?_
  refine ww_iload_n (pc := 325) X dL_law_325 0 rfl rfl ?_
  refine ww_iconst (pc := 326) (v := 2) X dL_law_326 (by decide) ?_
  refine ww_iadd (pc := 327) X dL_law_327 ?_
  refine ww_sld (pc := 328) X hX hbl hbA (in_s hi hL (n := 2) (by decide)) dL_law_328 ?_
  refine ww_gVi (pc := 329) (rest := [.int ((f_X7_good ST SL SF (xs (nI i + 1).toNatClampNeg) (xs (nI i + 2).toNatClampNeg)))]) (gsN := [wX7 cI cZ cQ g ST, wX6 cI cZ cQ (g 1) SX, wX5 cI cZ cQ (g 2) SL, wX5 cI cZ cQ (g 3) SD, wX3 cI cZ cQ (g 4) SF, wX4 cI cZ cQ (g 5) SP, wX2 cI cZ cQ (g 6) SI, wX1 cI cZ cQ (g 7) SN, wX0 cI cZ cQ (g 8) SB, wX8 cI cZ cQ rM SM]) (ci := 8) (gi := 0) (qi := 0) X (c_X8_good l Dg cI cZ cQ rM SM (xs (nI i + 1).toNatClampNeg) (xs (nI i + 2).toNatClampNeg) (nd_M h)) gL_law_X8_good rfl hd_X8_good [false, false, false, false, false, false, false, false, false, true] rfl rfl rfl rfl rfl rfl rfl rfl ⟨rfl, rfl⟩ ⟨Nat.le_of_ble_eq_true rfl, Nat.le_of_ble_eq_true rfl⟩ (Nat.le_of_ble_eq_true rfl) hk dL_law_329 ?_
  refine ww_icmp_eq (tgt := 1002) (pc := 332) X dL_law_332 (by decide) (fun _ => ?_) (fun k => absurd (q_good h.2.2.1 h.2.2.2.1.1) k)
  exact kk g _ _ _ _ _ _ _ _ _ _ rfl h
set_option maxHeartbeats 4000000 in
set_option maxRecDepth 100000 in
theorem lc_year (X : CX p s m args meth c code RL wsL_law 4 Dg (tyL cI cZ cQ) A) (hX : va_X b Ls xs s s.heap) (hbl : b < s.heap.size) (hbA : ¬ A b) (hk : k9 ≤ room_1.cells ∧ n9 ≤ room_1.slots) (hL : Ls ≤ 384) {i : Nat} (hi : i + 6 ≤ Ls) {rM : Nat → Nat} {g : Nat → Nat → Nat} {ST SX SL SD SF SP SI SN SB SM : St} (h : Rel ST SX SL SF SP SI SN SB SM) (kk : LwK p l e s m args below meth c Dg A k9 n9 Q cI cZ cQ b i rM (g 0 0)) : WW p l e room_1 s m args below meth c 4 Dg A k9 n9 Q (fl (wAll cI cZ cQ g rM ST SX SL SD SF SP SI SN SB SM)) [(3, .int (nI i)), (2, .ref (rM 0)), (1, .ref (g 0 0)), (0, .ref b)] 337 [] := by
  refine ww_aload_n (pc := 337) X dL_law_337 2 rfl rfl ?_
  refine ww_aload_n (pc := 338) X dL_law_338 3 rfl rfl ?_
  refine ww_iload_n (pc := 339) X dL_law_339 0 rfl rfl ?_
  refine ww_iconst (pc := 340) (v := 1) X dL_law_340 (by decide) ?_
  refine ww_iadd (pc := 341) X dL_law_341 ?_
  refine ww_sld (pc := 342) X hX hbl hbA (in_s hi hL (n := 1) (by decide)) dL_law_342 ?_
  refine ww_gVi (pc := 343) (rest := []) (gsN := [wX7 cI cZ cQ g ST, wX6 cI cZ cQ (g 1) SX, wX5 cI cZ cQ (g 2) SL, wX5 cI cZ cQ (g 3) SD, wX3 cI cZ cQ (g 4) ((f_X7_year ST SL SF SP (xs (nI i + 1).toNatClampNeg)).2.1), wX4 cI cZ cQ (g 5) ((f_X7_year ST SL SF SP (xs (nI i + 1).toNatClampNeg)).2.2), wX2 cI cZ cQ (g 6) SI, wX1 cI cZ cQ (g 7) SN, wX0 cI cZ cQ (g 8) SB, wX8 cI cZ cQ rM SM]) (ci := 7) (gi := 0) (qi := 0) X (c_X7_year l Dg cI cZ cQ g ST SL SF SP (xs (nI i + 1).toNatClampNeg) (nd_L h) (nd_P h)) gL_law_X7_year rfl hd_X7_year [true, false, true, false, true, true, false, false, false, false] rfl (acons (ad7 _ _ _ _ _ _) (acons (ad5 _ _ _ _ _ _) (acons (ad3 _ _ _ _ _ _) (acons (ad4 _ _ _ _ _ _) rfl)))) rfl rfl rfl rfl rfl rfl ⟨rfl, rfl⟩ ⟨Nat.le_of_ble_eq_true rfl, Nat.le_of_ble_eq_true rfl⟩ (Nat.le_of_ble_eq_true rfl) hk dL_law_343 ?_
  refine ww_aload_n (pc := 346) X dL_law_346 1 rfl rfl ?_
  refine ww_aload_n (pc := 347) X dL_law_347 3 rfl rfl ?_
  refine ww_iload_n (pc := 348) X dL_law_348 0 rfl rfl ?_
  refine ww_iconst (pc := 349) (v := 1) X dL_law_349 (by decide) ?_
  refine ww_iadd (pc := 350) X dL_law_350 ?_
  refine ww_sld (pc := 351) X hX hbl hbA (in_s hi hL (n := 1) (by decide)) dL_law_351 ?_
  refine ww_gVi (pc := 352) (rest := [.int ((f_X7_year ST SL SF SP (xs (nI i + 1).toNatClampNeg)).1)]) (gsN := [wX7 cI cZ cQ g ST, wX6 cI cZ cQ (g 1) SX, wX5 cI cZ cQ (g 2) SL, wX5 cI cZ cQ (g 3) SD, wX3 cI cZ cQ (g 4) ((f_X7_year ST SL SF SP (xs (nI i + 1).toNatClampNeg)).2.1), wX4 cI cZ cQ (g 5) ((f_X7_year ST SL SF SP (xs (nI i + 1).toNatClampNeg)).2.2), wX2 cI cZ cQ (g 6) SI, wX1 cI cZ cQ (g 7) SN, wX0 cI cZ cQ (g 8) SB, wX8 cI cZ cQ rM ((f_X8_year SM (xs (nI i + 1).toNatClampNeg)).2)]) (ci := 8) (gi := 0) (qi := 0) X (c_X8_year l Dg cI cZ cQ rM SM (xs (nI i + 1).toNatClampNeg) (nd_M h) (nd_d0 h).1 (nd_d0 h).2) gL_law_X8_year rfl hd_X8_year [false, false, false, false, false, false, false, false, false, true] rfl (acons (ad8 _ _ _ _ _ _) rfl) rfl rfl rfl rfl rfl rfl ⟨rfl, rfl⟩ ⟨Nat.le_of_ble_eq_true rfl, Nat.le_of_ble_eq_true rfl⟩ (Nat.le_of_ble_eq_true rfl) hk dL_law_352 ?_
  obtain ⟨hr1, hr2⟩ := s_year h (x := xs (nI i + 1).toNatClampNeg)
  refine ww_icmp_eq (tgt := 1002) (pc := 355) X dL_law_355 (by decide) (fun _ => ?_) (fun k => absurd hr1 k)
  exact kk g _ _ _ _ _ _ _ _ _ _ rfl hr2
end LawR
