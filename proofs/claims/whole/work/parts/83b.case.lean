section LawR
variable {p : Program} {l : Launch} {e : Env} {s : State} {m : MethodId} {args : Array Value} {below : List Frame} {meth : Method} {c : Code} {Q : State → Prop} {Dg : va_G} {A : Nat → Prop} {k9 n9 : Nat} {cI cZ cQ : ClassId} {b Ls : Nat} {xs : Nat → Int32}
set_option maxHeartbeats 4000000 in
set_option maxRecDepth 100000 in
theorem lc_down (X : CX p s m args meth c code RL wsL_law 4 Dg (tyL cI cZ cQ) A) (hX : va_X b Ls xs s s.heap) (hbl : b < s.heap.size) (hbA : ¬ A b) (hk : k9 ≤ room_1.cells ∧ n9 ≤ room_1.slots) (hL : Ls ≤ 384) {i : Nat} (hi : i + 6 ≤ Ls) {rM : Nat → Nat} {g : Nat → Nat → Nat} {ST SX SL SD SF SP SI SN SB SM : St} (h : Rel ST SX SL SF SP SI SN SB SM) (kk : LwK p l e s m args below meth c Dg A k9 n9 Q cI cZ cQ b i rM (g 0 0)) : WW p l e room_1 s m args below meth c 4 Dg A k9 n9 Q (fl (wAll cI cZ cQ g rM ST SX SL SD SF SP SI SN SB SM)) [(3, .int (nI i)), (2, .ref (rM 0)), (1, .ref (g 0 0)), (0, .ref b)] 360 [] := by
  refine ww_aload_n (pc := 360) X dL_law_360 2 rfl rfl ?_
  refine ww_aload_n (pc := 361) X dL_law_361 3 rfl rfl ?_
  refine ww_iload_n (pc := 362) X dL_law_362 0 rfl rfl ?_
  refine ww_iconst (pc := 363) (v := 1) X dL_law_363 (by decide) ?_
  refine ww_iadd (pc := 364) X dL_law_364 ?_
  refine ww_sld (pc := 365) X hX hbl hbA (in_s hi hL (n := 1) (by decide)) dL_law_365 ?_
  refine ww_aload_n (pc := 366) X dL_law_366 3 rfl rfl ?_
  refine ww_iload_n (pc := 367) X dL_law_367 0 rfl rfl ?_
  refine ww_iconst (pc := 368) (v := 2) X dL_law_368 (by decide) ?_
  refine ww_iadd (pc := 369) X dL_law_369 ?_
  refine ww_sld (pc := 370) X hX hbl hbA (in_s hi hL (n := 2) (by decide)) dL_law_370 ?_
  refine ww_gVi (pc := 371) (rest := []) (gsN := [wX7 cI cZ cQ g ST, wX6 cI cZ cQ (g 1) SX, wX5 cI cZ cQ (g 2) SL, wX5 cI cZ cQ (g 3) SD, wX3 cI cZ cQ (g 4) ((f_X7_down ST SL SF SP (xs (nI i + 1).toNatClampNeg) (xs (nI i + 2).toNatClampNeg)).2.1), wX4 cI cZ cQ (g 5) ((f_X7_down ST SL SF SP (xs (nI i + 1).toNatClampNeg) (xs (nI i + 2).toNatClampNeg)).2.2), wX2 cI cZ cQ (g 6) SI, wX1 cI cZ cQ (g 7) SN, wX0 cI cZ cQ (g 8) SB, wX8 cI cZ cQ rM SM]) (ci := 7) (gi := 0) (qi := 0) X (c_X7_down l Dg cI cZ cQ g ST SL SF SP (xs (nI i + 1).toNatClampNeg) (xs (nI i + 2).toNatClampNeg) (nd_P h)) gL_law_X7_down rfl hd_X7_down [true, false, true, false, true, true, false, false, false, false] rfl (acons (ad7 _ _ _ _ _ _) (acons (ad5 _ _ _ _ _ _) (acons (ad3 _ _ _ _ _ _) (acons (ad4 _ _ _ _ _ _) rfl)))) rfl rfl rfl rfl rfl rfl ⟨rfl, rfl⟩ ⟨Nat.le_of_ble_eq_true rfl, Nat.le_of_ble_eq_true rfl⟩ (Nat.le_of_ble_eq_true rfl) hk dL_law_371 ?_
  refine ww_aload_n (pc := 374) X dL_law_374 1 rfl rfl ?_
  refine ww_aload_n (pc := 375) X dL_law_375 3 rfl rfl ?_
  refine ww_iload_n (pc := 376) X dL_law_376 0 rfl rfl ?_
  refine ww_iconst (pc := 377) (v := 1) X dL_law_377 (by decide) ?_
  refine ww_iadd (pc := 378) X dL_law_378 ?_
  refine ww_sld (pc := 379) X hX hbl hbA (in_s hi hL (n := 1) (by decide)) dL_law_379 ?_
  refine ww_aload_n (pc := 380) X dL_law_380 3 rfl rfl ?_
  refine ww_iload_n (pc := 381) X dL_law_381 0 rfl rfl ?_
  refine ww_iconst (pc := 382) (v := 2) X dL_law_382 (by decide) ?_
  refine ww_iadd (pc := 383) X dL_law_383 ?_
  refine ww_sld (pc := 384) X hX hbl hbA (in_s hi hL (n := 2) (by decide)) dL_law_384 ?_
  refine ww_gVi (pc := 385) (rest := [.int ((f_X7_down ST SL SF SP (xs (nI i + 1).toNatClampNeg) (xs (nI i + 2).toNatClampNeg)).1)]) (gsN := [wX7 cI cZ cQ g ST, wX6 cI cZ cQ (g 1) SX, wX5 cI cZ cQ (g 2) SL, wX5 cI cZ cQ (g 3) SD, wX3 cI cZ cQ (g 4) ((f_X7_down ST SL SF SP (xs (nI i + 1).toNatClampNeg) (xs (nI i + 2).toNatClampNeg)).2.1), wX4 cI cZ cQ (g 5) ((f_X7_down ST SL SF SP (xs (nI i + 1).toNatClampNeg) (xs (nI i + 2).toNatClampNeg)).2.2), wX2 cI cZ cQ (g 6) SI, wX1 cI cZ cQ (g 7) SN, wX0 cI cZ cQ (g 8) SB, wX8 cI cZ cQ rM ((f_X8_down SM (xs (nI i + 1).toNatClampNeg) (xs (nI i + 2).toNatClampNeg)).2)]) (ci := 8) (gi := 0) (qi := 0) X (c_X8_down l Dg cI cZ cQ rM SM (xs (nI i + 1).toNatClampNeg) (xs (nI i + 2).toNatClampNeg) (nd_M h) (nd_d0 h).1 (nd_d0 h).2) gL_law_X8_down rfl hd_X8_down [false, false, false, false, false, false, false, false, false, true] rfl (acons (ad8 _ _ _ _ _ _) rfl) rfl rfl rfl rfl rfl rfl ⟨rfl, rfl⟩ ⟨Nat.le_of_ble_eq_true rfl, Nat.le_of_ble_eq_true rfl⟩ (Nat.le_of_ble_eq_true rfl) hk dL_law_385 ?_
  obtain ⟨hr1, hr2⟩ := s_down h (x := xs (nI i + 1).toNatClampNeg) (y := xs (nI i + 2).toNatClampNeg)
  refine ww_icmp_eq (tgt := 1002) (pc := 388) X dL_law_388 (by decide) (fun _ => ?_) (fun k => absurd hr1 k)
  exact kk g _ _ _ _ _ _ _ _ _ _ rfl hr2
set_option maxHeartbeats 4000000 in
set_option maxRecDepth 100000 in
theorem lc_up (X : CX p s m args meth c code RL wsL_law 4 Dg (tyL cI cZ cQ) A) (hX : va_X b Ls xs s s.heap) (hbl : b < s.heap.size) (hbA : ¬ A b) (hk : k9 ≤ room_1.cells ∧ n9 ≤ room_1.slots) (hL : Ls ≤ 384) {i : Nat} (hi : i + 6 ≤ Ls) {rM : Nat → Nat} {g : Nat → Nat → Nat} {ST SX SL SD SF SP SI SN SB SM : St} (h : Rel ST SX SL SF SP SI SN SB SM) (kk : LwK p l e s m args below meth c Dg A k9 n9 Q cI cZ cQ b i rM (g 0 0)) : WW p l e room_1 s m args below meth c 4 Dg A k9 n9 Q (fl (wAll cI cZ cQ g rM ST SX SL SD SF SP SI SN SB SM)) [(3, .int (nI i)), (2, .ref (rM 0)), (1, .ref (g 0 0)), (0, .ref b)] 393 [] := by
  refine ww_aload_n (pc := 393) X dL_law_393 2 rfl rfl ?_
  refine ww_aload_n (pc := 394) X dL_law_394 3 rfl rfl ?_
  refine ww_iload_n (pc := 395) X dL_law_395 0 rfl rfl ?_
  refine ww_iconst (pc := 396) (v := 1) X dL_law_396 (by decide) ?_
  refine ww_iadd (pc := 397) X dL_law_397 ?_
  refine ww_sld (pc := 398) X hX hbl hbA (in_s hi hL (n := 1) (by decide)) dL_law_398 ?_
  refine ww_gVi (pc := 399) (rest := []) (gsN := [wX7 cI cZ cQ g ST, wX6 cI cZ cQ (g 1) SX, wX5 cI cZ cQ (g 2) SL, wX5 cI cZ cQ (g 3) SD, wX3 cI cZ cQ (g 4) ((f_X7_up ST SL SF SP (xs (nI i + 1).toNatClampNeg)).2.1), wX4 cI cZ cQ (g 5) ((f_X7_up ST SL SF SP (xs (nI i + 1).toNatClampNeg)).2.2), wX2 cI cZ cQ (g 6) SI, wX1 cI cZ cQ (g 7) SN, wX0 cI cZ cQ (g 8) SB, wX8 cI cZ cQ rM SM]) (ci := 7) (gi := 0) (qi := 0) X (c_X7_up l Dg cI cZ cQ g ST SL SF SP (xs (nI i + 1).toNatClampNeg) (nd_P h)) gL_law_X7_up rfl hd_X7_up [true, false, true, false, true, true, false, false, false, false] rfl (acons (ad7 _ _ _ _ _ _) (acons (ad5 _ _ _ _ _ _) (acons (ad3 _ _ _ _ _ _) (acons (ad4 _ _ _ _ _ _) rfl)))) rfl rfl rfl rfl rfl rfl ⟨rfl, rfl⟩ ⟨Nat.le_of_ble_eq_true rfl, Nat.le_of_ble_eq_true rfl⟩ (Nat.le_of_ble_eq_true rfl) hk dL_law_399 ?_
  refine ww_aload_n (pc := 402) X dL_law_402 1 rfl rfl ?_
  refine ww_aload_n (pc := 403) X dL_law_403 3 rfl rfl ?_
  refine ww_iload_n (pc := 404) X dL_law_404 0 rfl rfl ?_
  refine ww_iconst (pc := 405) (v := 1) X dL_law_405 (by decide) ?_
  refine ww_iadd (pc := 406) X dL_law_406 ?_
  refine ww_sld (pc := 407) X hX hbl hbA (in_s hi hL (n := 1) (by decide)) dL_law_407 ?_
  refine ww_gVi (pc := 408) (rest := [.int ((f_X7_up ST SL SF SP (xs (nI i + 1).toNatClampNeg)).1)]) (gsN := [wX7 cI cZ cQ g ST, wX6 cI cZ cQ (g 1) SX, wX5 cI cZ cQ (g 2) SL, wX5 cI cZ cQ (g 3) SD, wX3 cI cZ cQ (g 4) ((f_X7_up ST SL SF SP (xs (nI i + 1).toNatClampNeg)).2.1), wX4 cI cZ cQ (g 5) ((f_X7_up ST SL SF SP (xs (nI i + 1).toNatClampNeg)).2.2), wX2 cI cZ cQ (g 6) SI, wX1 cI cZ cQ (g 7) SN, wX0 cI cZ cQ (g 8) SB, wX8 cI cZ cQ rM ((f_X8_up SM (xs (nI i + 1).toNatClampNeg)).2)]) (ci := 8) (gi := 0) (qi := 0) X (c_X8_up2 l Dg cI cZ cQ rM SM (xs (nI i + 1).toNatClampNeg) (nd_M h) (nd_d0 h).1 (nd_d0 h).2 (nd_W h)) gL_law_X8_up rfl hd_X8_up [false, false, false, false, false, false, false, false, false, true] rfl (acons (ad8 _ _ _ _ _ _) rfl) rfl rfl rfl rfl rfl rfl ⟨rfl, rfl⟩ ⟨Nat.le_of_ble_eq_true rfl, Nat.le_of_ble_eq_true rfl⟩ (Nat.le_of_ble_eq_true rfl) hk dL_law_408 ?_
  obtain ⟨hr1, hr2⟩ := s_up h (x := xs (nI i + 1).toNatClampNeg)
  refine ww_icmp_eq (tgt := 1002) (pc := 411) X dL_law_411 (by decide) (fun _ => ?_) (fun k => absurd hr1 k)
  exact kk g _ _ _ _ _ _ _ _ _ _ rfl hr2
set_option maxHeartbeats 4000000 in
set_option maxRecDepth 100000 in
theorem lc_open (X : CX p s m args meth c code RL wsL_law 4 Dg (tyL cI cZ cQ) A) (hX : va_X b Ls xs s s.heap) (hbl : b < s.heap.size) (hbA : ¬ A b) (hk : k9 ≤ room_1.cells ∧ n9 ≤ room_1.slots) (hL : Ls ≤ 384) {i : Nat} (hi : i + 6 ≤ Ls) {rM : Nat → Nat} {g : Nat → Nat → Nat} {ST SX SL SD SF SP SI SN SB SM : St} (h : Rel ST SX SL SF SP SI SN SB SM) (kk : LwK p l e s m args below meth c Dg A k9 n9 Q cI cZ cQ b i rM (g 0 0)) : WW p l e room_1 s m args below meth c 4 Dg A k9 n9 Q (fl (wAll cI cZ cQ g rM ST SX SL SD SF SP SI SN SB SM)) [(3, .int (nI i)), (2, .ref (rM 0)), (1, .ref (g 0 0)), (0, .ref b)] 416 [] := by
  refine ww_aload_n (pc := 416) X dL_law_416 2 rfl rfl ?_
  refine ww_aload_n (pc := 417) X dL_law_417 3 rfl rfl ?_
  refine ww_iload_n (pc := 418) X dL_law_418 0 rfl rfl ?_
  refine ww_iconst (pc := 419) (v := 1) X dL_law_419 (by decide) ?_
  refine ww_iadd (pc := 420) X dL_law_420 ?_
  refine ww_sld (pc := 421) X hX hbl hbA (in_s hi hL (n := 1) (by decide)) dL_law_421 ?_
  refine ww_gVi (pc := 422) (rest := []) (gsN := [wX7 cI cZ cQ g ST, wX6 cI cZ cQ (g 1) SX, wX5 cI cZ cQ (g 2) SL, wX5 cI cZ cQ (g 3) SD, wX3 cI cZ cQ (g 4) ((f_X7_open ST SL SF SP (xs (nI i + 1).toNatClampNeg)).2.1), wX4 cI cZ cQ (g 5) ((f_X7_open ST SL SF SP (xs (nI i + 1).toNatClampNeg)).2.2), wX2 cI cZ cQ (g 6) SI, wX1 cI cZ cQ (g 7) SN, wX0 cI cZ cQ (g 8) SB, wX8 cI cZ cQ rM SM]) (ci := 7) (gi := 0) (qi := 0) X (c_X7_open l Dg cI cZ cQ g ST SL SF SP (xs (nI i + 1).toNatClampNeg) (nd_P h)) gL_law_X7_open rfl hd_X7_open [true, false, true, false, true, true, false, false, false, false] rfl (acons (ad7 _ _ _ _ _ _) (acons (ad5 _ _ _ _ _ _) (acons (ad3 _ _ _ _ _ _) (acons (ad4 _ _ _ _ _ _) rfl)))) rfl rfl rfl rfl rfl rfl ⟨rfl, rfl⟩ ⟨Nat.le_of_ble_eq_true rfl, Nat.le_of_ble_eq_true rfl⟩ (Nat.le_of_ble_eq_true rfl) hk dL_law_422 ?_
  refine ww_aload_n (pc := 425) X dL_law_425 1 rfl rfl ?_
  refine ww_aload_n (pc := 426) X dL_law_426 3 rfl rfl ?_
  refine ww_iload_n (pc := 427) X dL_law_427 0 rfl rfl ?_
  refine ww_iconst (pc := 428) (v := 1) X dL_law_428 (by decide) ?_
  refine ww_iadd (pc := 429) X dL_law_429 ?_
  refine ww_sld (pc := 430) X hX hbl hbA (in_s hi hL (n := 1) (by decide)) dL_law_430 ?_
  refine ww_gVi (pc := 431) (rest := [.int ((f_X7_open ST SL SF SP (xs (nI i + 1).toNatClampNeg)).1)]) (gsN := [wX7 cI cZ cQ g ST, wX6 cI cZ cQ (g 1) SX, wX5 cI cZ cQ (g 2) SL, wX5 cI cZ cQ (g 3) SD, wX3 cI cZ cQ (g 4) ((f_X7_open ST SL SF SP (xs (nI i + 1).toNatClampNeg)).2.1), wX4 cI cZ cQ (g 5) ((f_X7_open ST SL SF SP (xs (nI i + 1).toNatClampNeg)).2.2), wX2 cI cZ cQ (g 6) SI, wX1 cI cZ cQ (g 7) SN, wX0 cI cZ cQ (g 8) SB, wX8 cI cZ cQ rM ((f_X8_open SM (xs (nI i + 1).toNatClampNeg)).2)]) (ci := 8) (gi := 0) (qi := 0) X (c_X8_open l Dg cI cZ cQ rM SM (xs (nI i + 1).toNatClampNeg) (nd_M h) (nd_d0 h).1 (nd_d0 h).2) gL_law_X8_open rfl hd_X8_open [false, false, false, false, false, false, false, false, false, true] rfl (acons (ad8 _ _ _ _ _ _) rfl) rfl rfl rfl rfl rfl rfl ⟨rfl, rfl⟩ ⟨Nat.le_of_ble_eq_true rfl, Nat.le_of_ble_eq_true rfl⟩ (Nat.le_of_ble_eq_true rfl) hk dL_law_431 ?_
  obtain ⟨hr1, hr2⟩ := s_open h (x := xs (nI i + 1).toNatClampNeg)
  refine ww_icmp_eq (tgt := 1002) (pc := 434) X dL_law_434 (by decide) (fun _ => ?_) (fun k => absurd hr1 k)
  exact kk g _ _ _ _ _ _ _ _ _ _ rfl hr2
set_option maxHeartbeats 4000000 in
set_option maxRecDepth 100000 in
theorem lc_take (X : CX p s m args meth c code RL wsL_law 4 Dg (tyL cI cZ cQ) A) (hX : va_X b Ls xs s s.heap) (hbl : b < s.heap.size) (hbA : ¬ A b) (hk : k9 ≤ room_1.cells ∧ n9 ≤ room_1.slots) (hL : Ls ≤ 384) {i : Nat} (hi : i + 6 ≤ Ls) {rM : Nat → Nat} {g : Nat → Nat → Nat} {ST SX SL SD SF SP SI SN SB SM : St} (h : Rel ST SX SL SF SP SI SN SB SM) (kk : LwK p l e s m args below meth c Dg A k9 n9 Q cI cZ cQ b i rM (g 0 0)) : WW p l e room_1 s m args below meth c 4 Dg A k9 n9 Q (fl (wAll cI cZ cQ g rM ST SX SL SD SF SP SI SN SB SM)) [(3, .int (nI i)), (2, .ref (rM 0)), (1, .ref (g 0 0)), (0, .ref b)] 439 [] := by
  refine ww_aload_n (pc := 439) X dL_law_439 2 rfl rfl ?_
  refine ww_aload_n (pc := 440) X dL_law_440 3 rfl rfl ?_
  refine ww_iload_n (pc := 441) X dL_law_441 0 rfl rfl ?_
  refine ww_iconst (pc := 442) (v := 1) X dL_law_442 (by decide) ?_
  refine ww_iadd (pc := 443) X dL_law_443 ?_
  refine ww_sld (pc := 444) X hX hbl hbA (in_s hi hL (n := 1) (by decide)) dL_law_444 ?_
  refine ww_gVi (pc := 445) (rest := []) (gsN := [wX7 cI cZ cQ g ST, wX6 cI cZ cQ (g 1) SX, wX5 cI cZ cQ (g 2) SL, wX5 cI cZ cQ (g 3) SD, wX3 cI cZ cQ (g 4) ((f_X7_take ST SL SF SP (xs (nI i + 1).toNatClampNeg)).2.1), wX4 cI cZ cQ (g 5) ((f_X7_take ST SL SF SP (xs (nI i + 1).toNatClampNeg)).2.2), wX2 cI cZ cQ (g 6) SI, wX1 cI cZ cQ (g 7) SN, wX0 cI cZ cQ (g 8) SB, wX8 cI cZ cQ rM SM]) (ci := 7) (gi := 0) (qi := 0) X (c_X7_take l Dg cI cZ cQ g ST SL SF SP (xs (nI i + 1).toNatClampNeg) (nd_P h)) gL_law_X7_take rfl hd_X7_take [true, false, true, false, true, true, false, false, false, false] rfl (acons (ad7 _ _ _ _ _ _) (acons (ad5 _ _ _ _ _ _) (acons (ad3 _ _ _ _ _ _) (acons (ad4 _ _ _ _ _ _) rfl)))) rfl rfl rfl rfl rfl rfl ⟨rfl, rfl⟩ ⟨Nat.le_of_ble_eq_true rfl, Nat.le_of_ble_eq_true rfl⟩ (Nat.le_of_ble_eq_true rfl) hk dL_law_445 ?_
  refine ww_aload_n (pc := 448) X dL_law_448 1 rfl rfl ?_
  refine ww_aload_n (pc := 449) X dL_law_449 3 rfl rfl ?_
  refine ww_iload_n (pc := 450) X dL_law_450 0 rfl rfl ?_
  refine ww_iconst (pc := 451) (v := 1) X dL_law_451 (by decide) ?_
  refine ww_iadd (pc := 452) X dL_law_452 ?_
  refine ww_sld (pc := 453) X hX hbl hbA (in_s hi hL (n := 1) (by decide)) dL_law_453 ?_
  refine ww_gVi (pc := 454) (rest := [.int ((f_X7_take ST SL SF SP (xs (nI i + 1).toNatClampNeg)).1)]) (gsN := [wX7 cI cZ cQ g ST, wX6 cI cZ cQ (g 1) SX, wX5 cI cZ cQ (g 2) SL, wX5 cI cZ cQ (g 3) SD, wX3 cI cZ cQ (g 4) ((f_X7_take ST SL SF SP (xs (nI i + 1).toNatClampNeg)).2.1), wX4 cI cZ cQ (g 5) ((f_X7_take ST SL SF SP (xs (nI i + 1).toNatClampNeg)).2.2), wX2 cI cZ cQ (g 6) SI, wX1 cI cZ cQ (g 7) SN, wX0 cI cZ cQ (g 8) SB, wX8 cI cZ cQ rM ((f_X8_take SM (xs (nI i + 1).toNatClampNeg)).2)]) (ci := 8) (gi := 0) (qi := 0) X (c_X8_take l Dg cI cZ cQ rM SM (xs (nI i + 1).toNatClampNeg) (nd_M h) (nd_d0 h).1 (nd_d0 h).2) gL_law_X8_take rfl hd_X8_take [false, false, false, false, false, false, false, false, false, true] rfl (acons (ad8 _ _ _ _ _ _) rfl) rfl rfl rfl rfl rfl rfl ⟨rfl, rfl⟩ ⟨Nat.le_of_ble_eq_true rfl, Nat.le_of_ble_eq_true rfl⟩ (Nat.le_of_ble_eq_true rfl) hk dL_law_454 ?_
  obtain ⟨hr1, hr2⟩ := s_take h (x := xs (nI i + 1).toNatClampNeg)
  refine ww_icmp_eq (tgt := 1002) (pc := 457) X dL_law_457 (by decide) (fun _ => ?_) (fun k => absurd hr1 k)
  exact kk g _ _ _ _ _ _ _ _ _ _ rfl hr2
set_option maxHeartbeats 4000000 in
set_option maxRecDepth 100000 in
theorem lc_drift (X : CX p s m args meth c code RL wsL_law 4 Dg (tyL cI cZ cQ) A) (hX : va_X b Ls xs s s.heap) (hbl : b < s.heap.size) (hbA : ¬ A b) (hk : k9 ≤ room_1.cells ∧ n9 ≤ room_1.slots) (hL : Ls ≤ 384) {i : Nat} (hi : i + 6 ≤ Ls) {rM : Nat → Nat} {g : Nat → Nat → Nat} {ST SX SL SD SF SP SI SN SB SM : St} (h : Rel ST SX SL SF SP SI SN SB SM) (kk : LwK p l e s m args below meth c Dg A k9 n9 Q cI cZ cQ b i rM (g 0 0)) : WW p l e room_1 s m args below meth c 4 Dg A k9 n9 Q (fl (wAll cI cZ cQ g rM ST SX SL SD SF SP SI SN SB SM)) [(3, .int (nI i)), (2, .ref (rM 0)), (1, .ref (g 0 0)), (0, .ref b)] 462 [] := by
  refine ww_aload_n (pc := 462) X dL_law_462 2 rfl rfl ?_
  refine ww_aload_n (pc := 463) X dL_law_463 3 rfl rfl ?_
  refine ww_iload_n (pc := 464) X dL_law_464 0 rfl rfl ?_
  refine ww_iconst (pc := 465) (v := 1) X dL_law_465 (by decide) ?_
  refine ww_iadd (pc := 466) X dL_law_466 ?_
  refine ww_sld (pc := 467) X hX hbl hbA (in_s hi hL (n := 1) (by decide)) dL_law_467 ?_
  refine ww_gVi (pc := 468) (rest := []) (gsN := [wX7 cI cZ cQ g ((f_X7_drift ST SL SF SP (xs (nI i + 1).toNatClampNeg)).2.1), wX6 cI cZ cQ (g 1) SX, wX5 cI cZ cQ (g 2) SL, wX5 cI cZ cQ (g 3) SD, wX3 cI cZ cQ (g 4) ((f_X7_drift ST SL SF SP (xs (nI i + 1).toNatClampNeg)).2.2.1), wX4 cI cZ cQ (g 5) ((f_X7_drift ST SL SF SP (xs (nI i + 1).toNatClampNeg)).2.2.2), wX2 cI cZ cQ (g 6) SI, wX1 cI cZ cQ (g 7) SN, wX0 cI cZ cQ (g 8) SB, wX8 cI cZ cQ rM SM]) (ci := 7) (gi := 0) (qi := 0) X (c_X7_drift l Dg cI cZ cQ g ST SL SF SP (xs (nI i + 1).toNatClampNeg) (nd_L h) (nd_P h)) gL_law_X7_drift rfl hd_X7_drift [true, false, true, false, true, true, false, false, false, false] rfl (acons (ad7 _ _ _ _ _ _) (acons (ad5 _ _ _ _ _ _) (acons (ad3 _ _ _ _ _ _) (acons (ad4 _ _ _ _ _ _) rfl)))) rfl rfl rfl rfl rfl rfl ⟨rfl, rfl⟩ ⟨Nat.le_of_ble_eq_true rfl, Nat.le_of_ble_eq_true rfl⟩ (Nat.le_of_ble_eq_true rfl) hk dL_law_468 ?_
  refine ww_aload_n (pc := 471) X dL_law_471 1 rfl rfl ?_
  refine ww_aload_n (pc := 472) X dL_law_472 3 rfl rfl ?_
  refine ww_iload_n (pc := 473) X dL_law_473 0 rfl rfl ?_
  refine ww_iconst (pc := 474) (v := 1) X dL_law_474 (by decide) ?_
  refine ww_iadd (pc := 475) X dL_law_475 ?_
  refine ww_sld (pc := 476) X hX hbl hbA (in_s hi hL (n := 1) (by decide)) dL_law_476 ?_
  refine ww_gVi (pc := 477) (rest := [.int ((f_X7_drift ST SL SF SP (xs (nI i + 1).toNatClampNeg)).1)]) (gsN := [wX7 cI cZ cQ g ((f_X7_drift ST SL SF SP (xs (nI i + 1).toNatClampNeg)).2.1), wX6 cI cZ cQ (g 1) SX, wX5 cI cZ cQ (g 2) SL, wX5 cI cZ cQ (g 3) SD, wX3 cI cZ cQ (g 4) ((f_X7_drift ST SL SF SP (xs (nI i + 1).toNatClampNeg)).2.2.1), wX4 cI cZ cQ (g 5) ((f_X7_drift ST SL SF SP (xs (nI i + 1).toNatClampNeg)).2.2.2), wX2 cI cZ cQ (g 6) SI, wX1 cI cZ cQ (g 7) SN, wX0 cI cZ cQ (g 8) SB, wX8 cI cZ cQ rM ((f_X8_drift SM (xs (nI i + 1).toNatClampNeg)).2)]) (ci := 8) (gi := 0) (qi := 0) X (c_X8_drift l Dg cI cZ cQ rM SM (xs (nI i + 1).toNatClampNeg) (nd_M h) (nd_d0 h).1 (nd_d0 h).2) gL_law_X8_drift rfl hd_X8_drift [false, false, false, false, false, false, false, false, false, true] rfl (acons (ad8 _ _ _ _ _ _) rfl) rfl rfl rfl rfl rfl rfl ⟨rfl, rfl⟩ ⟨Nat.le_of_ble_eq_true rfl, Nat.le_of_ble_eq_true rfl⟩ (Nat.le_of_ble_eq_true rfl) hk dL_law_477 ?_
  obtain ⟨hr1, hr2⟩ := s_drift h (x := xs (nI i + 1).toNatClampNeg)
  refine ww_icmp_eq (tgt := 1002) (pc := 480) X dL_law_480 (by decide) (fun _ => ?_) (fun k => absurd hr1 k)
  exact kk g _ _ _ _ _ _ _ _ _ _ rfl hr2
set_option maxHeartbeats 4000000 in
set_option maxRecDepth 100000 in
theorem lc_undo (X : CX p s m args meth c code RL wsL_law 4 Dg (tyL cI cZ cQ) A) (hX : va_X b Ls xs s s.heap) (hbl : b < s.heap.size) (hbA : ¬ A b) (hk : k9 ≤ room_1.cells ∧ n9 ≤ room_1.slots) (hL : Ls ≤ 384) {i : Nat} (hi : i + 6 ≤ Ls) {rM : Nat → Nat} {g : Nat → Nat → Nat} {ST SX SL SD SF SP SI SN SB SM : St} (h : Rel ST SX SL SF SP SI SN SB SM) (kk : LwK p l e s m args below meth c Dg A k9 n9 Q cI cZ cQ b i rM (g 0 0)) : WW p l e room_1 s m args below meth c 4 Dg A k9 n9 Q (fl (wAll cI cZ cQ g rM ST SX SL SD SF SP SI SN SB SM)) [(3, .int (nI i)), (2, .ref (rM 0)), (1, .ref (g 0 0)), (0, .ref b)] 485 [] := by
  refine ww_aload_n (pc := 485) X dL_law_485 2 rfl rfl ?_
  refine ww_gVi (pc := 486) (rest := []) (gsN := [wX7 cI cZ cQ g ST, wX6 cI cZ cQ (g 1) SX, wX5 cI cZ cQ (g 2) SL, wX5 cI cZ cQ (g 3) SD, wX3 cI cZ cQ (g 4) ((f_X7_undo ST SF SP).2.1), wX4 cI cZ cQ (g 5) ((f_X7_undo ST SF SP).2.2), wX2 cI cZ cQ (g 6) SI, wX1 cI cZ cQ (g 7) SN, wX0 cI cZ cQ (g 8) SB, wX8 cI cZ cQ rM SM]) (ci := 7) (gi := 0) (qi := 0) X (c_X7_undo l Dg cI cZ cQ g ST SF SP (nd_P h)) gL_law_X7_undo rfl hd_X7_undo [true, false, false, false, true, true, false, false, false, false] rfl (acons (ad7 _ _ _ _ _ _) (acons (ad3 _ _ _ _ _ _) (acons (ad4 _ _ _ _ _ _) rfl))) rfl rfl rfl rfl rfl rfl ⟨rfl, rfl⟩ ⟨Nat.le_of_ble_eq_true rfl, Nat.le_of_ble_eq_true rfl⟩ (Nat.le_of_ble_eq_true rfl) hk dL_law_486 ?_
  refine ww_aload_n (pc := 489) X dL_law_489 1 rfl rfl ?_
  refine ww_gVi (pc := 490) (rest := [.int ((f_X7_undo ST SF SP).1)]) (gsN := [wX7 cI cZ cQ g ST, wX6 cI cZ cQ (g 1) SX, wX5 cI cZ cQ (g 2) SL, wX5 cI cZ cQ (g 3) SD, wX3 cI cZ cQ (g 4) ((f_X7_undo ST SF SP).2.1), wX4 cI cZ cQ (g 5) ((f_X7_undo ST SF SP).2.2), wX2 cI cZ cQ (g 6) SI, wX1 cI cZ cQ (g 7) SN, wX0 cI cZ cQ (g 8) SB, wX8 cI cZ cQ rM ((f_X8_undo SM).2)]) (ci := 8) (gi := 0) (qi := 0) X (c_X8_undo l Dg cI cZ cQ rM SM (nd_d0 h).1 (nd_d0 h).2) gL_law_X8_undo rfl hd_X8_undo [false, false, false, false, false, false, false, false, false, true] rfl (acons (ad8 _ _ _ _ _ _) rfl) rfl rfl rfl rfl rfl rfl ⟨rfl, rfl⟩ ⟨Nat.le_of_ble_eq_true rfl, Nat.le_of_ble_eq_true rfl⟩ (Nat.le_of_ble_eq_true rfl) hk dL_law_490 ?_
  obtain ⟨hr1, hr2⟩ := s_undo h
  refine ww_icmp_eq (tgt := 1002) (pc := 493) X dL_law_493 (by decide) (fun _ => ?_) (fun k => absurd hr1 k)
  exact kk g _ _ _ _ _ _ _ _ _ _ rfl hr2
set_option maxHeartbeats 4000000 in
set_option maxRecDepth 100000 in
theorem lc_meet (X : CX p s m args meth c code RL wsL_law 4 Dg (tyL cI cZ cQ) A) (hX : va_X b Ls xs s s.heap) (hbl : b < s.heap.size) (hbA : ¬ A b) (hk : k9 ≤ room_1.cells ∧ n9 ≤ room_1.slots) (hL : Ls ≤ 384) {i : Nat} (hi : i + 6 ≤ Ls) {rM : Nat → Nat} {g : Nat → Nat → Nat} {ST SX SL SD SF SP SI SN SB SM : St} (h : Rel ST SX SL SF SP SI SN SB SM) (kk : LwK p l e s m args below meth c Dg A k9 n9 Q cI cZ cQ b i rM (g 0 0)) : WW p l e room_1 s m args below meth c 4 Dg A k9 n9 Q (fl (wAll cI cZ cQ g rM ST SX SL SD SF SP SI SN SB SM)) [(3, .int (nI i)), (2, .ref (rM 0)), (1, .ref (g 0 0)), (0, .ref b)] 498 [] := by
  refine ww_aload_n (pc := 498) X dL_law_498 2 rfl rfl ?_
  refine ww_aload_n (pc := 499) X dL_law_499 3 rfl rfl ?_
  refine ww_iload_n (pc := 500) X dL_law_500 0 rfl rfl ?_
  refine ww_iconst (pc := 501) (v := 1) X dL_law_501 (by decide) ?_
  refine ww_iadd (pc := 502) X dL_law_502 ?_
  refine ww_sld (pc := 503) X hX hbl hbA (in_s hi hL (n := 1) (by decide)) dL_law_503 ?_
  refine ww_aload_n (pc := 504) X dL_law_504 3 rfl rfl ?_
  refine ww_iload_n (pc := 505) X dL_law_505 0 rfl rfl ?_
  refine ww_iconst (pc := 506) (v := 2) X dL_law_506 (by decide) ?_
  refine ww_iadd (pc := 507) X dL_law_507 ?_
  refine ww_sld (pc := 508) X hX hbl hbA (in_s hi hL (n := 2) (by decide)) dL_law_508 ?_
  refine ww_aload_n (pc := 509) X dL_law_509 3 rfl rfl ?_
  refine ww_iload_n (pc := 510) X dL_law_510 0 rfl rfl ?_
  refine ww_iconst (pc := 511) (v := 3) X dL_law_511 (by decide) ?_
  refine ww_iadd (pc := 512) X dL_law_512 ?_
  refine ww_sld (pc := 513) X hX hbl hbA (in_s hi hL (n := 3) (by decide)) dL_law_513 ?_
  refine ww_aload_n (pc := 514) X dL_law_514 3 rfl rfl ?_
  refine ww_iload_n (pc := 515) X dL_law_515 0 rfl rfl ?_
  refine ww_iconst (pc := 516) (v := 4) X dL_law_516 (by decide) ?_
  refine ww_iadd (pc := 517) X dL_law_517 ?_
  refine ww_sld (pc := 518) X hX hbl hbA (in_s hi hL (n := 4) (by decide)) dL_law_518 ?_
  refine ww_aload_n (pc := 519) X dL_law_519 3 rfl rfl ?_
  refine ww_iload_n (pc := 520) X dL_law_520 0 rfl rfl ?_
  refine ww_iconst (pc := 521) (v := 5) X dL_law_521 (by decide) ?_
  refine ww_iadd (pc := 522) X dL_law_522 ?_
  refine ww_sld (pc := 523) X hX hbl hbA (in_s hi hL (n := 5) (by decide)) dL_law_523 ?_
  refine ww_gVi (pc := 524) (rest := []) (gsN := [wX7 cI cZ cQ g ST, wX6 cI cZ cQ (g 1) SX, wX5 cI cZ cQ (g 2) SL, wX5 cI cZ cQ (g 3) SD, wX3 cI cZ cQ (g 4) SF, wX4 cI cZ cQ (g 5) SP, wX2 cI cZ cQ (g 6) SI, wX1 cI cZ cQ (g 7) SN, wX0 cI cZ cQ (g 8) SB, wX8 cI cZ cQ rM SM]) (ci := 7) (gi := 0) (qi := 0) X (c_X7_meet l Dg cI cZ cQ g ST SL SF (xs (nI i + 1).toNatClampNeg) (xs (nI i + 2).toNatClampNeg) (xs (nI i + 3).toNatClampNeg) (xs (nI i + 4).toNatClampNeg) (xs (nI i + 5).toNatClampNeg)) gL_law_X7_meet rfl hd_X7_meet [true, false, true, false, true, false, false, false, false, false] rfl rfl rfl rfl rfl rfl rfl rfl ⟨rfl, rfl⟩ ⟨Nat.le_of_ble_eq_true rfl, Nat.le_of_ble_eq_true rfl⟩ (Nat.le_of_ble_eq_true rfl) hk dL_law_524 ?_
  refine ww_aload_n (pc := 527) X dL_law_527 1 rfl rfl ?_
  refine ww_aload_n (pc := 528) X dL_law_528 3 rfl rfl ?_
  refine ww_iload_n (pc := 529) X dL_law_529 0 rfl rfl ?_
  refine ww_iconst (pc := 530) (v := 1) X dL_law_530 (by decide) ?_
  refine ww_iadd (pc := 531) X dL_law_531 ?_
  refine ww_sld (pc := 532) X hX hbl hbA (in_s hi hL (n := 1) (by decide)) dL_law_532 ?_
  refine ww_aload_n (pc := 533) X dL_law_533 3 rfl rfl ?_
  refine ww_iload_n (pc := 534) X dL_law_534 0 rfl rfl ?_
  refine ww_iconst (pc := 535) (v := 2) X dL_law_535 (by decide) ?_
  refine ww_iadd (pc := 536) X dL_law_536 ?_
  refine ww_sld (pc := 537) X hX hbl hbA (in_s hi hL (n := 2) (by decide)) dL_law_537 ?_
  refine ww_aload_n (pc := 538) X dL_law_538 3 rfl rfl ?_
  refine ww_iload_n (pc := 539) X dL_law_539 0 rfl rfl ?_
  refine ww_iconst (pc := 540) (v := 3) X dL_law_540 (by decide) ?_
  refine ww_iadd (pc := 541) X dL_law_541 ?_
  refine ww_sld (pc := 542) X hX hbl hbA (in_s hi hL (n := 3) (by decide)) dL_law_542 ?_
  refine ww_aload_n (pc := 543) X dL_law_543 3 rfl rfl ?_
  refine ww_iload_n (pc := 544) X dL_law_544 0 rfl rfl ?_
  refine ww_iconst (pc := 545) (v := 4) X dL_law_545 (by decide) ?_
  refine ww_iadd (pc := 546) X dL_law_546 ?_
  refine ww_sld (pc := 547) X hX hbl hbA (in_s hi hL (n := 4) (by decide)) dL_law_547 ?_
  refine ww_aload_n (pc := 548) X dL_law_548 3 rfl rfl ?_
  refine ww_iload_n (pc := 549) X dL_law_549 0 rfl rfl ?_
  refine ww_iconst (pc := 550) (v := 5) X dL_law_550 (by decide) ?_
  refine ww_iadd (pc := 551) X dL_law_551 ?_
  refine ww_sld (pc := 552) X hX hbl hbA (in_s hi hL (n := 5) (by decide)) dL_law_552 ?_
  refine ww_gVi (pc := 553) (rest := [.int ((f_X7_meet ST SL SF (xs (nI i + 1).toNatClampNeg) (xs (nI i + 2).toNatClampNeg) (xs (nI i + 3).toNatClampNeg) (xs (nI i + 4).toNatClampNeg) (xs (nI i + 5).toNatClampNeg)))]) (gsN := [wX7 cI cZ cQ g ST, wX6 cI cZ cQ (g 1) SX, wX5 cI cZ cQ (g 2) SL, wX5 cI cZ cQ (g 3) SD, wX3 cI cZ cQ (g 4) SF, wX4 cI cZ cQ (g 5) SP, wX2 cI cZ cQ (g 6) SI, wX1 cI cZ cQ (g 7) SN, wX0 cI cZ cQ (g 8) SB, wX8 cI cZ cQ rM SM]) (ci := 8) (gi := 0) (qi := 0) X (c_X8_meet l Dg cI cZ cQ rM SM (xs (nI i + 1).toNatClampNeg) (xs (nI i + 2).toNatClampNeg) (xs (nI i + 3).toNatClampNeg) (xs (nI i + 4).toNatClampNeg) (xs (nI i + 5).toNatClampNeg) (nd_M h)) gL_law_X8_meet rfl hd_X8_meet [false, false, false, false, false, false, false, false, false, true] rfl rfl rfl rfl rfl rfl rfl rfl ⟨rfl, rfl⟩ ⟨Nat.le_of_ble_eq_true rfl, Nat.le_of_ble_eq_true rfl⟩ (Nat.le_of_ble_eq_true rfl) hk dL_law_553 ?_
  refine ww_icmp_eq (tgt := 1002) (pc := 556) X dL_law_556 (by decide) (fun _ => ?_) (fun k => absurd (q_meet h.2.2.1 h.2.2.2.1.1) k)
  exact kk g _ _ _ _ _ _ _ _ _ _ rfl h
set_option maxHeartbeats 4000000 in
set_option maxRecDepth 100000 in
theorem lc_both (X : CX p s m args meth c code RL wsL_law 4 Dg (tyL cI cZ cQ) A) (hX : va_X b Ls xs s s.heap) (hbl : b < s.heap.size) (hbA : ¬ A b) (hk : k9 ≤ room_1.cells ∧ n9 ≤ room_1.slots) (hL : Ls ≤ 384) {i : Nat} (hi : i + 6 ≤ Ls) {rM : Nat → Nat} {g : Nat → Nat → Nat} {ST SX SL SD SF SP SI SN SB SM : St} (h : Rel ST SX SL SF SP SI SN SB SM) (kk : LwK p l e s m args below meth c Dg A k9 n9 Q cI cZ cQ b i rM (g 0 0)) : WW p l e room_1 s m args below meth c 4 Dg A k9 n9 Q (fl (wAll cI cZ cQ g rM ST SX SL SD SF SP SI SN SB SM)) [(3, .int (nI i)), (2, .ref (rM 0)), (1, .ref (g 0 0)), (0, .ref b)] 561 [] := by
  refine ww_aload_n (pc := 561) X dL_law_561 2 rfl rfl ?_
  refine ww_aload_n (pc := 562) X dL_law_562 3 rfl rfl ?_
  refine ww_iload_n (pc := 563) X dL_law_563 0 rfl rfl ?_
  refine ww_iconst (pc := 564) (v := 1) X dL_law_564 (by decide) ?_
  refine ww_iadd (pc := 565) X dL_law_565 ?_
  refine ww_sld (pc := 566) X hX hbl hbA (in_s hi hL (n := 1) (by decide)) dL_law_566 ?_
  refine ww_aload_n (pc := 567) X dL_law_567 3 rfl rfl ?_
  refine ww_iload_n (pc := 568) X dL_law_568 0 rfl rfl ?_
  refine ww_iconst (pc := 569) (v := 2) X dL_law_569 (by decide) ?_
  refine ww_iadd (pc := 570) X dL_law_570 ?_
  refine ww_sld (pc := 571) X hX hbl hbA (in_s hi hL (n := 2) (by decide)) dL_law_571 ?_
  refine ww_aload_n (pc := 572) X dL_law_572 3 rfl rfl ?_
  refine ww_iload_n (pc := 573) X dL_law_573 0 rfl rfl ?_
  refine ww_iconst (pc := 574) (v := 3) X dL_law_574 (by decide) ?_
  refine ww_iadd (pc := 575) X dL_law_575 ?_
  refine ww_sld (pc := 576) X hX hbl hbA (in_s hi hL (n := 3) (by decide)) dL_law_576 ?_
  refine ww_gVi (pc := 577) (rest := []) (gsN := [wX7 cI cZ cQ g ST, wX6 cI cZ cQ (g 1) SX, wX5 cI cZ cQ (g 2) SL, wX5 cI cZ cQ (g 3) SD, wX3 cI cZ cQ (g 4) SF, wX4 cI cZ cQ (g 5) SP, wX2 cI cZ cQ (g 6) SI, wX1 cI cZ cQ (g 7) SN, wX0 cI cZ cQ (g 8) SB, wX8 cI cZ cQ rM SM]) (ci := 7) (gi := 0) (qi := 0) X (c_X7_both l Dg cI cZ cQ g ST SL SF (xs (nI i + 1).toNatClampNeg) (xs (nI i + 2).toNatClampNeg) (xs (nI i + 3).toNatClampNeg) (nd_L h) (nd_N h)) gL_law_X7_both rfl hd_X7_both [true, false, true, false, true, false, false, false, false, false] rfl rfl rfl rfl rfl rfl rfl rfl ⟨rfl, rfl⟩ ⟨Nat.le_of_ble_eq_true rfl, Nat.le_of_ble_eq_true rfl⟩ (Nat.le_of_ble_eq_true rfl) hk dL_law_577 ?_
  refine ww_aload_n (pc := 580) X dL_law_580 1 rfl rfl ?_
  refine ww_aload_n (pc := 581) X dL_law_581 3 rfl rfl ?_
  refine ww_iload_n (pc := 582) X dL_law_582 0 rfl rfl ?_
  refine ww_iconst (pc := 583) (v := 1) X dL_law_583 (by decide) ?_
  refine ww_iadd (pc := 584) X dL_law_584 ?_
  refine ww_sld (pc := 585) X hX hbl hbA (in_s hi hL (n := 1) (by decide)) dL_law_585 ?_
  refine ww_aload_n (pc := 586) X dL_law_586 3 rfl rfl ?_
  refine ww_iload_n (pc := 587) X dL_law_587 0 rfl rfl ?_
  refine ww_iconst (pc := 588) (v := 2) X dL_law_588 (by decide) ?_
  refine ww_iadd (pc := 589) X dL_law_589 ?_
  refine ww_sld (pc := 590) X hX hbl hbA (in_s hi hL (n := 2) (by decide)) dL_law_590 ?_
  refine ww_aload_n (pc := 591) X dL_law_591 3 rfl rfl ?_
  refine ww_iload_n (pc := 592) X dL_law_592 0 rfl rfl ?_
  refine ww_iconst (pc := 593) (v := 3) X dL_law_593 (by decide) ?_
  refine ww_iadd (pc := 594) X dL_law_594 ?_
  refine ww_sld (pc := 595) X hX hbl hbA (in_s hi hL (n := 3) (by decide)) dL_law_595 ?_
  refine ww_gVi (pc := 596) (rest := [.int ((f_X7_both ST SL SF (xs (nI i + 1).toNatClampNeg) (xs (nI i + 2).toNatClampNeg) (xs (nI i + 3).toNatClampNeg)))]) (gsN := [wX7 cI cZ cQ g ST, wX6 cI cZ cQ (g 1) SX, wX5 cI cZ cQ (g 2) SL, wX5 cI cZ cQ (g 3) SD, wX3 cI cZ cQ (g 4) SF, wX4 cI cZ cQ (g 5) SP, wX2 cI cZ cQ (g 6) SI, wX1 cI cZ cQ (g 7) SN, wX0 cI cZ cQ (g 8) SB, wX8 cI cZ cQ rM SM]) (ci := 8) (gi := 0) (qi := 0) X (c_X8_both l Dg cI cZ cQ rM SM (xs (nI i + 1).toNatClampNeg) (xs (nI i + 2).toNatClampNeg) (xs (nI i + 3).toNatClampNeg) (nd_M h)) gL_law_X8_both rfl hd_X8_both [false, false, false, false, false, false, false, false, false, true] rfl rfl rfl rfl rfl rfl rfl rfl ⟨rfl, rfl⟩ ⟨Nat.le_of_ble_eq_true rfl, Nat.le_of_ble_eq_true rfl⟩ (Nat.le_of_ble_eq_true rfl) hk dL_law_596 ?_
  refine ww_icmp_eq (tgt := 1002) (pc := 599) X dL_law_599 (by decide) (fun _ => ?_) (fun k => absurd (q_both h.2.2.1 h.2.2.2.1.1) k)
  exact kk g _ _ _ _ _ _ _ _ _ _ rfl h
end LawR
