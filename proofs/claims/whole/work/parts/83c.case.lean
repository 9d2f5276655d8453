section LawR
variable {p : Program} {l : Launch} {e : Env} {s : State} {m : MethodId} {args : Array Value} {below : List Frame} {meth : Method} {c : Code} {Q : State → Prop} {Dg : va_G} {A : Nat → Prop} {k9 n9 : Nat} {cI cZ cQ : ClassId} {b Ls : Nat} {xs : Nat → Int32}
set_option maxHeartbeats 4000000 in
set_option maxRecDepth 100000 in
theorem lc_leave (X : CX p s m args meth c code RL wsL_law 4 Dg (tyL cI cZ cQ) A) (hX : va_X b Ls xs s s.heap) (hbl : b < s.heap.size) (hbA : ¬ A b) (hk : k9 ≤ room_1.cells ∧ n9 ≤ room_1.slots) (hL : Ls ≤ 384) {i : Nat} (hi : i + 6 ≤ Ls) {rM : Nat → Nat} {g : Nat → Nat → Nat} {ST SX SL SD SF SP SI SN SB SM : St} (h : Rel ST SX SL SF SP SI SN SB SM) (kk : LwK p l e s m args below meth c Dg A k9 n9 Q cI cZ cQ b i rM (g 0 0)) : WW p l e room_1 s m args below meth c 4 Dg A k9 n9 Q (fl (wAll cI cZ cQ g rM ST SX SL SD SF SP SI SN SB SM)) [(3, .int (nI i)), (2, .ref (rM 0)), (1, .ref (g 0 0)), (0, .ref b)] 604 [] := by
  refine ww_aload_n (pc := 604) X dL_law_604 2 rfl rfl ?_
  refine ww_aload_n (pc := 605) X dL_law_605 3 rfl rfl ?_
  refine ww_iload_n (pc := 606) X dL_law_606 0 rfl rfl ?_
  refine ww_iconst (pc := 607) (v := 1) X dL_law_607 (by decide) ?_
  refine ww_iadd (pc := 608) X dL_law_608 ?_
  refine ww_sld (pc := 609) X hX hbl hbA (in_s hi hL (n := 1) (by decide)) dL_law_609 ?_
  refine ww_aload_n (pc := 610) X dL_law_610 3 rfl rfl ?_
  refine ww_iload_n (pc := 611) X dL_law_611 0 rfl rfl ?_
  refine ww_iconst (pc := 612) (v := 2) X dL_law_612 (by decide) ?_
  refine ww_iadd (pc := 613) X dL_law_613 ?_
  refine ww_sld (pc := 614) X hX hbl hbA (in_s hi hL (n := 2) (by decide)) dL_law_614 ?_
  refine ww_gVi (pc := 615) (rest := []) (gsN := [wX7 cI cZ cQ g ST, wX6 cI cZ cQ (g 1) SX, wX5 cI cZ cQ (g 2) SL, wX5 cI cZ cQ (g 3) SD, wX3 cI cZ cQ (g 4) SF, wX4 cI cZ cQ (g 5) SP, wX2 cI cZ cQ (g 6) SI, wX1 cI cZ cQ (g 7) SN, wX0 cI cZ cQ (g 8) SB, wX8 cI cZ cQ rM SM]) (ci := 7) (gi := 0) (qi := 0) X (c_X7_leave l Dg cI cZ cQ g ST SL SF (xs (nI i + 1).toNatClampNeg) (xs (nI i + 2).toNatClampNeg) (nd_L h)) gL_law_X7_leave rfl hd_X7_leave [true, false, true, false, true, false, false, false, false, false] rfl rfl rfl rfl rfl rfl rfl rfl ⟨rfl, rfl⟩ ⟨Nat.le_of_ble_eq_true rfl, Nat.le_of_ble_eq_true rfl⟩ (Nat.le_of_ble_eq_true rfl) hk dL_law_615 ?_
  refine ww_aload_n (pc := 618) X dL_law_618 1 rfl rfl ?_
  refine ww_aload_n (pc := 619) X dL_law_619 3 rfl rfl ?_
  refine ww_iload_n (pc := 620) X dL_law_620 0 rfl rfl ?_
  refine ww_iconst (pc := 621) (v := 1) X dL_law_621 (by decide) ?_
  refine ww_iadd (pc := 622) X dL_law_622 ?_
  refine ww_sld (pc := 623) X hX hbl hbA (in_s hi hL (n := 1) (by decide)) dL_law_623 ?_
  refine ww_aload_n (pc := 624) X dL_law_624 3 rfl rfl ?_
  refine ww_iload_n (pc := 625) X dL_law_625 0 rfl rfl ?_
  refine ww_iconst (pc := 626) (v := 2) X dL_law_626 (by decide) ?_
  refine ww_iadd (pc := 627) X dL_law_627 ?_
  refine ww_sld (pc := 628) X hX hbl hbA (in_s hi hL (n := 2) (by decide)) dL_law_628 ?_
  refine ww_gVi (pc := 629) (rest := [.int ((f_X7_leave ST SL SF (xs (nI i + 1).toNatClampNeg) (xs (nI i + 2).toNatClampNeg)))]) (gsN := [wX7 cI cZ cQ g ST, wX6 cI cZ cQ (g 1) SX, wX5 cI cZ cQ (g 2) SL, wX5 cI cZ cQ (g 3) SD, wX3 cI cZ cQ (g 4) SF, wX4 cI cZ cQ (g 5) SP, wX2 cI cZ cQ (g 6) SI, wX1 cI cZ cQ (g 7) SN, wX0 cI cZ cQ (g 8) SB, wX8 cI cZ cQ rM SM]) (ci := 8) (gi := 0) (qi := 0) X (c_X8_leave l Dg cI cZ cQ rM SM (xs (nI i + 1).toNatClampNeg) (xs (nI i + 2).toNatClampNeg) (nd_M h)) gL_law_X8_leave rfl hd_X8_leave [false, false, false, false, false, false, false, false, false, true] rfl rfl rfl rfl rfl rfl rfl rfl ⟨rfl, rfl⟩ ⟨Nat.le_of_ble_eq_true rfl, Nat.le_of_ble_eq_true rfl⟩ (Nat.le_of_ble_eq_true rfl) hk dL_law_629 ?_
  refine ww_icmp_eq (tgt := 1002) (pc := 632) X dL_law_632 (by decide) (fun _ => ?_) (fun k => absurd (q_leave h.2.2.1 h.2.2.2.1.1) k)
  exact kk g _ _ _ _ _ _ _ _ _ _ rfl h
set_option maxHeartbeats 4000000 in
set_option maxRecDepth 100000 in
theorem lc_when (X : CX p s m args meth c code RL wsL_law 4 Dg (tyL cI cZ cQ) A) (hX : va_X b Ls xs s s.heap) (hbl : b < s.heap.size) (hbA : ¬ A b) (hk : k9 ≤ room_1.cells ∧ n9 ≤ room_1.slots) (hL : Ls ≤ 384) {i : Nat} (hi : i + 6 ≤ Ls) {rM : Nat → Nat} {g : Nat → Nat → Nat} {ST SX SL SD SF SP SI SN SB SM : St} (h : Rel ST SX SL SF SP SI SN SB SM) (kk : LwK p l e s m args below meth c Dg A k9 n9 Q cI cZ cQ b i rM (g 0 0)) : WW p l e room_1 s m args below meth c 4 Dg A k9 n9 Q (fl (wAll cI cZ cQ g rM ST SX SL SD SF SP SI SN SB SM)) [(3, .int (nI i)), (2, .ref (rM 0)), (1, .ref (g 0 0)), (0, .ref b)] 637 [] := by
  refine ww_aload_n (pc := 637) X dL_law_637 2 rfl rfl ?_
  refine ww_aload_n (pc := 638) X dL_law_638 3 rfl rfl ?_
  refine ww_iload_n (pc := 639) X dL_law_639 0 rfl rfl ?_
  refine ww_iconst (pc := 640) (v := 1) X dL_law_640 (by decide) ?_
  refine ww_iadd (pc := 641) X dL_law_641 ?_
  refine ww_sld (pc := 642) X hX hbl hbA (in_s hi hL (n := 1) (by decide)) dL_law_642 ?_
  refine ww_aload_n (pc := 643) X dL_law_643 3 rfl rfl ?_
  refine ww_iload_n (pc := 644) X dL_law_644 0 rfl rfl ?_
  refine ww_iconst (pc := 645) (v := 2) X dL_law_645 (by decide) ?_
  refine ww_iadd (pc := 646) X dL_law_646 ?_
  refine ww_sld (pc := 647) X hX hbl hbA (in_s hi hL (n := 2) (by decide)) dL_law_647 ?_
  refine ww_gVi (pc := 648) (rest := []) (gsN := [wX7 cI cZ cQ g ST, wX6 cI cZ cQ (g 1) SX, wX5 cI cZ cQ (g 2) SL, wX5 cI cZ cQ (g 3) SD, wX3 cI cZ cQ (g 4) SF, wX4 cI cZ cQ (g 5) SP, wX2 cI cZ cQ (g 6) SI, wX1 cI cZ cQ (g 7) SN, wX0 cI cZ cQ (g 8) SB, wX8 cI cZ cQ rM SM]) (ci := 7) (gi := 0) (qi := 0) X (c_X7_when l Dg cI cZ cQ g ST SL SF (xs (nI i + 1).toNatClampNeg) (xs (nI i + 2).toNatClampNeg)) gL_law_X7_when rfl hd_X7_when [true, false, true, false, true, false, false, false, false, false] rfl rfl rfl rfl rfl rfl rfl rfl ⟨rfl, rfl⟩ ⟨Nat.le_of_ble_eq_true rfl, Nat.le_of_ble_eq_true rfl⟩ (Nat.le_of_ble_eq_true rfl) hk dL_law_648 ?_
  refine ww_aload_n (pc := 651) X dL_law_651 1 rfl rfl ?_
  refine ww_aload_n (pc := 652) X dL_law_652 3 rfl rfl ?_
  refine ww_iload_n (pc := 653) X dL_law_653 0 rfl rfl ?_
  refine ww_iconst (pc := 654) (v := 1) X dL_law_654 (by decide) ?_
  refine ww_iadd (pc := 655) X dL_law_655 ?_
  refine ww_sld (pc := 656) X hX hbl hbA (in_s hi hL (n := 1) (by decide)) dL_law_656 ?_
  refine ww_aload_n (pc := 657) X dL_law_657 3 rfl rfl ?_
  refine ww_iload_n (pc := 658) X dL_law_658 0 rfl rfl ?_
  refine ww_iconst (pc := 659) (v := 2) X dL_law_659 (by decide) ?_
  refine ww_iadd (pc := 660) X dL_law_660 ?_
  refine ww_sld (pc := 661) X hX hbl hbA (in_s hi hL (n := 2) (by decide)) dL_law_661 ?_
  refine ww_gVi (pc := 662) (rest := [.int ((f_X7_when ST SL SF (xs (nI i + 1).toNatClampNeg) (xs (nI i + 2).toNatClampNeg)))]) (gsN := [wX7 cI cZ cQ g ST, wX6 cI cZ cQ (g 1) SX, wX5 cI cZ cQ (g 2) SL, wX5 cI cZ cQ (g 3) SD, wX3 cI cZ cQ (g 4) SF, wX4 cI cZ cQ (g 5) SP, wX2 cI cZ cQ (g 6) SI, wX1 cI cZ cQ (g 7) SN, wX0 cI cZ cQ (g 8) SB, wX8 cI cZ cQ rM SM]) (ci := 8) (gi := 0) (qi := 0) X (c_X8_when l Dg cI cZ cQ rM SM (xs (nI i + 1).toNatClampNeg) (xs (nI i + 2).toNatClampNeg) (nd_M h)) gL_law_X8_when rfl hd_X8_when [false, false, false, false, false, false, false, false, false, true] rfl rfl rfl rfl rfl rfl rfl rfl ⟨rfl, rfl⟩ ⟨Nat.le_of_ble_eq_true rfl, Nat.le_of_ble_eq_true rfl⟩ (Nat.le_of_ble_eq_true rfl) hk dL_law_662 ?_
  refine ww_icmp_eq (tgt := 1002) (pc := 665) X dL_law_665 (by decide) (fun _ => ?_) (fun k => absurd (q_when h.2.2.1 h.2.2.2.1.1) k)
  exact kk g _ _ _ _ _ _ _ _ _ _ rfl h
set_option maxHeartbeats 4000000 in
set_option maxRecDepth 100000 in
theorem lc_letters (X : CX p s m args meth c code RL wsL_law 4 Dg (tyL cI cZ cQ) A) (hX : va_X b Ls xs s s.heap) (hbl : b < s.heap.size) (hbA : ¬ A b) (hk : k9 ≤ room_1.cells ∧ n9 ≤ room_1.slots) (hL : Ls ≤ 384) {i : Nat} (hi : i + 6 ≤ Ls) {rM : Nat → Nat} {g : Nat → Nat → Nat} {ST SX SL SD SF SP SI SN SB SM : St} (h : Rel ST SX SL SF SP SI SN SB SM) (kk : LwK p l e s m args below meth c Dg A k9 n9 Q cI cZ cQ b i rM (g 0 0)) : WW p l e room_1 s m args below meth c 4 Dg A k9 n9 Q (fl (wAll cI cZ cQ g rM ST SX SL SD SF SP SI SN SB SM)) [(3, .int (nI i)), (2, .ref (rM 0)), (1, .ref (g 0 0)), (0, .ref b)] 670 [] := by
  refine ww_aload_n (pc := 670) X dL_law_670 2 rfl rfl ?_
  refine ww_aload_n (pc := 671) X dL_law_671 3 rfl rfl ?_
  refine ww_iload_n (pc := 672) X dL_law_672 0 rfl rfl ?_
  refine ww_iconst (pc := 673) (v := 1) X dL_law_673 (by decide) ?_
  refine ww_iadd (pc := 674) X dL_law_674 ?_
  refine ww_sld (pc := 675) X hX hbl hbA (in_s hi hL (n := 1) (by decide)) dL_law_675 ?_
  refine ww_aload_n (pc := 676) X dL_law_676 3 rfl rfl ?_
  refine ww_iload_n (pc := 677) X dL_law_677 0 rfl rfl ?_
  refine ww_iconst (pc := 678) (v := 2) X dL_law_678 (by decide) ?_
  refine ww_iadd (pc := 679) X dL_law_679 ?_
  refine ww_sld (pc := 680) X hX hbl hbA (in_s hi hL (n := 2) (by decide)) dL_law_680 ?_
  refine ww_gVi (pc := 681) (rest := []) (gsN := [wX7 cI cZ cQ g ST, wX6 cI cZ cQ (g 1) SX, wX5 cI cZ cQ (g 2) SL, wX5 cI cZ cQ (g 3) SD, wX3 cI cZ cQ (g 4) SF, wX4 cI cZ cQ (g 5) SP, wX2 cI cZ cQ (g 6) SI, wX1 cI cZ cQ (g 7) SN, wX0 cI cZ cQ (g 8) SB, wX8 cI cZ cQ rM SM]) (ci := 7) (gi := 0) (qi := 0) X (c_X7_letters l Dg cI cZ cQ g ST SL SF (xs (nI i + 1).toNatClampNeg) (xs (nI i + 2).toNatClampNeg)) gL_law_X7_letters rfl hd_X7_letters [true, false, true, false, true, false, false, false, false, false] rfl rfl rfl rfl rfl rfl rfl rfl ⟨rfl, rfl⟩ ⟨Nat.le_of_ble_eq_true rfl, Nat.le_of_ble_eq_true rfl⟩ (Nat.le_of_ble_eq_true rfl) hk dL_law_681 ?_
  refine ww_aload_n (pc := 684) X dL_law_684 1 rfl rfl ?_
  refine ww_aload_n (pc := 685) X dL_law_685 3 rfl rfl ?_
  refine ww_iload_n (pc := 686) X dL_law_686 0 rfl rfl ?_
  refine ww_iconst (pc := 687) (v := 1) X dL_law_687 (by decide) ?_
  refine ww_iadd (pc := 688) X dL_law_688 ?_
  refine ww_sld (pc := 689) X hX hbl hbA (in_s hi hL (n := 1) (by decide)) dL_law_689 ?_
  refine ww_aload_n (pc := 690) X dL_law_690 3 rfl rfl ?_
  refine ww_iload_n (pc := 691) X dL_law_691 0 rfl rfl ?_
  refine ww_iconst (pc := 692) (v := 2) X dL_law_692 (by decide) ?_
  refine ww_iadd (pc := 693) X dL_law_693 ?_
  refine ww_sld (pc := 694) X hX hbl hbA (in_s hi hL (n := 2) (by decide)) dL_law_694 ?_
  refine ww_gVi (pc := 695) (rest := [.int ((f_X7_letters ST SL SF (xs (nI i + 1).toNatClampNeg) (xs (nI i + 2).toNatClampNeg)))]) (gsN := [wX7 cI cZ cQ g ST, wX6 cI cZ cQ (g 1) SX, wX5 cI cZ cQ (g 2) SL, wX5 cI cZ cQ (g 3) SD, wX3 cI cZ cQ (g 4) SF, wX4 cI cZ cQ (g 5) SP, wX2 cI cZ cQ (g 6) SI, wX1 cI cZ cQ (g 7) SN, wX0 cI cZ cQ (g 8) SB, wX8 cI cZ cQ rM SM]) (ci := 8) (gi := 0) (qi := 0) X (c_X8_letters l Dg cI cZ cQ rM SM (xs (nI i + 1).toNatClampNeg) (xs (nI i + 2).toNatClampNeg) (nd_M h) (nd_D h)) gL_law_X8_letters rfl hd_X8_letters [false, false, false, false, false, false, false, false, false, true] rfl rfl rfl rfl rfl rfl rfl rfl ⟨rfl, rfl⟩ ⟨Nat.le_of_ble_eq_true rfl, Nat.le_of_ble_eq_true rfl⟩ (Nat.le_of_ble_eq_true rfl) hk dL_law_695 ?_
  refine ww_icmp_eq (tgt := 1002) (pc := 698) X dL_law_698 (by decide) (fun _ => ?_) (fun k => absurd (q_letters h.2.2.1 h.2.2.2.1.1) k)
  exact kk g _ _ _ _ _ _ _ _ _ _ rfl h
set_option maxHeartbeats 4000000 in
set_option maxRecDepth 100000 in
theorem lc_wouldOpen (X : CX p s m args meth c code RL wsL_law 4 Dg (tyL cI cZ cQ) A) (hX : va_X b Ls xs s s.heap) (hbl : b < s.heap.size) (hbA : ¬ A b) (hk : k9 ≤ room_1.cells ∧ n9 ≤ room_1.slots) (hL : Ls ≤ 384) {i : Nat} (hi : i + 6 ≤ Ls) {rM : Nat → Nat} {g : Nat → Nat → Nat} {ST SX SL SD SF SP SI SN SB SM : St} (h : Rel ST SX SL SF SP SI SN SB SM) (kk : LwK p l e s m args below meth c Dg A k9 n9 Q cI cZ cQ b i rM (g 0 0)) : WW p l e room_1 s m args below meth c 4 Dg A k9 n9 Q (fl (wAll cI cZ cQ g rM ST SX SL SD SF SP SI SN SB SM)) [(3, .int (nI i)), (2, .ref (rM 0)), (1, .ref (g 0 0)), (0, .ref b)] 703 [] := by
  refine ww_aload_n (pc := 703) X dL_law_703 2 rfl rfl ?_
  refine ww_aload_n (pc := 704) X dL_law_704 3 rfl rfl ?_
  refine ww_iload_n (pc := 705) X dL_law_705 0 rfl rfl ?_
  refine ww_iconst (pc := 706) (v := 1) X dL_law_706 (by decide) ?_
  refine ww_iadd (pc := 707) X dL_law_707 ?_
  refine ww_sld (pc := 708) X hX hbl hbA (in_s hi hL (n := 1) (by decide)) dL_law_708 ?_
  refine ww_gVi (pc := 709) (rest := []) (gsN := [wX7 cI cZ cQ g ST, wX6 cI cZ cQ (g 1) SX, wX5 cI cZ cQ (g 2) SL, wX5 cI cZ cQ (g 3) SD, wX3 cI cZ cQ (g 4) SF, wX4 cI cZ cQ (g 5) SP, wX2 cI cZ cQ (g 6) SI, wX1 cI cZ cQ (g 7) SN, wX0 cI cZ cQ (g 8) SB, wX8 cI cZ cQ rM SM]) (ci := 7) (gi := 0) (qi := 0) X (c_X7_wouldOpen l Dg cI cZ cQ g ST SL SF (xs (nI i + 1).toNatClampNeg)) gL_law_X7_wouldOpen rfl hd_X7_wouldOpen [true, false, true, false, true, false, false, false, false, false] rfl rfl rfl rfl rfl rfl rfl rfl ⟨rfl, rfl⟩ ⟨Nat.le_of_ble_eq_true rfl, Nat.le_of_ble_eq_true rfl⟩ (Nat.le_of_ble_eq_true rfl) hk dL_law_709 ?_
  refine ww_aload_n (pc := 712) X dL_law_712 1 rfl rfl ?_
  refine ww_aload_n (pc := 713) X dL_law_713 3 rfl rfl ?_
  refine ww_iload_n (pc := 714) X dL_law_714 0 rfl rfl ?_
  refine ww_iconst (pc := 715) (v := 1) X dL_law_715 (by decide) ?_
  refine ww_iadd (pc := 716) X dL_law_716 ?_
  refine ww_sld (pc := 717) X hX hbl hbA (in_s hi hL (n := 1) (by decide)) dL_law_717 ?_
  refine ww_gVi (pc := 718) (rest := [.int ((f_X7_wouldOpen ST SL SF (xs (nI i + 1).toNatClampNeg)))]) (gsN := [wX7 cI cZ cQ g ST, wX6 cI cZ cQ (g 1) SX, wX5 cI cZ cQ (g 2) SL, wX5 cI cZ cQ (g 3) SD, wX3 cI cZ cQ (g 4) SF, wX4 cI cZ cQ (g 5) SP, wX2 cI cZ cQ (g 6) SI, wX1 cI cZ cQ (g 7) SN, wX0 cI cZ cQ (g 8) SB, wX8 cI cZ cQ rM SM]) (ci := 8) (gi := 0) (qi := 0) X (c_X8_wouldOpen l Dg cI cZ cQ rM SM (xs (nI i + 1).toNatClampNeg) (nd_M h)) gL_law_X8_wouldOpen rfl hd_X8_wouldOpen [false, false, false, false, false, false, false, false, false, true] rfl rfl rfl rfl rfl rfl rfl rfl ⟨rfl, rfl⟩ ⟨Nat.le_of_ble_eq_true rfl, Nat.le_of_ble_eq_true rfl⟩ (Nat.le_of_ble_eq_true rfl) hk dL_law_718 ?_
  refine ww_icmp_eq (tgt := 1002) (pc := 721) X dL_law_721 (by decide) (fun _ => ?_) (fun k => absurd (q_wouldOpen h.2.2.1 h.2.2.2.1.1) k)
  exact kk g _ _ _ _ _ _ _ _ _ _ rfl h
set_option maxHeartbeats 4000000 in
set_option maxRecDepth 100000 in
theorem lc_yearsLeft (X : CX p s m args meth c code RL wsL_law 4 Dg (tyL cI cZ cQ) A) (hX : va_X b Ls xs s s.heap) (hbl : b < s.heap.size) (hbA : ¬ A b) (hk : k9 ≤ room_1.cells ∧ n9 ≤ room_1.slots) (hL : Ls ≤ 384) {i : Nat} (hi : i + 6 ≤ Ls) {rM : Nat → Nat} {g : Nat → Nat → Nat} {ST SX SL SD SF SP SI SN SB SM : St} (h : Rel ST SX SL SF SP SI SN SB SM) (kk : LwK p l e s m args below meth c Dg A k9 n9 Q cI cZ cQ b i rM (g 0 0)) : WW p l e room_1 s m args below meth c 4 Dg A k9 n9 Q (fl (wAll cI cZ cQ g rM ST SX SL SD SF SP SI SN SB SM)) [(3, .int (nI i)), (2, .ref (rM 0)), (1, .ref (g 0 0)), (0, .ref b)] 726 [] := by
  refine ww_aload_n (pc := 726) X dL_law_726 2 rfl rfl ?_
  refine ww_aload_n (pc := 727) X dL_law_727 3 rfl rfl ?_
  refine ww_iload_n (pc := 728) X dL_law_728 0 rfl rfl ?_
  refine ww_iconst (pc := 729) (v := 1) X dL_law_729 (by decide) ?_
  refine ww_iadd (pc := 730) X dL_law_730 ?_
  refine ww_sld (pc := 731) X hX hbl hbA (in_s hi hL (n := 1) (by decide)) dL_law_731 ?_
  refine ww_gVi (pc := 732) (rest := []) (gsN := [wX7 cI cZ cQ g ST, wX6 cI cZ cQ (g 1) SX, wX5 cI cZ cQ (g 2) SL, wX5 cI cZ cQ (g 3) SD, wX3 cI cZ cQ (g 4) SF, wX4 cI cZ cQ (g 5) SP, wX2 cI cZ cQ (g 6) SI, wX1 cI cZ cQ (g 7) SN, wX0 cI cZ cQ (g 8) SB, wX8 cI cZ cQ rM SM]) (ci := 7) (gi := 0) (qi := 0) X (c_X7_yearsLeft l Dg cI cZ cQ g ST SL SF (xs (nI i + 1).toNatClampNeg)) gL_law_X7_yearsLeft rfl hd_X7_yearsLeft [true, false, true, false, true, false, false, false, false, false] rfl rfl rfl rfl rfl rfl rfl rfl ⟨rfl, rfl⟩ ⟨Nat.le_of_ble_eq_true rfl, Nat.le_of_ble_eq_true rfl⟩ (Nat.le_of_ble_eq_true rfl) hk dL_law_732 ?_
  refine ww_aload_n (pc := 735) X dL_law_735 1 rfl rfl ?_
  refine ww_aload_n (pc := 736) X dL_law_736 3 rfl rfl ?_
  refine ww_iload_n (pc := 737) X dL_law_737 0 rfl rfl ?_
  refine ww_iconst (pc := 738) (v := 1) X dL_law_738 (by decide) ?_
  refine ww_iadd (pc := 739) X dL_law_739 ?_
  refine ww_sld (pc := 740) X hX hbl hbA (in_s hi hL (n := 1) (by decide)) dL_law_740 ?_
  refine ww_gVi (pc := 741) (rest := [.int ((f_X7_yearsLeft ST SL SF (xs (nI i + 1).toNatClampNeg)))]) (gsN := [wX7 cI cZ cQ g ST, wX6 cI cZ cQ (g 1) SX, wX5 cI cZ cQ (g 2) SL, wX5 cI cZ cQ (g 3) SD, wX3 cI cZ cQ (g 4) SF, wX4 cI cZ cQ (g 5) SP, wX2 cI cZ cQ (g 6) SI, wX1 cI cZ cQ (g 7) SN, wX0 cI cZ cQ (g 8) SB, wX8 cI cZ cQ rM SM]) (ci := 8) (gi := 0) (qi := 0) X (c_X8_yearsLeft l Dg cI cZ cQ rM SM (xs (nI i + 1).toNatClampNeg) (nd_M h)) gL_law_X8_yearsLeft rfl hd_X8_yearsLeft [false, false, false, false, false, false, false, false, false, true] rfl rfl rfl rfl rfl rfl rfl rfl ⟨rfl, rfl⟩ ⟨Nat.le_of_ble_eq_true rfl, Nat.le_of_ble_eq_true rfl⟩ (Nat.le_of_ble_eq_true rfl) hk dL_law_741 ?_
  refine ww_icmp_eq (tgt := 1002) (pc := 744) X dL_law_744 (by decide) (fun _ => ?_) (fun k => absurd (q_yearsLeft h.2.2.1 h.2.2.2.1.1) k)
  exact kk g _ _ _ _ _ _ _ _ _ _ rfl h
set_option maxHeartbeats 4000000 in
set_option maxRecDepth 100000 in
theorem lc_latest (X : CX p s m args meth c code RL wsL_law 4 Dg (tyL cI cZ cQ) A) (hX : va_X b Ls xs s s.heap) (hbl : b < s.heap.size) (hbA : ¬ A b) (hk : k9 ≤ room_1.cells ∧ n9 ≤ room_1.slots) (hL : Ls ≤ 384) {i : Nat} (hi : i + 6 ≤ Ls) {rM : Nat → Nat} {g : Nat → Nat → Nat} {ST SX SL SD SF SP SI SN SB SM : St} (h : Rel ST SX SL SF SP SI SN SB SM) (kk : LwK p l e s m args below meth c Dg A k9 n9 Q cI cZ cQ b i rM (g 0 0)) : WW p l e room_1 s m args below meth c 4 Dg A k9 n9 Q (fl (wAll cI cZ cQ g rM ST SX SL SD SF SP SI SN SB SM)) [(3, .int (nI i)), (2, .ref (rM 0)), (1, .ref (g 0 0)), (0, .ref b)] 749 [] := by
  refine ww_aload_n (pc := 749) X dL_law_749 2 rfl rfl ?_
  refine ww_gVi (pc := 750) (rest := []) (gsN := [wX7 cI cZ cQ g ST, wX6 cI cZ cQ (g 1) SX, wX5 cI cZ cQ (g 2) SL, wX5 cI cZ cQ (g 3) SD, wX3 cI cZ cQ (g 4) SF, wX4 cI cZ cQ (g 5) SP, wX2 cI cZ cQ (g 6) SI, wX1 cI cZ cQ (g 7) SN, wX0 cI cZ cQ (g 8) SB, wX8 cI cZ cQ rM SM]) (ci := 7) (gi := 0) (qi := 0) X (c_X7_latest l Dg cI cZ cQ g ST SL SF (nd_L h)) gL_law_X7_latest rfl hd_X7_latest [true, false, true, false, true, false, false, false, false, false] rfl rfl rfl rfl rfl rfl rfl rfl ⟨rfl, rfl⟩ ⟨Nat.le_of_ble_eq_true rfl, Nat.le_of_ble_eq_true rfl⟩ (Nat.le_of_ble_eq_true rfl) hk dL_law_750 ?_
  refine ww_aload_n (pc := 753) X dL_law_753 1 rfl rfl ?_
  refine ww_gVi (pc := 754) (rest := [.int ((f_X7_latest ST SL SF))]) (gsN := [wX7 cI cZ cQ g ST, wX6 cI cZ cQ (g 1) SX, wX5 cI cZ cQ (g 2) SL, wX5 cI cZ cQ (g 3) SD, wX3 cI cZ cQ (g 4) SF, wX4 cI cZ cQ (g 5) SP, wX2 cI cZ cQ (g 6) SI, wX1 cI cZ cQ (g 7) SN, wX0 cI cZ cQ (g 8) SB, wX8 cI cZ cQ rM SM]) (ci := 8) (gi := 0) (qi := 0) X (c_X8_latest l Dg cI cZ cQ rM SM (nd_M h)) gL_law_X8_latest rfl hd_X8_latest [false, false, false, false, false, false, false, false, false, true] rfl rfl rfl rfl rfl rfl rfl rfl ⟨rfl, rfl⟩ ⟨Nat.le_of_ble_eq_true rfl, Nat.le_of_ble_eq_true rfl⟩ (Nat.le_of_ble_eq_true rfl) hk dL_law_754 ?_
  refine ww_icmp_eq (tgt := 1002) (pc := 757) X dL_law_757 (by decide) (fun _ => ?_) (fun k => absurd (q_latest h.2.2.1 h.2.2.2.1.1) k)
  exact kk g _ _ _ _ _ _ _ _ _ _ rfl h
set_option maxHeartbeats 4000000 in
set_option maxRecDepth 100000 in
theorem lc_storm (X : CX p s m args meth c code RL wsL_law 4 Dg (tyL cI cZ cQ) A) (hX : va_X b Ls xs s s.heap) (hbl : b < s.heap.size) (hbA : ¬ A b) (hk : k9 ≤ room_1.cells ∧ n9 ≤ room_1.slots) (hL : Ls ≤ 384) {i : Nat} (hi : i + 6 ≤ Ls) {rM : Nat → Nat} {g : Nat → Nat → Nat} {ST SX SL SD SF SP SI SN SB SM : St} (h : Rel ST SX SL SF SP SI SN SB SM) (kk : LwK p l e s m args below meth c Dg A k9 n9 Q cI cZ cQ b i rM (g 0 0)) : WW p l e room_1 s m args below meth c 4 Dg A k9 n9 Q (fl (wAll cI cZ cQ g rM ST SX SL SD SF SP SI SN SB SM)) [(3, .int (nI i)), (2, .ref (rM 0)), (1, .ref (g 0 0)), (0, .ref b)] 762 [] := by
  refine ww_aload_n (pc := 762) X dL_law_762 2 rfl rfl ?_
  refine ww_aload_n (pc := 763) X dL_law_763 3 rfl rfl ?_
  refine ww_iload_n (pc := 764) X dL_law_764 0 rfl rfl ?_
  refine ww_iconst (pc := 765) (v := 1) X dL_law_765 (by decide) ?_
  refine ww_iadd (pc := 766) X dL_law_766 ?_
  refine ww_sld (pc := 767) X hX hbl hbA (in_s hi hL (n := 1) (by decide)) dL_law_767 ?_
  refine ww_aload_n (pc := 768) X dL_law_768 3 rfl rfl ?_
  refine ww_iload_n (pc := 769) X dL_law_769 0 rfl rfl ?_
  refine ww_iconst (pc := 770) (v := 2) X dL_law_770 (by decide) ?_
  refine ww_iadd (pc := 771) X dL_law_771 ?_
  refine ww_sld (pc := 772) X hX hbl hbA (in_s hi hL (n := 2) (by decide)) dL_law_772 ?_
  refine ww_gVi (pc := 773) (rest := []) (gsN := [wX7 cI cZ cQ g ST, wX6 cI cZ cQ (g 1) SX, wX5 cI cZ cQ (g 2) SL, wX5 cI cZ cQ (g 3) SD, wX3 cI cZ cQ (g 4) SF, wX4 cI cZ cQ (g 5) SP, wX2 cI cZ cQ (g 6) SI, wX1 cI cZ cQ (g 7) SN, wX0 cI cZ cQ (g 8) SB, wX8 cI cZ cQ rM SM]) (ci := 7) (gi := 0) (qi := 0) X (c_X7_storm l Dg cI cZ cQ g ST (xs (nI i + 1).toNatClampNeg) (xs (nI i + 2).toNatClampNeg)) gL_law_X7_storm rfl hd_X7_storm [true, false, false, false, false, false, false, false, false, false] rfl rfl rfl rfl rfl rfl rfl rfl ⟨rfl, rfl⟩ ⟨Nat.le_of_ble_eq_true rfl, Nat.le_of_ble_eq_true rfl⟩ (Nat.le_of_ble_eq_true rfl) hk dL_law_773 ?_
  refine ww_aload_n (pc := 776) X dL_law_776 1 rfl rfl ?_
  refine ww_aload_n (pc := 777) X dL_law_777 3 rfl rfl ?_
  refine ww_iload_n (pc := 778) X dL_law_778 0 rfl rfl ?_
  refine ww_iconst (pc := 779) (v := 1) X dL_law_779 (by decide) ?_
  refine ww_iadd (pc := 780) X dL_law_780 ?_
  refine ww_sld (pc := 781) X hX hbl hbA (in_s hi hL (n := 1) (by decide)) dL_law_781 ?_
  refine ww_aload_n (pc := 782) X dL_law_782 3 rfl rfl ?_
  refine ww_iload_n (pc := 783) X dL_law_783 0 rfl rfl ?_
  refine ww_iconst (pc := 784) (v := 2) X dL_law_784 (by decide) ?_
  refine ww_iadd (pc := 785) X dL_law_785 ?_
  refine ww_sld (pc := 786) X hX hbl hbA (in_s hi hL (n := 2) (by decide)) dL_law_786 ?_
  refine ww_gVi (pc := 787) (rest := [.int ((f_X7_storm ST (xs (nI i + 1).toNatClampNeg) (xs (nI i + 2).toNatClampNeg)))]) (gsN := [wX7 cI cZ cQ g ST, wX6 cI cZ cQ (g 1) SX, wX5 cI cZ cQ (g 2) SL, wX5 cI cZ cQ (g 3) SD, wX3 cI cZ cQ (g 4) SF, wX4 cI cZ cQ (g 5) SP, wX2 cI cZ cQ (g 6) SI, wX1 cI cZ cQ (g 7) SN, wX0 cI cZ cQ (g 8) SB, wX8 cI cZ cQ rM SM]) (ci := 8) (gi := 0) (qi := 0) X (c_X8_storm l Dg cI cZ cQ rM SM (xs (nI i + 1).toNatClampNeg) (xs (nI i + 2).toNatClampNeg)) gL_law_X8_storm rfl hd_X8_storm [false, false, false, false, false, false, false, false, false, true] rfl rfl rfl rfl rfl rfl rfl rfl ⟨rfl, rfl⟩ ⟨Nat.le_of_ble_eq_true rfl, Nat.le_of_ble_eq_true rfl⟩ (Nat.le_of_ble_eq_true rfl) hk dL_law_787 ?_
  refine ww_icmp_eq (tgt := 1002) (pc := 790) X dL_law_790 (by decide) (fun _ => ?_) (fun k => absurd (q_storm) k)
  exact kk g _ _ _ _ _ _ _ _ _ _ rfl h
set_option maxHeartbeats 4000000 in
set_option maxRecDepth 100000 in
theorem lc_find (X : CX p s m args meth c code RL wsL_law 4 Dg (tyL cI cZ cQ) A) (hX : va_X b Ls xs s s.heap) (hbl : b < s.heap.size) (hbA : ¬ A b) (hk : k9 ≤ room_1.cells ∧ n9 ≤ room_1.slots) (hL : Ls ≤ 384) {i : Nat} (hi : i + 6 ≤ Ls) {rM : Nat → Nat} {g : Nat → Nat → Nat} {ST SX SL SD SF SP SI SN SB SM : St} (h : Rel ST SX SL SF SP SI SN SB SM) (kk : LwK p l e s m args below meth c Dg A k9 n9 Q cI cZ cQ b i rM (g 0 0)) : WW p l e room_1 s m args below meth c 4 Dg A k9 n9 Q (fl (wAll cI cZ cQ g rM ST SX SL SD SF SP SI SN SB SM)) [(3, .int (nI i)), (2, .ref (rM 0)), (1, .ref (g 0 0)), (0, .ref b)] 795 [] := by
  refine ww_aload_n (pc := 795) X dL_law_795 2 rfl rfl ?_
  refine ww_aload_n (pc := 796) X dL_law_796 3 rfl rfl ?_
  refine ww_iload_n (pc := 797) X dL_law_797 0 rfl rfl ?_
  refine ww_iconst (pc := 798) (v := 1) X dL_law_798 (by decide) ?_
  refine ww_iadd (pc := 799) X dL_law_799 ?_
  refine ww_sld (pc := 800) X hX hbl hbA (in_s hi hL (n := 1) (by decide)) dL_law_800 ?_
  refine ww_aload_n (pc := 801) X dL_law_801 3 rfl rfl ?_
  refine ww_iload_n (pc := 802) X dL_law_802 0 rfl rfl ?_
  refine ww_iconst (pc := 803) (v := 2) X dL_law_803 (by decide) ?_
  refine ww_iadd (pc := 804) X dL_law_804 ?_
  refine ww_sld (pc := 805) X hX hbl hbA (in_s hi hL (n := 2) (by decide)) dL_law_805 ?_
  refine ww_aload_n (pc := 806) X dL_law_806 3 rfl rfl ?_
  refine ww_iload_n (pc := 807) X dL_law_807 0 rfl rfl ?_
  refine ww_iconst (pc := 808) (v := 3) X dL_law_808 (by decide) ?_
  refine ww_iadd (pc := 809) X dL_law_809 ?_
  refine ww_sld (pc := 810) X hX hbl hbA (in_s hi hL (n := 3) (by decide)) dL_law_810 ?_
  refine ww_gVi (pc := 811) (rest := []) (gsN := [wX7 cI cZ cQ g ST, wX6 cI cZ cQ (g 1) SX, wX5 cI cZ cQ (g 2) SL, wX5 cI cZ cQ (g 3) SD, wX3 cI cZ cQ (g 4) SF, wX4 cI cZ cQ (g 5) SP, wX2 cI cZ cQ (g 6) SI, wX1 cI cZ cQ (g 7) ((f_X7_find ST SL SN (xs (nI i + 1).toNatClampNeg) (xs (nI i + 2).toNatClampNeg) (xs (nI i + 3).toNatClampNeg)).2), wX0 cI cZ cQ (g 8) SB, wX8 cI cZ cQ rM SM]) (ci := 7) (gi := 0) (qi := 0) X (c_X7_find l Dg cI cZ cQ g ST SL SN (xs (nI i + 1).toNatClampNeg) (xs (nI i + 2).toNatClampNeg) (xs (nI i + 3).toNatClampNeg) (nd_F h).1.1) gL_law_X7_find rfl hd_X7_find [true, false, true, false, false, false, false, true, false, false] rfl (acons (ad7 _ _ _ _ _ _) (acons (ad5 _ _ _ _ _ _) (acons (ad1 _ _ _ _ _ _) rfl))) rfl rfl rfl rfl rfl rfl ⟨rfl, rfl⟩ ⟨Nat.le_of_ble_eq_true rfl, Nat.le_of_ble_eq_true rfl⟩ (Nat.le_of_ble_eq_true rfl) hk dL_law_811 ?_
  refine ww_aload_n (pc := 814) X dL_law_814 1 rfl rfl ?_
  refine ww_aload_n (pc := 815) X dL_law_815 3 rfl rfl ?_
  refine ww_iload_n (pc := 816) X dL_law_816 0 rfl rfl ?_
  refine ww_iconst (pc := 817) (v := 1) X dL_law_817 (by decide) ?_
  refine ww_iadd (pc := 818) X dL_law_818 ?_
  refine ww_sld (pc := 819) X hX hbl hbA (in_s hi hL (n := 1) (by decide)) dL_law_819 ?_
  refine ww_aload_n (pc := 820) X dL_law_820 3 rfl rfl ?_
  refine ww_iload_n (pc := 821) X dL_law_821 0 rfl rfl ?_
  refine ww_iconst (pc := 822) (v := 2) X dL_law_822 (by decide) ?_
  refine ww_iadd (pc := 823) X dL_law_823 ?_
  refine ww_sld (pc := 824) X hX hbl hbA (in_s hi hL (n := 2) (by decide)) dL_law_824 ?_
  refine ww_aload_n (pc := 825) X dL_law_825 3 rfl rfl ?_
  refine ww_iload_n (pc := 826) X dL_law_826 0 rfl rfl ?_
  refine ww_iconst (pc := 827) (v := 3) X dL_law_827 (by decide) ?_
  refine ww_iadd (pc := 828) X dL_law_828 ?_
  refine ww_sld (pc := 829) X hX hbl hbA (in_s hi hL (n := 3) (by decide)) dL_law_829 ?_
  refine ww_gVi (pc := 830) (rest := [.int ((f_X7_find ST SL SN (xs (nI i + 1).toNatClampNeg) (xs (nI i + 2).toNatClampNeg) (xs (nI i + 3).toNatClampNeg)).1)]) (gsN := [wX7 cI cZ cQ g ST, wX6 cI cZ cQ (g 1) SX, wX5 cI cZ cQ (g 2) SL, wX5 cI cZ cQ (g 3) SD, wX3 cI cZ cQ (g 4) SF, wX4 cI cZ cQ (g 5) SP, wX2 cI cZ cQ (g 6) SI, wX1 cI cZ cQ (g 7) ((f_X7_find ST SL SN (xs (nI i + 1).toNatClampNeg) (xs (nI i + 2).toNatClampNeg) (xs (nI i + 3).toNatClampNeg)).2), wX0 cI cZ cQ (g 8) SB, wX8 cI cZ cQ rM ((f_X8_find SM (xs (nI i + 1).toNatClampNeg) (xs (nI i + 2).toNatClampNeg) (xs (nI i + 3).toNatClampNeg)).2)]) (ci := 8) (gi := 0) (qi := 0) X (c_X8_find l Dg cI cZ cQ rM SM (xs (nI i + 1).toNatClampNeg) (xs (nI i + 2).toNatClampNeg) (xs (nI i + 3).toNatClampNeg) (nd_M h) (nd_F h).2.1 (nd_F h).2.2) gL_law_X8_find rfl hd_X8_find [false, false, false, false, false, false, false, false, false, true] rfl (acons (ad8 _ _ _ _ _ _) rfl) rfl rfl rfl rfl rfl rfl ⟨rfl, rfl⟩ ⟨Nat.le_of_ble_eq_true rfl, Nat.le_of_ble_eq_true rfl⟩ (Nat.le_of_ble_eq_true rfl) hk dL_law_830 ?_
  obtain ⟨hr1, hr2⟩ := s_find h (x := xs (nI i + 1).toNatClampNeg) (y := xs (nI i + 2).toNatClampNeg) (z := xs (nI i + 3).toNatClampNeg)
  refine ww_icmp_eq (tgt := 1002) (pc := 833) X dL_law_833 (by decide) (fun _ => ?_) (fun k => absurd hr1 k)
  exact kk g _ _ _ _ _ _ _ _ _ _ rfl hr2
end LawR
