section LawR
variable {p : Program} {l : Launch} {e : Env} {s : State} {m : MethodId} {args : Array Value} {below : List Frame} {meth : Method} {c : Code} {Q : State → Prop} {Dg : va_G} {A : Nat → Prop} {k9 n9 : Nat} {cI cZ cQ : ClassId} {b Ls : Nat} {xs : Nat → Int32}
set_option maxHeartbeats 4000000 in
set_option maxRecDepth 100000 in
theorem lc_stays (X : CX p s m args meth c code RL wsL_law 4 Dg (tyL cI cZ cQ) A) (hX : va_X b Ls xs s s.heap) (hbl : b < s.heap.size) (hbA : ¬ A b) (hk : k9 ≤ room_1.cells ∧ n9 ≤ room_1.slots) (hL : Ls ≤ 384) {i : Nat} (hi : i + 6 ≤ Ls) {rM : Nat → Nat} {g : Nat → Nat → Nat} {ST SX SL SD SF SP SI SN SB SM : St} (h : Rel ST SX SL SF SP SI SN SB SM) (kk : LwK p l e s m args below meth c Dg A k9 n9 Q cI cZ cQ b i rM (g 0 0)) : WW p l e room_1 s m args below meth c 4 Dg A k9 n9 Q (fl (wAll cI cZ cQ g rM ST SX SL SD SF SP SI SN SB SM)) [(3, .int (nI i)), (2, .ref (rM 0)), (1, .ref (g 0 0)), (0, .ref b)] 838 [] := by
  refine ww_aload_n (pc := 838) X dL_law_838 2 rfl rfl ?_
  refine ww_aload_n (pc := 839) X dL_law_839 3 rfl rfl ?_
  refine ww_iload_n (pc := 840) X dL_law_840 0 rfl rfl ?_
  refine ww_iconst (pc := 841) (v := 1) X dL_law_841 (by decide) ?_
  refine ww_iadd (pc := 842) X dL_law_842 ?_
  refine ww_sld (pc := 843) X hX hbl hbA (in_s hi hL (n := 1) (by decide)) dL_law_843 ?_
  refine ww_gVi (pc := 844) (rest := []) (gsN := [wX7 cI cZ cQ g ST, wX6 cI cZ cQ (g 1) SX, wX5 cI cZ cQ (g 2) SL, wX5 cI cZ cQ (g 3) SD, wX3 cI cZ cQ (g 4) SF, wX4 cI cZ cQ (g 5) SP, wX2 cI cZ cQ (g 6) SI, wX1 cI cZ cQ (g 7) ((f_X7_stays ST SL SN (xs (nI i + 1).toNatClampNeg)).2), wX0 cI cZ cQ (g 8) SB, wX8 cI cZ cQ rM SM]) (ci := 7) (gi := 0) (qi := 0) X (c_X7_stays l Dg cI cZ cQ g ST SL SN (xs (nI i + 1).toNatClampNeg) (nd_L h) (nd_F h).1.2 (nd_s h)) gL_law_X7_stays rfl hd_X7_stays [true, false, true, false, false, false, false, true, false, false] rfl (acons (ad7 _ _ _ _ _ _) (acons (ad5 _ _ _ _ _ _) (acons (ad1 _ _ _ _ _ _) rfl))) rfl rfl rfl rfl rfl rfl ⟨rfl, rfl⟩ ⟨Nat.le_of_ble_eq_true rfl, Nat.le_of_ble_eq_true rfl⟩ (Nat.le_of_ble_eq_true rfl) hk dL_law_844 ?_
  refine ww_aload_n (pc := 847) X dL_law_847 1 rfl rfl ?_
  refine ww_aload_n (pc := 848) X dL_law_848 3 rfl rfl ?_
  refine ww_iload_n (pc := 849) X dL_law_849 0 rfl rfl ?_
  refine ww_iconst (pc := 850) (v := 1) X dL_law_850 (by decide) ?_
  refine ww_iadd (pc := 851) X dL_law_851 ?_
  refine ww_sld (pc := 852) X hX hbl hbA (in_s hi hL (n := 1) (by decide)) dL_law_852 ?_
  refine ww_gVi (pc := 853) (rest := [.int ((f_X7_stays ST SL SN (xs (nI i + 1).toNatClampNeg)).1)]) (gsN := [wX7 cI cZ cQ g ST, wX6 cI cZ cQ (g 1) SX, wX5 cI cZ cQ (g 2) SL, wX5 cI cZ cQ (g 3) SD, wX3 cI cZ cQ (g 4) SF, wX4 cI cZ cQ (g 5) SP, wX2 cI cZ cQ (g 6) SI, wX1 cI cZ cQ (g 7) ((f_X7_stays ST SL SN (xs (nI i + 1).toNatClampNeg)).2), wX0 cI cZ cQ (g 8) SB, wX8 cI cZ cQ rM ((f_X8_stays SM (xs (nI i + 1).toNatClampNeg)).2)]) (ci := 8) (gi := 0) (qi := 0) X (c_X8_stays l Dg cI cZ cQ rM SM (xs (nI i + 1).toNatClampNeg) (nd_M h) (nd_f h) (nd_r h)) gL_law_X8_stays rfl hd_X8_stays [false, false, false, false, false, false, false, false, false, true] rfl (acons (ad8 _ _ _ _ _ _) rfl) rfl rfl rfl rfl rfl rfl ⟨rfl, rfl⟩ ⟨Nat.le_of_ble_eq_true rfl, Nat.le_of_ble_eq_true rfl⟩ (Nat.le_of_ble_eq_true rfl) hk dL_law_853 ?_
  obtain ⟨hr1, hr2⟩ := s_stays h (x := xs (nI i + 1).toNatClampNeg)
  refine ww_icmp_eq (tgt := 1002) (pc := 856) X dL_law_856 (by decide) (fun _ => ?_) (fun k => absurd hr1 k)
  exact kk g _ _ _ _ _ _ _ _ _ _ rfl hr2
set_option maxHeartbeats 4000000 in
set_option maxRecDepth 100000 in
theorem lc_ask (X : CX p s m args meth c code RL wsL_law 4 Dg (tyL cI cZ cQ) A) (hX : va_X b Ls xs s s.heap) (hbl : b < s.heap.size) (hbA : ¬ A b) (hk : k9 ≤ room_1.cells ∧ n9 ≤ room_1.slots) (hL : Ls ≤ 384) {i : Nat} (hi : i + 6 ≤ Ls) {rM : Nat → Nat} {g : Nat → Nat → Nat} {ST SX SL SD SF SP SI SN SB SM : St} (h : Rel ST SX SL SF SP SI SN SB SM) (kk : LwK p l e s m args below meth c Dg A k9 n9 Q cI cZ cQ b i rM (g 0 0)) : WW p l e room_1 s m args below meth c 4 Dg A k9 n9 Q (fl (wAll cI cZ cQ g rM ST SX SL SD SF SP SI SN SB SM)) [(3, .int (nI i)), (2, .ref (rM 0)), (1, .ref (g 0 0)), (0, .ref b)] 861 [] := by
  refine ww_aload_n (pc := 861) X dL_law_861 2 rfl rfl ?_
  refine ww_gVi (pc := 862) (rest := []) (gsN := [wX7 cI cZ cQ g ST, wX6 cI cZ cQ (g 1) SX, wX5 cI cZ cQ (g 2) SL, wX5 cI cZ cQ (g 3) SD, wX3 cI cZ cQ (g 4) SF, wX4 cI cZ cQ (g 5) SP, wX2 cI cZ cQ (g 6) SI, wX1 cI cZ cQ (g 7) ((f_X7_ask ST SL SN).2), wX0 cI cZ cQ (g 8) SB, wX8 cI cZ cQ rM SM]) (ci := 7) (gi := 0) (qi := 0) X (c_X7_ask l Dg cI cZ cQ g ST SL SN (nd_L h) (nd_F h).1.2 (nd_s h)) gL_law_X7_ask rfl hd_X7_ask [true, false, true, false, false, false, false, true, false, false] rfl (acons (ad7 _ _ _ _ _ _) (acons (ad5 _ _ _ _ _ _) (acons (ad1 _ _ _ _ _ _) rfl))) rfl rfl rfl rfl rfl rfl ⟨rfl, rfl⟩ ⟨Nat.le_of_ble_eq_true rfl, Nat.le_of_ble_eq_true rfl⟩ (Nat.le_of_ble_eq_true rfl) hk dL_law_862 ?_
  refine ww_aload_n (pc := 865) X dL_law_865 1 rfl rfl ?_
  refine ww_gVi (pc := 866) (rest := [.int ((f_X7_ask ST SL SN).1)]) (gsN := [wX7 cI cZ cQ g ST, wX6 cI cZ cQ (g 1) SX, wX5 cI cZ cQ (g 2) SL, wX5 cI cZ cQ (g 3) SD, wX3 cI cZ cQ (g 4) SF, wX4 cI cZ cQ (g 5) SP, wX2 cI cZ cQ (g 6) SI, wX1 cI cZ cQ (g 7) ((f_X7_ask ST SL SN).2), wX0 cI cZ cQ (g 8) SB, wX8 cI cZ cQ rM ((f_X8_ask SM).2)]) (ci := 8) (gi := 0) (qi := 0) X (c_X8_ask l Dg cI cZ cQ rM SM (nd_M h) (nd_f h) (nd_r h)) gL_law_X8_ask rfl hd_X8_ask [false, false, false, false, false, false, false, false, false, true] rfl (acons (ad8 _ _ _ _ _ _) rfl) rfl rfl rfl rfl rfl rfl ⟨rfl, rfl⟩ ⟨Nat.le_of_ble_eq_true rfl, Nat.le_of_ble_eq_true rfl⟩ (Nat.le_of_ble_eq_true rfl) hk dL_law_866 ?_
  obtain ⟨hr1, hr2⟩ := s_ask h
  refine ww_icmp_eq (tgt := 1002) (pc := 869) X dL_law_869 (by decide) (fun _ => ?_) (fun k => absurd hr1 k)
  exact kk g _ _ _ _ _ _ _ _ _ _ rfl hr2
set_option maxHeartbeats 4000000 in
set_option maxRecDepth 100000 in
theorem lc_write (X : CX p s m args meth c code RL wsL_law 4 Dg (tyL cI cZ cQ) A) (hX : va_X b Ls xs s s.heap) (hbl : b < s.heap.size) (hbA : ¬ A b) (hk : k9 ≤ room_1.cells ∧ n9 ≤ room_1.slots) (hL : Ls ≤ 384) {i : Nat} (hi : i + 6 ≤ Ls) {rM : Nat → Nat} {g : Nat → Nat → Nat} {ST SX SL SD SF SP SI SN SB SM : St} (h : Rel ST SX SL SF SP SI SN SB SM) (kk : LwK p l e s m args below meth c Dg A k9 n9 Q cI cZ cQ b i rM (g 0 0)) : WW p l e room_1 s m args below meth c 4 Dg A k9 n9 Q (fl (wAll cI cZ cQ g rM ST SX SL SD SF SP SI SN SB SM)) [(3, .int (nI i)), (2, .ref (rM 0)), (1, .ref (g 0 0)), (0, .ref b)] 874 [] := by
  refine ww_aload_n (pc := 874) X dL_law_874 2 rfl rfl ?_
  refine ww_aload_n (pc := 875) X dL_law_875 3 rfl rfl ?_
  refine ww_iload_n (pc := 876) X dL_law_876 0 rfl rfl ?_
  refine ww_iconst (pc := 877) (v := 1) X dL_law_877 (by decide) ?_
  refine ww_iadd (pc := 878) X dL_law_878 ?_
  refine ww_sld (pc := 879) X hX hbl hbA (in_s hi hL (n := 1) (by decide)) dL_law_879 ?_
  refine ww_aload_n (pc := 880) X dL_law_880 3 rfl rfl ?_
  refine ww_iload_n (pc := 881) X dL_law_881 0 rfl rfl ?_
  refine ww_iconst (pc := 882) (v := 2) X dL_law_882 (by decide) ?_
  refine ww_iadd (pc := 883) X dL_law_883 ?_
  refine ww_sld (pc := 884) X hX hbl hbA (in_s hi hL (n := 2) (by decide)) dL_law_884 ?_
  refine ww_gVi (pc := 885) (rest := []) (gsN := [wX7 cI cZ cQ g ST, wX6 cI cZ cQ (g 1) SX, wX5 cI cZ cQ (g 2) SL, wX5 cI cZ cQ (g 3) SD, wX3 cI cZ cQ (g 4) SF, wX4 cI cZ cQ (g 5) SP, wX2 cI cZ cQ (g 6) SI, wX1 cI cZ cQ (g 7) SN, wX0 cI cZ cQ (g 8) ((f_X7_write ST SL SB (xs (nI i + 1).toNatClampNeg) (xs (nI i + 2).toNatClampNeg)).2), wX8 cI cZ cQ rM SM]) (ci := 7) (gi := 0) (qi := 0) X (c_X7_write l Dg cI cZ cQ g ST SL SB (xs (nI i + 1).toNatClampNeg) (xs (nI i + 2).toNatClampNeg) (nd_B h).1.1) gL_law_X7_write rfl hd_X7_write [true, false, true, false, false, false, false, false, true, false] rfl (acons (ad7 _ _ _ _ _ _) (acons (ad5 _ _ _ _ _ _) (acons (ad0 _ _ _ _ _ _) rfl))) rfl rfl rfl rfl rfl rfl ⟨rfl, rfl⟩ ⟨Nat.le_of_ble_eq_true rfl, Nat.le_of_ble_eq_true rfl⟩ (Nat.le_of_ble_eq_true rfl) hk dL_law_885 ?_
  refine ww_aload_n (pc := 888) X dL_law_888 1 rfl rfl ?_
  refine ww_aload_n (pc := 889) X dL_law_889 3 rfl rfl ?_
  refine ww_iload_n (pc := 890) X dL_law_890 0 rfl rfl ?_
  refine ww_iconst (pc := 891) (v := 1) X dL_law_891 (by decide) ?_
  refine ww_iadd (pc := 892) X dL_law_892 ?_
  refine ww_sld (pc := 893) X hX hbl hbA (in_s hi hL (n := 1) (by decide)) dL_law_893 ?_
  refine ww_aload_n (pc := 894) X dL_law_894 3 rfl rfl ?_
  refine ww_iload_n (pc := 895) X dL_law_895 0 rfl rfl ?_
  refine ww_iconst (pc := 896) (v := 2) X dL_law_896 (by decide) ?_
  refine ww_iadd (pc := 897) X dL_law_897 ?_
  refine ww_sld (pc := 898) X hX hbl hbA (in_s hi hL (n := 2) (by decide)) dL_law_898 ?_
  refine ww_gVi (pc := 899) (rest := [.int ((f_X7_write ST SL SB (xs (nI i + 1).toNatClampNeg) (xs (nI i + 2).toNatClampNeg)).1)]) (gsN := [wX7 cI cZ cQ g ST, wX6 cI cZ cQ (g 1) SX, wX5 cI cZ cQ (g 2) SL, wX5 cI cZ cQ (g 3) SD, wX3 cI cZ cQ (g 4) SF, wX4 cI cZ cQ (g 5) SP, wX2 cI cZ cQ (g 6) SI, wX1 cI cZ cQ (g 7) SN, wX0 cI cZ cQ (g 8) ((f_X7_write ST SL SB (xs (nI i + 1).toNatClampNeg) (xs (nI i + 2).toNatClampNeg)).2), wX8 cI cZ cQ rM ((f_X8_write SM (xs (nI i + 1).toNatClampNeg) (xs (nI i + 2).toNatClampNeg)).2)]) (ci := 8) (gi := 0) (qi := 0) X (c_X8_write l Dg cI cZ cQ rM SM (xs (nI i + 1).toNatClampNeg) (xs (nI i + 2).toNatClampNeg) (nd_M h) (nd_B h).2.1 (nd_B h).2.2) gL_law_X8_write rfl hd_X8_write [false, false, false, false, false, false, false, false, false, true] rfl (acons (ad8 _ _ _ _ _ _) rfl) rfl rfl rfl rfl rfl rfl ⟨rfl, rfl⟩ ⟨Nat.le_of_ble_eq_true rfl, Nat.le_of_ble_eq_true rfl⟩ (Nat.le_of_ble_eq_true rfl) hk dL_law_899 ?_
  obtain ⟨hr1, hr2⟩ := s_write h (x := xs (nI i + 1).toNatClampNeg) (y := xs (nI i + 2).toNatClampNeg)
  refine ww_icmp_eq (tgt := 1002) (pc := 902) X dL_law_902 (by decide) (fun _ => ?_) (fun k => absurd hr1 k)
  exact kk g _ _ _ _ _ _ _ _ _ _ rfl hr2
set_option maxHeartbeats 4000000 in
set_option maxRecDepth 100000 in
theorem lc_tear (X : CX p s m args meth c code RL wsL_law 4 Dg (tyL cI cZ cQ) A) (hX : va_X b Ls xs s s.heap) (hbl : b < s.heap.size) (hbA : ¬ A b) (hk : k9 ≤ room_1.cells ∧ n9 ≤ room_1.slots) (hL : Ls ≤ 384) {i : Nat} (hi : i + 6 ≤ Ls) {rM : Nat → Nat} {g : Nat → Nat → Nat} {ST SX SL SD SF SP SI SN SB SM : St} (h : Rel ST SX SL SF SP SI SN SB SM) (kk : LwK p l e s m args below meth c Dg A k9 n9 Q cI cZ cQ b i rM (g 0 0)) : WW p l e room_1 s m args below meth c 4 Dg A k9 n9 Q (fl (wAll cI cZ cQ g rM ST SX SL SD SF SP SI SN SB SM)) [(3, .int (nI i)), (2, .ref (rM 0)), (1, .ref (g 0 0)), (0, .ref b)] 907 [] := by
  refine ww_aload_n (pc := 907) X dL_law_907 2 rfl rfl ?_
  refine ww_gVi (pc := 908) (rest := []) (gsN := [wX7 cI cZ cQ g ST, wX6 cI cZ cQ (g 1) SX, wX5 cI cZ cQ (g 2) SL, wX5 cI cZ cQ (g 3) SD, wX3 cI cZ cQ (g 4) SF, wX4 cI cZ cQ (g 5) SP, wX2 cI cZ cQ (g 6) SI, wX1 cI cZ cQ (g 7) ((f_X7_tear ST SN SB).2.1), wX0 cI cZ cQ (g 8) ((f_X7_tear ST SN SB).2.2), wX8 cI cZ cQ rM SM]) (ci := 7) (gi := 0) (qi := 0) X (c_X7_tear l Dg cI cZ cQ g ST SN SB) gL_law_X7_tear rfl hd_X7_tear [true, false, false, false, false, false, false, true, true, false] rfl (acons (ad7 _ _ _ _ _ _) (acons (ad1 _ _ _ _ _ _) (acons (ad0 _ _ _ _ _ _) rfl))) rfl rfl rfl rfl rfl rfl ⟨rfl, rfl⟩ ⟨Nat.le_of_ble_eq_true rfl, Nat.le_of_ble_eq_true rfl⟩ (Nat.le_of_ble_eq_true rfl) hk dL_law_908 ?_
  refine ww_aload_n (pc := 911) X dL_law_911 1 rfl rfl ?_
  refine ww_gVi (pc := 912) (rest := [.int ((f_X7_tear ST SN SB).1)]) (gsN := [wX7 cI cZ cQ g ST, wX6 cI cZ cQ (g 1) SX, wX5 cI cZ cQ (g 2) SL, wX5 cI cZ cQ (g 3) SD, wX3 cI cZ cQ (g 4) SF, wX4 cI cZ cQ (g 5) SP, wX2 cI cZ cQ (g 6) SI, wX1 cI cZ cQ (g 7) ((f_X7_tear ST SN SB).2.1), wX0 cI cZ cQ (g 8) ((f_X7_tear ST SN SB).2.2), wX8 cI cZ cQ rM ((f_X8_tear SM).2)]) (ci := 8) (gi := 0) (qi := 0) X (c_X8_tear l Dg cI cZ cQ rM SM) gL_law_X8_tear rfl hd_X8_tear [false, false, false, false, false, false, false, false, false, true] rfl (acons (ad8 _ _ _ _ _ _) rfl) rfl rfl rfl rfl rfl rfl ⟨rfl, rfl⟩ ⟨Nat.le_of_ble_eq_true rfl, Nat.le_of_ble_eq_true rfl⟩ (Nat.le_of_ble_eq_true rfl) hk dL_law_912 ?_
  obtain ⟨hr1, hr2⟩ := s_tear h
  refine ww_icmp_eq (tgt := 1002) (pc := 915) X dL_law_915 (by decide) (fun _ => ?_) (fun k => absurd hr1 k)
  exact kk g _ _ _ _ _ _ _ _ _ _ rfl hr2
set_option maxHeartbeats 4000000 in
set_option maxRecDepth 100000 in
theorem lc_judge (X : CX p s m args meth c code RL wsL_law 4 Dg (tyL cI cZ cQ) A) (hX : va_X b Ls xs s s.heap) (hbl : b < s.heap.size) (hbA : ¬ A b) (hk : k9 ≤ room_1.cells ∧ n9 ≤ room_1.slots) (hL : Ls ≤ 384) {i : Nat} (hi : i + 6 ≤ Ls) {rM : Nat → Nat} {g : Nat → Nat → Nat} {ST SX SL SD SF SP SI SN SB SM : St} (h : Rel ST SX SL SF SP SI SN SB SM) (kk : LwK p l e s m args below meth c Dg A k9 n9 Q cI cZ cQ b i rM (g 0 0)) : WW p l e room_1 s m args below meth c 4 Dg A k9 n9 Q (fl (wAll cI cZ cQ g rM ST SX SL SD SF SP SI SN SB SM)) [(3, .int (nI i)), (2, .ref (rM 0)), (1, .ref (g 0 0)), (0, .ref b)] 920 [] := by
  refine ww_aload_n (pc := 920) X dL_law_920 2 rfl rfl ?_
  refine ww_gVi (pc := 921) (rest := []) (gsN := [wX7 cI cZ cQ g ST, wX6 cI cZ cQ (g 1) SX, wX5 cI cZ cQ (g 2) SL, wX5 cI cZ cQ (g 3) SD, wX3 cI cZ cQ (g 4) SF, wX4 cI cZ cQ (g 5) SP, wX2 cI cZ cQ (g 6) SI, wX1 cI cZ cQ (g 7) SN, wX0 cI cZ cQ (g 8) SB, wX8 cI cZ cQ rM SM]) (ci := 7) (gi := 0) (qi := 0) X (c_X7_judge l Dg cI cZ cQ g ST SF SB (nd_B h).1.2) gL_law_X7_judge rfl hd_X7_judge [true, false, false, false, true, false, false, false, true, false] rfl rfl rfl rfl rfl rfl rfl rfl ⟨rfl, rfl⟩ ⟨Nat.le_of_ble_eq_true rfl, Nat.le_of_ble_eq_true rfl⟩ (Nat.le_of_ble_eq_true rfl) hk dL_law_921 ?_
  refine ww_aload_n (pc := 924) X dL_law_924 1 rfl rfl ?_
  refine ww_gVi (pc := 925) (rest := [.int ((f_X7_judge ST SF SB))]) (gsN := [wX7 cI cZ cQ g ST, wX6 cI cZ cQ (g 1) SX, wX5 cI cZ cQ (g 2) SL, wX5 cI cZ cQ (g 3) SD, wX3 cI cZ cQ (g 4) SF, wX4 cI cZ cQ (g 5) SP, wX2 cI cZ cQ (g 6) SI, wX1 cI cZ cQ (g 7) SN, wX0 cI cZ cQ (g 8) SB, wX8 cI cZ cQ rM SM]) (ci := 8) (gi := 0) (qi := 0) X (c_X8_judge l Dg cI cZ cQ rM SM (nd_b h)) gL_law_X8_judge rfl hd_X8_judge [false, false, false, false, false, false, false, false, false, true] rfl rfl rfl rfl rfl rfl rfl rfl ⟨rfl, rfl⟩ ⟨Nat.le_of_ble_eq_true rfl, Nat.le_of_ble_eq_true rfl⟩ (Nat.le_of_ble_eq_true rfl) hk dL_law_925 ?_
  refine ww_icmp_eq (tgt := 1002) (pc := 928) X dL_law_928 (by decide) (fun _ => ?_) (fun k => absurd (q_judge h.2.2.1 h.2.2.2.1.1 h.2.2.2.2.2.2.2.2) k)
  exact kk g _ _ _ _ _ _ _ _ _ _ rfl h
set_option maxHeartbeats 4000000 in
set_option maxRecDepth 100000 in
theorem lc_seed (X : CX p s m args meth c code RL wsL_law 4 Dg (tyL cI cZ cQ) A) (hX : va_X b Ls xs s s.heap) (hbl : b < s.heap.size) (hbA : ¬ A b) (hk : k9 ≤ room_1.cells ∧ n9 ≤ room_1.slots) (hL : Ls ≤ 384) {i : Nat} (hi : i + 6 ≤ Ls) {rM : Nat → Nat} {g : Nat → Nat → Nat} {ST SX SL SD SF SP SI SN SB SM : St} (h : Rel ST SX SL SF SP SI SN SB SM) (kk : LwK p l e s m args below meth c Dg A k9 n9 Q cI cZ cQ b i rM (g 0 0)) : WW p l e room_1 s m args below meth c 4 Dg A k9 n9 Q (fl (wAll cI cZ cQ g rM ST SX SL SD SF SP SI SN SB SM)) [(3, .int (nI i)), (2, .ref (rM 0)), (1, .ref (g 0 0)), (0, .ref b)] 933 [] := by
  refine ww_aload_n (pc := 933) X dL_law_933 2 rfl rfl ?_
  refine ww_aload_n (pc := 934) X dL_law_934 3 rfl rfl ?_
  refine ww_iload_n (pc := 935) X dL_law_935 0 rfl rfl ?_
  refine ww_iconst (pc := 936) (v := 1) X dL_law_936 (by decide) ?_
  refine ww_iadd (pc := 937) X dL_law_937 ?_
  refine ww_sld (pc := 938) X hX hbl hbA (in_s hi hL (n := 1) (by decide)) dL_law_938 ?_
  refine ww_gVi (pc := 939) (rest := []) (gsN := [wX7 cI cZ cQ g ((f_X7_seed ST (xs (nI i + 1).toNatClampNeg)).2), wX6 cI cZ cQ (g 1) SX, wX5 cI cZ cQ (g 2) SL, wX5 cI cZ cQ (g 3) SD, wX3 cI cZ cQ (g 4) SF, wX4 cI cZ cQ (g 5) SP, wX2 cI cZ cQ (g 6) SI, wX1 cI cZ cQ (g 7) SN, wX0 cI cZ cQ (g 8) SB, wX8 cI cZ cQ rM SM]) (ci := 7) (gi := 0) (qi := 0) X (c_X7_seed l Dg cI cZ cQ g ST (xs (nI i + 1).toNatClampNeg)) gL_law_X7_seed rfl hd_X7_seed [true, false, false, false, false, false, false, false, false, false] rfl (acons (ad7 _ _ _ _ _ _) rfl) rfl rfl rfl rfl rfl rfl ⟨rfl, rfl⟩ ⟨Nat.le_of_ble_eq_true rfl, Nat.le_of_ble_eq_true rfl⟩ (Nat.le_of_ble_eq_true rfl) hk dL_law_939 ?_
  refine ww_aload_n (pc := 942) X dL_law_942 1 rfl rfl ?_
  refine ww_aload_n (pc := 943) X dL_law_943 3 rfl rfl ?_
  refine ww_iload_n (pc := 944) X dL_law_944 0 rfl rfl ?_
  refine ww_iconst (pc := 945) (v := 1) X dL_law_945 (by decide) ?_
  refine ww_iadd (pc := 946) X dL_law_946 ?_
  refine ww_sld (pc := 947) X hX hbl hbA (in_s hi hL (n := 1) (by decide)) dL_law_947 ?_
  refine ww_gVi (pc := 948) (rest := [.int ((f_X7_seed ST (xs (nI i + 1).toNatClampNeg)).1)]) (gsN := [wX7 cI cZ cQ g ((f_X7_seed ST (xs (nI i + 1).toNatClampNeg)).2), wX6 cI cZ cQ (g 1) SX, wX5 cI cZ cQ (g 2) SL, wX5 cI cZ cQ (g 3) SD, wX3 cI cZ cQ (g 4) SF, wX4 cI cZ cQ (g 5) SP, wX2 cI cZ cQ (g 6) SI, wX1 cI cZ cQ (g 7) SN, wX0 cI cZ cQ (g 8) SB, wX8 cI cZ cQ rM ((f_X8_seed SM (xs (nI i + 1).toNatClampNeg)).2)]) (ci := 8) (gi := 0) (qi := 0) X (c_X8_seed l Dg cI cZ cQ rM SM (xs (nI i + 1).toNatClampNeg)) gL_law_X8_seed rfl hd_X8_seed [false, false, false, false, false, false, false, false, false, true] rfl (acons (ad8 _ _ _ _ _ _) rfl) rfl rfl rfl rfl rfl rfl ⟨rfl, rfl⟩ ⟨Nat.le_of_ble_eq_true rfl, Nat.le_of_ble_eq_true rfl⟩ (Nat.le_of_ble_eq_true rfl) hk dL_law_948 ?_
  obtain ⟨hr1, hr2⟩ := s_seed h (x := xs (nI i + 1).toNatClampNeg)
  refine ww_icmp_eq (tgt := 1002) (pc := 951) X dL_law_951 (by decide) (fun _ => ?_) (fun k => absurd hr1 k)
  exact kk g _ _ _ _ _ _ _ _ _ _ rfl hr2
set_option maxHeartbeats 4000000 in
set_option maxRecDepth 100000 in
theorem lc_keep (X : CX p s m args meth c code RL wsL_law 4 Dg (tyL cI cZ cQ) A) (hX : va_X b Ls xs s s.heap) (hbl : b < s.heap.size) (hbA : ¬ A b) (hk : k9 ≤ room_1.cells ∧ n9 ≤ room_1.slots) (hL : Ls ≤ 384) {i : Nat} (hi : i + 6 ≤ Ls) {rM : Nat → Nat} {g : Nat → Nat → Nat} {ST SX SL SD SF SP SI SN SB SM : St} (h : Rel ST SX SL SF SP SI SN SB SM) (kk : LwK p l e s m args below meth c Dg A k9 n9 Q cI cZ cQ b i rM (g 0 0)) : WW p l e room_1 s m args below meth c 4 Dg A k9 n9 Q (fl (wAll cI cZ cQ g rM ST SX SL SD SF SP SI SN SB SM)) [(3, .int (nI i)), (2, .ref (rM 0)), (1, .ref (g 0 0)), (0, .ref b)] 956 [] := by
  refine ww_aload_n (pc := 956) X dL_law_956 2 rfl rfl ?_
  refine ww_aload_n (pc := 957) X dL_law_957 3 rfl rfl ?_
  refine ww_iload_n (pc := 958) X dL_law_958 0 rfl rfl ?_
  refine ww_iconst (pc := 959) (v := 1) X dL_law_959 (by decide) ?_
  refine ww_iadd (pc := 960) X dL_law_960 ?_
  refine ww_sld (pc := 961) X hX hbl hbA (in_s hi hL (n := 1) (by decide)) dL_law_961 ?_
  refine ww_gVi (pc := 962) (rest := []) (gsN := [wX7 cI cZ cQ g ST, wX6 cI cZ cQ (g 1) SX, wX5 cI cZ cQ (g 2) SL, wX5 cI cZ cQ (g 3) SD, wX3 cI cZ cQ (g 4) SF, wX4 cI cZ cQ (g 5) ((f_X7_keep ST SF SP SI (xs (nI i + 1).toNatClampNeg)).2.1), wX2 cI cZ cQ (g 6) ((f_X7_keep ST SF SP SI (xs (nI i + 1).toNatClampNeg)).2.2), wX1 cI cZ cQ (g 7) SN, wX0 cI cZ cQ (g 8) SB, wX8 cI cZ cQ rM SM]) (ci := 7) (gi := 0) (qi := 0) X (c_X7_keep l Dg cI cZ cQ g ST SF SP SI (xs (nI i + 1).toNatClampNeg)) gL_law_X7_keep rfl hd_X7_keep [true, false, false, false, true, true, true, false, false, false] rfl (acons (ad7 _ _ _ _ _ _) (acons (ad3 _ _ _ _ _ _) (acons (ad4 _ _ _ _ _ _) (acons (ad2 _ _ _ _ _ _) rfl)))) rfl rfl rfl rfl rfl rfl ⟨rfl, rfl⟩ ⟨Nat.le_of_ble_eq_true rfl, Nat.le_of_ble_eq_true rfl⟩ (Nat.le_of_ble_eq_true rfl) hk dL_law_962 ?_
  refine ww_aload_n (pc := 965) X dL_law_965 1 rfl rfl ?_
  refine ww_aload_n (pc := 966) X dL_law_966 3 rfl rfl ?_
  refine ww_iload_n (pc := 967) X dL_law_967 0 rfl rfl ?_
  refine ww_iconst (pc := 968) (v := 1) X dL_law_968 (by decide) ?_
  refine ww_iadd (pc := 969) X dL_law_969 ?_
  refine ww_sld (pc := 970) X hX hbl hbA (in_s hi hL (n := 1) (by decide)) dL_law_970 ?_
  refine ww_gVi (pc := 971) (rest := [.int ((f_X7_keep ST SF SP SI (xs (nI i + 1).toNatClampNeg)).1)]) (gsN := [wX7 cI cZ cQ g ST, wX6 cI cZ cQ (g 1) SX, wX5 cI cZ cQ (g 2) SL, wX5 cI cZ cQ (g 3) SD, wX3 cI cZ cQ (g 4) SF, wX4 cI cZ cQ (g 5) ((f_X7_keep ST SF SP SI (xs (nI i + 1).toNatClampNeg)).2.1), wX2 cI cZ cQ (g 6) ((f_X7_keep ST SF SP SI (xs (nI i + 1).toNatClampNeg)).2.2), wX1 cI cZ cQ (g 7) SN, wX0 cI cZ cQ (g 8) SB, wX8 cI cZ cQ rM ((f_X8_keep SM (xs (nI i + 1).toNatClampNeg)).2)]) (ci := 8) (gi := 0) (qi := 0) X (c_X8_keep l Dg cI cZ cQ rM SM (xs (nI i + 1).toNatClampNeg)) gL_law_X8_keep rfl hd_X8_keep [false, false, false, false, false, false, false, false, false, true] rfl (acons (ad8 _ _ _ _ _ _) rfl) rfl rfl rfl rfl rfl rfl ⟨rfl, rfl⟩ ⟨Nat.le_of_ble_eq_true rfl, Nat.le_of_ble_eq_true rfl⟩ (Nat.le_of_ble_eq_true rfl) hk dL_law_971 ?_
  obtain ⟨hr1, hr2⟩ := s_keep h (x := xs (nI i + 1).toNatClampNeg)
  refine ww_icmp_eq (tgt := 1002) (pc := 974) X dL_law_974 (by decide) (fun _ => ?_) (fun k => absurd hr1 k)
  exact kk g _ _ _ _ _ _ _ _ _ _ rfl hr2
set_option maxHeartbeats 4000000 in
set_option maxRecDepth 100000 in
theorem lc_goBack (X : CX p s m args meth c code RL wsL_law 4 Dg (tyL cI cZ cQ) A) (hX : va_X b Ls xs s s.heap) (hbl : b < s.heap.size) (hbA : ¬ A b) (hk : k9 ≤ room_1.cells ∧ n9 ≤ room_1.slots) (hL : Ls ≤ 384) {i : Nat} (hi : i + 6 ≤ Ls) {rM : Nat → Nat} {g : Nat → Nat → Nat} {ST SX SL SD SF SP SI SN SB SM : St} (h : Rel ST SX SL SF SP SI SN SB SM) (kk : LwK p l e s m args below meth c Dg A k9 n9 Q cI cZ cQ b i rM (g 0 0)) : WW p l e room_1 s m args below meth c 4 Dg A k9 n9 Q (fl (wAll cI cZ cQ g rM ST SX SL SD SF SP SI SN SB SM)) [(3, .int (nI i)), (2, .ref (rM 0)), (1, .ref (g 0 0)), (0, .ref b)] 979 [] := by
  refine ww_aload_n (pc := 979) X dL_law_979 2 rfl rfl ?_
  refine ww_aload_n (pc := 980) X dL_law_980 3 rfl rfl ?_
  refine ww_iload_n (pc := 981) X dL_law_981 0 rfl rfl ?_
  refine ww_iconst (pc := 982) (v := 1) X dL_law_982 (by decide) ?_
  refine ww_iadd (pc := 983) X dL_law_983 ?_
  refine ww_sld (pc := 984) X hX hbl hbA (in_s hi hL (n := 1) (by decide)) dL_law_984 ?_
  refine ww_gVi (pc := 985) (rest := []) (gsN := [wX7 cI cZ cQ g ((f_X7_goBack ST SF SP SI (xs (nI i + 1).toNatClampNeg)).2.1), wX6 cI cZ cQ (g 1) SX, wX5 cI cZ cQ (g 2) SL, wX5 cI cZ cQ (g 3) SD, wX3 cI cZ cQ (g 4) ((f_X7_goBack ST SF SP SI (xs (nI i + 1).toNatClampNeg)).2.2.1), wX4 cI cZ cQ (g 5) ((f_X7_goBack ST SF SP SI (xs (nI i + 1).toNatClampNeg)).2.2.2), wX2 cI cZ cQ (g 6) SI, wX1 cI cZ cQ (g 7) SN, wX0 cI cZ cQ (g 8) SB, wX8 cI cZ cQ rM SM]) (ci := 7) (gi := 0) (qi := 0) X (c_X7_goBack l Dg cI cZ cQ g ST SF SP SI (xs (nI i + 1).toNatClampNeg)) gL_law_X7_goBack rfl hd_X7_goBack [true, false, false, false, true, true, true, false, false, false] rfl (acons (ad7 _ _ _ _ _ _) (acons (ad3 _ _ _ _ _ _) (acons (ad4 _ _ _ _ _ _) (acons (ad2 _ _ _ _ _ _) rfl)))) rfl rfl rfl rfl rfl rfl ⟨rfl, rfl⟩ ⟨Nat.le_of_ble_eq_true rfl, Nat.le_of_ble_eq_true rfl⟩ (Nat.le_of_ble_eq_true rfl) hk dL_law_985 ?_
  refine ww_aload_n (pc := 988) X dL_law_988 1 rfl rfl ?_
  refine ww_aload_n (pc := 989) X dL_law_989 3 rfl rfl ?_
  refine ww_iload_n (pc := 990) X dL_law_990 0 rfl rfl ?_
  refine ww_iconst (pc := 991) (v := 1) X dL_law_991 (by decide) ?_
  refine ww_iadd (pc := 992) X dL_law_992 ?_
  refine ww_sld (pc := 993) X hX hbl hbA (in_s hi hL (n := 1) (by decide)) dL_law_993 ?_
  refine ww_gVi (pc := 994) (rest := [.int ((f_X7_goBack ST SF SP SI (xs (nI i + 1).toNatClampNeg)).1)]) (gsN := [wX7 cI cZ cQ g ((f_X7_goBack ST SF SP SI (xs (nI i + 1).toNatClampNeg)).2.1), wX6 cI cZ cQ (g 1) SX, wX5 cI cZ cQ (g 2) SL, wX5 cI cZ cQ (g 3) SD, wX3 cI cZ cQ (g 4) ((f_X7_goBack ST SF SP SI (xs (nI i + 1).toNatClampNeg)).2.2.1), wX4 cI cZ cQ (g 5) ((f_X7_goBack ST SF SP SI (xs (nI i + 1).toNatClampNeg)).2.2.2), wX2 cI cZ cQ (g 6) SI, wX1 cI cZ cQ (g 7) SN, wX0 cI cZ cQ (g 8) SB, wX8 cI cZ cQ rM ((f_X8_goBack SM (xs (nI i + 1).toNatClampNeg)).2)]) (ci := 8) (gi := 0) (qi := 0) X (c_X8_goBack l Dg cI cZ cQ rM SM (xs (nI i + 1).toNatClampNeg)) gL_law_X8_goBack rfl hd_X8_goBack [false, false, false, false, false, false, false, false, false, true] rfl (acons (ad8 _ _ _ _ _ _) rfl) rfl rfl rfl rfl rfl rfl ⟨rfl, rfl⟩ ⟨Nat.le_of_ble_eq_true rfl, Nat.le_of_ble_eq_true rfl⟩ (Nat.le_of_ble_eq_true rfl) hk dL_law_994 ?_
  obtain ⟨hr1, hr2⟩ := s_goBack h (x := xs (nI i + 1).toNatClampNeg)
  refine ww_icmp_eq (tgt := 1002) (pc := 997) X dL_law_997 (by decide) (fun _ => ?_) (fun k => absurd hr1 k)
  exact kk g _ _ _ _ _ _ _ _ _ _ rfl hr2
end LawR
