section Step
variable {T X L F P I N B M : St} {x y z : Int32}
theorem s_feed (h : Rel T X L F P I N B M) : (f_X7_feed T X x).1 = (f_X8_feed M x).1 ∧ Rel T (f_X7_feed T X x).2 L F P I N B (f_X8_feed M x).2 := by
  obtain ⟨a1, a2, a3, a4, a5, a6, a7, a8, a9⟩ := h
  obtain ⟨r1, r2, s, r4⟩ := r_feed (T := T) (x := x) a1
  exact ⟨r1, r2, by rw [r4, s.1 1 (by decide)]; exact a2, Sh_Same s (n14 (by decide)) a3, RowB_s (s.2 9 (by decide)) a4, RPa_s (s.1 2 (by decide)) (s.2 10 (by decide)) a5, RIm_s (s.2 11 (by decide)) (s.2 12 (by decide)) (s.2 13 (by decide)) a6, by rw [s.1 3 (by decide)]; exact a7, RFi_s (s.1 4 (by decide)) (s.2 14 (by decide)) a8, RB_s (s.1 5 (by decide)) (s.2 15 (by decide)) a9⟩
theorem s_910 {F' P' M' : St} (h : Rel T X L F P I N B M) (r : RowB L (F'.2 0) (M'.2 9)) (q : RPa L P' M') (s : Same [2] [9, 10] M M') : Rel T X L F' P' I N B M' := by
  obtain ⟨a1, a2, a3, a4, a5, a6, a7, a8, a9⟩ := h
  exact ⟨RTx_s (s.1 0 (by decide)) (s.2 0 (by decide)) a1, by rw [s.1 1 (by decide)]; exact a2, Sh_Same s (n14 (by decide)) a3, r, q, RIm_s (s.2 11 (by decide)) (s.2 12 (by decide)) (s.2 13 (by decide)) a6, by rw [s.1 3 (by decide)]; exact a7, RFi_s (s.1 4 (by decide)) (s.2 14 (by decide)) a8, RB_s (s.1 5 (by decide)) (s.2 15 (by decide)) a9⟩
theorem s_year (h : Rel T X L F P I N B M) : (f_X7_year T L F P x).1 = (f_X8_year M x).1 ∧ Rel T X L (f_X7_year T L F P x).2.1 (f_X7_year T L F P x).2.2 I N B (f_X8_year M x).2 := by
  obtain ⟨r1, r2, r3, s⟩ := r_year (T := T) (x := x) h.2.2.1 h.2.2.2.1 h.2.2.2.2.1
  exact ⟨r1, s_910 h r2 r3 s⟩
theorem s_down (h : Rel T X L F P I N B M) : (f_X7_down T L F P x y).1 = (f_X8_down M x y).1 ∧ Rel T X L (f_X7_down T L F P x y).2.1 (f_X7_down T L F P x y).2.2 I N B (f_X8_down M x y).2 := by
  obtain ⟨r1, r2, r3, s⟩ := r_down (T := T) (x := x) (y := y) h.2.2.1 h.2.2.2.1 h.2.2.2.2.1
  exact ⟨r1, s_910 h r2 r3 s⟩
theorem s_up (h : Rel T X L F P I N B M) : (f_X7_up T L F P x).1 = (f_X8_up M x).1 ∧ Rel T X L (f_X7_up T L F P x).2.1 (f_X7_up T L F P x).2.2 I N B (f_X8_up M x).2 := by
  obtain ⟨r1, r2, r3, s⟩ := r_up (T := T) (x := x) h.2.2.1 h.2.2.2.1 h.2.2.2.2.1
  exact ⟨r1, s_910 h r2 r3 s⟩
theorem s_open (h : Rel T X L F P I N B M) : (f_X7_open T L F P x).1 = (f_X8_open M x).1 ∧ Rel T X L (f_X7_open T L F P x).2.1 (f_X7_open T L F P x).2.2 I N B (f_X8_open M x).2 := by
  obtain ⟨r1, r2, r3, s⟩ := r_open (T := T) (x := x) h.2.2.1 h.2.2.2.1 h.2.2.2.2.1
  exact ⟨r1, s_910 h r2 r3 s⟩
theorem s_take (h : Rel T X L F P I N B M) : (f_X7_take T L F P x).1 = (f_X8_take M x).1 ∧ Rel T X L (f_X7_take T L F P x).2.1 (f_X7_take T L F P x).2.2 I N B (f_X8_take M x).2 := by
  obtain ⟨r1, r2, r3, s⟩ := r_take (T := T) (x := x) h.2.2.1 h.2.2.2.1 h.2.2.2.2.1
  exact ⟨r1, s_910 h r2 r3 s⟩
theorem s_undo (h : Rel T X L F P I N B M) : (f_X7_undo T F P).1 = (f_X8_undo M).1 ∧ Rel T X L (f_X7_undo T F P).2.1 (f_X7_undo T F P).2.2 I N B (f_X8_undo M).2 := by
  obtain ⟨r1, r2, r3, s⟩ := r_undo (T := T) h.2.2.1.1 h.2.2.2.1 h.2.2.2.2.1
  exact ⟨r1, s_910 h r2 r3 (Same_w s (fun _ h => h) (fun k hk => by rw [List.mem_singleton.mp hk]; decide))⟩
theorem s_drift (h : Rel T X L F P I N B M) : (f_X7_drift T L F P x).1 = (f_X8_drift M x).1 ∧ Rel (f_X7_drift T L F P x).2.1 X L (f_X7_drift T L F P x).2.2.1 (f_X7_drift T L F P x).2.2.2 I N B (f_X8_drift M x).2 := by
  obtain ⟨a1, a2, a3, a4, a5, a6, a7, a8, a9⟩ := h
  obtain ⟨r1, r2, r3, r4, s⟩ := r_drift (x := x) a3 a4 a5 a7
  exact ⟨r1, RTx_s (s.1 0 (by decide)) (s.2 0 (by decide)) a1, by rw [s.1 1 (by decide)]; exact a2, Sh_Same s (n14 (by decide)) a3, r3, r4, RIm_s (s.2 11 (by decide)) (s.2 12 (by decide)) (s.2 13 (by decide)) a6, r2, RFi_s (s.1 4 (by decide)) (s.2 14 (by decide)) a8, RB_s (s.1 5 (by decide)) (s.2 15 (by decide)) a9⟩
theorem s_find (h : Rel T X L F P I N B M) : (f_X7_find T L N x y z).1 = (f_X8_find M x y z).1 ∧ Rel T X L F P I (f_X7_find T L N x y z).2 B (f_X8_find M x y z).2 := by
  obtain ⟨a1, a2, a3, a4, a5, a6, a7, a8, a9⟩ := h
  obtain ⟨r1, r2, s⟩ := r_find (T := T) (x := x) (y := y) (z := z) a3 a8
  exact ⟨r1, RTx_s (s.1 0 (by decide)) (s.2 0 (by decide)) a1, by rw [s.1 1 (by decide)]; exact a2, Sh_Same s (n14 (by decide)) a3, RowB_s (s.2 9 (by decide)) a4, RPa_s (s.1 2 (by decide)) (s.2 10 (by decide)) a5, RIm_s (s.2 11 (by decide)) (s.2 12 (by decide)) (s.2 13 (by decide)) a6, by rw [s.1 3 (by decide)]; exact a7, r2, RB_s (s.1 5 (by decide)) (s.2 15 (by decide)) a9⟩
theorem s_stays (h : Rel T X L F P I N B M) : (f_X7_stays T L N x).1 = (f_X8_stays M x).1 ∧ Rel T X L F P I (f_X7_stays T L N x).2 B (f_X8_stays M x).2 := by
  obtain ⟨a1, a2, a3, a4, a5, a6, a7, a8, a9⟩ := h
  obtain ⟨r1, r2, s⟩ := r_stays (T := T) (x := x) a3 a8
  exact ⟨r1, RTx_s (s.1 0 (by decide)) (s.2 0 (by decide)) a1, by rw [s.1 1 (by decide)]; exact a2, Sh_Same s (n14 (by decide)) a3, RowB_s (s.2 9 (by decide)) a4, RPa_s (s.1 2 (by decide)) (s.2 10 (by decide)) a5, RIm_s (s.2 11 (by decide)) (s.2 12 (by decide)) (s.2 13 (by decide)) a6, by rw [s.1 3 (by decide)]; exact a7, r2, RB_s (s.1 5 (by decide)) (s.2 15 (by decide)) a9⟩
theorem s_ask (h : Rel T X L F P I N B M) : (f_X7_ask T L N).1 = (f_X8_ask M).1 ∧ Rel T X L F P I (f_X7_ask T L N).2 B (f_X8_ask M).2 := by
  obtain ⟨a1, a2, a3, a4, a5, a6, a7, a8, a9⟩ := h
  obtain ⟨r1, r2, s⟩ := r_ask (T := T) a3 a8
  exact ⟨r1, RTx_s (s.1 0 (by decide)) (s.2 0 (by decide)) a1, by rw [s.1 1 (by decide)]; exact a2, Sh_Same s (n14 (by decide)) a3, RowB_s (s.2 9 (by decide)) a4, RPa_s (s.1 2 (by decide)) (s.2 10 (by decide)) a5, RIm_s (s.2 11 (by decide)) (s.2 12 (by decide)) (s.2 13 (by decide)) a6, by rw [s.1 3 (by decide)]; exact a7, r2, RB_s (s.1 5 (by decide)) (s.2 15 (by decide)) a9⟩
theorem s_write (h : Rel T X L F P I N B M) : (f_X7_write T L B x y).1 = (f_X8_write M x y).1 ∧ Rel T X L F P I N (f_X7_write T L B x y).2 (f_X8_write M x y).2 := by
  obtain ⟨a1, a2, a3, a4, a5, a6, a7, a8, a9⟩ := h
  obtain ⟨r1, r2, s⟩ := r_write (T := T) (x := x) (y := y) a3 a9
  exact ⟨r1, RTx_s (s.1 0 (by decide)) (s.2 0 (by decide)) a1, by rw [s.1 1 (by decide)]; exact a2, Sh_Same s (n14 (by decide)) a3, RowB_s (s.2 9 (by decide)) a4, RPa_s (s.1 2 (by decide)) (s.2 10 (by decide)) a5, RIm_s (s.2 11 (by decide)) (s.2 12 (by decide)) (s.2 13 (by decide)) a6, by rw [s.1 3 (by decide)]; exact a7, RFi_s (s.1 4 (by decide)) (s.2 14 (by decide)) a8, r2⟩
theorem s_tear (h : Rel T X L F P I N B M) : (f_X7_tear T N B).1 = (f_X8_tear M).1 ∧ Rel T X L F P I (f_X7_tear T N B).2.1 (f_X7_tear T N B).2.2 (f_X8_tear M).2 := by
  obtain ⟨a1, a2, a3, a4, a5, a6, a7, a8, a9⟩ := h
  obtain ⟨r1, r2, r3, s⟩ := r_tear (T := T) a8 a9
  exact ⟨r1, RTx_s (s.1 0 (by decide)) (s.2 0 (by decide)) a1, by rw [s.1 1 (by decide)]; exact a2, Sh_Same s (n14 (by decide)) a3, RowB_s (s.2 9 (by decide)) a4, RPa_s (s.1 2 (by decide)) (s.2 10 (by decide)) a5, RIm_s (s.2 11 (by decide)) (s.2 12 (by decide)) (s.2 13 (by decide)) a6, by rw [s.1 3 (by decide)]; exact a7, r2, r3⟩
theorem s_seed (h : Rel T X L F P I N B M) : (f_X7_seed T x).1 = (f_X8_seed M x).1 ∧ Rel (f_X7_seed T x).2 X L F P I N B (f_X8_seed M x).2 := by
  obtain ⟨a1, a2, a3, a4, a5, a6, a7, a8, a9⟩ := h
  obtain ⟨r1, r2, s⟩ := r_seed (x := x) a7
  exact ⟨r1, RTx_s (s.1 0 (by decide)) (s.2 0 (by decide)) a1, by rw [s.1 1 (by decide)]; exact a2, Sh_Same s (n14 (by decide)) a3, RowB_s (s.2 9 (by decide)) a4, RPa_s (s.1 2 (by decide)) (s.2 10 (by decide)) a5, RIm_s (s.2 11 (by decide)) (s.2 12 (by decide)) (s.2 13 (by decide)) a6, r2, RFi_s (s.1 4 (by decide)) (s.2 14 (by decide)) a8, RB_s (s.1 5 (by decide)) (s.2 15 (by decide)) a9⟩
theorem s_keep (h : Rel T X L F P I N B M) : (f_X7_keep T F P I x).1 = (f_X8_keep M x).1 ∧ Rel T X L F (f_X7_keep T F P I x).2.1 (f_X7_keep T F P I x).2.2 N B (f_X8_keep M x).2 := by
  obtain ⟨a1, a2, a3, a4, a5, a6, a7, a8, a9⟩ := h
  obtain ⟨r1, r2, r3, s⟩ := r_keep (x := x) a3 a4 a5 a6 a7
  exact ⟨r1, RTx_s (s.1 0 (by decide)) (s.2 0 (by decide)) a1, by rw [s.1 1 (by decide)]; exact a2, Sh_Same s (n14 (by decide)) a3, RowB_s (s.2 9 (by decide)) a4, r2, r3, by rw [s.1 3 (by decide)]; exact a7, RFi_s (s.1 4 (by decide)) (s.2 14 (by decide)) a8, RB_s (s.1 5 (by decide)) (s.2 15 (by decide)) a9⟩
theorem s_goBack (h : Rel T X L F P I N B M) : (f_X7_goBack T F P I x).1 = (f_X8_goBack M x).1 ∧ Rel (f_X7_goBack T F P I x).2.1 X L (f_X7_goBack T F P I x).2.2.1 (f_X7_goBack T F P I x).2.2.2 I N B (f_X8_goBack M x).2 := by
  obtain ⟨a1, a2, a3, a4, a5, a6, a7, a8, a9⟩ := h
  obtain ⟨r1, r2, r3, r4, s⟩ := r_goBack (x := x) a3 a4 a5 a6 a7
  exact ⟨r1, RTx_s (s.1 0 (by decide)) (s.2 0 (by decide)) a1, by rw [s.1 1 (by decide)]; exact a2, Sh_Same s (n14 (by decide)) a3, r3, r4, RIm_s (s.2 11 (by decide)) (s.2 12 (by decide)) (s.2 13 (by decide)) a6, r2, RFi_s (s.1 4 (by decide)) (s.2 14 (by decide)) a8, RB_s (s.1 5 (by decide)) (s.2 15 (by decide)) a9⟩
theorem s_0 : Rel S00 S06 S00 S00 S00 S00 S00 S00 S08 := by
  have sh : Sh S00 S08 := ⟨⟨⟨by decide, by decide, by decide⟩, by decide, by decide, by decide⟩, ⟨rfl, rfl, rfl, rfl, rfl⟩, fun d hd => absurd hd (Nat.not_lt_zero d), fun d hd => absurd hd (Nat.not_lt_zero d), fun d hd => absurd hd (Nat.not_lt_zero d), Or.inl ⟨rfl, rfl, rfl, rfl, rfl⟩⟩
  refine ⟨RTx_0 rfl rfl, rfl, sh, ⟨⟨⟨rfl, by decide, by decide⟩, fun d hd => absurd hd (Nat.not_lt_zero d), fun d hd => absurd hd (Nat.not_lt_zero d)⟩, fun d hd => absurd hd (Nat.not_lt_zero d)⟩, ⟨0, 0, by omega, by omega, rfl, rfl, rfl, fun d hd => absurd hd (Nat.not_lt_zero d)⟩, fun i _ => ⟨rfl, fun k => absurd rfl k⟩, rfl, RFi_0 (fun k => absurd rfl k) rfl rfl rfl, RB_0 rfl rfl⟩
end Step
