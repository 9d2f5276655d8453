set_option maxHeartbeats 4000000 in
set_option maxRecDepth 100000 in
theorem c_X8_person2 (l : Launch) (D : va_G) (cI cZ cQ : ClassId) (rM : Nat → Nat) (SM : St) (x1 : Int32) (x2 : Int32) (okm : okM SM) (okw : ¬ f_X8_isPerson SM x1 = 0 → okW SM x1) : Ci l yX8_person wsX8_person { frames := 2, cells := 0, slots := 0, locals := 43 } D (tyL cI cZ cQ) [.ref (rM 0), .int x1, .int x2] (fl [wX8 cI cZ cQ rM SM]) (f_X8_person SM x1 x2) (fl [wX8 cI cZ cQ rM SM]) := by
  refine ci_of (cc := cX8_person) (nL := 3) (ty := .int) (lv0 := [(0, .ref (rM 0)), (1, .int x1), (2, .int x2)]) (by decide) rfl (Nat.le_of_ble_eq_true rfl) rfl ?_
  intro p e s m args below meth c A X hr
  refine ww_aload_n (pc := 0) X dX8_person_0 0 rfl rfl ?_
  refine ww_iload_n (pc := 1) X dX8_person_1 1 rfl rfl ?_
  refine ww_gVi (pc := 2) (rest := []) (gsN := [wX8 cI cZ cQ rM SM]) (ci := 8) (gi := 0) (qi := 0) X (c_X8_isPerson l D cI cZ cQ rM SM x1) gX8_person_X8_isPerson rfl hd_X8_isPerson [true] rfl rfl rfl rfl rfl rfl rfl rfl ⟨rfl, rfl⟩ ⟨Nat.le_of_ble_eq_true rfl, Nat.le_of_ble_eq_true rfl⟩ (Nat.le_of_ble_eq_true rfl) ⟨Nat.zero_le _, Nat.zero_le _⟩ dX8_person_2 ?_
  refine ww_if_ne (pc := 5) (tgt := 11) X dX8_person_5 (by decide) (fun c1 => ?_) (fun c1 => ?_)
  · refine ww_iload_n (pc := 11) X dX8_person_11 2 rfl rfl ?_
    refine Decidable.byCases (fun (c2 : x2 = 0) => ?_) (fun (c2 : ¬ x2 = 0) => ?_)
    · refine ww_tableIn (off := 36) (tgt := 48) X dX8_person_12 (by rw [c2]; decide) (by rw [c2]; decide) (by rw [c2]; rfl) (by decide) ?_
      refine ww_aload_n (pc := 48) X dX8_person_48 0 rfl rfl ?_
      refine ww_get (pc := 49) (ci := 8) (v := .ref (rM 10)) (C := RX8) (T := TX8) (N := 27) X inX8_person_8 0 rfl rfl 11 (by decide) (by decide +kernel) rfl dX8_person_49 ?_
      refine ww_iconst (pc := 52) (v := 1) X dX8_person_52 (by decide) ?_
      refine ww_iload_n (pc := 53) X dX8_person_53 1 rfl rfl ?_
      have hb3 := clb (n := 7) (in_X8_isPerson okm c1)
      refine ww_iadd (pc := 54) X dX8_person_54 ?_
      refine ww_iald (pc := 55) (f := SM.2 9) X 10 0 rfl rfl (vn (m := 1 + ((x1 : Int32).toNatClampNeg)) (nat_iadd (a := 1) (b := (x1 : Int32).toNatClampNeg) rfl (cl_of (in_X8_isPerson okm c1))) (by omega) (by decide)) dX8_person_55 ?_
      exact ww_iret X hr rfl (Eq.symm (by unfold f_X8_person; try rw [if_neg c1, if_pos c2]; first | done | rfl)) rfl dX8_person_56
    · skip
      refine Decidable.byCases (fun (c4 : x2 = 1) => ?_) (fun (c4 : ¬ x2 = 1) => ?_)
      · refine ww_tableIn (off := 45) (tgt := 57) X dX8_person_12 (by rw [c4]; decide) (by rw [c4]; decide) (by rw [c4]; rfl) (by decide) ?_
        refine ww_aload_n (pc := 57) X dX8_person_57 0 rfl rfl ?_
        refine ww_iload_n (pc := 58) X dX8_person_58 1 rfl rfl ?_
        refine ww_gVi (pc := 59) (rest := []) (gsN := [wX8 cI cZ cQ rM SM]) (ci := 8) (gi := 0) (qi := 0) X (c_X8_end l D cI cZ cQ rM SM x1 (in_X8_isPerson okm c1)) gX8_person_X8_end rfl hd_X8_end [true] rfl rfl rfl rfl rfl rfl rfl rfl ⟨rfl, rfl⟩ ⟨Nat.le_of_ble_eq_true rfl, Nat.le_of_ble_eq_true rfl⟩ (Nat.le_of_ble_eq_true rfl) ⟨Nat.zero_le _, Nat.zero_le _⟩ dX8_person_59 ?_
        exact ww_iret X hr rfl (Eq.symm (by unfold f_X8_person; try rw [if_neg c1, if_neg c2, if_pos c4]; first | done | rfl)) rfl dX8_person_62
      · skip
        refine Decidable.byCases (fun (c5 : x2 = 2) => ?_) (fun (c5 : ¬ x2 = 2) => ?_)
        · refine ww_tableIn (off := 51) (tgt := 63) X dX8_person_12 (by rw [c5]; decide) (by rw [c5]; decide) (by rw [c5]; rfl) (by decide) ?_
          refine ww_aload_n (pc := 63) X dX8_person_63 0 rfl rfl ?_
          refine ww_get (pc := 64) (ci := 8) (v := .ref (rM 10)) (C := RX8) (T := TX8) (N := 27) X inX8_person_8 0 rfl rfl 11 (by decide) (by decide +kernel) rfl dX8_person_64 ?_
          refine ww_bipush (pc := 67) (v := 8) X dX8_person_67 (by decide) ?_
          refine ww_iload_n (pc := 69) X dX8_person_69 1 rfl rfl ?_
          have hb6 := clb (n := 7) (in_X8_isPerson okm c1)
          refine ww_iadd (pc := 70) X dX8_person_70 ?_
          refine ww_iald (pc := 71) (f := SM.2 9) X 10 0 rfl rfl (vn (m := 8 + ((x1 : Int32).toNatClampNeg)) (nat_iadd (a := 8) (b := (x1 : Int32).toNatClampNeg) rfl (cl_of (in_X8_isPerson okm c1))) (by omega) (by decide)) dX8_person_71 ?_
          exact ww_iret X hr rfl (Eq.symm (by unfold f_X8_person; try rw [if_neg c1, if_neg c2, if_neg c4, if_pos c5]; first | done | rfl)) rfl dX8_person_72
        · skip
          refine Decidable.byCases (fun (c7 : x2 = 3) => ?_) (fun (c7 : ¬ x2 = 3) => ?_)
          · refine ww_tableIn (off := 61) (tgt := 73) X dX8_person_12 (by rw [c7]; decide) (by rw [c7]; decide) (by rw [c7]; rfl) (by decide) ?_
            refine ww_aload_n (pc := 73) X dX8_person_73 0 rfl rfl ?_
            refine ww_get (pc := 74) (ci := 8) (v := .ref (rM 10)) (C := RX8) (T := TX8) (N := 27) X inX8_person_8 0 rfl rfl 11 (by decide) (by decide +kernel) rfl dX8_person_74 ?_
            refine ww_bipush (pc := 77) (v := 15) X dX8_person_77 (by decide) ?_
            refine ww_iload_n (pc := 79) X dX8_person_79 1 rfl rfl ?_
            have hb8 := clb (n := 7) (in_X8_isPerson okm c1)
            refine ww_iadd (pc := 80) X dX8_person_80 ?_
            refine ww_iald (pc := 81) (f := SM.2 9) X 10 0 rfl rfl (vn (m := 15 + ((x1 : Int32).toNatClampNeg)) (nat_iadd (a := 15) (b := (x1 : Int32).toNatClampNeg) rfl (cl_of (in_X8_isPerson okm c1))) (by omega) (by decide)) dX8_person_81 ?_
            exact ww_iret X hr rfl (Eq.symm (by unfold f_X8_person; try rw [if_neg c1, if_neg c2, if_neg c4, if_neg c5, if_pos c7]; first | done | rfl)) rfl dX8_person_82
          · skip
            refine Decidable.byCases (fun (c9 : x2 = 4) => ?_) (fun (c9 : ¬ x2 = 4) => ?_)
            · refine ww_tableIn (off := 71) (tgt := 83) X dX8_person_12 (by rw [c9]; decide) (by rw [c9]; decide) (by rw [c9]; rfl) (by decide) ?_
              refine ww_aload_n (pc := 83) X dX8_person_83 0 rfl rfl ?_
              refine ww_iload_n (pc := 84) X dX8_person_84 1 rfl rfl ?_
              refine ww_gVi (pc := 85) (rest := []) (gsN := [wX8 cI cZ cQ rM SM]) (ci := 8) (gi := 0) (qi := 0) X (c_X8_daysOf l D cI cZ cQ rM SM x1 (in_X8_isPerson okm c1) (okw c1)) gX8_person_X8_daysOf rfl hd_X8_daysOf [true] rfl rfl rfl rfl rfl rfl rfl rfl ⟨rfl, rfl⟩ ⟨Nat.le_of_ble_eq_true rfl, Nat.le_of_ble_eq_true rfl⟩ (Nat.le_of_ble_eq_true rfl) ⟨Nat.zero_le _, Nat.zero_le _⟩ dX8_person_85 ?_
              exact ww_iret X hr rfl (Eq.symm (by unfold f_X8_person; try rw [if_neg c1, if_neg c2, if_neg c4, if_neg c5, if_neg c7, if_pos c9]; first | done | rfl)) rfl dX8_person_88
            · skip
              refine ww_tableOut (tgt := 89) X dX8_person_12 (by
                refine Classical.byContradiction (fun h9 => ?_)
                have h8 : (x2).toInt = 0 ∨ (x2).toInt = 1 ∨ (x2).toInt = 2 ∨ (x2).toInt = 3 ∨ (x2).toInt = 4 := by omega
                rcases h8 with h | h | h | h | h
                · exact c2 (Int32.toInt_inj.mp (h.trans (by decide)))
                · exact c4 (Int32.toInt_inj.mp (h.trans (by decide)))
                · exact c5 (Int32.toInt_inj.mp (h.trans (by decide)))
                · exact c7 (Int32.toInt_inj.mp (h.trans (by decide)))
                · exact c9 (Int32.toInt_inj.mp (h.trans (by decide)))) (by decide) ?_
              refine ww_ldc (pc := 89) (v := (-1000000002)) X (by decide +kernel) dX8_person_89 ?_
              exact ww_iret X hr rfl (Eq.symm (by unfold f_X8_person; try rw [if_neg c1, if_neg c2, if_neg c4, if_neg c5, if_neg c7, if_neg c9]; first | done | rfl)) rfl dX8_person_91
  · refine ww_ldc (pc := 8) (v := (-1000000001)) X (by decide +kernel) dX8_person_8 ?_
    exact ww_iret X hr rfl (Eq.symm (by unfold f_X8_person; try rw [if_pos c1]; first | done | rfl)) rfl dX8_person_10
set_option maxHeartbeats 4000000 in
set_option maxRecDepth 100000 in
theorem c_X8_up2 (l : Launch) (D : va_G) (cI cZ cQ : ClassId) (rM : Nat → Nat) (SM : St) (x1 : Int32) (okm : okM SM) (n0 : ¬ (SM.1 2) < 0) (n1 : SM.1 2 ≤ 20) (okw : ¬ f_X8_isPerson SM x1 = 0 → okW SM x1) : Ci l yX8_up wsX8_up { frames := 2, cells := 0, slots := 0, locals := 43 } D (tyL cI cZ cQ) [.ref (rM 0), .int x1] (fl [wX8 cI cZ cQ rM SM]) ((f_X8_up SM x1).1) (fl [wX8 cI cZ cQ rM ((f_X8_up SM x1).2)]) := by
  refine ci_of (cc := cX8_up) (nL := 3) (ty := .int) (lv0 := [(0, .ref (rM 0)), (1, .int x1)]) (by decide) rfl (Nat.le_of_ble_eq_true rfl) rfl ?_
  intro p e s m args below meth c A X hr
  refine ww_aload_n (pc := 0) X dX8_up_0 0 rfl rfl ?_
  refine ww_iload_n (pc := 1) X dX8_up_1 1 rfl rfl ?_
  refine ww_gVi (pc := 2) (rest := []) (gsN := [wX8 cI cZ cQ rM SM]) (ci := 8) (gi := 0) (qi := 0) X (c_X8_isPerson l D cI cZ cQ rM SM x1) gX8_up_X8_isPerson rfl hd_X8_isPerson [true] rfl rfl rfl rfl rfl rfl rfl rfl ⟨rfl, rfl⟩ ⟨Nat.le_of_ble_eq_true rfl, Nat.le_of_ble_eq_true rfl⟩ (Nat.le_of_ble_eq_true rfl) ⟨Nat.zero_le _, Nat.zero_le _⟩ dX8_up_2 ?_
  refine ww_if_ne (pc := 5) (tgt := 11) X dX8_up_5 (by decide) (fun c1 => ?_) (fun c1 => ?_)
  · refine ww_aload_n (pc := 11) X dX8_up_11 0 rfl rfl ?_
    refine ww_iload_n (pc := 12) X dX8_up_12 1 rfl rfl ?_
    refine ww_gVi (pc := 13) (rest := []) (gsN := [wX8 cI cZ cQ rM SM]) (ci := 8) (gi := 0) (qi := 0) X (c_X8_isBelow l D cI cZ cQ rM SM x1 (in_X8_isPerson okm c1)) gX8_up_X8_isBelow rfl hd_X8_isBelow [true] rfl rfl rfl rfl rfl rfl rfl rfl ⟨rfl, rfl⟩ ⟨Nat.le_of_ble_eq_true rfl, Nat.le_of_ble_eq_true rfl⟩ (Nat.le_of_ble_eq_true rfl) ⟨Nat.zero_le _, Nat.zero_le _⟩ dX8_up_13 ?_
    refine ww_if_ne (pc := 16) (tgt := 22) X dX8_up_16 (by decide) (fun c2 => ?_) (fun c2 => ?_)
    · refine ww_aload_n (pc := 22) X dX8_up_22 0 rfl rfl ?_
      refine ww_gVv (pc := 23) (rest := []) (gsN := [wX8 cI cZ cQ rM (f_X8_notes SM)]) (ci := 8) (gi := 0) (qi := 0) X (c_X8_notes l D cI cZ cQ rM SM (by assumption) (by assumption)) gX8_up_X8_notes rfl hd_X8_notes [true] rfl (acons (ad8 _ _ _ _ _ _) rfl) rfl rfl rfl rfl rfl rfl ⟨rfl, rfl⟩ ⟨Nat.le_of_ble_eq_true rfl, Nat.le_of_ble_eq_true rfl⟩ (Nat.le_of_ble_eq_true rfl) ⟨Nat.zero_le _, Nat.zero_le _⟩ dX8_up_23 ?_
      generalize hz3 : (f_X8_notes SM) = z3
      refine ww_aload_n (pc := 26) X dX8_up_26 0 rfl rfl ?_
      refine ww_iload_n (pc := 27) X dX8_up_27 1 rfl rfl ?_
      refine ww_gVi (pc := 28) (rest := []) (gsN := [wX8 cI cZ cQ rM z3]) (ci := 8) (gi := 0) (qi := 0) X (c_X8_daysOf l D cI cZ cQ rM z3 x1 (in_X8_isPerson okm c1) (up_w hz3 (okw c1))) gX8_up_X8_daysOf rfl hd_X8_daysOf [true] rfl rfl rfl rfl rfl rfl rfl rfl ⟨rfl, rfl⟩ ⟨Nat.le_of_ble_eq_true rfl, Nat.le_of_ble_eq_true rfl⟩ (Nat.le_of_ble_eq_true rfl) ⟨Nat.zero_le _, Nat.zero_le _⟩ dX8_up_28 ?_
      refine ww_istore_n (pc := 31) (lv' := [(2, .int (f_X8_daysOf z3 x1)), (0, .ref (rM 0)), (1, .int x1)]) X dX8_up_31 rfl (by decide) rfl ?_
      refine ww_aload_n (pc := 32) X dX8_up_32 1 rfl rfl ?_
      refine ww_iload_n (pc := 33) X dX8_up_33 2 rfl rfl ?_
      refine ww_gVv (pc := 34) (rest := []) (gsN := [wX8 cI cZ cQ rM (f_X8_ascends z3 x1)]) (ci := 8) (gi := 0) (qi := 0) X (c_X8_ascends l D cI cZ cQ rM z3 x1 (in_X8_isPerson okm c1)) gX8_up_X8_ascends rfl hd_X8_ascends [true] rfl (acons (ad8 _ _ _ _ _ _) rfl) rfl rfl rfl rfl rfl rfl ⟨rfl, rfl⟩ ⟨Nat.le_of_ble_eq_true rfl, Nat.le_of_ble_eq_true rfl⟩ (Nat.le_of_ble_eq_true rfl) ⟨Nat.zero_le _, Nat.zero_le _⟩ dX8_up_34 ?_
      generalize hz4 : (f_X8_ascends z3 x1) = z4
      refine ww_iload_n (pc := 37) X dX8_up_37 0 rfl rfl ?_
      have h5 : f_X8_up SM x1 = (f_X8_daysOf z3 x1, z4) := by unfold f_X8_up; try rw [if_neg c1, if_neg c2, hz3]; try unfold f_X8_up_k1; try rw [hz4]; try unfold f_X8_up_k2; first | done | rfl
      exact ww_iret X hr rfl (congrArg (fun u9 : Int32 × St => u9.1) h5).symm (congrArg (fun u9 : Int32 × St => fl [wX8 cI cZ cQ rM u9.2]) h5.symm) dX8_up_38
    · refine ww_ldc (pc := 19) (v := (-1000000003)) X (by decide +kernel) dX8_up_19 ?_
      have h6 : f_X8_up SM x1 = ((-1000000003), SM) := by unfold f_X8_up; try rw [if_neg c1, if_pos c2]; first | done | rfl
      exact ww_iret X hr rfl (congrArg (fun u9 : Int32 × St => u9.1) h6).symm (congrArg (fun u9 : Int32 × St => fl [wX8 cI cZ cQ rM u9.2]) h6.symm) dX8_up_21
  · refine ww_ldc (pc := 8) (v := (-1000000001)) X (by decide +kernel) dX8_up_8 ?_
    have h7 : f_X8_up SM x1 = ((-1000000001), SM) := by unfold f_X8_up; try rw [if_pos c1]; first | done | rfl
    exact ww_iret X hr rfl (congrArg (fun u9 : Int32 × St => u9.1) h7).symm (congrArg (fun u9 : Int32 × St => fl [wX8 cI cZ cQ rM u9.2]) h7.symm) dX8_up_10
