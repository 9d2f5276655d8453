theorem st8a_0 (cI cZ cQ : ClassId) (r : Nat → Nat) (S : St) (F : Nat → Int32) : (fl [wX8 cI cZ cQ r S]).set 1 (r 1, .inl (cI, 240, .inl F)) = fl [wX8 cI cZ cQ r (sA S 0 F)] := rfl
theorem st8b_0 (cI cZ cQ : ClassId) (r : Nat → Nat) (S : St) (F G : Nat → Int32) : (fl [wX8 cI cZ cQ r (sA S 0 F)]).set 1 (r 1, .inl (cI, 240, .inl G)) = fl [wX8 cI cZ cQ r (sA S 0 G)] := rfl
theorem st8a_1 (cI cZ cQ : ClassId) (r : Nat → Nat) (S : St) (F : Nat → Int32) : (fl [wX8 cI cZ cQ r S]).set 2 (r 2, .inl (cI, 5, .inl F)) = fl [wX8 cI cZ cQ r (sA S 1 F)] := rfl
theorem st8b_1 (cI cZ cQ : ClassId) (r : Nat → Nat) (S : St) (F G : Nat → Int32) : (fl [wX8 cI cZ cQ r (sA S 1 F)]).set 2 (r 2, .inl (cI, 5, .inl G)) = fl [wX8 cI cZ cQ r (sA S 1 G)] := rfl
theorem st8a_2 (cI cZ cQ : ClassId) (r : Nat → Nat) (S : St) (F : Nat → Int32) : (fl [wX8 cI cZ cQ r S]).set 3 (r 3, .inl (cI, 4, .inl F)) = fl [wX8 cI cZ cQ r (sA S 2 F)] := rfl
theorem st8b_2 (cI cZ cQ : ClassId) (r : Nat → Nat) (S : St) (F G : Nat → Int32) : (fl [wX8 cI cZ cQ r (sA S 2 F)]).set 3 (r 3, .inl (cI, 4, .inl G)) = fl [wX8 cI cZ cQ r (sA S 2 G)] := rfl
theorem st8a_3 (cI cZ cQ : ClassId) (r : Nat → Nat) (S : St) (F : Nat → Int32) : (fl [wX8 cI cZ cQ r S]).set 4 (r 4, .inl (cI, 14, .inl F)) = fl [wX8 cI cZ cQ r (sA S 3 F)] := rfl
theorem st8b_3 (cI cZ cQ : ClassId) (r : Nat → Nat) (S : St) (F G : Nat → Int32) : (fl [wX8 cI cZ cQ r (sA S 3 F)]).set 4 (r 4, .inl (cI, 14, .inl G)) = fl [wX8 cI cZ cQ r (sA S 3 G)] := rfl
theorem st8a_4 (cI cZ cQ : ClassId) (r : Nat → Nat) (S : St) (F : Nat → Int32) : (fl [wX8 cI cZ cQ r S]).set 5 (r 5, .inl (cI, 18, .inl F)) = fl [wX8 cI cZ cQ r (sA S 4 F)] := rfl
theorem st8b_4 (cI cZ cQ : ClassId) (r : Nat → Nat) (S : St) (F G : Nat → Int32) : (fl [wX8 cI cZ cQ r (sA S 4 F)]).set 5 (r 5, .inl (cI, 18, .inl G)) = fl [wX8 cI cZ cQ r (sA S 4 G)] := rfl
theorem st8a_5 (cI cZ cQ : ClassId) (r : Nat → Nat) (S : St) (F : Nat → Int32) : (fl [wX8 cI cZ cQ r S]).set 6 (r 6, .inl (cI, 5, .inl F)) = fl [wX8 cI cZ cQ r (sA S 5 F)] := rfl
theorem st8b_5 (cI cZ cQ : ClassId) (r : Nat → Nat) (S : St) (F G : Nat → Int32) : (fl [wX8 cI cZ cQ r (sA S 5 F)]).set 6 (r 6, .inl (cI, 5, .inl G)) = fl [wX8 cI cZ cQ r (sA S 5 G)] := rfl
theorem st8a_6 (cI cZ cQ : ClassId) (r : Nat → Nat) (S : St) (F : Nat → Int32) : (fl [wX8 cI cZ cQ r S]).set 7 (r 7, .inl (cI, 4, .inl F)) = fl [wX8 cI cZ cQ r (sA S 6 F)] := rfl
theorem st8b_6 (cI cZ cQ : ClassId) (r : Nat → Nat) (S : St) (F G : Nat → Int32) : (fl [wX8 cI cZ cQ r (sA S 6 F)]).set 7 (r 7, .inl (cI, 4, .inl G)) = fl [wX8 cI cZ cQ r (sA S 6 G)] := rfl
theorem st8a_7 (cI cZ cQ : ClassId) (r : Nat → Nat) (S : St) (F : Nat → Int32) : (fl [wX8 cI cZ cQ r S]).set 8 (r 8, .inl (cI, 14, .inl F)) = fl [wX8 cI cZ cQ r (sA S 7 F)] := rfl
theorem st8b_7 (cI cZ cQ : ClassId) (r : Nat → Nat) (S : St) (F G : Nat → Int32) : (fl [wX8 cI cZ cQ r (sA S 7 F)]).set 8 (r 8, .inl (cI, 14, .inl G)) = fl [wX8 cI cZ cQ r (sA S 7 G)] := rfl
theorem st8a_8 (cI cZ cQ : ClassId) (r : Nat → Nat) (S : St) (F : Nat → Int32) : (fl [wX8 cI cZ cQ r S]).set 9 (r 9, .inl (cI, 18, .inl F)) = fl [wX8 cI cZ cQ r (sA S 8 F)] := rfl
theorem st8b_8 (cI cZ cQ : ClassId) (r : Nat → Nat) (S : St) (F G : Nat → Int32) : (fl [wX8 cI cZ cQ r (sA S 8 F)]).set 9 (r 9, .inl (cI, 18, .inl G)) = fl [wX8 cI cZ cQ r (sA S 8 G)] := rfl
theorem st8a_9 (cI cZ cQ : ClassId) (r : Nat → Nat) (S : St) (F : Nat → Int32) : (fl [wX8 cI cZ cQ r S]).set 10 (r 10, .inl (cI, 35, .inl F)) = fl [wX8 cI cZ cQ r (sA S 9 F)] := rfl
theorem st8b_9 (cI cZ cQ : ClassId) (r : Nat → Nat) (S : St) (F G : Nat → Int32) : (fl [wX8 cI cZ cQ r (sA S 9 F)]).set 10 (r 10, .inl (cI, 35, .inl G)) = fl [wX8 cI cZ cQ r (sA S 9 G)] := rfl
theorem st8a_10 (cI cZ cQ : ClassId) (r : Nat → Nat) (S : St) (F : Nat → Int32) : (fl [wX8 cI cZ cQ r S]).set 11 (r 11, .inl (cI, 700, .inl F)) = fl [wX8 cI cZ cQ r (sA S 10 F)] := rfl
theorem st8b_10 (cI cZ cQ : ClassId) (r : Nat → Nat) (S : St) (F G : Nat → Int32) : (fl [wX8 cI cZ cQ r (sA S 10 F)]).set 11 (r 11, .inl (cI, 700, .inl G)) = fl [wX8 cI cZ cQ r (sA S 10 G)] := rfl
theorem st8a_11 (cI cZ cQ : ClassId) (r : Nat → Nat) (S : St) (F : Nat → Int32) : (fl [wX8 cI cZ cQ r S]).set 12 (r 12, .inl (cI, 70, .inl F)) = fl [wX8 cI cZ cQ r (sA S 11 F)] := rfl
theorem st8b_11 (cI cZ cQ : ClassId) (r : Nat → Nat) (S : St) (F G : Nat → Int32) : (fl [wX8 cI cZ cQ r (sA S 11 F)]).set 12 (r 12, .inl (cI, 70, .inl G)) = fl [wX8 cI cZ cQ r (sA S 11 G)] := rfl
theorem st8a_12 (cI cZ cQ : ClassId) (r : Nat → Nat) (S : St) (F : Nat → Int32) : (fl [wX8 cI cZ cQ r S]).set 13 (r 13, .inl (cI, 2, .inl F)) = fl [wX8 cI cZ cQ r (sA S 12 F)] := rfl
theorem st8b_12 (cI cZ cQ : ClassId) (r : Nat → Nat) (S : St) (F G : Nat → Int32) : (fl [wX8 cI cZ cQ r (sA S 12 F)]).set 13 (r 13, .inl (cI, 2, .inl G)) = fl [wX8 cI cZ cQ r (sA S 12 G)] := rfl
theorem st8a_13 (cI cZ cQ : ClassId) (r : Nat → Nat) (S : St) (F : Nat → Int32) : (fl [wX8 cI cZ cQ r S]).set 14 (r 14, .inl (cZ, 2, .inl F)) = fl [wX8 cI cZ cQ r (sA S 13 F)] := rfl
theorem st8b_13 (cI cZ cQ : ClassId) (r : Nat → Nat) (S : St) (F G : Nat → Int32) : (fl [wX8 cI cZ cQ r (sA S 13 F)]).set 14 (r 14, .inl (cZ, 2, .inl G)) = fl [wX8 cI cZ cQ r (sA S 13 G)] := rfl
theorem st8a_14 (cI cZ cQ : ClassId) (r : Nat → Nat) (S : St) (F : Nat → Int32) : (fl [wX8 cI cZ cQ r S]).set 15 (r 15, .inl (cI, 18, .inl F)) = fl [wX8 cI cZ cQ r (sA S 14 F)] := rfl
theorem st8b_14 (cI cZ cQ : ClassId) (r : Nat → Nat) (S : St) (F G : Nat → Int32) : (fl [wX8 cI cZ cQ r (sA S 14 F)]).set 15 (r 15, .inl (cI, 18, .inl G)) = fl [wX8 cI cZ cQ r (sA S 14 G)] := rfl
theorem st8a_15 (cI cZ cQ : ClassId) (r : Nat → Nat) (S : St) (F : Nat → Int32) : (fl [wX8 cI cZ cQ r S]).set 16 (r 16, .inl (cI, 30, .inl F)) = fl [wX8 cI cZ cQ r (sA S 15 F)] := rfl
theorem st8b_15 (cI cZ cQ : ClassId) (r : Nat → Nat) (S : St) (F G : Nat → Int32) : (fl [wX8 cI cZ cQ r (sA S 15 F)]).set 16 (r 16, .inl (cI, 30, .inl G)) = fl [wX8 cI cZ cQ r (sA S 15 G)] := rfl
theorem st8a_16 (cI cZ cQ : ClassId) (r : Nat → Nat) (S : St) (F : Nat → Int32) : (fl [wX8 cI cZ cQ r S]).set 17 (r 17, .inl (cI, 6, .inl F)) = fl [wX8 cI cZ cQ r (sA S 16 F)] := rfl
theorem st8b_16 (cI cZ cQ : ClassId) (r : Nat → Nat) (S : St) (F G : Nat → Int32) : (fl [wX8 cI cZ cQ r (sA S 16 F)]).set 17 (r 17, .inl (cI, 6, .inl G)) = fl [wX8 cI cZ cQ r (sA S 16 G)] := rfl
theorem st8a_17 (cI cZ cQ : ClassId) (r : Nat → Nat) (S : St) (F : Nat → Int32) : (fl [wX8 cI cZ cQ r S]).set 18 (r 18, .inl (cI, 124, .inl F)) = fl [wX8 cI cZ cQ r (sA S 17 F)] := rfl
theorem st8b_17 (cI cZ cQ : ClassId) (r : Nat → Nat) (S : St) (F G : Nat → Int32) : (fl [wX8 cI cZ cQ r (sA S 17 F)]).set 18 (r 18, .inl (cI, 124, .inl G)) = fl [wX8 cI cZ cQ r (sA S 17 G)] := rfl
theorem st8a_18 (cI cZ cQ : ClassId) (r : Nat → Nat) (S : St) (F : Nat → Int32) : (fl [wX8 cI cZ cQ r S]).set 19 (r 19, .inl (cI, 744, .inl F)) = fl [wX8 cI cZ cQ r (sA S 18 F)] := rfl
theorem st8b_18 (cI cZ cQ : ClassId) (r : Nat → Nat) (S : St) (F G : Nat → Int32) : (fl [wX8 cI cZ cQ r (sA S 18 F)]).set 19 (r 19, .inl (cI, 744, .inl G)) = fl [wX8 cI cZ cQ r (sA S 18 G)] := rfl
