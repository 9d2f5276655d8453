section
-- ===== PART A: goes FIRST, ahead of the names: the tables' words, and 'selects' of the private methods out of them =====
/-- a private method of a class that the tables say can be made, by its rows of tables_1 -/
def lw_okq (q : MethodName × Nat) : Prop := (q.1.cls ≠ "java/lang/invoke/MethodHandle" ∧ q.1.cls ≠ "java/lang/invoke/VarHandle") ∧ Cond.instantiable q.1.cls q.2 ∈ tables_1 ∧ Cond.privateMethod q.1 ∈ tables_1 ∧ Cond.instanceMethod q.1 ∈ tables_1
theorem lw_p0 : lw_okq (⟨"ThreeBelow$ShoreText", "readClauses", "(LThreeBelow$Shore;)V"⟩, 6) := ⟨⟨by decide +kernel, by decide +kernel⟩, List.mem_of_getElem? (i := 26) (by decide +kernel), List.mem_of_getElem? (i := 269) (by decide +kernel), List.mem_of_getElem? (i := 270) (by decide +kernel)⟩
theorem lw_p1 : lw_okq (⟨"ThreeBelow$ShoreText", "skipBlanks", "()V"⟩, 6) := ⟨⟨by decide +kernel, by decide +kernel⟩, List.mem_of_getElem? (i := 26) (by decide +kernel), List.mem_of_getElem? (i := 273) (by decide +kernel), List.mem_of_getElem? (i := 274) (by decide +kernel)⟩
theorem lw_p2 : lw_okq (⟨"ThreeBelow$ShoreText", "here", "()I"⟩, 6) := ⟨⟨by decide +kernel, by decide +kernel⟩, List.mem_of_getElem? (i := 26) (by decide +kernel), List.mem_of_getElem? (i := 277) (by decide +kernel), List.mem_of_getElem? (i := 278) (by decide +kernel)⟩
theorem lw_p3 : lw_okq (⟨"ThreeBelow$ShoreText", "readClause", "(LThreeBelow$Shore;)V"⟩, 6) := ⟨⟨by decide +kernel, by decide +kernel⟩, List.mem_of_getElem? (i := 26) (by decide +kernel), List.mem_of_getElem? (i := 281) (by decide +kernel), List.mem_of_getElem? (i := 282) (by decide +kernel)⟩
theorem lw_p4 : lw_okq (⟨"ThreeBelow$ShoreText", "blame", "(II)V"⟩, 6) := ⟨⟨by decide +kernel, by decide +kernel⟩, List.mem_of_getElem? (i := 26) (by decide +kernel), List.mem_of_getElem? (i := 376) (by decide +kernel), List.mem_of_getElem? (i := 377) (by decide +kernel)⟩
theorem lw_p5 : lw_okq (⟨"ThreeBelow$ShoreText", "readNumber", "(II)V"⟩, 6) := ⟨⟨by decide +kernel, by decide +kernel⟩, List.mem_of_getElem? (i := 26) (by decide +kernel), List.mem_of_getElem? (i := 389) (by decide +kernel), List.mem_of_getElem? (i := 390) (by decide +kernel)⟩
theorem lw_p6 : lw_okq (⟨"ThreeBelow$ShoreText", "isFigure", "(I)Z"⟩, 6) := ⟨⟨by decide +kernel, by decide +kernel⟩, List.mem_of_getElem? (i := 26) (by decide +kernel), List.mem_of_getElem? (i := 393) (by decide +kernel), List.mem_of_getElem? (i := 394) (by decide +kernel)⟩
theorem lw_p7 : lw_okq (⟨"ThreeBelow$ShoreText", "readSemicolon", "()V"⟩, 6) := ⟨⟨by decide +kernel, by decide +kernel⟩, List.mem_of_getElem? (i := 26) (by decide +kernel), List.mem_of_getElem? (i := 401) (by decide +kernel), List.mem_of_getElem? (i := 402) (by decide +kernel)⟩
theorem lw_p8 : lw_okq (⟨"ThreeBelow$Life", "buryIfOld", "(LThreeBelow$Shore;I)V"⟩, 1) := ⟨⟨by decide +kernel, by decide +kernel⟩, List.mem_of_getElem? (i := 114) (by decide +kernel), List.mem_of_getElem? (i := 418) (by decide +kernel), List.mem_of_getElem? (i := 419) (by decide +kernel)⟩
theorem lw_p9 : lw_okq (⟨"ThreeBelow", "refuseYears", "(II)I"⟩, 9) := ⟨⟨by decide +kernel, by decide +kernel⟩, List.mem_of_getElem? (i := 18) (by decide +kernel), List.mem_of_getElem? (i := 532) (by decide +kernel), List.mem_of_getElem? (i := 533) (by decide +kernel)⟩
theorem lw_p10 : lw_okq (⟨"ThreeBelow", "refuseUnlessAbove", "(I)I"⟩, 9) := ⟨⟨by decide +kernel, by decide +kernel⟩, List.mem_of_getElem? (i := 18) (by decide +kernel), List.mem_of_getElem? (i := 591) (by decide +kernel), List.mem_of_getElem? (i := 592) (by decide +kernel)⟩
theorem lw_p11 : lw_okq (⟨"ThreeBelow", "driftOne", "()V"⟩, 9) := ⟨⟨by decide +kernel, by decide +kernel⟩, List.mem_of_getElem? (i := 18) (by decide +kernel), List.mem_of_getElem? (i := 611) (by decide +kernel), List.mem_of_getElem? (i := 612) (by decide +kernel)⟩
theorem lw_p12 : lw_okq (⟨"ThreeBelow", "draw", "(I)I"⟩, 9) := ⟨⟨by decide +kernel, by decide +kernel⟩, List.mem_of_getElem? (i := 18) (by decide +kernel), List.mem_of_getElem? (i := 615) (by decide +kernel), List.mem_of_getElem? (i := 616) (by decide +kernel)⟩
theorem lw_p13 : lw_okq (⟨"ThreeBelow", "areTwoPersons", "(II)Z"⟩, 9) := ⟨⟨by decide +kernel, by decide +kernel⟩, List.mem_of_getElem? (i := 18) (by decide +kernel), List.mem_of_getElem? (i := 638) (by decide +kernel), List.mem_of_getElem? (i := 639) (by decide +kernel)⟩
theorem lw_p14 : lw_okq (⟨"ThreeBelow", "bothBy", "(IIII)I"⟩, 9) := ⟨⟨by decide +kernel, by decide +kernel⟩, List.mem_of_getElem? (i := 18) (by decide +kernel), List.mem_of_getElem? (i := 650) (by decide +kernel), List.mem_of_getElem? (i := 651) (by decide +kernel)⟩
theorem lw_p15 : lw_okq (⟨"ThreeBelow", "yearsOfStay", "(I)I"⟩, 9) := ⟨⟨by decide +kernel, by decide +kernel⟩, List.mem_of_getElem? (i := 18) (by decide +kernel), List.mem_of_getElem? (i := 654) (by decide +kernel), List.mem_of_getElem? (i := 655) (by decide +kernel)⟩
def lw_privs_1 : List (MethodName × Nat) := [(⟨"ThreeBelow$ShoreText", "readClauses", "(LThreeBelow$Shore;)V"⟩, 6), (⟨"ThreeBelow$ShoreText", "skipBlanks", "()V"⟩, 6), (⟨"ThreeBelow$ShoreText", "here", "()I"⟩, 6), (⟨"ThreeBelow$ShoreText", "readClause", "(LThreeBelow$Shore;)V"⟩, 6), (⟨"ThreeBelow$ShoreText", "blame", "(II)V"⟩, 6), (⟨"ThreeBelow$ShoreText", "readNumber", "(II)V"⟩, 6), (⟨"ThreeBelow$ShoreText", "isFigure", "(I)Z"⟩, 6), (⟨"ThreeBelow$ShoreText", "readSemicolon", "()V"⟩, 6), (⟨"ThreeBelow$Life", "buryIfOld", "(LThreeBelow$Shore;I)V"⟩, 1), (⟨"ThreeBelow", "refuseYears", "(II)I"⟩, 9), (⟨"ThreeBelow", "refuseUnlessAbove", "(I)I"⟩, 9), (⟨"ThreeBelow", "driftOne", "()V"⟩, 9), (⟨"ThreeBelow", "draw", "(I)I"⟩, 9), (⟨"ThreeBelow", "areTwoPersons", "(II)Z"⟩, 9), (⟨"ThreeBelow", "bothBy", "(IIII)I"⟩, 9), (⟨"ThreeBelow", "yearsOfStay", "(I)I"⟩, 9)]
theorem lw_r1 : ∀ q ∈ lw_privs_1, lw_okq q := List.forall_mem_cons.mpr ⟨lw_p0, List.forall_mem_cons.mpr ⟨lw_p1, List.forall_mem_cons.mpr ⟨lw_p2, List.forall_mem_cons.mpr ⟨lw_p3, List.forall_mem_cons.mpr ⟨lw_p4, List.forall_mem_cons.mpr ⟨lw_p5, List.forall_mem_cons.mpr ⟨lw_p6, List.forall_mem_cons.mpr ⟨lw_p7, List.forall_mem_cons.mpr ⟨lw_p8, List.forall_mem_cons.mpr ⟨lw_p9, List.forall_mem_cons.mpr ⟨lw_p10, List.forall_mem_cons.mpr ⟨lw_p11, List.forall_mem_cons.mpr ⟨lw_p12, List.forall_mem_cons.mpr ⟨lw_p13, List.forall_mem_cons.mpr ⟨lw_p14, List.forall_mem_cons.mpr ⟨lw_p15, fun _ h => absurd h List.not_mem_nil⟩⟩⟩⟩⟩⟩⟩⟩⟩⟩⟩⟩⟩⟩⟩⟩
theorem lw_p16 : lw_okq (⟨"ThreeBelow", "figuresOfStay", "(I)I"⟩, 9) := ⟨⟨by decide +kernel, by decide +kernel⟩, List.mem_of_getElem? (i := 18) (by decide +kernel), List.mem_of_getElem? (i := 659) (by decide +kernel), List.mem_of_getElem? (i := 660) (by decide +kernel)⟩
theorem lw_p17 : lw_okq (⟨"ThreeBelow$Finds", "countWorths", "(LThreeBelow$Shore;)V"⟩, 9) := ⟨⟨by decide +kernel, by decide +kernel⟩, List.mem_of_getElem? (i := 164) (by decide +kernel), List.mem_of_getElem? (i := 712) (by decide +kernel), List.mem_of_getElem? (i := 713) (by decide +kernel)⟩
theorem lw_p18 : lw_okq (⟨"ThreeBelow$Finds", "fitsAll", "(LThreeBelow$Shore;II)Z"⟩, 9) := ⟨⟨by decide +kernel, by decide +kernel⟩, List.mem_of_getElem? (i := 164) (by decide +kernel), List.mem_of_getElem? (i := 717) (by decide +kernel), List.mem_of_getElem? (i := 718) (by decide +kernel)⟩
theorem lw_p19 : lw_okq (⟨"ThreeBelow$Finds", "worthBy", "(II)I"⟩, 9) := ⟨⟨by decide +kernel, by decide +kernel⟩, List.mem_of_getElem? (i := 164) (by decide +kernel), List.mem_of_getElem? (i := 721) (by decide +kernel), List.mem_of_getElem? (i := 722) (by decide +kernel)⟩
theorem lw_p20 : lw_okq (⟨"ThreeBelow$Finds", "alikeFrom", "(II)I"⟩, 9) := ⟨⟨by decide +kernel, by decide +kernel⟩, List.mem_of_getElem? (i := 164) (by decide +kernel), List.mem_of_getElem? (i := 734) (by decide +kernel), List.mem_of_getElem? (i := 735) (by decide +kernel)⟩
theorem lw_p21 : lw_okq (⟨"ThreeBelowModel", "skips", "()V"⟩, 27) := ⟨⟨by decide +kernel, by decide +kernel⟩, List.mem_of_getElem? (i := 784) (by decide +kernel), List.mem_of_getElem? (i := 885) (by decide +kernel), List.mem_of_getElem? (i := 886) (by decide +kernel)⟩
theorem lw_p22 : lw_okq (⟨"ThreeBelowModel", "look", "()I"⟩, 27) := ⟨⟨by decide +kernel, by decide +kernel⟩, List.mem_of_getElem? (i := 784) (by decide +kernel), List.mem_of_getElem? (i := 889) (by decide +kernel), List.mem_of_getElem? (i := 890) (by decide +kernel)⟩
theorem lw_p23 : lw_okq (⟨"ThreeBelowModel", "reads", "()V"⟩, 27) := ⟨⟨by decide +kernel, by decide +kernel⟩, List.mem_of_getElem? (i := 784) (by decide +kernel), List.mem_of_getElem? (i := 893) (by decide +kernel), List.mem_of_getElem? (i := 894) (by decide +kernel)⟩
theorem lw_p24 : lw_okq (⟨"ThreeBelowModel", "readsLaw", "()V"⟩, 27) := ⟨⟨by decide +kernel, by decide +kernel⟩, List.mem_of_getElem? (i := 784) (by decide +kernel), List.mem_of_getElem? (i := 897) (by decide +kernel), List.mem_of_getElem? (i := 898) (by decide +kernel)⟩
theorem lw_p25 : lw_okq (⟨"ThreeBelowModel", "opens", "(II)Z"⟩, 27) := ⟨⟨by decide +kernel, by decide +kernel⟩, List.mem_of_getElem? (i := 784) (by decide +kernel), List.mem_of_getElem? (i := 901) (by decide +kernel), List.mem_of_getElem? (i := 902) (by decide +kernel)⟩
theorem lw_p26 : lw_okq (⟨"ThreeBelowModel", "fails", "(I)V"⟩, 27) := ⟨⟨by decide +kernel, by decide +kernel⟩, List.mem_of_getElem? (i := 784) (by decide +kernel), List.mem_of_getElem? (i := 905) (by decide +kernel), List.mem_of_getElem? (i := 906) (by decide +kernel)⟩
theorem lw_p27 : lw_okq (⟨"ThreeBelowModel", "number", "(II)I"⟩, 27) := ⟨⟨by decide +kernel, by decide +kernel⟩, List.mem_of_getElem? (i := 784) (by decide +kernel), List.mem_of_getElem? (i := 909) (by decide +kernel), List.mem_of_getElem? (i := 910) (by decide +kernel)⟩
theorem lw_p28 : lw_okq (⟨"ThreeBelowModel", "stops", "()V"⟩, 27) := ⟨⟨by decide +kernel, by decide +kernel⟩, List.mem_of_getElem? (i := 784) (by decide +kernel), List.mem_of_getElem? (i := 913) (by decide +kernel), List.mem_of_getElem? (i := 914) (by decide +kernel)⟩
theorem lw_p29 : lw_okq (⟨"ThreeBelowModel", "readsDepth", "()V"⟩, 27) := ⟨⟨by decide +kernel, by decide +kernel⟩, List.mem_of_getElem? (i := 784) (by decide +kernel), List.mem_of_getElem? (i := 917) (by decide +kernel), List.mem_of_getElem? (i := 918) (by decide +kernel)⟩
theorem lw_p30 : lw_okq (⟨"ThreeBelowModel", "readsPerson", "()V"⟩, 27) := ⟨⟨by decide +kernel, by decide +kernel⟩, List.mem_of_getElem? (i := 784) (by decide +kernel), List.mem_of_getElem? (i := 921) (by decide +kernel), List.mem_of_getElem? (i := 922) (by decide +kernel)⟩
theorem lw_p31 : lw_okq (⟨"ThreeBelowModel", "readsGood", "()V"⟩, 27) := ⟨⟨by decide +kernel, by decide +kernel⟩, List.mem_of_getElem? (i := 784) (by decide +kernel), List.mem_of_getElem? (i := 925) (by decide +kernel), List.mem_of_getElem? (i := 926) (by decide +kernel)⟩
def lw_privs_2 : List (MethodName × Nat) := [(⟨"ThreeBelow", "figuresOfStay", "(I)I"⟩, 9), (⟨"ThreeBelow$Finds", "countWorths", "(LThreeBelow$Shore;)V"⟩, 9), (⟨"ThreeBelow$Finds", "fitsAll", "(LThreeBelow$Shore;II)Z"⟩, 9), (⟨"ThreeBelow$Finds", "worthBy", "(II)I"⟩, 9), (⟨"ThreeBelow$Finds", "alikeFrom", "(II)I"⟩, 9), (⟨"ThreeBelowModel", "skips", "()V"⟩, 27), (⟨"ThreeBelowModel", "look", "()I"⟩, 27), (⟨"ThreeBelowModel", "reads", "()V"⟩, 27), (⟨"ThreeBelowModel", "readsLaw", "()V"⟩, 27), (⟨"ThreeBelowModel", "opens", "(II)Z"⟩, 27), (⟨"ThreeBelowModel", "fails", "(I)V"⟩, 27), (⟨"ThreeBelowModel", "number", "(II)I"⟩, 27), (⟨"ThreeBelowModel", "stops", "()V"⟩, 27), (⟨"ThreeBelowModel", "readsDepth", "()V"⟩, 27), (⟨"ThreeBelowModel", "readsPerson", "()V"⟩, 27), (⟨"ThreeBelowModel", "readsGood", "()V"⟩, 27)]
theorem lw_r2 : ∀ q ∈ lw_privs_2, lw_okq q := List.forall_mem_cons.mpr ⟨lw_p16, List.forall_mem_cons.mpr ⟨lw_p17, List.forall_mem_cons.mpr ⟨lw_p18, List.forall_mem_cons.mpr ⟨lw_p19, List.forall_mem_cons.mpr ⟨lw_p20, List.forall_mem_cons.mpr ⟨lw_p21, List.forall_mem_cons.mpr ⟨lw_p22, List.forall_mem_cons.mpr ⟨lw_p23, List.forall_mem_cons.mpr ⟨lw_p24, List.forall_mem_cons.mpr ⟨lw_p25, List.forall_mem_cons.mpr ⟨lw_p26, List.forall_mem_cons.mpr ⟨lw_p27, List.forall_mem_cons.mpr ⟨lw_p28, List.forall_mem_cons.mpr ⟨lw_p29, List.forall_mem_cons.mpr ⟨lw_p30, List.forall_mem_cons.mpr ⟨lw_p31, fun _ h => absurd h List.not_mem_nil⟩⟩⟩⟩⟩⟩⟩⟩⟩⟩⟩⟩⟩⟩⟩⟩
theorem lw_p32 : lw_okq (⟨"ThreeBelowModel", "isShore", "()Z"⟩, 27) := ⟨⟨by decide +kernel, by decide +kernel⟩, List.mem_of_getElem? (i := 784) (by decide +kernel), List.mem_of_getElem? (i := 940) (by decide +kernel), List.mem_of_getElem? (i := 941) (by decide +kernel)⟩
theorem lw_p33 : lw_okq (⟨"ThreeBelowModel", "who", "(I)I"⟩, 27) := ⟨⟨by decide +kernel, by decide +kernel⟩, List.mem_of_getElem? (i := 784) (by decide +kernel), List.mem_of_getElem? (i := 944) (by decide +kernel), List.mem_of_getElem? (i := 945) (by decide +kernel)⟩
theorem lw_p34 : lw_okq (⟨"ThreeBelowModel", "isBelow", "(I)Z"⟩, 27) := ⟨⟨by decide +kernel, by decide +kernel⟩, List.mem_of_getElem? (i := 784) (by decide +kernel), List.mem_of_getElem? (i := 948) (by decide +kernel), List.mem_of_getElem? (i := 949) (by decide +kernel)⟩
theorem lw_p35 : lw_okq (⟨"ThreeBelowModel", "isDepth", "(I)Z"⟩, 27) := ⟨⟨by decide +kernel, by decide +kernel⟩, List.mem_of_getElem? (i := 784) (by decide +kernel), List.mem_of_getElem? (i := 956) (by decide +kernel), List.mem_of_getElem? (i := 957) (by decide +kernel)⟩
theorem lw_p36 : lw_okq (⟨"ThreeBelowModel", "isPerson", "(I)Z"⟩, 27) := ⟨⟨by decide +kernel, by decide +kernel⟩, List.mem_of_getElem? (i := 784) (by decide +kernel), List.mem_of_getElem? (i := 965) (by decide +kernel), List.mem_of_getElem? (i := 966) (by decide +kernel)⟩
theorem lw_p37 : lw_okq (⟨"ThreeBelowModel", "end", "(I)I"⟩, 27) := ⟨⟨by decide +kernel, by decide +kernel⟩, List.mem_of_getElem? (i := 784) (by decide +kernel), List.mem_of_getElem? (i := 969) (by decide +kernel), List.mem_of_getElem? (i := 970) (by decide +kernel)⟩
theorem lw_p38 : lw_okq (⟨"ThreeBelowModel", "daysOf", "(I)I"⟩, 27) := ⟨⟨by decide +kernel, by decide +kernel⟩, List.mem_of_getElem? (i := 784) (by decide +kernel), List.mem_of_getElem? (i := 973) (by decide +kernel), List.mem_of_getElem? (i := 974) (by decide +kernel)⟩
theorem lw_p39 : lw_okq (⟨"ThreeBelowModel", "isGood", "(I)Z"⟩, 27) := ⟨⟨by decide +kernel, by decide +kernel⟩, List.mem_of_getElem? (i := 784) (by decide +kernel), List.mem_of_getElem? (i := 981) (by decide +kernel), List.mem_of_getElem? (i := 982) (by decide +kernel)⟩
theorem lw_p40 : lw_okq (⟨"ThreeBelowModel", "barred", "(II)I"⟩, 27) := ⟨⟨by decide +kernel, by decide +kernel⟩, List.mem_of_getElem? (i := 784) (by decide +kernel), List.mem_of_getElem? (i := 989) (by decide +kernel), List.mem_of_getElem? (i := 990) (by decide +kernel)⟩
theorem lw_p41 : lw_okq (⟨"ThreeBelowModel", "notes", "()V"⟩, 27) := ⟨⟨by decide +kernel, by decide +kernel⟩, List.mem_of_getElem? (i := 784) (by decide +kernel), List.mem_of_getElem? (i := 995) (by decide +kernel), List.mem_of_getElem? (i := 996) (by decide +kernel)⟩
theorem lw_p42 : lw_okq (⟨"ThreeBelowModel", "passes", "()V"⟩, 27) := ⟨⟨by decide +kernel, by decide +kernel⟩, List.mem_of_getElem? (i := 784) (by decide +kernel), List.mem_of_getElem? (i := 999) (by decide +kernel), List.mem_of_getElem? (i := 1000) (by decide +kernel)⟩
theorem lw_p43 : lw_okq (⟨"ThreeBelowModel", "isAbove", "(I)Z"⟩, 27) := ⟨⟨by decide +kernel, by decide +kernel⟩, List.mem_of_getElem? (i := 784) (by decide +kernel), List.mem_of_getElem? (i := 1003) (by decide +kernel), List.mem_of_getElem? (i := 1004) (by decide +kernel)⟩
theorem lw_p44 : lw_okq (⟨"ThreeBelowModel", "later", "(II)I"⟩, 27) := ⟨⟨by decide +kernel, by decide +kernel⟩, List.mem_of_getElem? (i := 784) (by decide +kernel), List.mem_of_getElem? (i := 1007) (by decide +kernel), List.mem_of_getElem? (i := 1008) (by decide +kernel)⟩
theorem lw_p45 : lw_okq (⟨"ThreeBelowModel", "descends", "(II)V"⟩, 27) := ⟨⟨by decide +kernel, by decide +kernel⟩, List.mem_of_getElem? (i := 784) (by decide +kernel), List.mem_of_getElem? (i := 1015) (by decide +kernel), List.mem_of_getElem? (i := 1016) (by decide +kernel)⟩
theorem lw_p46 : lw_okq (⟨"ThreeBelowModel", "ascends", "(I)V"⟩, 27) := ⟨⟨by decide +kernel, by decide +kernel⟩, List.mem_of_getElem? (i := 784) (by decide +kernel), List.mem_of_getElem? (i := 1023) (by decide +kernel), List.mem_of_getElem? (i := 1024) (by decide +kernel)⟩
theorem lw_p47 : lw_okq (⟨"ThreeBelowModel", "draw", "(I)I"⟩, 27) := ⟨⟨by decide +kernel, by decide +kernel⟩, List.mem_of_getElem? (i := 784) (by decide +kernel), List.mem_of_getElem? (i := 1039) (by decide +kernel), List.mem_of_getElem? (i := 1040) (by decide +kernel)⟩
def lw_privs_3 : List (MethodName × Nat) := [(⟨"ThreeBelowModel", "isShore", "()Z"⟩, 27), (⟨"ThreeBelowModel", "who", "(I)I"⟩, 27), (⟨"ThreeBelowModel", "isBelow", "(I)Z"⟩, 27), (⟨"ThreeBelowModel", "isDepth", "(I)Z"⟩, 27), (⟨"ThreeBelowModel", "isPerson", "(I)Z"⟩, 27), (⟨"ThreeBelowModel", "end", "(I)I"⟩, 27), (⟨"ThreeBelowModel", "daysOf", "(I)I"⟩, 27), (⟨"ThreeBelowModel", "isGood", "(I)Z"⟩, 27), (⟨"ThreeBelowModel", "barred", "(II)I"⟩, 27), (⟨"ThreeBelowModel", "notes", "()V"⟩, 27), (⟨"ThreeBelowModel", "passes", "()V"⟩, 27), (⟨"ThreeBelowModel", "isAbove", "(I)Z"⟩, 27), (⟨"ThreeBelowModel", "later", "(II)I"⟩, 27), (⟨"ThreeBelowModel", "descends", "(II)V"⟩, 27), (⟨"ThreeBelowModel", "ascends", "(I)V"⟩, 27), (⟨"ThreeBelowModel", "draw", "(I)I"⟩, 27)]
theorem lw_r3 : ∀ q ∈ lw_privs_3, lw_okq q := List.forall_mem_cons.mpr ⟨lw_p32, List.forall_mem_cons.mpr ⟨lw_p33, List.forall_mem_cons.mpr ⟨lw_p34, List.forall_mem_cons.mpr ⟨lw_p35, List.forall_mem_cons.mpr ⟨lw_p36, List.forall_mem_cons.mpr ⟨lw_p37, List.forall_mem_cons.mpr ⟨lw_p38, List.forall_mem_cons.mpr ⟨lw_p39, List.forall_mem_cons.mpr ⟨lw_p40, List.forall_mem_cons.mpr ⟨lw_p41, List.forall_mem_cons.mpr ⟨lw_p42, List.forall_mem_cons.mpr ⟨lw_p43, List.forall_mem_cons.mpr ⟨lw_p44, List.forall_mem_cons.mpr ⟨lw_p45, List.forall_mem_cons.mpr ⟨lw_p46, List.forall_mem_cons.mpr ⟨lw_p47, fun _ h => absurd h List.not_mem_nil⟩⟩⟩⟩⟩⟩⟩⟩⟩⟩⟩⟩⟩⟩⟩⟩
theorem lw_p48 : lw_okq (⟨"ThreeBelowModel", "isStay", "(I)Z"⟩, 27) := ⟨⟨by decide +kernel, by decide +kernel⟩, List.mem_of_getElem? (i := 784) (by decide +kernel), List.mem_of_getElem? (i := 1062) (by decide +kernel), List.mem_of_getElem? (i := 1063) (by decide +kernel)⟩
theorem lw_p49 : lw_okq (⟨"ThreeBelowModel", "spanOf", "(I)I"⟩, 27) := ⟨⟨by decide +kernel, by decide +kernel⟩, List.mem_of_getElem? (i := 784) (by decide +kernel), List.mem_of_getElem? (i := 1066) (by decide +kernel), List.mem_of_getElem? (i := 1067) (by decide +kernel)⟩
theorem lw_p50 : lw_okq (⟨"ThreeBelowModel", "worthIn", "(III)I"⟩, 27) := ⟨⟨by decide +kernel, by decide +kernel⟩, List.mem_of_getElem? (i := 784) (by decide +kernel), List.mem_of_getElem? (i := 1074) (by decide +kernel), List.mem_of_getElem? (i := 1075) (by decide +kernel)⟩
theorem lw_p51 : lw_okq (⟨"ThreeBelowModel", "lays", "()I"⟩, 27) := ⟨⟨by decide +kernel, by decide +kernel⟩, List.mem_of_getElem? (i := 784) (by decide +kernel), List.mem_of_getElem? (i := 1112) (by decide +kernel), List.mem_of_getElem? (i := 1113) (by decide +kernel)⟩
theorem lw_p52 : lw_okq (⟨"ThreeBelowModel", "isSo", "(I)Z"⟩, 27) := ⟨⟨by decide +kernel, by decide +kernel⟩, List.mem_of_getElem? (i := 784) (by decide +kernel), List.mem_of_getElem? (i := 1116) (by decide +kernel), List.mem_of_getElem? (i := 1117) (by decide +kernel)⟩
def lw_privs_4 : List (MethodName × Nat) := [(⟨"ThreeBelowModel", "isStay", "(I)Z"⟩, 27), (⟨"ThreeBelowModel", "spanOf", "(I)I"⟩, 27), (⟨"ThreeBelowModel", "worthIn", "(III)I"⟩, 27), (⟨"ThreeBelowModel", "lays", "()I"⟩, 27), (⟨"ThreeBelowModel", "isSo", "(I)Z"⟩, 27)]
theorem lw_r4 : ∀ q ∈ lw_privs_4, lw_okq q := List.forall_mem_cons.mpr ⟨lw_p48, List.forall_mem_cons.mpr ⟨lw_p49, List.forall_mem_cons.mpr ⟨lw_p50, List.forall_mem_cons.mpr ⟨lw_p51, List.forall_mem_cons.mpr ⟨lw_p52, fun _ h => absurd h List.not_mem_nil⟩⟩⟩⟩⟩
def lw_privs : List (MethodName × Nat) := lw_privs_1 ++ (lw_privs_2 ++ (lw_privs_3 ++ (lw_privs_4)))
def lw_tbl : List Cond := k2_sels lw_privs ++ tables_1
theorem lw_privs_ok : ∀ q ∈ lw_privs, lw_okq q := by
  show ∀ q ∈ lw_privs_1 ++ (lw_privs_2 ++ (lw_privs_3 ++ (lw_privs_4))), lw_okq q
  exact List.forall_mem_append.mpr ⟨lw_r1, List.forall_mem_append.mpr ⟨lw_r2, List.forall_mem_append.mpr ⟨lw_r3, lw_r4⟩⟩⟩
end
section
/-! ===== BEGIN words of one list among another's, by their places ===== -/
theorem goodIn_r {big : List Cond} (ws : List Cond) (ps : List Nat) (hp : ws = ps.filterMap (fun i => big[i]?)) (h : ws.all goodWord = true) : GoodIn big ws := by
  intro w hw
  have h1 := List.all_eq_true.mp h w hw
  rw [hp] at hw
  obtain ⟨i, -, hi⟩ := List.mem_filterMap.mp hw
  have hm : w ∈ big := by first | exact List.mem_of_getElem? hi | exact List.getElem?_mem hi
  exact ⟨hm, good_of_word h1⟩
theorem goodIn_app {big a b : List Cond} (ha : GoodIn big a) (hb : GoodIn big b) : GoodIn big (a ++ b) := fun w h => (List.mem_append.mp h).elim (ha w) (hb w)
theorem goodIn_ca {big a b : List Cond} {c : Cond} (ha : GoodIn big (c :: a)) (hb : GoodIn big b) : GoodIn big (c :: (a ++ b)) := fun w h => (List.mem_cons.mp h).elim (fun e => ha w (List.mem_cons.mpr (Or.inl e))) (fun h => (List.mem_append.mp h).elim (fun h => ha w (List.mem_cons.mpr (Or.inr h))) (hb w))
theorem goodIn_sub {big ws : List Cond} (hm : ∀ w ∈ ws, w ∈ big) (h : ws.all goodWord = true) : GoodIn big ws := fun w hw => ⟨hm w hw, good_of_word (List.all_eq_true.mp h w hw)⟩
/-! ===== END ===== -/

/-! ===== BEGIN printed: names, fields, word lists, decode rows ===== -/
def RX0 : String := "ThreeBelow$Book"
def TX0 : u_T := fun k => match k with
  | 0 => ("ThreeBelow$Book", "who", "[I", true)
  | 1 => ("ThreeBelow$Book", "ages", "[I", true)
  | _ => ("ThreeBelow$Book", "count", "I", false)
def tyX0 : Nat → FieldType := fun k => match k with
  | 0 => .array .int
  | 1 => .array .int
  | _ => .int
abbrev wsX00 : List Cond := u_ws RX0 TX0 3
theorem nmX0 : ∀ a, a < 3 → ∀ b, b < 3 → a ≠ b → (TX0 a).2.1 ≠ (TX0 b).2.1 := by decide +kernel
theorem tyX0_ok : ∀ k, k < 3 → parseFieldDescriptor (TX0 k).2.2.1 = some (tyX0 k) := by decide +kernel
abbrev cX0_init : ByteArray := prog_2_method_1_code
def yX0_init : MethodName := ⟨RX0, "<init>", "()V"⟩
abbrev cX0_empty : ByteArray := prog_2_method_2_code
def yX0_empty : MethodName := ⟨RX0, "empty", "()V"⟩
abbrev cX0_add : ByteArray := prog_2_method_3_code
def yX0_add : MethodName := ⟨RX0, "add", "(II)V"⟩
abbrev cX0_firstWrong : ByteArray := prog_2_method_4_code
def yX0_firstWrong : MethodName := ⟨RX0, "firstWrong", "(LThreeBelow$Life;)I"⟩
def RX1 : String := "ThreeBelow$Finds"
def TX1 : u_T := fun k => match k with
  | 0 => ("ThreeBelow$Finds", "kinds", "[I", true)
  | 1 => ("ThreeBelow$Finds", "numbers", "[I", true)
  | 2 => ("ThreeBelow$Finds", "values", "[I", true)
  | 3 => ("ThreeBelow$Finds", "count", "I", false)
  | 4 => ("ThreeBelow$Finds", "worthThen", "[[I", true)
  | 5 => ("ThreeBelow$Finds", "isCounted", "Z", false)
  | 6 => ("ThreeBelow$Finds", "fit", "[I", true)
  | 7 => ("ThreeBelow$Finds", "fitting", "I", false)
  | _ => ("ThreeBelow$Finds", "isSought", "Z", false)
def tyX1 : Nat → FieldType := fun k => match k with
  | 0 => .array .int
  | 1 => .array .int
  | 2 => .array .int
  | 3 => .int
  | 4 => .array (.array .int)
  | 5 => .boolean
  | 6 => .array .int
  | 7 => .int
  | _ => .boolean
abbrev wsX10 : List Cond := u_ws RX1 TX1 9
theorem nmX1 : ∀ a, a < 9 → ∀ b, b < 9 → a ≠ b → (TX1 a).2.1 ≠ (TX1 b).2.1 := by decide +kernel
theorem tyX1_ok : ∀ k, k < 9 → parseFieldDescriptor (TX1 k).2.2.1 = some (tyX1 k) := by decide +kernel
abbrev cX1_init : ByteArray := prog_3_method_1_code
def yX1_init : MethodName := ⟨RX1, "<init>", "()V"⟩
abbrev cX1_beginAnew : ByteArray := prog_3_method_2_code
def yX1_beginAnew : MethodName := ⟨RX1, "beginAnew", "()V"⟩
abbrev cX1_empty : ByteArray := prog_3_method_3_code
def yX1_empty : MethodName := ⟨RX1, "empty", "()V"⟩
abbrev cX1_add : ByteArray := prog_3_method_4_code
def yX1_add : MethodName := ⟨RX1, "add", "(III)V"⟩
abbrev cX1_seek : ByteArray := prog_3_method_5_code
def yX1_seek : MethodName := ⟨RX1, "seek", "(LThreeBelow$Shore;)V"⟩
abbrev cX1_greatestPart : ByteArray := prog_3_method_6_code
def yX1_greatestPart : MethodName := ⟨RX1, "greatestPart", "(I)I"⟩
abbrev cX1_alikeFrom : ByteArray := prog_3_method_7_code
def yX1_alikeFrom : MethodName := ⟨RX1, "alikeFrom", "(II)I"⟩
abbrev cX1_fitsAll : ByteArray := prog_3_method_8_code
def yX1_fitsAll : MethodName := ⟨RX1, "fitsAll", "(LThreeBelow$Shore;II)Z"⟩
abbrev cX1_worthBy : ByteArray := prog_3_method_9_code
def yX1_worthBy : MethodName := ⟨RX1, "worthBy", "(II)I"⟩
abbrev cX1_countWorths : ByteArray := prog_3_method_10_code
def yX1_countWorths : MethodName := ⟨RX1, "countWorths", "(LThreeBelow$Shore;)V"⟩
def RX2 : String := "ThreeBelow$Images"
def TX2 : u_T := fun k => match k with
  | 0 => ("ThreeBelow$Images", "rows", "[[I", true)
  | 1 => ("ThreeBelow$Images", "seeds", "[I", true)
  | _ => ("ThreeBelow$Images", "isKept", "[Z", true)
def tyX2 : Nat → FieldType := fun k => match k with
  | 0 => .array (.array .int)
  | 1 => .array .int
  | _ => .array .boolean
abbrev wsX20 : List Cond := u_ws RX2 TX2 3
theorem nmX2 : ∀ a, a < 3 → ∀ b, b < 3 → a ≠ b → (TX2 a).2.1 ≠ (TX2 b).2.1 := by decide +kernel
theorem tyX2_ok : ∀ k, k < 3 → parseFieldDescriptor (TX2 k).2.2.1 = some (tyX2 k) := by decide +kernel
abbrev cX2_init : ByteArray := prog_4_method_1_code
def yX2_init : MethodName := ⟨RX2, "<init>", "()V"⟩
abbrev cX2_hasPlace : ByteArray := prog_4_method_2_code
def yX2_hasPlace : MethodName := ⟨RX2, "hasPlace", "(I)Z"⟩
abbrev cX2_forget : ByteArray := prog_4_method_3_code
def yX2_forget : MethodName := ⟨RX2, "forget", "()V"⟩
abbrev cX2_put : ByteArray := prog_4_method_4_code
def yX2_put : MethodName := ⟨RX2, "put", "(ILThreeBelow$Life;I)V"⟩
def RX3 : String := "ThreeBelow$Life"
def TX3 : u_T := fun k => match k with
  | _ => ("ThreeBelow$Life", "row", "[I", true)
def tyX3 : Nat → FieldType := fun k => match k with
  | _ => .array .int
abbrev wsX30 : List Cond := u_ws RX3 TX3 1
theorem nmX3 : ∀ a, a < 1 → ∀ b, b < 1 → a ≠ b → (TX3 a).2.1 ≠ (TX3 b).2.1 := by decide +kernel
theorem tyX3_ok : ∀ k, k < 1 → parseFieldDescriptor (TX3 k).2.2.1 = some (tyX3 k) := by decide +kernel
abbrev cX3_init : ByteArray := prog_5_method_1_code
def yX3_init : MethodName := ⟨RX3, "<init>", "()V"⟩
abbrev cX3_begin : ByteArray := prog_5_method_2_code
def yX3_begin : MethodName := ⟨RX3, "begin", "(LThreeBelow$Shore;)V"⟩
abbrev cX3_copyTo : ByteArray := prog_5_method_3_code
def yX3_copyTo : MethodName := ⟨RX3, "copyTo", "([I)V"⟩
abbrev cX3_copyFrom : ByteArray := prog_5_method_4_code
def yX3_copyFrom : MethodName := ⟨RX3, "copyFrom", "([I)V"⟩
abbrev cX3_years : ByteArray := prog_5_method_5_code
def yX3_years : MethodName := ⟨RX3, "years", "()I"⟩
abbrev cX3_age : ByteArray := prog_5_method_6_code
def yX3_age : MethodName := ⟨RX3, "age", "(I)I"⟩
abbrev cX3_place : ByteArray := prog_5_method_7_code
def yX3_place : MethodName := ⟨RX3, "place", "(I)I"⟩
abbrev cX3_box : ByteArray := prog_5_method_8_code
def yX3_box : MethodName := ⟨RX3, "box", "(I)I"⟩
abbrev cX3_worth : ByteArray := prog_5_method_9_code
def yX3_worth : MethodName := ⟨RX3, "worth", "(I)I"⟩
abbrev cX3_isAbove : ByteArray := prog_5_method_10_code
def yX3_isAbove : MethodName := ⟨RX3, "isAbove", "(I)Z"⟩
abbrev cX3_isBelow : ByteArray := prog_5_method_11_code
def yX3_isBelow : MethodName := ⟨RX3, "isBelow", "(I)Z"⟩
abbrev cX3_daysBelow : ByteArray := prog_5_method_12_code
def yX3_daysBelow : MethodName := ⟨RX3, "daysBelow", "(LThreeBelow$Shore;I)I"⟩
abbrev cX3_deadOnes : ByteArray := prog_5_method_13_code
def yX3_deadOnes : MethodName := ⟨RX3, "deadOnes", "(LThreeBelow$Shore;)I"⟩
abbrev cX3_stayersOf : ByteArray := prog_5_method_14_code
def yX3_stayersOf : MethodName := ⟨RX3, "stayersOf", "(LThreeBelow$Shore;I)I"⟩
abbrev cX3_passYears : ByteArray := prog_5_method_15_code
def yX3_passYears : MethodName := ⟨RX3, "passYears", "(LThreeBelow$Shore;I)V"⟩
abbrev cX3_goDown : ByteArray := prog_5_method_16_code
def yX3_goDown : MethodName := ⟨RX3, "goDown", "(II)V"⟩
abbrev cX3_comeUp : ByteArray := prog_5_method_17_code
def yX3_comeUp : MethodName := ⟨RX3, "comeUp", "(I)V"⟩
abbrev cX3_openBox : ByteArray := prog_5_method_18_code
def yX3_openBox : MethodName := ⟨RX3, "openBox", "(LThreeBelow$Shore;I)V"⟩
abbrev cX3_takeGood : ByteArray := prog_5_method_19_code
def yX3_takeGood : MethodName := ⟨RX3, "takeGood", "(I)V"⟩
abbrev cX3_buryIfOld : ByteArray := prog_5_method_20_code
def yX3_buryIfOld : MethodName := ⟨RX3, "buryIfOld", "(LThreeBelow$Shore;I)V"⟩
abbrev cX3_isPerson : ByteArray := prog_5_method_21_code
def yX3_isPerson : MethodName := ⟨RX3, "isPerson", "(I)Z"⟩
abbrev cX3_isGood : ByteArray := prog_5_method_22_code
def yX3_isGood : MethodName := ⟨RX3, "isGood", "(I)Z"⟩
def RX4 : String := "ThreeBelow$Past"
def TX4 : u_T := fun k => match k with
  | 0 => ("ThreeBelow$Past", "rows", "[[I", true)
  | 1 => ("ThreeBelow$Past", "next", "I", false)
  | _ => ("ThreeBelow$Past", "count", "I", false)
def tyX4 : Nat → FieldType := fun k => match k with
  | 0 => .array (.array .int)
  | 1 => .int
  | _ => .int
abbrev wsX40 : List Cond := u_ws RX4 TX4 3
theorem nmX4 : ∀ a, a < 3 → ∀ b, b < 3 → a ≠ b → (TX4 a).2.1 ≠ (TX4 b).2.1 := by decide +kernel
theorem tyX4_ok : ∀ k, k < 3 → parseFieldDescriptor (TX4 k).2.2.1 = some (tyX4 k) := by decide +kernel
abbrev cX4_init : ByteArray := prog_6_method_1_code
def yX4_init : MethodName := ⟨RX4, "<init>", "()V"⟩
abbrev cX4_forget : ByteArray := prog_6_method_2_code
def yX4_forget : MethodName := ⟨RX4, "forget", "()V"⟩
abbrev cX4_remember : ByteArray := prog_6_method_3_code
def yX4_remember : MethodName := ⟨RX4, "remember", "(LThreeBelow$Life;)V"⟩
abbrev cX4_bringBack : ByteArray := prog_6_method_4_code
def yX4_bringBack : MethodName := ⟨RX4, "bringBack", "(LThreeBelow$Life;)V"⟩
def RX5 : String := "ThreeBelow$Shore"
def TX5 : u_T := fun k => match k with
  | 0 => ("ThreeBelow$Shore", "law", "I", false)
  | 1 => ("ThreeBelow$Shore", "reign", "I", false)
  | 2 => ("ThreeBelow$Shore", "depths", "I", false)
  | 3 => ("ThreeBelow$Shore", "persons", "I", false)
  | 4 => ("ThreeBelow$Shore", "goods", "I", false)
  | 5 => ("ThreeBelow$Shore", "rate", "[I", true)
  | 6 => ("ThreeBelow$Shore", "toldAge", "[I", true)
  | 7 => ("ThreeBelow$Shore", "lifespan", "[I", true)
  | 8 => ("ThreeBelow$Shore", "toldWorth", "[I", true)
  | 9 => ("ThreeBelow$Shore", "change", "[I", true)
  | _ => ("ThreeBelow$Shore", "mostWorth", "[I", true)
def tyX5 : Nat → FieldType := fun k => match k with
  | 0 => .int
  | 1 => .int
  | 2 => .int
  | 3 => .int
  | 4 => .int
  | 5 => .array .int
  | 6 => .array .int
  | 7 => .array .int
  | 8 => .array .int
  | 9 => .array .int
  | _ => .array .int
abbrev wsX50 : List Cond := u_ws RX5 TX5 11
theorem nmX5 : ∀ a, a < 11 → ∀ b, b < 11 → a ≠ b → (TX5 a).2.1 ≠ (TX5 b).2.1 := by decide +kernel
theorem tyX5_ok : ∀ k, k < 11 → parseFieldDescriptor (TX5 k).2.2.1 = some (tyX5 k) := by decide +kernel
abbrev cX5_init : ByteArray := prog_7_method_1_code
def yX5_init : MethodName := ⟨RX5, "<init>", "()V"⟩
abbrev cX5_empty : ByteArray := prog_7_method_2_code
def yX5_empty : MethodName := ⟨RX5, "empty", "()V"⟩
abbrev cX5_isTold : ByteArray := prog_7_method_3_code
def yX5_isTold : MethodName := ⟨RX5, "isTold", "()Z"⟩
abbrev cX5_hasDepth : ByteArray := prog_7_method_4_code
def yX5_hasDepth : MethodName := ⟨RX5, "hasDepth", "(I)Z"⟩
abbrev cX5_hasPerson : ByteArray := prog_7_method_5_code
def yX5_hasPerson : MethodName := ⟨RX5, "hasPerson", "(I)Z"⟩
abbrev cX5_hasGood : ByteArray := prog_7_method_6_code
def yX5_hasGood : MethodName := ⟨RX5, "hasGood", "(I)Z"⟩
abbrev cX5_hasRoomFor : ByteArray := prog_7_method_7_code
def yX5_hasRoomFor : MethodName := ⟨RX5, "hasRoomFor", "(I)Z"⟩
abbrev cX5_add : ByteArray := prog_7_method_8_code
def yX5_add : MethodName := ⟨RX5, "add", "(IIII)V"⟩
abbrev cX5_kingAt : ByteArray := prog_7_method_9_code
def yX5_kingAt : MethodName := ⟨RX5, "kingAt", "(I)I"⟩
abbrev cX5_daysIn : ByteArray := prog_7_method_10_code
def yX5_daysIn : MethodName := ⟨RX5, "daysIn", "(II)I"⟩
abbrev cX5_worthNextYear : ByteArray := prog_7_method_11_code
def yX5_worthNextYear : MethodName := ⟨RX5, "worthNextYear", "(II)I"⟩
abbrev cX5_worthBehind : ByteArray := prog_7_method_12_code
def yX5_worthBehind : MethodName := ⟨RX5, "worthBehind", "(III)I"⟩
def RX6 : String := "ThreeBelow$ShoreText"
def TX6 : u_T := fun k => match k with
  | 0 => ("ThreeBelow$ShoreText", "signs", "[I", true)
  | 1 => ("ThreeBelow$ShoreText", "numbers", "[I", true)
  | 2 => ("ThreeBelow$ShoreText", "length", "I", false)
  | 3 => ("ThreeBelow$ShoreText", "at", "I", false)
  | 4 => ("ThreeBelow$ShoreText", "faultNumber", "I", false)
  | _ => ("ThreeBelow$ShoreText", "faultAt", "I", false)
def tyX6 : Nat → FieldType := fun k => match k with
  | 0 => .array .int
  | 1 => .array .int
  | 2 => .int
  | 3 => .int
  | 4 => .int
  | _ => .int
abbrev wsX60 : List Cond := u_ws RX6 TX6 6
theorem nmX6 : ∀ a, a < 6 → ∀ b, b < 6 → a ≠ b → (TX6 a).2.1 ≠ (TX6 b).2.1 := by decide +kernel
theorem tyX6_ok : ∀ k, k < 6 → parseFieldDescriptor (TX6 k).2.2.1 = some (tyX6 k) := by decide +kernel
abbrev cX6_init : ByteArray := prog_8_method_1_code
def yX6_init : MethodName := ⟨RX6, "<init>", "()V"⟩
abbrev cX6_add : ByteArray := prog_8_method_2_code
def yX6_add : MethodName := ⟨RX6, "add", "(I)V"⟩
abbrev cX6_empty : ByteArray := prog_8_method_3_code
def yX6_empty : MethodName := ⟨RX6, "empty", "()V"⟩
abbrev cX6_readInto : ByteArray := prog_8_method_4_code
def yX6_readInto : MethodName := ⟨RX6, "readInto", "(LThreeBelow$Shore;)V"⟩
abbrev cX6_readClauses : ByteArray := prog_8_method_5_code
def yX6_readClauses : MethodName := ⟨RX6, "readClauses", "(LThreeBelow$Shore;)V"⟩
abbrev cX6_readClause : ByteArray := prog_8_method_6_code
def yX6_readClause : MethodName := ⟨RX6, "readClause", "(LThreeBelow$Shore;)V"⟩
abbrev cX6_readNumber : ByteArray := prog_8_method_7_code
def yX6_readNumber : MethodName := ⟨RX6, "readNumber", "(II)V"⟩
abbrev cX6_readSemicolon : ByteArray := prog_8_method_8_code
def yX6_readSemicolon : MethodName := ⟨RX6, "readSemicolon", "()V"⟩
abbrev cX6_skipBlanks : ByteArray := prog_8_method_9_code
def yX6_skipBlanks : MethodName := ⟨RX6, "skipBlanks", "()V"⟩
abbrev cX6_here : ByteArray := prog_8_method_10_code
def yX6_here : MethodName := ⟨RX6, "here", "()I"⟩
abbrev cX6_isFigure : ByteArray := prog_8_method_11_code
def yX6_isFigure : MethodName := ⟨RX6, "isFigure", "(I)Z"⟩
abbrev cX6_blame : ByteArray := prog_8_method_12_code
def yX6_blame : MethodName := ⟨RX6, "blame", "(II)V"⟩
def RX7 : String := "ThreeBelow"
def TX7 : u_T := fun k => match k with
  | 0 => ("ThreeBelow", "text", "LThreeBelow$ShoreText;", true)
  | 1 => ("ThreeBelow", "land", "LThreeBelow$Shore;", false)
  | 2 => ("ThreeBelow", "draft", "LThreeBelow$Shore;", false)
  | 3 => ("ThreeBelow", "life", "LThreeBelow$Life;", true)
  | 4 => ("ThreeBelow", "past", "LThreeBelow$Past;", true)
  | 5 => ("ThreeBelow", "images", "LThreeBelow$Images;", true)
  | 6 => ("ThreeBelow", "finds", "LThreeBelow$Finds;", true)
  | 7 => ("ThreeBelow", "book", "LThreeBelow$Book;", true)
  | _ => ("ThreeBelow", "seedNow", "I", false)
def tyX7 : Nat → FieldType := fun k => match k with
  | 0 => .object "ThreeBelow$ShoreText"
  | 1 => .object "ThreeBelow$Shore"
  | 2 => .object "ThreeBelow$Shore"
  | 3 => .object "ThreeBelow$Life"
  | 4 => .object "ThreeBelow$Past"
  | 5 => .object "ThreeBelow$Images"
  | 6 => .object "ThreeBelow$Finds"
  | 7 => .object "ThreeBelow$Book"
  | _ => .int
abbrev wsX70 : List Cond := u_ws RX7 TX7 9
theorem nmX7 : ∀ a, a < 9 → ∀ b, b < 9 → a ≠ b → (TX7 a).2.1 ≠ (TX7 b).2.1 := by decide +kernel
theorem tyX7_ok : ∀ k, k < 9 → parseFieldDescriptor (TX7 k).2.2.1 = some (tyX7 k) := by decide +kernel
abbrev cX7_init : ByteArray := prog_1_method_1_code
def yX7_init : MethodName := ⟨RX7, "<init>", "()V"⟩
abbrev cX7_feed : ByteArray := prog_1_method_2_code
def yX7_feed : MethodName := ⟨RX7, "feed", "(I)I"⟩
abbrev cX7_shore : ByteArray := prog_1_method_3_code
def yX7_shore : MethodName := ⟨RX7, "shore", "()I"⟩
abbrev cX7_fault : ByteArray := prog_1_method_4_code
def yX7_fault : MethodName := ⟨RX7, "fault", "()I"⟩
abbrev cX7_told : ByteArray := prog_1_method_5_code
def yX7_told : MethodName := ⟨RX7, "told", "(I)I"⟩
abbrev cX7_depth : ByteArray := prog_1_method_6_code
def yX7_depth : MethodName := ⟨RX7, "depth", "(I)I"⟩
abbrev cX7_person : ByteArray := prog_1_method_7_code
def yX7_person : MethodName := ⟨RX7, "person", "(II)I"⟩
abbrev cX7_good : ByteArray := prog_1_method_8_code
def yX7_good : MethodName := ⟨RX7, "good", "(II)I"⟩
abbrev cX7_year : ByteArray := prog_1_method_9_code
def yX7_year : MethodName := ⟨RX7, "year", "(I)I"⟩
abbrev cX7_down : ByteArray := prog_1_method_10_code
def yX7_down : MethodName := ⟨RX7, "down", "(II)I"⟩
abbrev cX7_up : ByteArray := prog_1_method_11_code
def yX7_up : MethodName := ⟨RX7, "up", "(I)I"⟩
abbrev cX7_open : ByteArray := prog_1_method_12_code
def yX7_open : MethodName := ⟨RX7, "open", "(I)I"⟩
abbrev cX7_take : ByteArray := prog_1_method_13_code
def yX7_take : MethodName := ⟨RX7, "take", "(I)I"⟩
abbrev cX7_drift : ByteArray := prog_1_method_14_code
def yX7_drift : MethodName := ⟨RX7, "drift", "(I)I"⟩
abbrev cX7_undo : ByteArray := prog_1_method_15_code
def yX7_undo : MethodName := ⟨RX7, "undo", "()I"⟩
abbrev cX7_refuseYears : ByteArray := prog_1_method_16_code
def yX7_refuseYears : MethodName := ⟨RX7, "refuseYears", "(II)I"⟩
abbrev cX7_refuseUnlessAbove : ByteArray := prog_1_method_17_code
def yX7_refuseUnlessAbove : MethodName := ⟨RX7, "refuseUnlessAbove", "(I)I"⟩
abbrev cX7_areTwoPersons : ByteArray := prog_1_method_18_code
def yX7_areTwoPersons : MethodName := ⟨RX7, "areTwoPersons", "(II)Z"⟩
abbrev cX7_driftOne : ByteArray := prog_1_method_19_code
def yX7_driftOne : MethodName := ⟨RX7, "driftOne", "()V"⟩
abbrev cX7_draw : ByteArray := prog_1_method_20_code
def yX7_draw : MethodName := ⟨RX7, "draw", "(I)I"⟩
abbrev cX7_meet : ByteArray := prog_1_method_21_code
def yX7_meet : MethodName := ⟨RX7, "meet", "(IIIII)I"⟩
abbrev cX7_both : ByteArray := prog_1_method_22_code
def yX7_both : MethodName := ⟨RX7, "both", "(III)I"⟩
abbrev cX7_bothBy : ByteArray := prog_1_method_23_code
def yX7_bothBy : MethodName := ⟨RX7, "bothBy", "(IIII)I"⟩
abbrev cX7_yearsOfStay : ByteArray := prog_1_method_24_code
def yX7_yearsOfStay : MethodName := ⟨RX7, "yearsOfStay", "(I)I"⟩
abbrev cX7_figuresOfStay : ByteArray := prog_1_method_25_code
def yX7_figuresOfStay : MethodName := ⟨RX7, "figuresOfStay", "(I)I"⟩
abbrev cX7_leave : ByteArray := prog_1_method_26_code
def yX7_leave : MethodName := ⟨RX7, "leave", "(II)I"⟩
abbrev cX7_when : ByteArray := prog_1_method_27_code
def yX7_when : MethodName := ⟨RX7, "when", "(II)I"⟩
abbrev cX7_letters : ByteArray := prog_1_method_28_code
def yX7_letters : MethodName := ⟨RX7, "letters", "(II)I"⟩
abbrev cX7_wouldOpen : ByteArray := prog_1_method_29_code
def yX7_wouldOpen : MethodName := ⟨RX7, "wouldOpen", "(I)I"⟩
abbrev cX7_yearsLeft : ByteArray := prog_1_method_30_code
def yX7_yearsLeft : MethodName := ⟨RX7, "yearsLeft", "(I)I"⟩
abbrev cX7_latest : ByteArray := prog_1_method_31_code
def yX7_latest : MethodName := ⟨RX7, "latest", "()I"⟩
abbrev cX7_storm : ByteArray := prog_1_method_32_code
def yX7_storm : MethodName := ⟨RX7, "storm", "(II)I"⟩
abbrev cX7_find : ByteArray := prog_1_method_33_code
def yX7_find : MethodName := ⟨RX7, "find", "(III)I"⟩
abbrev cX7_stays : ByteArray := prog_1_method_34_code
def yX7_stays : MethodName := ⟨RX7, "stays", "(I)I"⟩
abbrev cX7_ask : ByteArray := prog_1_method_35_code
def yX7_ask : MethodName := ⟨RX7, "ask", "()I"⟩
abbrev cX7_write : ByteArray := prog_1_method_36_code
def yX7_write : MethodName := ⟨RX7, "write", "(II)I"⟩
abbrev cX7_tear : ByteArray := prog_1_method_37_code
def yX7_tear : MethodName := ⟨RX7, "tear", "()I"⟩
abbrev cX7_judge : ByteArray := prog_1_method_38_code
def yX7_judge : MethodName := ⟨RX7, "judge", "()I"⟩
abbrev cX7_seed : ByteArray := prog_1_method_39_code
def yX7_seed : MethodName := ⟨RX7, "seed", "(I)I"⟩
abbrev cX7_keep : ByteArray := prog_1_method_40_code
def yX7_keep : MethodName := ⟨RX7, "keep", "(I)I"⟩
abbrev cX7_goBack : ByteArray := prog_1_method_41_code
def yX7_goBack : MethodName := ⟨RX7, "goBack", "(I)I"⟩
def RX8 : String := "ThreeBelowModel"
def TX8 : u_T := fun k => match k with
  | 0 => ("ThreeBelowModel", "text", "[I", true)
  | 1 => ("ThreeBelowModel", "letters", "I", false)
  | 2 => ("ThreeBelowModel", "faultAt", "I", false)
  | 3 => ("ThreeBelowModel", "law", "[I", true)
  | 4 => ("ThreeBelowModel", "depths", "[I", true)
  | 5 => ("ThreeBelowModel", "people", "[I", true)
  | 6 => ("ThreeBelowModel", "goods", "[I", true)
  | 7 => ("ThreeBelowModel", "draftLaw", "[I", true)
  | 8 => ("ThreeBelowModel", "draftDepths", "[I", true)
  | 9 => ("ThreeBelowModel", "draftPeople", "[I", true)
  | 10 => ("ThreeBelowModel", "draftGoods", "[I", true)
  | 11 => ("ThreeBelowModel", "now", "[I", true)
  | 12 => ("ThreeBelowModel", "past", "[I", true)
  | 13 => ("ThreeBelowModel", "deeds", "I", false)
  | 14 => ("ThreeBelowModel", "images", "[I", true)
  | 15 => ("ThreeBelowModel", "imageSeeds", "[I", true)
  | 16 => ("ThreeBelowModel", "kept", "[Z", true)
  | 17 => ("ThreeBelowModel", "seed", "I", false)
  | 18 => ("ThreeBelowModel", "found", "[I", true)
  | 19 => ("ThreeBelowModel", "finds", "I", false)
  | 20 => ("ThreeBelowModel", "book", "[I", true)
  | 21 => ("ThreeBelowModel", "entries", "I", false)
  | 22 => ("ThreeBelowModel", "at", "I", false)
  | 23 => ("ThreeBelowModel", "wrong", "I", false)
  | 24 => ("ThreeBelowModel", "worths", "[I", true)
  | 25 => ("ThreeBelowModel", "stays", "[I", true)
  | _ => ("ThreeBelowModel", "by", "[I", true)
def tyX8 : Nat → FieldType := fun k => match k with
  | 0 => .array .int
  | 1 => .int
  | 2 => .int
  | 3 => .array .int
  | 4 => .array .int
  | 5 => .array .int
  | 6 => .array .int
  | 7 => .array .int
  | 8 => .array .int
  | 9 => .array .int
  | 10 => .array .int
  | 11 => .array .int
  | 12 => .array .int
  | 13 => .int
  | 14 => .array .int
  | 15 => .array .int
  | 16 => .array .boolean
  | 17 => .int
  | 18 => .array .int
  | 19 => .int
  | 20 => .array .int
  | 21 => .int
  | 22 => .int
  | 23 => .int
  | 24 => .array .int
  | 25 => .array .int
  | _ => .array .int
abbrev wsX80 : List Cond := u_ws RX8 TX8 27
theorem nmX8 : ∀ a, a < 27 → ∀ b, b < 27 → a ≠ b → (TX8 a).2.1 ≠ (TX8 b).2.1 := by decide +kernel
theorem tyX8_ok : ∀ k, k < 27 → parseFieldDescriptor (TX8 k).2.2.1 = some (tyX8 k) := by decide +kernel
abbrev cX8_init : ByteArray := prog_10_method_1_code
def yX8_init : MethodName := ⟨RX8, "<init>", "()V"⟩
abbrev cX8_in : ByteArray := prog_10_method_3_code
def yX8_in : MethodName := ⟨RX8, "in", "(III)Z"⟩
abbrev cX8_feed : ByteArray := prog_10_method_4_code
def yX8_feed : MethodName := ⟨RX8, "feed", "(I)I"⟩
abbrev cX8_look : ByteArray := prog_10_method_5_code
def yX8_look : MethodName := ⟨RX8, "look", "()I"⟩
abbrev cX8_skips : ByteArray := prog_10_method_6_code
def yX8_skips : MethodName := ⟨RX8, "skips", "()V"⟩
abbrev cX8_fails : ByteArray := prog_10_method_7_code
def yX8_fails : MethodName := ⟨RX8, "fails", "(I)V"⟩
abbrev cX8_stops : ByteArray := prog_10_method_8_code
def yX8_stops : MethodName := ⟨RX8, "stops", "()V"⟩
abbrev cX8_number : ByteArray := prog_10_method_9_code
def yX8_number : MethodName := ⟨RX8, "number", "(II)I"⟩
abbrev cX8_opens : ByteArray := prog_10_method_10_code
def yX8_opens : MethodName := ⟨RX8, "opens", "(II)Z"⟩
abbrev cX8_readsLaw : ByteArray := prog_10_method_11_code
def yX8_readsLaw : MethodName := ⟨RX8, "readsLaw", "()V"⟩
abbrev cX8_readsDepth : ByteArray := prog_10_method_12_code
def yX8_readsDepth : MethodName := ⟨RX8, "readsDepth", "()V"⟩
abbrev cX8_readsPerson : ByteArray := prog_10_method_13_code
def yX8_readsPerson : MethodName := ⟨RX8, "readsPerson", "()V"⟩
abbrev cX8_readsGood : ByteArray := prog_10_method_14_code
def yX8_readsGood : MethodName := ⟨RX8, "readsGood", "()V"⟩
abbrev cX8_reads : ByteArray := prog_10_method_15_code
def yX8_reads : MethodName := ⟨RX8, "reads", "()V"⟩
abbrev cX8_copies : ByteArray := prog_10_method_16_code
def yX8_copies : MethodName := ⟨RX8, "copies", "([I[II)V"⟩
abbrev cX8_shore : ByteArray := prog_10_method_17_code
def yX8_shore : MethodName := ⟨RX8, "shore", "()I"⟩
abbrev cX8_fault : ByteArray := prog_10_method_18_code
def yX8_fault : MethodName := ⟨RX8, "fault", "()I"⟩
abbrev cX8_isShore : ByteArray := prog_10_method_19_code
def yX8_isShore : MethodName := ⟨RX8, "isShore", "()Z"⟩
abbrev cX8_isDepth : ByteArray := prog_10_method_20_code
def yX8_isDepth : MethodName := ⟨RX8, "isDepth", "(I)Z"⟩
abbrev cX8_isPerson : ByteArray := prog_10_method_21_code
def yX8_isPerson : MethodName := ⟨RX8, "isPerson", "(I)Z"⟩
abbrev cX8_isGood : ByteArray := prog_10_method_22_code
def yX8_isGood : MethodName := ⟨RX8, "isGood", "(I)Z"⟩
abbrev cX8_isAbove : ByteArray := prog_10_method_23_code
def yX8_isAbove : MethodName := ⟨RX8, "isAbove", "(I)Z"⟩
abbrev cX8_isBelow : ByteArray := prog_10_method_24_code
def yX8_isBelow : MethodName := ⟨RX8, "isBelow", "(I)Z"⟩
abbrev cX8_end : ByteArray := prog_10_method_25_code
def yX8_end : MethodName := ⟨RX8, "end", "(I)I"⟩
abbrev cX8_who : ByteArray := prog_10_method_26_code
def yX8_who : MethodName := ⟨RX8, "who", "(I)I"⟩
abbrev cX8_told : ByteArray := prog_10_method_27_code
def yX8_told : MethodName := ⟨RX8, "told", "(I)I"⟩
abbrev cX8_depth : ByteArray := prog_10_method_28_code
def yX8_depth : MethodName := ⟨RX8, "depth", "(I)I"⟩
abbrev cX8_daysOf : ByteArray := prog_10_method_29_code
def yX8_daysOf : MethodName := ⟨RX8, "daysOf", "(I)I"⟩
abbrev cX8_person : ByteArray := prog_10_method_30_code
def yX8_person : MethodName := ⟨RX8, "person", "(II)I"⟩
abbrev cX8_good : ByteArray := prog_10_method_31_code
def yX8_good : MethodName := ⟨RX8, "good", "(II)I"⟩
abbrev cX8_notes : ByteArray := prog_10_method_32_code
def yX8_notes : MethodName := ⟨RX8, "notes", "()V"⟩
abbrev cX8_later : ByteArray := prog_10_method_33_code
def yX8_later : MethodName := ⟨RX8, "later", "(II)I"⟩
abbrev cX8_passes : ByteArray := prog_10_method_34_code
def yX8_passes : MethodName := ⟨RX8, "passes", "()V"⟩
abbrev cX8_barred : ByteArray := prog_10_method_35_code
def yX8_barred : MethodName := ⟨RX8, "barred", "(II)I"⟩
abbrev cX8_year : ByteArray := prog_10_method_36_code
def yX8_year : MethodName := ⟨RX8, "year", "(I)I"⟩
abbrev cX8_descends : ByteArray := prog_10_method_37_code
def yX8_descends : MethodName := ⟨RX8, "descends", "(II)V"⟩
abbrev cX8_down : ByteArray := prog_10_method_38_code
def yX8_down : MethodName := ⟨RX8, "down", "(II)I"⟩
abbrev cX8_ascends : ByteArray := prog_10_method_39_code
def yX8_ascends : MethodName := ⟨RX8, "ascends", "(I)V"⟩
abbrev cX8_up : ByteArray := prog_10_method_40_code
def yX8_up : MethodName := ⟨RX8, "up", "(I)I"⟩
abbrev cX8_open : ByteArray := prog_10_method_41_code
def yX8_open : MethodName := ⟨RX8, "open", "(I)I"⟩
abbrev cX8_take : ByteArray := prog_10_method_42_code
def yX8_take : MethodName := ⟨RX8, "take", "(I)I"⟩
abbrev cX8_draw : ByteArray := prog_10_method_43_code
def yX8_draw : MethodName := ⟨RX8, "draw", "(I)I"⟩
abbrev cX8_drift : ByteArray := prog_10_method_44_code
def yX8_drift : MethodName := ⟨RX8, "drift", "(I)I"⟩
abbrev cX8_undo : ByteArray := prog_10_method_45_code
def yX8_undo : MethodName := ⟨RX8, "undo", "()I"⟩
abbrev cX8_off : ByteArray := prog_10_method_46_code
def yX8_off : MethodName := ⟨RX8, "off", "(II)I"⟩
abbrev cX8_meet : ByteArray := prog_10_method_47_code
def yX8_meet : MethodName := ⟨RX8, "meet", "(IIIII)I"⟩
abbrev cX8_spanOf : ByteArray := prog_10_method_48_code
def yX8_spanOf : MethodName := ⟨RX8, "spanOf", "(I)I"⟩
abbrev cX8_isStay : ByteArray := prog_10_method_49_code
def yX8_isStay : MethodName := ⟨RX8, "isStay", "(I)Z"⟩
abbrev cX8_both : ByteArray := prog_10_method_50_code
def yX8_both : MethodName := ⟨RX8, "both", "(III)I"⟩
abbrev cX8_worthIn : ByteArray := prog_10_method_51_code
def yX8_worthIn : MethodName := ⟨RX8, "worthIn", "(III)I"⟩
abbrev cX8_leave : ByteArray := prog_10_method_52_code
def yX8_leave : MethodName := ⟨RX8, "leave", "(II)I"⟩
abbrev cX8_when : ByteArray := prog_10_method_53_code
def yX8_when : MethodName := ⟨RX8, "when", "(II)I"⟩
abbrev cX8_letters : ByteArray := prog_10_method_54_code
def yX8_letters : MethodName := ⟨RX8, "letters", "(II)I"⟩
abbrev cX8_wouldOpen : ByteArray := prog_10_method_55_code
def yX8_wouldOpen : MethodName := ⟨RX8, "wouldOpen", "(I)I"⟩
abbrev cX8_yearsLeft : ByteArray := prog_10_method_56_code
def yX8_yearsLeft : MethodName := ⟨RX8, "yearsLeft", "(I)I"⟩
abbrev cX8_latest : ByteArray := prog_10_method_57_code
def yX8_latest : MethodName := ⟨RX8, "latest", "()I"⟩
abbrev cX8_storm : ByteArray := prog_10_method_58_code
def yX8_storm : MethodName := ⟨RX8, "storm", "(II)I"⟩
abbrev cX8_find : ByteArray := prog_10_method_59_code
def yX8_find : MethodName := ⟨RX8, "find", "(III)I"⟩
abbrev cX8_isSo : ByteArray := prog_10_method_60_code
def yX8_isSo : MethodName := ⟨RX8, "isSo", "(I)Z"⟩
abbrev cX8_lays : ByteArray := prog_10_method_61_code
def yX8_lays : MethodName := ⟨RX8, "lays", "()I"⟩
abbrev cX8_stays : ByteArray := prog_10_method_62_code
def yX8_stays : MethodName := ⟨RX8, "stays", "(I)I"⟩
abbrev cX8_ask : ByteArray := prog_10_method_63_code
def yX8_ask : MethodName := ⟨RX8, "ask", "()I"⟩
abbrev cX8_write : ByteArray := prog_10_method_64_code
def yX8_write : MethodName := ⟨RX8, "write", "(II)I"⟩
abbrev cX8_tear : ByteArray := prog_10_method_65_code
def yX8_tear : MethodName := ⟨RX8, "tear", "()I"⟩
abbrev cX8_judge : ByteArray := prog_10_method_66_code
def yX8_judge : MethodName := ⟨RX8, "judge", "()I"⟩
abbrev cX8_seed : ByteArray := prog_10_method_67_code
def yX8_seed : MethodName := ⟨RX8, "seed", "(I)I"⟩
abbrev cX8_keep : ByteArray := prog_10_method_68_code
def yX8_keep : MethodName := ⟨RX8, "keep", "(I)I"⟩
abbrev cX8_goBack : ByteArray := prog_10_method_69_code
def yX8_goBack : MethodName := ⟨RX8, "goBack", "(I)I"⟩
def RJ11 : String := "java/lang/Character"
def TJ11 : u_T := fun k => match k with
  | _ => ("", "", "", false)
def tyJ11 : Nat → FieldType := fun k => match k with
  | _ => .int
abbrev wsJ110 : List Cond := u_ws RJ11 TJ11 0
theorem nmJ11 : ∀ a, a < 0 → ∀ b, b < 0 → a ≠ b → (TJ11 a).2.1 ≠ (TJ11 b).2.1 := by decide +kernel
theorem tyJ11_ok : ∀ k, k < 0 → parseFieldDescriptor (TJ11 k).2.2.1 = some (tyJ11 k) := by decide +kernel
abbrev cJ11_isValidCodePoint_9a6ad : ByteArray := prog_11_method_11_code
def yJ11_isValidCodePoint_9a6ad : MethodName := ⟨RJ11, "isValidCodePoint", "(I)Z"⟩
abbrev cJ11_highSurrogate_5068e : ByteArray := prog_11_method_28_code
def yJ11_highSurrogate_5068e : MethodName := ⟨RJ11, "highSurrogate", "(I)C"⟩
abbrev cJ11_lowSurrogate_5068e : ByteArray := prog_11_method_29_code
def yJ11_lowSurrogate_5068e : MethodName := ⟨RJ11, "lowSurrogate", "(I)C"⟩
def RJ9 : String := "java/lang/Math"
def TJ9 : u_T := fun k => match k with
  | _ => ("", "", "", false)
def tyJ9 : Nat → FieldType := fun k => match k with
  | _ => .int
abbrev wsJ90 : List Cond := u_ws RJ9 TJ9 0
theorem nmJ9 : ∀ a, a < 0 → ∀ b, b < 0 → a ≠ b → (TJ9 a).2.1 ≠ (TJ9 b).2.1 := by decide +kernel
theorem tyJ9_ok : ∀ k, k < 0 → parseFieldDescriptor (TJ9 k).2.2.1 = some (tyJ9 k) := by decide +kernel
abbrev cJ9_abs_0f7a4 : ByteArray := prog_12_method_59_code
def yJ9_abs_0f7a4 : MethodName := ⟨RJ9, "abs", "(I)I"⟩
abbrev cJ9_max_7cf53 : ByteArray := prog_12_method_65_code
def yJ9_max_7cf53 : MethodName := ⟨RJ9, "max", "(II)I"⟩
abbrev cJ9_min_7cf53 : ByteArray := prog_12_method_69_code
def yJ9_min_7cf53 : MethodName := ⟨RJ9, "min", "(II)I"⟩
def RJ0 : String := "java/lang/String"
def TJ0 : u_T := fun k => match k with
  | _ => ("", "", "", false)
def tyJ0 : Nat → FieldType := fun k => match k with
  | _ => .int
abbrev wsJ00 : List Cond := u_ws RJ0 TJ0 0
theorem nmJ0 : ∀ a, a < 0 → ∀ b, b < 0 → a ≠ b → (TJ0 a).2.1 ≠ (TJ0 b).2.1 := by decide +kernel
theorem tyJ0_ok : ∀ k, k < 0 → parseFieldDescriptor (TJ0 k).2.2.1 = some (tyJ0 k) := by decide +kernel
abbrev cJ0_length_8abf5 : ByteArray := prog_13_method_54_code
def yJ0_length_8abf5 : MethodName := ⟨RJ0, "length", "()I"⟩
abbrev cJ0_indexOf_0f7a4 : ByteArray := prog_13_method_79_code
def yJ0_indexOf_0f7a4 : MethodName := ⟨RJ0, "indexOf", "(I)I"⟩
abbrev cJ0_indexOf_7cf53 : ByteArray := prog_13_method_80_code
def yJ0_indexOf_7cf53 : MethodName := ⟨RJ0, "indexOf", "(II)I"⟩
abbrev cJ0_coder_7d493 : ByteArray := prog_13_method_152_code
def yJ0_coder_7d493 : MethodName := ⟨RJ0, "coder", "()B"⟩
abbrev cJ0_isLatin1_aae02 : ByteArray := prog_13_method_154_code
def yJ0_isLatin1_aae02 : MethodName := ⟨RJ0, "isLatin1", "()Z"⟩
abbrev cJ0_checkBoundsBeginEnd_23922 : ByteArray := prog_13_method_158_code
def yJ0_checkBoundsBeginEnd_23922 : MethodName := ⟨RJ0, "checkBoundsBeginEnd", "(III)V"⟩
def RJ1 : String := "java/lang/StringLatin1"
def TJ1 : u_T := fun k => match k with
  | _ => ("", "", "", false)
def tyJ1 : Nat → FieldType := fun k => match k with
  | _ => .int
abbrev wsJ10 : List Cond := u_ws RJ1 TJ1 0
theorem nmJ1 : ∀ a, a < 0 → ∀ b, b < 0 → a ≠ b → (TJ1 a).2.1 ≠ (TJ1 b).2.1 := by decide +kernel
theorem tyJ1_ok : ∀ k, k < 0 → parseFieldDescriptor (TJ1 k).2.2.1 = some (tyJ1 k) := by decide +kernel
abbrev cJ1_canEncode_9a6ad : ByteArray := prog_14_method_4_code
def yJ1_canEncode_9a6ad : MethodName := ⟨RJ1, "canEncode", "(I)Z"⟩
abbrev cJ1_indexOf_4cfef : ByteArray := prog_14_method_22_code
def yJ1_indexOf_4cfef : MethodName := ⟨RJ1, "indexOf", "([BIII)I"⟩
abbrev cJ1_indexOfChar_4cfef : ByteArray := prog_14_method_23_code
def yJ1_indexOfChar_4cfef : MethodName := ⟨RJ1, "indexOfChar", "([BIII)I"⟩
def RJ2 : String := "java/lang/StringUTF16"
def TJ2 : u_T := fun k => match k with
  | _ => ("", "", "", false)
def tyJ2 : Nat → FieldType := fun k => match k with
  | _ => .int
abbrev wsJ20 : List Cond := u_ws RJ2 TJ2 0
theorem nmJ2 : ∀ a, a < 0 → ∀ b, b < 0 → a ≠ b → (TJ2 a).2.1 ≠ (TJ2 b).2.1 := by decide +kernel
theorem tyJ2_ok : ∀ k, k < 0 → parseFieldDescriptor (TJ2 k).2.2.1 = some (tyJ2 k) := by decide +kernel
abbrev cJ2_getChar_3b067 : ByteArray := prog_15_method_5_code
def yJ2_getChar_3b067 : MethodName := ⟨RJ2, "getChar", "([BI)C"⟩
abbrev cJ2_length_9d52b : ByteArray := prog_15_method_6_code
def yJ2_length_9d52b : MethodName := ⟨RJ2, "length", "([B)I"⟩
abbrev cJ2_indexOf_4cfef : ByteArray := prog_15_method_40_code
def yJ2_indexOf_4cfef : MethodName := ⟨RJ2, "indexOf", "([BIII)I"⟩
abbrev cJ2_indexOfChar_4cfef : ByteArray := prog_15_method_47_code
def yJ2_indexOfChar_4cfef : MethodName := ⟨RJ2, "indexOfChar", "([BIII)I"⟩
abbrev cJ2_indexOfCharUnsafe_4cfef : ByteArray := prog_15_method_48_code
def yJ2_indexOfCharUnsafe_4cfef : MethodName := ⟨RJ2, "indexOfCharUnsafe", "([BIII)I"⟩
abbrev cJ2_indexOfSupplementary_4cfef : ByteArray := prog_15_method_49_code
def yJ2_indexOfSupplementary_4cfef : MethodName := ⟨RJ2, "indexOfSupplementary", "([BIII)I"⟩
abbrev cJ2_checkBoundsBeginEnd_d044e : ByteArray := prog_15_method_93_code
def yJ2_checkBoundsBeginEnd_d044e : MethodName := ⟨RJ2, "checkBoundsBeginEnd", "(II[B)V"⟩
def RJ10 : String := "java/lang/System"
def TJ10 : u_T := fun k => match k with
  | _ => ("", "", "", false)
def tyJ10 : Nat → FieldType := fun k => match k with
  | _ => .int
abbrev wsJ100 : List Cond := u_ws RJ10 TJ10 0
theorem nmJ10 : ∀ a, a < 0 → ∀ b, b < 0 → a ≠ b → (TJ10 a).2.1 ≠ (TJ10 b).2.1 := by decide +kernel
theorem tyJ10_ok : ∀ k, k < 0 → parseFieldDescriptor (TJ10 k).2.2.1 = some (tyJ10 k) := by decide +kernel
def RJ3 : String := "jdk/internal/util/Preconditions"
def TJ3 : u_T := fun k => match k with
  | _ => ("", "", "", false)
def tyJ3 : Nat → FieldType := fun k => match k with
  | _ => .int
abbrev wsJ30 : List Cond := u_ws RJ3 TJ3 0
theorem nmJ3 : ∀ a, a < 0 → ∀ b, b < 0 → a ≠ b → (TJ3 a).2.1 ≠ (TJ3 b).2.1 := by decide +kernel
theorem tyJ3_ok : ∀ k, k < 0 → parseFieldDescriptor (TJ3 k).2.2.1 = some (tyJ3 k) := by decide +kernel
abbrev cJ3_checkFromToIndex_8c36e : ByteArray := prog_17_method_12_code
def yJ3_checkFromToIndex_8c36e : MethodName := ⟨RJ3, "checkFromToIndex", "(IIILjava/util/function/BiFunction;)I"⟩
def RL : String := "ThreeBelowLaw"
def wsX0_init : List Cond := .code yX0_init cX0_init 1 none :: ([.methodLink RX0 3 objectInit, .instanceMethod objectInit, .code objectInit ⟨#[0xb1]⟩ 1 none, .arrayClass .int, .fieldLink RX0 11 "ThreeBelow$Book" "who" "[I", .fieldLink RX0 15 "ThreeBelow$Book" "ages" "[I"] ++ wsX00)
def wsX0_empty : List Cond := .code yX0_empty cX0_empty 1 none :: ([.fieldLink RX0 18 "ThreeBelow$Book" "count" "I"] ++ wsX00)
def wsX0_add : List Cond := .code yX0_add cX0_add 3 none :: ([.fieldLink RX0 18 "ThreeBelow$Book" "count" "I", .fieldLink RX0 11 "ThreeBelow$Book" "who" "[I", .fieldLink RX0 15 "ThreeBelow$Book" "ages" "[I"] ++ wsX00)
def wsX3_isPerson : List Cond := .code yX3_isPerson cX3_isPerson 1 (some .boolean) :: ([])
def wsX3_age : List Cond := .code yX3_age cX3_age 2 (some .int) :: ([.fieldLink RX3 11 "ThreeBelow$Life" "row" "[I", .methodLink RX3 46 yX3_isPerson, .static yX3_isPerson, .initialized RX3, .code yX3_isPerson cX3_isPerson 1 (some .boolean)] ++ wsX30)
def wsX0_firstWrong : List Cond := .code yX0_firstWrong cX0_firstWrong 3 (some .int) :: ([.fieldLink RX0 18 "ThreeBelow$Book" "count" "I", .fieldLink RX0 11 "ThreeBelow$Book" "who" "[I", .fieldLink RX0 15 "ThreeBelow$Book" "ages" "[I", .methodLink RX0 22 yX3_age, .instanceMethod yX3_age, .selects RX3 yX3_age yX3_age, .initialized RX3, .code yX3_age cX3_age 2 (some .int), .fieldLink RX3 11 "ThreeBelow$Life" "row" "[I", .methodLink RX3 46 yX3_isPerson, .static yX3_isPerson, .code yX3_isPerson cX3_isPerson 1 (some .boolean)] ++ wsX00 ++ wsX30)
def wsX1_init : List Cond := .code yX1_init cX1_init 1 none :: ([.methodLink RX1 5 objectInit, .instanceMethod objectInit, .code objectInit ⟨#[0xb1]⟩ 1 none, .arrayClass .int, .fieldLink RX1 11 "ThreeBelow$Finds" "kinds" "[I", .fieldLink RX1 15 "ThreeBelow$Finds" "numbers" "[I", .fieldLink RX1 18 "ThreeBelow$Finds" "values" "[I", .classLink RX1 21 "[[I", .fieldLink RX1 23 "ThreeBelow$Finds" "worthThen" "[[I", .fieldLink RX1 26 "ThreeBelow$Finds" "fit" "[I"] ++ wsX10)
def wsX1_empty : List Cond := .code yX1_empty cX1_empty 1 none :: ([.fieldLink RX1 36 "ThreeBelow$Finds" "count" "I", .fieldLink RX1 40 "ThreeBelow$Finds" "isSought" "Z"] ++ wsX10)
def wsX1_beginAnew : List Cond := .code yX1_beginAnew cX1_beginAnew 1 none :: ([.fieldLink RX1 29 "ThreeBelow$Finds" "isCounted" "Z", .methodLink RX1 33 yX1_empty, .instanceMethod yX1_empty, .selects RX1 yX1_empty yX1_empty, .initialized RX1, .code yX1_empty cX1_empty 1 none, .fieldLink RX1 36 "ThreeBelow$Finds" "count" "I", .fieldLink RX1 40 "ThreeBelow$Finds" "isSought" "Z"] ++ wsX10)
def wsX1_add : List Cond := .code yX1_add cX1_add 4 none :: ([.fieldLink RX1 36 "ThreeBelow$Finds" "count" "I", .fieldLink RX1 11 "ThreeBelow$Finds" "kinds" "[I", .fieldLink RX1 15 "ThreeBelow$Finds" "numbers" "[I", .fieldLink RX1 18 "ThreeBelow$Finds" "values" "[I", .fieldLink RX1 40 "ThreeBelow$Finds" "isSought" "Z"] ++ wsX10)
def wsX5_hasGood : List Cond := .code yX5_hasGood cX5_hasGood 2 (some .boolean) :: ([.fieldLink RX5 43 "ThreeBelow$Shore" "goods" "I"] ++ wsX50)
def wsX5_worthNextYear : List Cond := .code yX5_worthNextYear cX5_worthNextYear 4 (some .int) :: ([.fieldLink RX5 24 "ThreeBelow$Shore" "change" "[I", .fieldLink RX5 27 "ThreeBelow$Shore" "mostWorth" "[I", .methodLink RX5 57 yX5_hasGood, .instanceMethod yX5_hasGood, .selects RX5 yX5_hasGood yX5_hasGood, .initialized RX5, .code yX5_hasGood cX5_hasGood 2 (some .boolean), .fieldLink RX5 43 "ThreeBelow$Shore" "goods" "I"] ++ wsX50)
def wsX5_worthBehind : List Cond := .code yX5_worthBehind cX5_worthBehind 7 (some .int) :: ([.methodLink RX5 60 yX5_worthNextYear, .instanceMethod yX5_worthNextYear, .selects RX5 yX5_worthNextYear yX5_worthNextYear, .initialized RX5, .code yX5_worthNextYear cX5_worthNextYear 4 (some .int), .fieldLink RX5 24 "ThreeBelow$Shore" "change" "[I", .fieldLink RX5 27 "ThreeBelow$Shore" "mostWorth" "[I", .methodLink RX5 57 yX5_hasGood, .instanceMethod yX5_hasGood, .selects RX5 yX5_hasGood yX5_hasGood, .code yX5_hasGood cX5_hasGood 2 (some .boolean), .fieldLink RX5 43 "ThreeBelow$Shore" "goods" "I"] ++ wsX50)
def wsX1_countWorths : List Cond := .code yX1_countWorths cX1_countWorths 6 none :: ([.fieldLink RX1 29 "ThreeBelow$Finds" "isCounted" "Z", .fieldLink RX1 78 "ThreeBelow$Shore" "goods" "I", .fieldLink RX1 50 "ThreeBelow$Shore" "depths" "I", .fieldLink RX1 81 "ThreeBelow$Shore" "toldWorth" "[I", .fieldLink RX1 23 "ThreeBelow$Finds" "worthThen" "[[I", .fieldLink RX1 71 "ThreeBelow$Shore" "rate" "[I", .methodLink RX1 84 yX5_worthBehind, .instanceMethod yX5_worthBehind, .selects RX5 yX5_worthBehind yX5_worthBehind, .initialized RX5, .code yX5_worthBehind cX5_worthBehind 7 (some .int), .methodLink RX5 60 yX5_worthNextYear, .instanceMethod yX5_worthNextYear, .selects RX5 yX5_worthNextYear yX5_worthNextYear, .code yX5_worthNextYear cX5_worthNextYear 4 (some .int), .fieldLink RX5 24 "ThreeBelow$Shore" "change" "[I", .fieldLink RX5 27 "ThreeBelow$Shore" "mostWorth" "[I", .methodLink RX5 57 yX5_hasGood, .instanceMethod yX5_hasGood, .selects RX5 yX5_hasGood yX5_hasGood, .code yX5_hasGood cX5_hasGood 2 (some .boolean), .fieldLink RX5 43 "ThreeBelow$Shore" "goods" "I"] ++ wsX10 ++ wsX50)
def wsX1_worthBy : List Cond := .code yX1_worthBy cX1_worthBy 4 (some .int) :: ([.fieldLink RX1 23 "ThreeBelow$Finds" "worthThen" "[[I"] ++ wsX10)
def wsX5_kingAt : List Cond := .code yX5_kingAt cX5_kingAt 2 (some .int) :: ([.fieldLink RX5 34 "ThreeBelow$Shore" "reign" "I"] ++ wsX50)
def wsX1_fitsAll : List Cond := .code yX1_fitsAll cX1_fitsAll 6 (some .boolean) :: ([.fieldLink RX1 36 "ThreeBelow$Finds" "count" "I", .fieldLink RX1 11 "ThreeBelow$Finds" "kinds" "[I", .fieldLink RX1 15 "ThreeBelow$Finds" "numbers" "[I", .fieldLink RX1 71 "ThreeBelow$Shore" "rate" "[I", .fieldLink RX1 18 "ThreeBelow$Finds" "values" "[I", .methodLink RX1 68 yX1_worthBy, .instanceMethod yX1_worthBy, .selects RX1 yX1_worthBy yX1_worthBy, .initialized RX1, .code yX1_worthBy cX1_worthBy 4 (some .int), .fieldLink RX1 23 "ThreeBelow$Finds" "worthThen" "[[I", .methodLink RX1 74 yX5_kingAt, .instanceMethod yX5_kingAt, .selects RX5 yX5_kingAt yX5_kingAt, .initialized RX5, .code yX5_kingAt cX5_kingAt 2 (some .int), .fieldLink RX5 34 "ThreeBelow$Shore" "reign" "I"] ++ wsX10 ++ wsX50)
def wsX1_seek_r1 : List Cond := [Cond.fieldLink RX1 40 "ThreeBelow$Finds" "isSought" "Z", Cond.fieldLink RX1 47 "ThreeBelow$Finds" "fitting" "I", Cond.fieldLink RX1 50 "ThreeBelow$Shore" "depths" "I", Cond.fieldLink RX1 26 "ThreeBelow$Finds" "fit" "[I", Cond.methodLink RX1 43 yX1_countWorths, Cond.instanceMethod yX1_countWorths, Cond.selects RX1 yX1_countWorths yX1_countWorths, Cond.initialized RX1, Cond.code yX1_countWorths cX1_countWorths 6 none, Cond.fieldLink RX1 29 "ThreeBelow$Finds" "isCounted" "Z", Cond.fieldLink RX1 78 "ThreeBelow$Shore" "goods" "I", Cond.fieldLink RX1 81 "ThreeBelow$Shore" "toldWorth" "[I", Cond.fieldLink RX1 23 "ThreeBelow$Finds" "worthThen" "[[I", Cond.fieldLink RX1 71 "ThreeBelow$Shore" "rate" "[I", Cond.methodLink RX1 84 yX5_worthBehind, Cond.instanceMethod yX5_worthBehind, Cond.selects RX5 yX5_worthBehind yX5_worthBehind, Cond.initialized RX5, Cond.code yX5_worthBehind cX5_worthBehind 7 (some .int), Cond.methodLink RX5 60 yX5_worthNextYear, Cond.instanceMethod yX5_worthNextYear, Cond.selects RX5 yX5_worthNextYear yX5_worthNextYear, Cond.code yX5_worthNextYear cX5_worthNextYear 4 (some .int), Cond.fieldLink RX5 24 "ThreeBelow$Shore" "change" "[I"]
def wsX1_seek_r2 : List Cond := [Cond.fieldLink RX5 27 "ThreeBelow$Shore" "mostWorth" "[I", Cond.methodLink RX5 57 yX5_hasGood, Cond.instanceMethod yX5_hasGood, Cond.selects RX5 yX5_hasGood yX5_hasGood, Cond.code yX5_hasGood cX5_hasGood 2 (some .boolean), Cond.fieldLink RX5 43 "ThreeBelow$Shore" "goods" "I", Cond.methodLink RX1 55 yX1_fitsAll, Cond.instanceMethod yX1_fitsAll, Cond.selects RX1 yX1_fitsAll yX1_fitsAll, Cond.code yX1_fitsAll cX1_fitsAll 6 (some .boolean), Cond.fieldLink RX1 36 "ThreeBelow$Finds" "count" "I", Cond.fieldLink RX1 11 "ThreeBelow$Finds" "kinds" "[I", Cond.fieldLink RX1 15 "ThreeBelow$Finds" "numbers" "[I", Cond.fieldLink RX1 18 "ThreeBelow$Finds" "values" "[I", Cond.methodLink RX1 68 yX1_worthBy, Cond.instanceMethod yX1_worthBy, Cond.selects RX1 yX1_worthBy yX1_worthBy, Cond.code yX1_worthBy cX1_worthBy 4 (some .int), Cond.methodLink RX1 74 yX5_kingAt, Cond.instanceMethod yX5_kingAt, Cond.selects RX5 yX5_kingAt yX5_kingAt, Cond.code yX5_kingAt cX5_kingAt 2 (some .int), Cond.fieldLink RX5 34 "ThreeBelow$Shore" "reign" "I"]
def wsX1_seek : List Cond := .code yX1_seek cX1_seek 4 none :: ((wsX1_seek_r1 ++ wsX1_seek_r2) ++ wsX10 ++ wsX50)
def wsX1_alikeFrom : List Cond := .code yX1_alikeFrom cX1_alikeFrom 6 (some .int) :: ([.fieldLink RX1 26 "ThreeBelow$Finds" "fit" "[I", .fieldLink RX1 47 "ThreeBelow$Finds" "fitting" "I", .methodLink RX1 68 yX1_worthBy, .instanceMethod yX1_worthBy, .selects RX1 yX1_worthBy yX1_worthBy, .initialized RX1, .code yX1_worthBy cX1_worthBy 4 (some .int), .fieldLink RX1 23 "ThreeBelow$Finds" "worthThen" "[[I"] ++ wsX10)
def wsX1_greatestPart : List Cond := .code yX1_greatestPart cX1_greatestPart 4 (some .int) :: ([.fieldLink RX1 47 "ThreeBelow$Finds" "fitting" "I", .methodLink RX1 63 Lib.Math.max.name, .static Lib.Math.max.name, .initialized "java/lang/Math", .code Lib.Math.max.name Lib.Math.max.code 2 (some .int), .methodLink RX1 59 yX1_alikeFrom, .instanceMethod yX1_alikeFrom, .selects RX1 yX1_alikeFrom yX1_alikeFrom, .initialized RX1, .code yX1_alikeFrom cX1_alikeFrom 6 (some .int), .fieldLink RX1 26 "ThreeBelow$Finds" "fit" "[I", .methodLink RX1 68 yX1_worthBy, .instanceMethod yX1_worthBy, .selects RX1 yX1_worthBy yX1_worthBy, .code yX1_worthBy cX1_worthBy 4 (some .int), .fieldLink RX1 23 "ThreeBelow$Finds" "worthThen" "[[I"] ++ wsX10)
def wsX2_init : List Cond := .code yX2_init cX2_init 1 none :: ([.methodLink RX2 1 objectInit, .instanceMethod objectInit, .code objectInit ⟨#[0xb1]⟩ 1 none, .classLink RX2 11 "[[I", .arrayClass .int, .fieldLink RX2 13 "ThreeBelow$Images" "rows" "[[I", .fieldLink RX2 16 "ThreeBelow$Images" "seeds" "[I", .arrayClass .boolean, .fieldLink RX2 20 "ThreeBelow$Images" "isKept" "[Z"] ++ wsX20)
def wsX2_hasPlace : List Cond := .code yX2_hasPlace cX2_hasPlace 2 (some .boolean) :: ([])
def wsX2_forget : List Cond := .code yX2_forget cX2_forget 2 none :: ([.fieldLink RX2 20 "ThreeBelow$Images" "isKept" "[Z"] ++ wsX20)
def wsX3_copyTo : List Cond := .code yX3_copyTo cX3_copyTo 2 none :: ([.fieldLink RX3 11 "ThreeBelow$Life" "row" "[I", .methodLink RX3 34 Lib.Math.min.name, .static Lib.Math.min.name, .initialized "java/lang/Math", .code Lib.Math.min.name Lib.Math.min.code 2 (some .int), .methodLink RX3 40 arraycopyName, .native arraycopyName, .static arraycopyName, .initialized "java/lang/System"] ++ wsX30)
def wsX2_put : List Cond := .code yX2_put cX2_put 4 none :: ([.fieldLink RX2 13 "ThreeBelow$Images" "rows" "[[I", .fieldLink RX2 16 "ThreeBelow$Images" "seeds" "[I", .fieldLink RX2 20 "ThreeBelow$Images" "isKept" "[Z", .methodLink RX2 24 yX2_hasPlace, .instanceMethod yX2_hasPlace, .selects RX2 yX2_hasPlace yX2_hasPlace, .initialized RX2, .code yX2_hasPlace cX2_hasPlace 2 (some .boolean), .methodLink RX2 28 yX3_copyTo, .instanceMethod yX3_copyTo, .selects RX3 yX3_copyTo yX3_copyTo, .initialized RX3, .code yX3_copyTo cX3_copyTo 2 none, .fieldLink RX3 11 "ThreeBelow$Life" "row" "[I", .methodLink RX3 34 Lib.Math.min.name, .static Lib.Math.min.name, .initialized "java/lang/Math", .code Lib.Math.min.name Lib.Math.min.code 2 (some .int), .methodLink RX3 40 arraycopyName, .native arraycopyName, .static arraycopyName, .initialized "java/lang/System"] ++ wsX20 ++ wsX30)
def wsX3_init : List Cond := .code yX3_init cX3_init 1 none :: ([.methodLink RX3 5 objectInit, .instanceMethod objectInit, .code objectInit ⟨#[0xb1]⟩ 1 none, .arrayClass .int, .fieldLink RX3 11 "ThreeBelow$Life" "row" "[I"] ++ wsX30)
def wsX3_buryIfOld : List Cond := .code yX3_buryIfOld cX3_buryIfOld 3 none :: ([.fieldLink RX3 11 "ThreeBelow$Life" "row" "[I", .fieldLink RX3 66 "ThreeBelow$Shore" "lifespan" "[I"] ++ wsX30 ++ wsX50)
def wsX3_begin : List Cond := .code yX3_begin cX3_begin 3 none :: ([.fieldLink RX3 11 "ThreeBelow$Life" "row" "[I", .fieldLink RX3 15 "ThreeBelow$Shore" "persons" "I", .fieldLink RX3 21 "ThreeBelow$Shore" "toldAge" "[I", .fieldLink RX3 28 "ThreeBelow$Shore" "goods" "I", .fieldLink RX3 31 "ThreeBelow$Shore" "toldWorth" "[I", .methodLink RX3 24 yX3_buryIfOld, .instanceMethod yX3_buryIfOld, .selects RX3 yX3_buryIfOld yX3_buryIfOld, .initialized RX3, .code yX3_buryIfOld cX3_buryIfOld 3 none, .fieldLink RX3 66 "ThreeBelow$Shore" "lifespan" "[I"] ++ wsX30 ++ wsX50)
def wsX3_copyFrom : List Cond := .code yX3_copyFrom cX3_copyFrom 2 none :: ([.fieldLink RX3 11 "ThreeBelow$Life" "row" "[I", .methodLink RX3 34 Lib.Math.min.name, .static Lib.Math.min.name, .initialized "java/lang/Math", .code Lib.Math.min.name Lib.Math.min.code 2 (some .int), .methodLink RX3 40 arraycopyName, .native arraycopyName, .static arraycopyName, .initialized "java/lang/System"] ++ wsX30)
def wsX3_years : List Cond := .code yX3_years cX3_years 1 (some .int) :: ([.fieldLink RX3 11 "ThreeBelow$Life" "row" "[I"] ++ wsX30)
def wsX3_place : List Cond := .code yX3_place cX3_place 2 (some .int) :: ([.fieldLink RX3 11 "ThreeBelow$Life" "row" "[I", .methodLink RX3 46 yX3_isPerson, .static yX3_isPerson, .initialized RX3, .code yX3_isPerson cX3_isPerson 1 (some .boolean)] ++ wsX30)
def wsX3_box : List Cond := .code yX3_box cX3_box 2 (some .int) :: ([.fieldLink RX3 11 "ThreeBelow$Life" "row" "[I", .methodLink RX3 46 yX3_isPerson, .static yX3_isPerson, .initialized RX3, .code yX3_isPerson cX3_isPerson 1 (some .boolean)] ++ wsX30)
def wsX3_isGood : List Cond := .code yX3_isGood cX3_isGood 1 (some .boolean) :: ([])
def wsX3_worth : List Cond := .code yX3_worth cX3_worth 2 (some .int) :: ([.fieldLink RX3 11 "ThreeBelow$Life" "row" "[I", .methodLink RX3 50 yX3_isGood, .static yX3_isGood, .initialized RX3, .code yX3_isGood cX3_isGood 1 (some .boolean)] ++ wsX30)
def wsX3_isAbove : List Cond := .code yX3_isAbove cX3_isAbove 2 (some .boolean) :: ([.methodLink RX3 53 yX3_place, .instanceMethod yX3_place, .selects RX3 yX3_place yX3_place, .initialized RX3, .code yX3_place cX3_place 2 (some .int), .fieldLink RX3 11 "ThreeBelow$Life" "row" "[I", .methodLink RX3 46 yX3_isPerson, .static yX3_isPerson, .code yX3_isPerson cX3_isPerson 1 (some .boolean)] ++ wsX30)
def wsX3_isBelow : List Cond := .code yX3_isBelow cX3_isBelow 2 (some .boolean) :: ([.methodLink RX3 53 yX3_place, .instanceMethod yX3_place, .selects RX3 yX3_place yX3_place, .initialized RX3, .code yX3_place cX3_place 2 (some .int), .fieldLink RX3 11 "ThreeBelow$Life" "row" "[I", .methodLink RX3 46 yX3_isPerson, .static yX3_isPerson, .code yX3_isPerson cX3_isPerson 1 (some .boolean)] ++ wsX30)
def wsX5_hasDepth : List Cond := .code yX5_hasDepth cX5_hasDepth 2 (some .boolean) :: ([.fieldLink RX5 37 "ThreeBelow$Shore" "depths" "I"] ++ wsX50)
def wsX5_daysIn : List Cond := .code yX5_daysIn cX5_daysIn 3 (some .int) :: ([.fieldLink RX5 9 "ThreeBelow$Shore" "rate" "[I", .methodLink RX5 54 yX5_hasDepth, .instanceMethod yX5_hasDepth, .selects RX5 yX5_hasDepth yX5_hasDepth, .initialized RX5, .code yX5_hasDepth cX5_hasDepth 2 (some .boolean), .fieldLink RX5 37 "ThreeBelow$Shore" "depths" "I"] ++ wsX50)
def wsX3_daysBelow : List Cond := .code yX3_daysBelow cX3_daysBelow 3 (some .int) :: ([.fieldLink RX3 11 "ThreeBelow$Life" "row" "[I", .methodLink RX3 57 yX3_isBelow, .instanceMethod yX3_isBelow, .selects RX3 yX3_isBelow yX3_isBelow, .initialized RX3, .code yX3_isBelow cX3_isBelow 2 (some .boolean), .methodLink RX3 53 yX3_place, .instanceMethod yX3_place, .selects RX3 yX3_place yX3_place, .code yX3_place cX3_place 2 (some .int), .methodLink RX3 46 yX3_isPerson, .static yX3_isPerson, .code yX3_isPerson cX3_isPerson 1 (some .boolean), .methodLink RX3 60 yX5_daysIn, .instanceMethod yX5_daysIn, .selects RX5 yX5_daysIn yX5_daysIn, .initialized RX5, .code yX5_daysIn cX5_daysIn 3 (some .int), .fieldLink RX5 9 "ThreeBelow$Shore" "rate" "[I", .methodLink RX5 54 yX5_hasDepth, .instanceMethod yX5_hasDepth, .selects RX5 yX5_hasDepth yX5_hasDepth, .code yX5_hasDepth cX5_hasDepth 2 (some .boolean), .fieldLink RX5 37 "ThreeBelow$Shore" "depths" "I"] ++ wsX30 ++ wsX50)
def wsX3_deadOnes : List Cond := .code yX3_deadOnes cX3_deadOnes 4 (some .int) :: ([.fieldLink RX3 15 "ThreeBelow$Shore" "persons" "I", .methodLink RX3 53 yX3_place, .instanceMethod yX3_place, .selects RX3 yX3_place yX3_place, .initialized RX3, .code yX3_place cX3_place 2 (some .int), .fieldLink RX3 11 "ThreeBelow$Life" "row" "[I", .methodLink RX3 46 yX3_isPerson, .static yX3_isPerson, .code yX3_isPerson cX3_isPerson 1 (some .boolean)] ++ wsX50 ++ wsX30)
def wsX3_stayersOf : List Cond := .code yX3_stayersOf cX3_stayersOf 5 (some .int) :: ([.fieldLink RX3 15 "ThreeBelow$Shore" "persons" "I", .fieldLink RX3 11 "ThreeBelow$Life" "row" "[I", .methodLink RX3 57 yX3_isBelow, .instanceMethod yX3_isBelow, .selects RX3 yX3_isBelow yX3_isBelow, .initialized RX3, .code yX3_isBelow cX3_isBelow 2 (some .boolean), .methodLink RX3 53 yX3_place, .instanceMethod yX3_place, .selects RX3 yX3_place yX3_place, .code yX3_place cX3_place 2 (some .int), .methodLink RX3 46 yX3_isPerson, .static yX3_isPerson, .code yX3_isPerson cX3_isPerson 1 (some .boolean)] ++ wsX50 ++ wsX30)
def wsX3_passYears_r1 : List Cond := [Cond.fieldLink RX3 11 "ThreeBelow$Life" "row" "[I", Cond.fieldLink RX3 15 "ThreeBelow$Shore" "persons" "I", Cond.fieldLink RX3 66 "ThreeBelow$Shore" "lifespan" "[I", Cond.methodLink RX3 34 Lib.Math.min.name, Cond.static Lib.Math.min.name, Cond.initialized "java/lang/Math", Cond.code Lib.Math.min.name Lib.Math.min.code 2 (some .int), Cond.fieldLink RX3 28 "ThreeBelow$Shore" "goods" "I", Cond.methodLink RX3 63 yX3_isAbove, Cond.instanceMethod yX3_isAbove, Cond.selects RX3 yX3_isAbove yX3_isAbove, Cond.initialized RX3, Cond.code yX3_isAbove cX3_isAbove 2 (some .boolean), Cond.methodLink RX3 53 yX3_place, Cond.instanceMethod yX3_place, Cond.selects RX3 yX3_place yX3_place, Cond.code yX3_place cX3_place 2 (some .int), Cond.methodLink RX3 46 yX3_isPerson, Cond.static yX3_isPerson, Cond.code yX3_isPerson cX3_isPerson 1 (some .boolean), Cond.methodLink RX3 24 yX3_buryIfOld, Cond.instanceMethod yX3_buryIfOld, Cond.selects RX3 yX3_buryIfOld yX3_buryIfOld, Cond.code yX3_buryIfOld cX3_buryIfOld 3 none]
def wsX3_passYears_r2 : List Cond := [Cond.methodLink RX3 57 yX3_isBelow, Cond.instanceMethod yX3_isBelow, Cond.selects RX3 yX3_isBelow yX3_isBelow, Cond.code yX3_isBelow cX3_isBelow 2 (some .boolean), Cond.methodLink RX3 69 yX5_worthBehind, Cond.instanceMethod yX5_worthBehind, Cond.selects RX5 yX5_worthBehind yX5_worthBehind, Cond.initialized RX5, Cond.code yX5_worthBehind cX5_worthBehind 7 (some .int), Cond.methodLink RX5 60 yX5_worthNextYear, Cond.instanceMethod yX5_worthNextYear, Cond.selects RX5 yX5_worthNextYear yX5_worthNextYear, Cond.code yX5_worthNextYear cX5_worthNextYear 4 (some .int), Cond.fieldLink RX5 24 "ThreeBelow$Shore" "change" "[I", Cond.fieldLink RX5 27 "ThreeBelow$Shore" "mostWorth" "[I", Cond.methodLink RX5 57 yX5_hasGood, Cond.instanceMethod yX5_hasGood, Cond.selects RX5 yX5_hasGood yX5_hasGood, Cond.code yX5_hasGood cX5_hasGood 2 (some .boolean), Cond.fieldLink RX5 43 "ThreeBelow$Shore" "goods" "I"]
def wsX3_passYears : List Cond := .code yX3_passYears cX3_passYears 4 none :: ((wsX3_passYears_r1 ++ wsX3_passYears_r2) ++ wsX30 ++ wsX50)
def wsX3_goDown : List Cond := .code yX3_goDown cX3_goDown 3 none :: ([.fieldLink RX3 11 "ThreeBelow$Life" "row" "[I", .methodLink RX3 46 yX3_isPerson, .static yX3_isPerson, .initialized RX3, .code yX3_isPerson cX3_isPerson 1 (some .boolean)] ++ wsX30)
def wsX3_comeUp : List Cond := .code yX3_comeUp cX3_comeUp 2 none :: ([.fieldLink RX3 11 "ThreeBelow$Life" "row" "[I", .methodLink RX3 46 yX3_isPerson, .static yX3_isPerson, .initialized RX3, .code yX3_isPerson cX3_isPerson 1 (some .boolean)] ++ wsX30)
def wsX3_openBox : List Cond := .code yX3_openBox cX3_openBox 3 none :: ([.fieldLink RX3 11 "ThreeBelow$Life" "row" "[I", .methodLink RX3 46 yX3_isPerson, .static yX3_isPerson, .initialized RX3, .code yX3_isPerson cX3_isPerson 1 (some .boolean), .methodLink RX3 24 yX3_buryIfOld, .instanceMethod yX3_buryIfOld, .selects RX3 yX3_buryIfOld yX3_buryIfOld, .code yX3_buryIfOld cX3_buryIfOld 3 none, .fieldLink RX3 66 "ThreeBelow$Shore" "lifespan" "[I"] ++ wsX30 ++ wsX50)
def wsX3_takeGood : List Cond := .code yX3_takeGood cX3_takeGood 2 none :: ([.fieldLink RX3 11 "ThreeBelow$Life" "row" "[I", .methodLink RX3 50 yX3_isGood, .static yX3_isGood, .initialized RX3, .code yX3_isGood cX3_isGood 1 (some .boolean)] ++ wsX30)
def wsX4_init : List Cond := .code yX4_init cX4_init 1 none :: ([.methodLink RX4 1 objectInit, .instanceMethod objectInit, .code objectInit ⟨#[0xb1]⟩ 1 none, .classLink RX4 11 "[[I", .arrayClass .int, .fieldLink RX4 13 "ThreeBelow$Past" "rows" "[[I"] ++ wsX40)
def wsX4_forget : List Cond := .code yX4_forget cX4_forget 1 none :: ([.fieldLink RX4 16 "ThreeBelow$Past" "count" "I"] ++ wsX40)
def wsX4_remember : List Cond := .code yX4_remember cX4_remember 2 none :: ([.fieldLink RX4 13 "ThreeBelow$Past" "rows" "[[I", .fieldLink RX4 20 "ThreeBelow$Past" "next" "I", .fieldLink RX4 16 "ThreeBelow$Past" "count" "I", .methodLink RX4 27 Lib.Math.min.name, .static Lib.Math.min.name, .initialized "java/lang/Math", .code Lib.Math.min.name Lib.Math.min.code 2 (some .int), .methodLink RX4 23 yX3_copyTo, .instanceMethod yX3_copyTo, .selects RX3 yX3_copyTo yX3_copyTo, .initialized RX3, .code yX3_copyTo cX3_copyTo 2 none, .fieldLink RX3 11 "ThreeBelow$Life" "row" "[I", .methodLink RX3 34 Lib.Math.min.name, .methodLink RX3 40 arraycopyName, .native arraycopyName, .static arraycopyName, .initialized "java/lang/System"] ++ wsX40 ++ wsX30)
def wsX4_bringBack : List Cond := .code yX4_bringBack cX4_bringBack 2 none :: ([.fieldLink RX4 16 "ThreeBelow$Past" "count" "I", .fieldLink RX4 20 "ThreeBelow$Past" "next" "I", .fieldLink RX4 13 "ThreeBelow$Past" "rows" "[[I", .methodLink RX4 33 yX3_copyFrom, .instanceMethod yX3_copyFrom, .selects RX3 yX3_copyFrom yX3_copyFrom, .initialized RX3, .code yX3_copyFrom cX3_copyFrom 2 none, .fieldLink RX3 11 "ThreeBelow$Life" "row" "[I", .methodLink RX3 34 Lib.Math.min.name, .static Lib.Math.min.name, .initialized "java/lang/Math", .code Lib.Math.min.name Lib.Math.min.code 2 (some .int), .methodLink RX3 40 arraycopyName, .native arraycopyName, .static arraycopyName, .initialized "java/lang/System"] ++ wsX40 ++ wsX30)
def wsX5_init : List Cond := .code yX5_init cX5_init 1 none :: ([.methodLink RX5 3 objectInit, .instanceMethod objectInit, .code objectInit ⟨#[0xb1]⟩ 1 none, .arrayClass .int, .fieldLink RX5 9 "ThreeBelow$Shore" "rate" "[I", .fieldLink RX5 15 "ThreeBelow$Shore" "toldAge" "[I", .fieldLink RX5 18 "ThreeBelow$Shore" "lifespan" "[I", .fieldLink RX5 21 "ThreeBelow$Shore" "toldWorth" "[I", .fieldLink RX5 24 "ThreeBelow$Shore" "change" "[I", .fieldLink RX5 27 "ThreeBelow$Shore" "mostWorth" "[I"] ++ wsX50)
def wsX5_empty : List Cond := .code yX5_empty cX5_empty 1 none :: ([.fieldLink RX5 30 "ThreeBelow$Shore" "law" "I", .fieldLink RX5 34 "ThreeBelow$Shore" "reign" "I", .fieldLink RX5 37 "ThreeBelow$Shore" "depths" "I", .fieldLink RX5 40 "ThreeBelow$Shore" "persons" "I", .fieldLink RX5 43 "ThreeBelow$Shore" "goods" "I"] ++ wsX50)
def wsX5_isTold : List Cond := .code yX5_isTold cX5_isTold 1 (some .boolean) :: ([.fieldLink RX5 30 "ThreeBelow$Shore" "law" "I"] ++ wsX50)
def wsX5_hasPerson : List Cond := .code yX5_hasPerson cX5_hasPerson 2 (some .boolean) :: ([.fieldLink RX5 40 "ThreeBelow$Shore" "persons" "I"] ++ wsX50)
def wsX5_hasRoomFor : List Cond := .code yX5_hasRoomFor cX5_hasRoomFor 2 (some .boolean) :: ([.fieldLink RX5 37 "ThreeBelow$Shore" "depths" "I", .fieldLink RX5 40 "ThreeBelow$Shore" "persons" "I", .fieldLink RX5 43 "ThreeBelow$Shore" "goods" "I", .methodLink RX5 46 yX5_isTold, .instanceMethod yX5_isTold, .selects RX5 yX5_isTold yX5_isTold, .initialized RX5, .code yX5_isTold cX5_isTold 1 (some .boolean), .fieldLink RX5 30 "ThreeBelow$Shore" "law" "I"] ++ wsX50)
def wsX5_add : List Cond := .code yX5_add cX5_add 5 none :: ([.fieldLink RX5 30 "ThreeBelow$Shore" "law" "I", .fieldLink RX5 34 "ThreeBelow$Shore" "reign" "I", .fieldLink RX5 9 "ThreeBelow$Shore" "rate" "[I", .fieldLink RX5 37 "ThreeBelow$Shore" "depths" "I", .fieldLink RX5 15 "ThreeBelow$Shore" "toldAge" "[I", .fieldLink RX5 40 "ThreeBelow$Shore" "persons" "I", .fieldLink RX5 18 "ThreeBelow$Shore" "lifespan" "[I", .fieldLink RX5 21 "ThreeBelow$Shore" "toldWorth" "[I", .fieldLink RX5 43 "ThreeBelow$Shore" "goods" "I", .fieldLink RX5 24 "ThreeBelow$Shore" "change" "[I", .fieldLink RX5 27 "ThreeBelow$Shore" "mostWorth" "[I", .methodLink RX5 50 yX5_hasRoomFor, .instanceMethod yX5_hasRoomFor, .selects RX5 yX5_hasRoomFor yX5_hasRoomFor, .initialized RX5, .code yX5_hasRoomFor cX5_hasRoomFor 2 (some .boolean), .methodLink RX5 46 yX5_isTold, .instanceMethod yX5_isTold, .selects RX5 yX5_isTold yX5_isTold, .code yX5_isTold cX5_isTold 1 (some .boolean)] ++ wsX50)
def wsX6_init : List Cond := .code yX6_init cX6_init 1 none :: ([.methodLink RX6 3 objectInit, .instanceMethod objectInit, .code objectInit ⟨#[0xb1]⟩ 1 none, .arrayClass .int, .fieldLink RX6 9 "ThreeBelow$ShoreText" "signs" "[I", .fieldLink RX6 15 "ThreeBelow$ShoreText" "numbers" "[I", .fieldLink RX6 18 "ThreeBelow$ShoreText" "faultAt" "I"] ++ wsX60)
def wsX6_add : List Cond := .code yX6_add cX6_add 2 none :: ([.fieldLink RX6 22 "ThreeBelow$ShoreText" "length" "I", .fieldLink RX6 9 "ThreeBelow$ShoreText" "signs" "[I"] ++ wsX60)
def wsX6_empty : List Cond := .code yX6_empty cX6_empty 1 none :: ([.fieldLink RX6 22 "ThreeBelow$ShoreText" "length" "I"] ++ wsX60)
def wsX6_here : List Cond := .code yX6_here cX6_here 1 (some .int) :: ([.fieldLink RX6 25 "ThreeBelow$ShoreText" "at" "I", .fieldLink RX6 22 "ThreeBelow$ShoreText" "length" "I", .fieldLink RX6 9 "ThreeBelow$ShoreText" "signs" "[I"] ++ wsX60)
def wsX6_skipBlanks : List Cond := .code yX6_skipBlanks cX6_skipBlanks 2 none :: ([.fieldLink RX6 25 "ThreeBelow$ShoreText" "at" "I", .methodLink RX6 43 yX6_here, .instanceMethod yX6_here, .selects RX6 yX6_here yX6_here, .initialized RX6, .code yX6_here cX6_here 1 (some .int), .fieldLink RX6 22 "ThreeBelow$ShoreText" "length" "I", .fieldLink RX6 9 "ThreeBelow$ShoreText" "signs" "[I"] ++ wsX60)
def wsJ0_isLatin1_aae02 : List Cond := .code yJ0_isLatin1_aae02 cJ0_isLatin1_aae02 1 (some .boolean) :: ([.fieldLink RJ0 38 "java/lang/String" "COMPACT_STRINGS" "Z", .fieldLink RJ0 15 "java/lang/String" "coder" "B"])
def wsJ0_coder_7d493 : List Cond := .code yJ0_coder_7d493 cJ0_coder_7d493 1 (some .byte) :: ([.fieldLink RJ0 38 "java/lang/String" "COMPACT_STRINGS" "Z", .fieldLink RJ0 15 "java/lang/String" "coder" "B"])
def wsJ0_length_8abf5 : List Cond := .code yJ0_length_8abf5 cJ0_length_8abf5 1 (some .int) :: ([.fieldLink RJ0 9 "java/lang/String" "value" "[B", .methodLink RJ0 335 yJ0_coder_7d493, .instanceMethod yJ0_coder_7d493, .selects RJ0 yJ0_coder_7d493 yJ0_coder_7d493, .initialized RJ0, .code yJ0_coder_7d493 cJ0_coder_7d493 1 (some .byte), .fieldLink RJ0 38 "java/lang/String" "COMPACT_STRINGS" "Z", .fieldLink RJ0 15 "java/lang/String" "coder" "B"])
def wsJ1_canEncode_9a6ad : List Cond := .code yJ1_canEncode_9a6ad cJ1_canEncode_9a6ad 1 (some .boolean) :: ([])
def wsJ1_indexOfChar_4cfef : List Cond := .code yJ1_indexOfChar_4cfef cJ1_indexOfChar_4cfef 6 (some .int) :: ([])
def wsJ1_indexOf_4cfef : List Cond := .code yJ1_indexOf_4cfef cJ1_indexOf_4cfef 4 (some .int) :: ([.methodLink RJ1 92 Lib.Math.max.name, .static Lib.Math.max.name, .initialized "java/lang/Math", .code Lib.Math.max.name Lib.Math.max.code 2 (some .int), .methodLink RJ1 38 Lib.Math.min.name, .static Lib.Math.min.name, .code Lib.Math.min.name Lib.Math.min.code 2 (some .int), .methodLink RJ1 88 yJ1_canEncode_9a6ad, .static yJ1_canEncode_9a6ad, .initialized RJ1, .code yJ1_canEncode_9a6ad cJ1_canEncode_9a6ad 1 (some .boolean), .methodLink RJ1 95 yJ1_indexOfChar_4cfef, .static yJ1_indexOfChar_4cfef, .code yJ1_indexOfChar_4cfef cJ1_indexOfChar_4cfef 6 (some .int)])
def wsJ2_length_9d52b : List Cond := .code yJ2_length_9d52b cJ2_length_9d52b 1 (some .int) :: ([])
def wsJ3_checkFromToIndex_8c36e : List Cond := .code yJ3_checkFromToIndex_8c36e cJ3_checkFromToIndex_8c36e 4 (some .int) :: ([])
def wsJ0_checkBoundsBeginEnd_23922 : List Cond := .code yJ0_checkBoundsBeginEnd_23922 cJ0_checkBoundsBeginEnd_23922 3 none :: ([.fieldLink RJ0 1053 "jdk/internal/util/Preconditions" "SIOOBE_FORMATTER" "Ljava/util/function/BiFunction;", .methodLink RJ0 1062 yJ3_checkFromToIndex_8c36e, .static yJ3_checkFromToIndex_8c36e, .initialized RJ3, .code yJ3_checkFromToIndex_8c36e cJ3_checkFromToIndex_8c36e 4 (some .int)])
def wsJ2_checkBoundsBeginEnd_d044e : List Cond := .code yJ2_checkBoundsBeginEnd_d044e cJ2_checkBoundsBeginEnd_d044e 3 none :: ([.methodLink RJ2 48 yJ2_length_9d52b, .static yJ2_length_9d52b, .initialized RJ2, .code yJ2_length_9d52b cJ2_length_9d52b 1 (some .int), .methodLink RJ2 241 yJ0_checkBoundsBeginEnd_23922, .static yJ0_checkBoundsBeginEnd_23922, .initialized RJ0, .code yJ0_checkBoundsBeginEnd_23922 cJ0_checkBoundsBeginEnd_23922 3 none, .fieldLink RJ0 1053 "jdk/internal/util/Preconditions" "SIOOBE_FORMATTER" "Ljava/util/function/BiFunction;", .methodLink RJ0 1062 yJ3_checkFromToIndex_8c36e, .static yJ3_checkFromToIndex_8c36e, .initialized RJ3, .code yJ3_checkFromToIndex_8c36e cJ3_checkFromToIndex_8c36e 4 (some .int)])
def wsJ2_getChar_3b067 : List Cond := .code yJ2_getChar_3b067 cJ2_getChar_3b067 2 (some .char) :: ([.fieldLink RJ2 44 "java/lang/StringUTF16" "$assertionsDisabled" "Z", .fieldLink RJ2 59 "java/lang/StringUTF16" "HI_BYTE_SHIFT" "I", .fieldLink RJ2 63 "java/lang/StringUTF16" "LO_BYTE_SHIFT" "I", .methodLink RJ2 48 yJ2_length_9d52b, .static yJ2_length_9d52b, .initialized RJ2, .code yJ2_length_9d52b cJ2_length_9d52b 1 (some .int)])
def wsJ2_indexOfCharUnsafe_4cfef : List Cond := .code yJ2_indexOfCharUnsafe_4cfef cJ2_indexOfCharUnsafe_4cfef 5 (some .int) :: ([.methodLink RJ2 71 yJ2_getChar_3b067, .static yJ2_getChar_3b067, .initialized RJ2, .code yJ2_getChar_3b067 cJ2_getChar_3b067 2 (some .char), .fieldLink RJ2 44 "java/lang/StringUTF16" "$assertionsDisabled" "Z", .fieldLink RJ2 59 "java/lang/StringUTF16" "HI_BYTE_SHIFT" "I", .fieldLink RJ2 63 "java/lang/StringUTF16" "LO_BYTE_SHIFT" "I", .methodLink RJ2 48 yJ2_length_9d52b, .static yJ2_length_9d52b, .code yJ2_length_9d52b cJ2_length_9d52b 1 (some .int)])
def wsJ2_indexOfChar_4cfef_r1 : List Cond := [Cond.methodLink RJ2 96 yJ2_checkBoundsBeginEnd_d044e, Cond.static yJ2_checkBoundsBeginEnd_d044e, Cond.initialized RJ2, Cond.code yJ2_checkBoundsBeginEnd_d044e cJ2_checkBoundsBeginEnd_d044e 3 none, Cond.methodLink RJ2 48 yJ2_length_9d52b, Cond.static yJ2_length_9d52b, Cond.code yJ2_length_9d52b cJ2_length_9d52b 1 (some .int), Cond.methodLink RJ2 241 yJ0_checkBoundsBeginEnd_23922, Cond.static yJ0_checkBoundsBeginEnd_23922, Cond.initialized RJ0, Cond.code yJ0_checkBoundsBeginEnd_23922 cJ0_checkBoundsBeginEnd_23922 3 none, Cond.fieldLink RJ0 1053 "jdk/internal/util/Preconditions" "SIOOBE_FORMATTER" "Ljava/util/function/BiFunction;", Cond.methodLink RJ0 1062 yJ3_checkFromToIndex_8c36e, Cond.static yJ3_checkFromToIndex_8c36e, Cond.initialized RJ3, Cond.code yJ3_checkFromToIndex_8c36e cJ3_checkFromToIndex_8c36e 4 (some .int), Cond.methodLink RJ2 244 yJ2_indexOfCharUnsafe_4cfef, Cond.static yJ2_indexOfCharUnsafe_4cfef, Cond.code yJ2_indexOfCharUnsafe_4cfef cJ2_indexOfCharUnsafe_4cfef 5 (some .int), Cond.methodLink RJ2 71 yJ2_getChar_3b067, Cond.static yJ2_getChar_3b067, Cond.code yJ2_getChar_3b067 cJ2_getChar_3b067 2 (some .char), Cond.fieldLink RJ2 44 "java/lang/StringUTF16" "$assertionsDisabled" "Z", Cond.fieldLink RJ2 59 "java/lang/StringUTF16" "HI_BYTE_SHIFT" "I"]
def wsJ2_indexOfChar_4cfef_r2 : List Cond := [Cond.fieldLink RJ2 63 "java/lang/StringUTF16" "LO_BYTE_SHIFT" "I"]
def wsJ2_indexOfChar_4cfef : List Cond := .code yJ2_indexOfChar_4cfef cJ2_indexOfChar_4cfef 4 (some .int) :: ((wsJ2_indexOfChar_4cfef_r1 ++ wsJ2_indexOfChar_4cfef_r2))
def wsJ11_isValidCodePoint_9a6ad : List Cond := .code yJ11_isValidCodePoint_9a6ad cJ11_isValidCodePoint_9a6ad 2 (some .boolean) :: ([])
def wsJ11_highSurrogate_5068e : List Cond := .code yJ11_highSurrogate_5068e cJ11_highSurrogate_5068e 1 (some .char) :: ([.constant RJ11 110 (55232)])
def wsJ11_lowSurrogate_5068e : List Cond := .code yJ11_lowSurrogate_5068e cJ11_lowSurrogate_5068e 1 (some .char) :: ([.constant RJ11 76 (56320)])
def wsJ2_indexOfSupplementary_4cfef_r1 : List Cond := [Cond.methodLink RJ2 164 yJ11_isValidCodePoint_9a6ad, Cond.static yJ11_isValidCodePoint_9a6ad, Cond.initialized RJ11, Cond.code yJ11_isValidCodePoint_9a6ad cJ11_isValidCodePoint_9a6ad 2 (some .boolean), Cond.methodLink RJ2 157 yJ11_highSurrogate_5068e, Cond.static yJ11_highSurrogate_5068e, Cond.code yJ11_highSurrogate_5068e cJ11_highSurrogate_5068e 1 (some .char), Cond.constant RJ11 110 (55232), Cond.methodLink RJ2 161 yJ11_lowSurrogate_5068e, Cond.static yJ11_lowSurrogate_5068e, Cond.code yJ11_lowSurrogate_5068e cJ11_lowSurrogate_5068e 1 (some .char), Cond.constant RJ11 76 (56320), Cond.methodLink RJ2 96 yJ2_checkBoundsBeginEnd_d044e, Cond.static yJ2_checkBoundsBeginEnd_d044e, Cond.initialized RJ2, Cond.code yJ2_checkBoundsBeginEnd_d044e cJ2_checkBoundsBeginEnd_d044e 3 none, Cond.methodLink RJ2 48 yJ2_length_9d52b, Cond.static yJ2_length_9d52b, Cond.code yJ2_length_9d52b cJ2_length_9d52b 1 (some .int), Cond.methodLink RJ2 241 yJ0_checkBoundsBeginEnd_23922, Cond.static yJ0_checkBoundsBeginEnd_23922, Cond.initialized RJ0, Cond.code yJ0_checkBoundsBeginEnd_23922 cJ0_checkBoundsBeginEnd_23922 3 none, Cond.fieldLink RJ0 1053 "jdk/internal/util/Preconditions" "SIOOBE_FORMATTER" "Ljava/util/function/BiFunction;"]
def wsJ2_indexOfSupplementary_4cfef_r2 : List Cond := [Cond.methodLink RJ0 1062 yJ3_checkFromToIndex_8c36e, Cond.static yJ3_checkFromToIndex_8c36e, Cond.initialized RJ3, Cond.code yJ3_checkFromToIndex_8c36e cJ3_checkFromToIndex_8c36e 4 (some .int), Cond.methodLink RJ2 71 yJ2_getChar_3b067, Cond.static yJ2_getChar_3b067, Cond.code yJ2_getChar_3b067 cJ2_getChar_3b067 2 (some .char), Cond.fieldLink RJ2 44 "java/lang/StringUTF16" "$assertionsDisabled" "Z", Cond.fieldLink RJ2 59 "java/lang/StringUTF16" "HI_BYTE_SHIFT" "I", Cond.fieldLink RJ2 63 "java/lang/StringUTF16" "LO_BYTE_SHIFT" "I"]
def wsJ2_indexOfSupplementary_4cfef : List Cond := .code yJ2_indexOfSupplementary_4cfef cJ2_indexOfSupplementary_4cfef 7 (some .int) :: ((wsJ2_indexOfSupplementary_4cfef_r1 ++ wsJ2_indexOfSupplementary_4cfef_r2))
def wsJ2_indexOf_4cfef_r1 : List Cond := [Cond.methodLink RJ2 224 Lib.Math.max.name, Cond.static Lib.Math.max.name, Cond.initialized "java/lang/Math", Cond.code Lib.Math.max.name Lib.Math.max.code 2 (some .int), Cond.methodLink RJ2 183 Lib.Math.min.name, Cond.static Lib.Math.min.name, Cond.code Lib.Math.min.name Lib.Math.min.code 2 (some .int), Cond.constant RJ2 227 (65536), Cond.methodLink RJ2 228 yJ2_indexOfChar_4cfef, Cond.static yJ2_indexOfChar_4cfef, Cond.initialized RJ2, Cond.code yJ2_indexOfChar_4cfef cJ2_indexOfChar_4cfef 4 (some .int), Cond.methodLink RJ2 96 yJ2_checkBoundsBeginEnd_d044e, Cond.static yJ2_checkBoundsBeginEnd_d044e, Cond.code yJ2_checkBoundsBeginEnd_d044e cJ2_checkBoundsBeginEnd_d044e 3 none, Cond.methodLink RJ2 48 yJ2_length_9d52b, Cond.static yJ2_length_9d52b, Cond.code yJ2_length_9d52b cJ2_length_9d52b 1 (some .int), Cond.methodLink RJ2 241 yJ0_checkBoundsBeginEnd_23922, Cond.static yJ0_checkBoundsBeginEnd_23922, Cond.initialized RJ0, Cond.code yJ0_checkBoundsBeginEnd_23922 cJ0_checkBoundsBeginEnd_23922 3 none, Cond.fieldLink RJ0 1053 "jdk/internal/util/Preconditions" "SIOOBE_FORMATTER" "Ljava/util/function/BiFunction;", Cond.methodLink RJ0 1062 yJ3_checkFromToIndex_8c36e]
def wsJ2_indexOf_4cfef_r2 : List Cond := [Cond.static yJ3_checkFromToIndex_8c36e, Cond.initialized RJ3, Cond.code yJ3_checkFromToIndex_8c36e cJ3_checkFromToIndex_8c36e 4 (some .int), Cond.methodLink RJ2 244 yJ2_indexOfCharUnsafe_4cfef, Cond.static yJ2_indexOfCharUnsafe_4cfef, Cond.code yJ2_indexOfCharUnsafe_4cfef cJ2_indexOfCharUnsafe_4cfef 5 (some .int), Cond.methodLink RJ2 71 yJ2_getChar_3b067, Cond.static yJ2_getChar_3b067, Cond.code yJ2_getChar_3b067 cJ2_getChar_3b067 2 (some .char), Cond.fieldLink RJ2 44 "java/lang/StringUTF16" "$assertionsDisabled" "Z", Cond.fieldLink RJ2 59 "java/lang/StringUTF16" "HI_BYTE_SHIFT" "I", Cond.fieldLink RJ2 63 "java/lang/StringUTF16" "LO_BYTE_SHIFT" "I", Cond.methodLink RJ2 232 yJ2_indexOfSupplementary_4cfef, Cond.static yJ2_indexOfSupplementary_4cfef, Cond.code yJ2_indexOfSupplementary_4cfef cJ2_indexOfSupplementary_4cfef 7 (some .int), Cond.methodLink RJ2 164 yJ11_isValidCodePoint_9a6ad, Cond.static yJ11_isValidCodePoint_9a6ad, Cond.initialized RJ11, Cond.code yJ11_isValidCodePoint_9a6ad cJ11_isValidCodePoint_9a6ad 2 (some .boolean), Cond.methodLink RJ2 157 yJ11_highSurrogate_5068e, Cond.static yJ11_highSurrogate_5068e, Cond.code yJ11_highSurrogate_5068e cJ11_highSurrogate_5068e 1 (some .char), Cond.constant RJ11 110 (55232), Cond.methodLink RJ2 161 yJ11_lowSurrogate_5068e]
def wsJ2_indexOf_4cfef_r3 : List Cond := [Cond.static yJ11_lowSurrogate_5068e, Cond.code yJ11_lowSurrogate_5068e cJ11_lowSurrogate_5068e 1 (some .char), Cond.constant RJ11 76 (56320)]
def wsJ2_indexOf_4cfef : List Cond := .code yJ2_indexOf_4cfef cJ2_indexOf_4cfef 4 (some .int) :: ((wsJ2_indexOf_4cfef_r1 ++ (wsJ2_indexOf_4cfef_r2 ++ wsJ2_indexOf_4cfef_r3)))
def wsJ0_indexOf_7cf53_r1 : List Cond := [Cond.fieldLink RJ0 9 "java/lang/String" "value" "[B", Cond.methodLink RJ0 492 yJ0_isLatin1_aae02, Cond.instanceMethod yJ0_isLatin1_aae02, Cond.selects RJ0 yJ0_isLatin1_aae02 yJ0_isLatin1_aae02, Cond.initialized RJ0, Cond.code yJ0_isLatin1_aae02 cJ0_isLatin1_aae02 1 (some .boolean), Cond.fieldLink RJ0 38 "java/lang/String" "COMPACT_STRINGS" "Z", Cond.fieldLink RJ0 15 "java/lang/String" "coder" "B", Cond.methodLink RJ0 505 yJ0_length_8abf5, Cond.instanceMethod yJ0_length_8abf5, Cond.selects RJ0 yJ0_length_8abf5 yJ0_length_8abf5, Cond.code yJ0_length_8abf5 cJ0_length_8abf5 1 (some .int), Cond.methodLink RJ0 335 yJ0_coder_7d493, Cond.instanceMethod yJ0_coder_7d493, Cond.selects RJ0 yJ0_coder_7d493 yJ0_coder_7d493, Cond.code yJ0_coder_7d493 cJ0_coder_7d493 1 (some .byte), Cond.methodLink RJ0 637 yJ1_indexOf_4cfef, Cond.static yJ1_indexOf_4cfef, Cond.initialized RJ1, Cond.code yJ1_indexOf_4cfef cJ1_indexOf_4cfef 4 (some .int), Cond.methodLink RJ1 92 Lib.Math.max.name, Cond.static Lib.Math.max.name, Cond.initialized "java/lang/Math", Cond.code Lib.Math.max.name Lib.Math.max.code 2 (some .int)]
def wsJ0_indexOf_7cf53_r2 : List Cond := [Cond.methodLink RJ1 38 Lib.Math.min.name, Cond.static Lib.Math.min.name, Cond.code Lib.Math.min.name Lib.Math.min.code 2 (some .int), Cond.methodLink RJ1 88 yJ1_canEncode_9a6ad, Cond.static yJ1_canEncode_9a6ad, Cond.code yJ1_canEncode_9a6ad cJ1_canEncode_9a6ad 1 (some .boolean), Cond.methodLink RJ1 95 yJ1_indexOfChar_4cfef, Cond.static yJ1_indexOfChar_4cfef, Cond.code yJ1_indexOfChar_4cfef cJ1_indexOfChar_4cfef 6 (some .int), Cond.methodLink RJ0 640 yJ2_indexOf_4cfef, Cond.static yJ2_indexOf_4cfef, Cond.initialized RJ2, Cond.code yJ2_indexOf_4cfef cJ2_indexOf_4cfef 4 (some .int), Cond.methodLink RJ2 224 Lib.Math.max.name, Cond.methodLink RJ2 183 Lib.Math.min.name, Cond.constant RJ2 227 (65536), Cond.methodLink RJ2 228 yJ2_indexOfChar_4cfef, Cond.static yJ2_indexOfChar_4cfef, Cond.code yJ2_indexOfChar_4cfef cJ2_indexOfChar_4cfef 4 (some .int), Cond.methodLink RJ2 96 yJ2_checkBoundsBeginEnd_d044e, Cond.static yJ2_checkBoundsBeginEnd_d044e, Cond.code yJ2_checkBoundsBeginEnd_d044e cJ2_checkBoundsBeginEnd_d044e 3 none, Cond.methodLink RJ2 48 yJ2_length_9d52b, Cond.static yJ2_length_9d52b]
def wsJ0_indexOf_7cf53_r3 : List Cond := [Cond.code yJ2_length_9d52b cJ2_length_9d52b 1 (some .int), Cond.methodLink RJ2 241 yJ0_checkBoundsBeginEnd_23922, Cond.static yJ0_checkBoundsBeginEnd_23922, Cond.code yJ0_checkBoundsBeginEnd_23922 cJ0_checkBoundsBeginEnd_23922 3 none, Cond.fieldLink RJ0 1053 "jdk/internal/util/Preconditions" "SIOOBE_FORMATTER" "Ljava/util/function/BiFunction;", Cond.methodLink RJ0 1062 yJ3_checkFromToIndex_8c36e, Cond.static yJ3_checkFromToIndex_8c36e, Cond.initialized RJ3, Cond.code yJ3_checkFromToIndex_8c36e cJ3_checkFromToIndex_8c36e 4 (some .int), Cond.methodLink RJ2 244 yJ2_indexOfCharUnsafe_4cfef, Cond.static yJ2_indexOfCharUnsafe_4cfef, Cond.code yJ2_indexOfCharUnsafe_4cfef cJ2_indexOfCharUnsafe_4cfef 5 (some .int), Cond.methodLink RJ2 71 yJ2_getChar_3b067, Cond.static yJ2_getChar_3b067, Cond.code yJ2_getChar_3b067 cJ2_getChar_3b067 2 (some .char), Cond.fieldLink RJ2 44 "java/lang/StringUTF16" "$assertionsDisabled" "Z", Cond.fieldLink RJ2 59 "java/lang/StringUTF16" "HI_BYTE_SHIFT" "I", Cond.fieldLink RJ2 63 "java/lang/StringUTF16" "LO_BYTE_SHIFT" "I", Cond.methodLink RJ2 232 yJ2_indexOfSupplementary_4cfef, Cond.static yJ2_indexOfSupplementary_4cfef, Cond.code yJ2_indexOfSupplementary_4cfef cJ2_indexOfSupplementary_4cfef 7 (some .int), Cond.methodLink RJ2 164 yJ11_isValidCodePoint_9a6ad, Cond.static yJ11_isValidCodePoint_9a6ad, Cond.initialized RJ11]
def wsJ0_indexOf_7cf53_r4 : List Cond := [Cond.code yJ11_isValidCodePoint_9a6ad cJ11_isValidCodePoint_9a6ad 2 (some .boolean), Cond.methodLink RJ2 157 yJ11_highSurrogate_5068e, Cond.static yJ11_highSurrogate_5068e, Cond.code yJ11_highSurrogate_5068e cJ11_highSurrogate_5068e 1 (some .char), Cond.constant RJ11 110 (55232), Cond.methodLink RJ2 161 yJ11_lowSurrogate_5068e, Cond.static yJ11_lowSurrogate_5068e, Cond.code yJ11_lowSurrogate_5068e cJ11_lowSurrogate_5068e 1 (some .char), Cond.constant RJ11 76 (56320)]
def wsJ0_indexOf_7cf53 : List Cond := .code yJ0_indexOf_7cf53 cJ0_indexOf_7cf53 3 (some .int) :: ((wsJ0_indexOf_7cf53_r1 ++ (wsJ0_indexOf_7cf53_r2 ++ (wsJ0_indexOf_7cf53_r3 ++ wsJ0_indexOf_7cf53_r4))))
def wsJ0_indexOf_0f7a4_r1 : List Cond := [Cond.methodLink RJ0 633 yJ0_indexOf_7cf53, Cond.instanceMethod yJ0_indexOf_7cf53, Cond.selects RJ0 yJ0_indexOf_7cf53 yJ0_indexOf_7cf53, Cond.initialized RJ0, Cond.code yJ0_indexOf_7cf53 cJ0_indexOf_7cf53 3 (some .int), Cond.fieldLink RJ0 9 "java/lang/String" "value" "[B", Cond.methodLink RJ0 492 yJ0_isLatin1_aae02, Cond.instanceMethod yJ0_isLatin1_aae02, Cond.selects RJ0 yJ0_isLatin1_aae02 yJ0_isLatin1_aae02, Cond.code yJ0_isLatin1_aae02 cJ0_isLatin1_aae02 1 (some .boolean), Cond.fieldLink RJ0 38 "java/lang/String" "COMPACT_STRINGS" "Z", Cond.fieldLink RJ0 15 "java/lang/String" "coder" "B", Cond.methodLink RJ0 505 yJ0_length_8abf5, Cond.instanceMethod yJ0_length_8abf5, Cond.selects RJ0 yJ0_length_8abf5 yJ0_length_8abf5, Cond.code yJ0_length_8abf5 cJ0_length_8abf5 1 (some .int), Cond.methodLink RJ0 335 yJ0_coder_7d493, Cond.instanceMethod yJ0_coder_7d493, Cond.selects RJ0 yJ0_coder_7d493 yJ0_coder_7d493, Cond.code yJ0_coder_7d493 cJ0_coder_7d493 1 (some .byte), Cond.methodLink RJ0 637 yJ1_indexOf_4cfef, Cond.static yJ1_indexOf_4cfef, Cond.initialized RJ1, Cond.code yJ1_indexOf_4cfef cJ1_indexOf_4cfef 4 (some .int)]
def wsJ0_indexOf_0f7a4_r2 : List Cond := [Cond.methodLink RJ1 92 Lib.Math.max.name, Cond.static Lib.Math.max.name, Cond.initialized "java/lang/Math", Cond.code Lib.Math.max.name Lib.Math.max.code 2 (some .int), Cond.methodLink RJ1 38 Lib.Math.min.name, Cond.static Lib.Math.min.name, Cond.code Lib.Math.min.name Lib.Math.min.code 2 (some .int), Cond.methodLink RJ1 88 yJ1_canEncode_9a6ad, Cond.static yJ1_canEncode_9a6ad, Cond.code yJ1_canEncode_9a6ad cJ1_canEncode_9a6ad 1 (some .boolean), Cond.methodLink RJ1 95 yJ1_indexOfChar_4cfef, Cond.static yJ1_indexOfChar_4cfef, Cond.code yJ1_indexOfChar_4cfef cJ1_indexOfChar_4cfef 6 (some .int), Cond.methodLink RJ0 640 yJ2_indexOf_4cfef, Cond.static yJ2_indexOf_4cfef, Cond.initialized RJ2, Cond.code yJ2_indexOf_4cfef cJ2_indexOf_4cfef 4 (some .int), Cond.methodLink RJ2 224 Lib.Math.max.name, Cond.methodLink RJ2 183 Lib.Math.min.name, Cond.constant RJ2 227 (65536), Cond.methodLink RJ2 228 yJ2_indexOfChar_4cfef, Cond.static yJ2_indexOfChar_4cfef, Cond.code yJ2_indexOfChar_4cfef cJ2_indexOfChar_4cfef 4 (some .int), Cond.methodLink RJ2 96 yJ2_checkBoundsBeginEnd_d044e]
def wsJ0_indexOf_0f7a4_r3 : List Cond := [Cond.static yJ2_checkBoundsBeginEnd_d044e, Cond.code yJ2_checkBoundsBeginEnd_d044e cJ2_checkBoundsBeginEnd_d044e 3 none, Cond.methodLink RJ2 48 yJ2_length_9d52b, Cond.static yJ2_length_9d52b, Cond.code yJ2_length_9d52b cJ2_length_9d52b 1 (some .int), Cond.methodLink RJ2 241 yJ0_checkBoundsBeginEnd_23922, Cond.static yJ0_checkBoundsBeginEnd_23922, Cond.code yJ0_checkBoundsBeginEnd_23922 cJ0_checkBoundsBeginEnd_23922 3 none, Cond.fieldLink RJ0 1053 "jdk/internal/util/Preconditions" "SIOOBE_FORMATTER" "Ljava/util/function/BiFunction;", Cond.methodLink RJ0 1062 yJ3_checkFromToIndex_8c36e, Cond.static yJ3_checkFromToIndex_8c36e, Cond.initialized RJ3, Cond.code yJ3_checkFromToIndex_8c36e cJ3_checkFromToIndex_8c36e 4 (some .int), Cond.methodLink RJ2 244 yJ2_indexOfCharUnsafe_4cfef, Cond.static yJ2_indexOfCharUnsafe_4cfef, Cond.code yJ2_indexOfCharUnsafe_4cfef cJ2_indexOfCharUnsafe_4cfef 5 (some .int), Cond.methodLink RJ2 71 yJ2_getChar_3b067, Cond.static yJ2_getChar_3b067, Cond.code yJ2_getChar_3b067 cJ2_getChar_3b067 2 (some .char), Cond.fieldLink RJ2 44 "java/lang/StringUTF16" "$assertionsDisabled" "Z", Cond.fieldLink RJ2 59 "java/lang/StringUTF16" "HI_BYTE_SHIFT" "I", Cond.fieldLink RJ2 63 "java/lang/StringUTF16" "LO_BYTE_SHIFT" "I", Cond.methodLink RJ2 232 yJ2_indexOfSupplementary_4cfef, Cond.static yJ2_indexOfSupplementary_4cfef]
def wsJ0_indexOf_0f7a4_r4 : List Cond := [Cond.code yJ2_indexOfSupplementary_4cfef cJ2_indexOfSupplementary_4cfef 7 (some .int), Cond.methodLink RJ2 164 yJ11_isValidCodePoint_9a6ad, Cond.static yJ11_isValidCodePoint_9a6ad, Cond.initialized RJ11, Cond.code yJ11_isValidCodePoint_9a6ad cJ11_isValidCodePoint_9a6ad 2 (some .boolean), Cond.methodLink RJ2 157 yJ11_highSurrogate_5068e, Cond.static yJ11_highSurrogate_5068e, Cond.code yJ11_highSurrogate_5068e cJ11_highSurrogate_5068e 1 (some .char), Cond.constant RJ11 110 (55232), Cond.methodLink RJ2 161 yJ11_lowSurrogate_5068e, Cond.static yJ11_lowSurrogate_5068e, Cond.code yJ11_lowSurrogate_5068e cJ11_lowSurrogate_5068e 1 (some .char), Cond.constant RJ11 76 (56320)]
def wsJ0_indexOf_0f7a4 : List Cond := .code yJ0_indexOf_0f7a4 cJ0_indexOf_0f7a4 2 (some .int) :: ((wsJ0_indexOf_0f7a4_r1 ++ (wsJ0_indexOf_0f7a4_r2 ++ (wsJ0_indexOf_0f7a4_r3 ++ wsJ0_indexOf_0f7a4_r4))))
def wsX6_blame : List Cond := .code yX6_blame cX6_blame 3 none :: ([.fieldLink RX6 28 "ThreeBelow$ShoreText" "faultNumber" "I", .fieldLink RX6 18 "ThreeBelow$ShoreText" "faultAt" "I"] ++ wsX60)
def wsX6_isFigure : List Cond := .code yX6_isFigure cX6_isFigure 2 (some .boolean) :: ([])
def wsX6_readNumber_r1 : List Cond := [Cond.fieldLink RX6 25 "ThreeBelow$ShoreText" "at" "I", Cond.fieldLink RX6 89 "ThreeBelow$ShoreText" "LEAST" "[I", Cond.fieldLink RX6 92 "ThreeBelow$ShoreText" "GREATEST" "[I", Cond.fieldLink RX6 15 "ThreeBelow$ShoreText" "numbers" "[I", Cond.methodLink RX6 40 yX6_skipBlanks, Cond.instanceMethod yX6_skipBlanks, Cond.selects RX6 yX6_skipBlanks yX6_skipBlanks, Cond.initialized RX6, Cond.code yX6_skipBlanks cX6_skipBlanks 2 none, Cond.methodLink RX6 43 yX6_here, Cond.instanceMethod yX6_here, Cond.selects RX6 yX6_here yX6_here, Cond.code yX6_here cX6_here 1 (some .int), Cond.fieldLink RX6 22 "ThreeBelow$ShoreText" "length" "I", Cond.fieldLink RX6 9 "ThreeBelow$ShoreText" "signs" "[I", Cond.methodLink RX6 86 yX6_isFigure, Cond.instanceMethod yX6_isFigure, Cond.selects RX6 yX6_isFigure yX6_isFigure, Cond.code yX6_isFigure cX6_isFigure 2 (some .boolean), Cond.methodLink RX6 62 yX6_blame, Cond.instanceMethod yX6_blame, Cond.selects RX6 yX6_blame yX6_blame, Cond.code yX6_blame cX6_blame 3 none, Cond.fieldLink RX6 28 "ThreeBelow$ShoreText" "faultNumber" "I"]
def wsX6_readNumber_r2 : List Cond := [Cond.fieldLink RX6 18 "ThreeBelow$ShoreText" "faultAt" "I"]
def wsX6_readNumber : List Cond := .code yX6_readNumber cX6_readNumber 6 none :: ((wsX6_readNumber_r1 ++ wsX6_readNumber_r2) ++ wsX60)
def wsX6_readSemicolon : List Cond := .code yX6_readSemicolon cX6_readSemicolon 1 none :: ([.fieldLink RX6 25 "ThreeBelow$ShoreText" "at" "I", .methodLink RX6 40 yX6_skipBlanks, .instanceMethod yX6_skipBlanks, .selects RX6 yX6_skipBlanks yX6_skipBlanks, .initialized RX6, .code yX6_skipBlanks cX6_skipBlanks 2 none, .methodLink RX6 43 yX6_here, .instanceMethod yX6_here, .selects RX6 yX6_here yX6_here, .code yX6_here cX6_here 1 (some .int), .fieldLink RX6 22 "ThreeBelow$ShoreText" "length" "I", .fieldLink RX6 9 "ThreeBelow$ShoreText" "signs" "[I", .methodLink RX6 62 yX6_blame, .instanceMethod yX6_blame, .selects RX6 yX6_blame yX6_blame, .code yX6_blame cX6_blame 3 none, .fieldLink RX6 28 "ThreeBelow$ShoreText" "faultNumber" "I", .fieldLink RX6 18 "ThreeBelow$ShoreText" "faultAt" "I"] ++ wsX60)
def wsX6_readClause_r1 : List Cond := [Cond.fieldLink RX6 25 "ThreeBelow$ShoreText" "at" "I", Cond.fieldLink RX6 70 "ThreeBelow$ShoreText" "NUMBERS_OF_WORD" "[I", Cond.fieldLink RX6 28 "ThreeBelow$ShoreText" "faultNumber" "I", Cond.fieldLink RX6 73 "ThreeBelow$ShoreText" "FIRST_BOUND_OF_WORD" "[I", Cond.fieldLink RX6 15 "ThreeBelow$ShoreText" "numbers" "[I", Cond.methodLink RX6 43 yX6_here, Cond.instanceMethod yX6_here, Cond.selects RX6 yX6_here yX6_here, Cond.initialized RX6, Cond.code yX6_here cX6_here 1 (some .int), Cond.fieldLink RX6 22 "ThreeBelow$ShoreText" "length" "I", Cond.fieldLink RX6 9 "ThreeBelow$ShoreText" "signs" "[I", Cond.methodLink RX6 52 yJ0_indexOf_0f7a4, Cond.instanceMethod yJ0_indexOf_0f7a4, Cond.selects RJ0 yJ0_indexOf_0f7a4 yJ0_indexOf_0f7a4, Cond.initialized RJ0, Cond.code yJ0_indexOf_0f7a4 cJ0_indexOf_0f7a4 2 (some .int), Cond.methodLink RJ0 633 yJ0_indexOf_7cf53, Cond.instanceMethod yJ0_indexOf_7cf53, Cond.selects RJ0 yJ0_indexOf_7cf53 yJ0_indexOf_7cf53, Cond.code yJ0_indexOf_7cf53 cJ0_indexOf_7cf53 3 (some .int), Cond.fieldLink RJ0 9 "java/lang/String" "value" "[B", Cond.methodLink RJ0 492 yJ0_isLatin1_aae02, Cond.instanceMethod yJ0_isLatin1_aae02]
def wsX6_readClause_r2 : List Cond := [Cond.selects RJ0 yJ0_isLatin1_aae02 yJ0_isLatin1_aae02, Cond.code yJ0_isLatin1_aae02 cJ0_isLatin1_aae02 1 (some .boolean), Cond.fieldLink RJ0 38 "java/lang/String" "COMPACT_STRINGS" "Z", Cond.fieldLink RJ0 15 "java/lang/String" "coder" "B", Cond.methodLink RJ0 505 yJ0_length_8abf5, Cond.instanceMethod yJ0_length_8abf5, Cond.selects RJ0 yJ0_length_8abf5 yJ0_length_8abf5, Cond.code yJ0_length_8abf5 cJ0_length_8abf5 1 (some .int), Cond.methodLink RJ0 335 yJ0_coder_7d493, Cond.instanceMethod yJ0_coder_7d493, Cond.selects RJ0 yJ0_coder_7d493 yJ0_coder_7d493, Cond.code yJ0_coder_7d493 cJ0_coder_7d493 1 (some .byte), Cond.methodLink RJ0 637 yJ1_indexOf_4cfef, Cond.static yJ1_indexOf_4cfef, Cond.initialized RJ1, Cond.code yJ1_indexOf_4cfef cJ1_indexOf_4cfef 4 (some .int), Cond.methodLink RJ1 92 Lib.Math.max.name, Cond.static Lib.Math.max.name, Cond.initialized "java/lang/Math", Cond.code Lib.Math.max.name Lib.Math.max.code 2 (some .int), Cond.methodLink RJ1 38 Lib.Math.min.name, Cond.static Lib.Math.min.name, Cond.code Lib.Math.min.name Lib.Math.min.code 2 (some .int), Cond.methodLink RJ1 88 yJ1_canEncode_9a6ad]
def wsX6_readClause_r3 : List Cond := [Cond.static yJ1_canEncode_9a6ad, Cond.code yJ1_canEncode_9a6ad cJ1_canEncode_9a6ad 1 (some .boolean), Cond.methodLink RJ1 95 yJ1_indexOfChar_4cfef, Cond.static yJ1_indexOfChar_4cfef, Cond.code yJ1_indexOfChar_4cfef cJ1_indexOfChar_4cfef 6 (some .int), Cond.methodLink RJ0 640 yJ2_indexOf_4cfef, Cond.static yJ2_indexOf_4cfef, Cond.initialized RJ2, Cond.code yJ2_indexOf_4cfef cJ2_indexOf_4cfef 4 (some .int), Cond.methodLink RJ2 224 Lib.Math.max.name, Cond.methodLink RJ2 183 Lib.Math.min.name, Cond.constant RJ2 227 (65536), Cond.methodLink RJ2 228 yJ2_indexOfChar_4cfef, Cond.static yJ2_indexOfChar_4cfef, Cond.code yJ2_indexOfChar_4cfef cJ2_indexOfChar_4cfef 4 (some .int), Cond.methodLink RJ2 96 yJ2_checkBoundsBeginEnd_d044e, Cond.static yJ2_checkBoundsBeginEnd_d044e, Cond.code yJ2_checkBoundsBeginEnd_d044e cJ2_checkBoundsBeginEnd_d044e 3 none, Cond.methodLink RJ2 48 yJ2_length_9d52b, Cond.static yJ2_length_9d52b, Cond.code yJ2_length_9d52b cJ2_length_9d52b 1 (some .int), Cond.methodLink RJ2 241 yJ0_checkBoundsBeginEnd_23922, Cond.static yJ0_checkBoundsBeginEnd_23922, Cond.code yJ0_checkBoundsBeginEnd_23922 cJ0_checkBoundsBeginEnd_23922 3 none]
def wsX6_readClause_r4 : List Cond := [Cond.fieldLink RJ0 1053 "jdk/internal/util/Preconditions" "SIOOBE_FORMATTER" "Ljava/util/function/BiFunction;", Cond.methodLink RJ0 1062 yJ3_checkFromToIndex_8c36e, Cond.static yJ3_checkFromToIndex_8c36e, Cond.initialized RJ3, Cond.code yJ3_checkFromToIndex_8c36e cJ3_checkFromToIndex_8c36e 4 (some .int), Cond.methodLink RJ2 244 yJ2_indexOfCharUnsafe_4cfef, Cond.static yJ2_indexOfCharUnsafe_4cfef, Cond.code yJ2_indexOfCharUnsafe_4cfef cJ2_indexOfCharUnsafe_4cfef 5 (some .int), Cond.methodLink RJ2 71 yJ2_getChar_3b067, Cond.static yJ2_getChar_3b067, Cond.code yJ2_getChar_3b067 cJ2_getChar_3b067 2 (some .char), Cond.fieldLink RJ2 44 "java/lang/StringUTF16" "$assertionsDisabled" "Z", Cond.fieldLink RJ2 59 "java/lang/StringUTF16" "HI_BYTE_SHIFT" "I", Cond.fieldLink RJ2 63 "java/lang/StringUTF16" "LO_BYTE_SHIFT" "I", Cond.methodLink RJ2 232 yJ2_indexOfSupplementary_4cfef, Cond.static yJ2_indexOfSupplementary_4cfef, Cond.code yJ2_indexOfSupplementary_4cfef cJ2_indexOfSupplementary_4cfef 7 (some .int), Cond.methodLink RJ2 164 yJ11_isValidCodePoint_9a6ad, Cond.static yJ11_isValidCodePoint_9a6ad, Cond.initialized RJ11, Cond.code yJ11_isValidCodePoint_9a6ad cJ11_isValidCodePoint_9a6ad 2 (some .boolean), Cond.methodLink RJ2 157 yJ11_highSurrogate_5068e, Cond.static yJ11_highSurrogate_5068e, Cond.code yJ11_highSurrogate_5068e cJ11_highSurrogate_5068e 1 (some .char)]
def wsX6_readClause_r5 : List Cond := [Cond.constant RJ11 110 (55232), Cond.methodLink RJ2 161 yJ11_lowSurrogate_5068e, Cond.static yJ11_lowSurrogate_5068e, Cond.code yJ11_lowSurrogate_5068e cJ11_lowSurrogate_5068e 1 (some .char), Cond.constant RJ11 76 (56320), Cond.methodLink RX6 58 yX5_isTold, Cond.instanceMethod yX5_isTold, Cond.selects RX5 yX5_isTold yX5_isTold, Cond.initialized RX5, Cond.code yX5_isTold cX5_isTold 1 (some .boolean), Cond.fieldLink RX5 30 "ThreeBelow$Shore" "law" "I", Cond.methodLink RX6 62 yX6_blame, Cond.instanceMethod yX6_blame, Cond.selects RX6 yX6_blame yX6_blame, Cond.code yX6_blame cX6_blame 3 none, Cond.fieldLink RX6 18 "ThreeBelow$ShoreText" "faultAt" "I", Cond.methodLink RX6 66 yX5_hasRoomFor, Cond.instanceMethod yX5_hasRoomFor, Cond.selects RX5 yX5_hasRoomFor yX5_hasRoomFor, Cond.code yX5_hasRoomFor cX5_hasRoomFor 2 (some .boolean), Cond.fieldLink RX5 37 "ThreeBelow$Shore" "depths" "I", Cond.fieldLink RX5 40 "ThreeBelow$Shore" "persons" "I", Cond.fieldLink RX5 43 "ThreeBelow$Shore" "goods" "I", Cond.methodLink RX5 46 yX5_isTold]
def wsX6_readClause_r6 : List Cond := [Cond.methodLink RX6 76 yX6_readNumber, Cond.instanceMethod yX6_readNumber, Cond.selects RX6 yX6_readNumber yX6_readNumber, Cond.code yX6_readNumber cX6_readNumber 6 none, Cond.fieldLink RX6 89 "ThreeBelow$ShoreText" "LEAST" "[I", Cond.fieldLink RX6 92 "ThreeBelow$ShoreText" "GREATEST" "[I", Cond.methodLink RX6 40 yX6_skipBlanks, Cond.instanceMethod yX6_skipBlanks, Cond.selects RX6 yX6_skipBlanks yX6_skipBlanks, Cond.code yX6_skipBlanks cX6_skipBlanks 2 none, Cond.methodLink RX6 86 yX6_isFigure, Cond.instanceMethod yX6_isFigure, Cond.selects RX6 yX6_isFigure yX6_isFigure, Cond.code yX6_isFigure cX6_isFigure 2 (some .boolean), Cond.methodLink RX6 79 yX6_readSemicolon, Cond.instanceMethod yX6_readSemicolon, Cond.selects RX6 yX6_readSemicolon yX6_readSemicolon, Cond.code yX6_readSemicolon cX6_readSemicolon 1 none, Cond.methodLink RX6 82 yX5_add, Cond.instanceMethod yX5_add, Cond.selects RX5 yX5_add yX5_add, Cond.code yX5_add cX5_add 5 none, Cond.fieldLink RX5 34 "ThreeBelow$Shore" "reign" "I", Cond.fieldLink RX5 9 "ThreeBelow$Shore" "rate" "[I"]
def wsX6_readClause_r7 : List Cond := [Cond.fieldLink RX5 15 "ThreeBelow$Shore" "toldAge" "[I", Cond.fieldLink RX5 18 "ThreeBelow$Shore" "lifespan" "[I", Cond.fieldLink RX5 21 "ThreeBelow$Shore" "toldWorth" "[I", Cond.fieldLink RX5 24 "ThreeBelow$Shore" "change" "[I", Cond.fieldLink RX5 27 "ThreeBelow$Shore" "mostWorth" "[I", Cond.methodLink RX5 50 yX5_hasRoomFor]
def wsX6_readClause : List Cond := .code yX6_readClause cX6_readClause 5 none :: ((wsX6_readClause_r1 ++ (wsX6_readClause_r2 ++ (wsX6_readClause_r3 ++ (wsX6_readClause_r4 ++ (wsX6_readClause_r5 ++ (wsX6_readClause_r6 ++ wsX6_readClause_r7)))))) ++ wsX60 ++ wsX50)
def wsX6_readClauses_r1 : List Cond := [Cond.fieldLink RX6 28 "ThreeBelow$ShoreText" "faultNumber" "I", Cond.methodLink RX6 40 yX6_skipBlanks, Cond.instanceMethod yX6_skipBlanks, Cond.selects RX6 yX6_skipBlanks yX6_skipBlanks, Cond.initialized RX6, Cond.code yX6_skipBlanks cX6_skipBlanks 2 none, Cond.fieldLink RX6 25 "ThreeBelow$ShoreText" "at" "I", Cond.methodLink RX6 43 yX6_here, Cond.instanceMethod yX6_here, Cond.selects RX6 yX6_here yX6_here, Cond.code yX6_here cX6_here 1 (some .int), Cond.fieldLink RX6 22 "ThreeBelow$ShoreText" "length" "I", Cond.fieldLink RX6 9 "ThreeBelow$ShoreText" "signs" "[I", Cond.methodLink RX6 47 yX6_readClause, Cond.instanceMethod yX6_readClause, Cond.selects RX6 yX6_readClause yX6_readClause, Cond.code yX6_readClause cX6_readClause 5 none, Cond.fieldLink RX6 70 "ThreeBelow$ShoreText" "NUMBERS_OF_WORD" "[I", Cond.fieldLink RX6 73 "ThreeBelow$ShoreText" "FIRST_BOUND_OF_WORD" "[I", Cond.fieldLink RX6 15 "ThreeBelow$ShoreText" "numbers" "[I", Cond.methodLink RX6 52 yJ0_indexOf_0f7a4, Cond.instanceMethod yJ0_indexOf_0f7a4, Cond.selects RJ0 yJ0_indexOf_0f7a4 yJ0_indexOf_0f7a4, Cond.initialized RJ0]
def wsX6_readClauses_r2 : List Cond := [Cond.code yJ0_indexOf_0f7a4 cJ0_indexOf_0f7a4 2 (some .int), Cond.methodLink RJ0 633 yJ0_indexOf_7cf53, Cond.instanceMethod yJ0_indexOf_7cf53, Cond.selects RJ0 yJ0_indexOf_7cf53 yJ0_indexOf_7cf53, Cond.code yJ0_indexOf_7cf53 cJ0_indexOf_7cf53 3 (some .int), Cond.fieldLink RJ0 9 "java/lang/String" "value" "[B", Cond.methodLink RJ0 492 yJ0_isLatin1_aae02, Cond.instanceMethod yJ0_isLatin1_aae02, Cond.selects RJ0 yJ0_isLatin1_aae02 yJ0_isLatin1_aae02, Cond.code yJ0_isLatin1_aae02 cJ0_isLatin1_aae02 1 (some .boolean), Cond.fieldLink RJ0 38 "java/lang/String" "COMPACT_STRINGS" "Z", Cond.fieldLink RJ0 15 "java/lang/String" "coder" "B", Cond.methodLink RJ0 505 yJ0_length_8abf5, Cond.instanceMethod yJ0_length_8abf5, Cond.selects RJ0 yJ0_length_8abf5 yJ0_length_8abf5, Cond.code yJ0_length_8abf5 cJ0_length_8abf5 1 (some .int), Cond.methodLink RJ0 335 yJ0_coder_7d493, Cond.instanceMethod yJ0_coder_7d493, Cond.selects RJ0 yJ0_coder_7d493 yJ0_coder_7d493, Cond.code yJ0_coder_7d493 cJ0_coder_7d493 1 (some .byte), Cond.methodLink RJ0 637 yJ1_indexOf_4cfef, Cond.static yJ1_indexOf_4cfef, Cond.initialized RJ1, Cond.code yJ1_indexOf_4cfef cJ1_indexOf_4cfef 4 (some .int)]
def wsX6_readClauses_r3 : List Cond := [Cond.methodLink RJ1 92 Lib.Math.max.name, Cond.static Lib.Math.max.name, Cond.initialized "java/lang/Math", Cond.code Lib.Math.max.name Lib.Math.max.code 2 (some .int), Cond.methodLink RJ1 38 Lib.Math.min.name, Cond.static Lib.Math.min.name, Cond.code Lib.Math.min.name Lib.Math.min.code 2 (some .int), Cond.methodLink RJ1 88 yJ1_canEncode_9a6ad, Cond.static yJ1_canEncode_9a6ad, Cond.code yJ1_canEncode_9a6ad cJ1_canEncode_9a6ad 1 (some .boolean), Cond.methodLink RJ1 95 yJ1_indexOfChar_4cfef, Cond.static yJ1_indexOfChar_4cfef, Cond.code yJ1_indexOfChar_4cfef cJ1_indexOfChar_4cfef 6 (some .int), Cond.methodLink RJ0 640 yJ2_indexOf_4cfef, Cond.static yJ2_indexOf_4cfef, Cond.initialized RJ2, Cond.code yJ2_indexOf_4cfef cJ2_indexOf_4cfef 4 (some .int), Cond.methodLink RJ2 224 Lib.Math.max.name, Cond.methodLink RJ2 183 Lib.Math.min.name, Cond.constant RJ2 227 (65536), Cond.methodLink RJ2 228 yJ2_indexOfChar_4cfef, Cond.static yJ2_indexOfChar_4cfef, Cond.code yJ2_indexOfChar_4cfef cJ2_indexOfChar_4cfef 4 (some .int), Cond.methodLink RJ2 96 yJ2_checkBoundsBeginEnd_d044e]
def wsX6_readClauses_r4 : List Cond := [Cond.static yJ2_checkBoundsBeginEnd_d044e, Cond.code yJ2_checkBoundsBeginEnd_d044e cJ2_checkBoundsBeginEnd_d044e 3 none, Cond.methodLink RJ2 48 yJ2_length_9d52b, Cond.static yJ2_length_9d52b, Cond.code yJ2_length_9d52b cJ2_length_9d52b 1 (some .int), Cond.methodLink RJ2 241 yJ0_checkBoundsBeginEnd_23922, Cond.static yJ0_checkBoundsBeginEnd_23922, Cond.code yJ0_checkBoundsBeginEnd_23922 cJ0_checkBoundsBeginEnd_23922 3 none, Cond.fieldLink RJ0 1053 "jdk/internal/util/Preconditions" "SIOOBE_FORMATTER" "Ljava/util/function/BiFunction;", Cond.methodLink RJ0 1062 yJ3_checkFromToIndex_8c36e, Cond.static yJ3_checkFromToIndex_8c36e, Cond.initialized RJ3, Cond.code yJ3_checkFromToIndex_8c36e cJ3_checkFromToIndex_8c36e 4 (some .int), Cond.methodLink RJ2 244 yJ2_indexOfCharUnsafe_4cfef, Cond.static yJ2_indexOfCharUnsafe_4cfef, Cond.code yJ2_indexOfCharUnsafe_4cfef cJ2_indexOfCharUnsafe_4cfef 5 (some .int), Cond.methodLink RJ2 71 yJ2_getChar_3b067, Cond.static yJ2_getChar_3b067, Cond.code yJ2_getChar_3b067 cJ2_getChar_3b067 2 (some .char), Cond.fieldLink RJ2 44 "java/lang/StringUTF16" "$assertionsDisabled" "Z", Cond.fieldLink RJ2 59 "java/lang/StringUTF16" "HI_BYTE_SHIFT" "I", Cond.fieldLink RJ2 63 "java/lang/StringUTF16" "LO_BYTE_SHIFT" "I", Cond.methodLink RJ2 232 yJ2_indexOfSupplementary_4cfef, Cond.static yJ2_indexOfSupplementary_4cfef]
def wsX6_readClauses_r5 : List Cond := [Cond.code yJ2_indexOfSupplementary_4cfef cJ2_indexOfSupplementary_4cfef 7 (some .int), Cond.methodLink RJ2 164 yJ11_isValidCodePoint_9a6ad, Cond.static yJ11_isValidCodePoint_9a6ad, Cond.initialized RJ11, Cond.code yJ11_isValidCodePoint_9a6ad cJ11_isValidCodePoint_9a6ad 2 (some .boolean), Cond.methodLink RJ2 157 yJ11_highSurrogate_5068e, Cond.static yJ11_highSurrogate_5068e, Cond.code yJ11_highSurrogate_5068e cJ11_highSurrogate_5068e 1 (some .char), Cond.constant RJ11 110 (55232), Cond.methodLink RJ2 161 yJ11_lowSurrogate_5068e, Cond.static yJ11_lowSurrogate_5068e, Cond.code yJ11_lowSurrogate_5068e cJ11_lowSurrogate_5068e 1 (some .char), Cond.constant RJ11 76 (56320), Cond.methodLink RX6 58 yX5_isTold, Cond.instanceMethod yX5_isTold, Cond.selects RX5 yX5_isTold yX5_isTold, Cond.initialized RX5, Cond.code yX5_isTold cX5_isTold 1 (some .boolean), Cond.fieldLink RX5 30 "ThreeBelow$Shore" "law" "I", Cond.methodLink RX6 62 yX6_blame, Cond.instanceMethod yX6_blame, Cond.selects RX6 yX6_blame yX6_blame, Cond.code yX6_blame cX6_blame 3 none, Cond.fieldLink RX6 18 "ThreeBelow$ShoreText" "faultAt" "I"]
def wsX6_readClauses_r6 : List Cond := [Cond.methodLink RX6 66 yX5_hasRoomFor, Cond.instanceMethod yX5_hasRoomFor, Cond.selects RX5 yX5_hasRoomFor yX5_hasRoomFor, Cond.code yX5_hasRoomFor cX5_hasRoomFor 2 (some .boolean), Cond.fieldLink RX5 37 "ThreeBelow$Shore" "depths" "I", Cond.fieldLink RX5 40 "ThreeBelow$Shore" "persons" "I", Cond.fieldLink RX5 43 "ThreeBelow$Shore" "goods" "I", Cond.methodLink RX5 46 yX5_isTold, Cond.methodLink RX6 76 yX6_readNumber, Cond.instanceMethod yX6_readNumber, Cond.selects RX6 yX6_readNumber yX6_readNumber, Cond.code yX6_readNumber cX6_readNumber 6 none, Cond.fieldLink RX6 89 "ThreeBelow$ShoreText" "LEAST" "[I", Cond.fieldLink RX6 92 "ThreeBelow$ShoreText" "GREATEST" "[I", Cond.methodLink RX6 86 yX6_isFigure, Cond.instanceMethod yX6_isFigure, Cond.selects RX6 yX6_isFigure yX6_isFigure, Cond.code yX6_isFigure cX6_isFigure 2 (some .boolean), Cond.methodLink RX6 79 yX6_readSemicolon, Cond.instanceMethod yX6_readSemicolon, Cond.selects RX6 yX6_readSemicolon yX6_readSemicolon, Cond.code yX6_readSemicolon cX6_readSemicolon 1 none, Cond.methodLink RX6 82 yX5_add, Cond.instanceMethod yX5_add]
def wsX6_readClauses_r7 : List Cond := [Cond.selects RX5 yX5_add yX5_add, Cond.code yX5_add cX5_add 5 none, Cond.fieldLink RX5 34 "ThreeBelow$Shore" "reign" "I", Cond.fieldLink RX5 9 "ThreeBelow$Shore" "rate" "[I", Cond.fieldLink RX5 15 "ThreeBelow$Shore" "toldAge" "[I", Cond.fieldLink RX5 18 "ThreeBelow$Shore" "lifespan" "[I", Cond.fieldLink RX5 21 "ThreeBelow$Shore" "toldWorth" "[I", Cond.fieldLink RX5 24 "ThreeBelow$Shore" "change" "[I", Cond.fieldLink RX5 27 "ThreeBelow$Shore" "mostWorth" "[I", Cond.methodLink RX5 50 yX5_hasRoomFor]
def wsX6_readClauses : List Cond := .code yX6_readClauses cX6_readClauses 3 none :: ((wsX6_readClauses_r1 ++ (wsX6_readClauses_r2 ++ (wsX6_readClauses_r3 ++ (wsX6_readClauses_r4 ++ (wsX6_readClauses_r5 ++ (wsX6_readClauses_r6 ++ wsX6_readClauses_r7)))))) ++ wsX60 ++ wsX50)
def wsX6_readInto_r1 : List Cond := [Cond.fieldLink RX6 25 "ThreeBelow$ShoreText" "at" "I", Cond.fieldLink RX6 28 "ThreeBelow$ShoreText" "faultNumber" "I", Cond.fieldLink RX6 18 "ThreeBelow$ShoreText" "faultAt" "I", Cond.methodLink RX6 31 yX5_empty, Cond.instanceMethod yX5_empty, Cond.selects RX5 yX5_empty yX5_empty, Cond.initialized RX5, Cond.code yX5_empty cX5_empty 1 none, Cond.fieldLink RX5 30 "ThreeBelow$Shore" "law" "I", Cond.fieldLink RX5 34 "ThreeBelow$Shore" "reign" "I", Cond.fieldLink RX5 37 "ThreeBelow$Shore" "depths" "I", Cond.fieldLink RX5 40 "ThreeBelow$Shore" "persons" "I", Cond.fieldLink RX5 43 "ThreeBelow$Shore" "goods" "I", Cond.methodLink RX6 36 yX6_readClauses, Cond.instanceMethod yX6_readClauses, Cond.selects RX6 yX6_readClauses yX6_readClauses, Cond.initialized RX6, Cond.code yX6_readClauses cX6_readClauses 3 none, Cond.methodLink RX6 40 yX6_skipBlanks, Cond.instanceMethod yX6_skipBlanks, Cond.selects RX6 yX6_skipBlanks yX6_skipBlanks, Cond.code yX6_skipBlanks cX6_skipBlanks 2 none, Cond.methodLink RX6 43 yX6_here, Cond.instanceMethod yX6_here]
def wsX6_readInto_r2 : List Cond := [Cond.selects RX6 yX6_here yX6_here, Cond.code yX6_here cX6_here 1 (some .int), Cond.fieldLink RX6 22 "ThreeBelow$ShoreText" "length" "I", Cond.fieldLink RX6 9 "ThreeBelow$ShoreText" "signs" "[I", Cond.methodLink RX6 47 yX6_readClause, Cond.instanceMethod yX6_readClause, Cond.selects RX6 yX6_readClause yX6_readClause, Cond.code yX6_readClause cX6_readClause 5 none, Cond.fieldLink RX6 70 "ThreeBelow$ShoreText" "NUMBERS_OF_WORD" "[I", Cond.fieldLink RX6 73 "ThreeBelow$ShoreText" "FIRST_BOUND_OF_WORD" "[I", Cond.fieldLink RX6 15 "ThreeBelow$ShoreText" "numbers" "[I", Cond.methodLink RX6 52 yJ0_indexOf_0f7a4, Cond.instanceMethod yJ0_indexOf_0f7a4, Cond.selects RJ0 yJ0_indexOf_0f7a4 yJ0_indexOf_0f7a4, Cond.initialized RJ0, Cond.code yJ0_indexOf_0f7a4 cJ0_indexOf_0f7a4 2 (some .int), Cond.methodLink RJ0 633 yJ0_indexOf_7cf53, Cond.instanceMethod yJ0_indexOf_7cf53, Cond.selects RJ0 yJ0_indexOf_7cf53 yJ0_indexOf_7cf53, Cond.code yJ0_indexOf_7cf53 cJ0_indexOf_7cf53 3 (some .int), Cond.fieldLink RJ0 9 "java/lang/String" "value" "[B", Cond.methodLink RJ0 492 yJ0_isLatin1_aae02, Cond.instanceMethod yJ0_isLatin1_aae02, Cond.selects RJ0 yJ0_isLatin1_aae02 yJ0_isLatin1_aae02]
def wsX6_readInto_r3 : List Cond := [Cond.code yJ0_isLatin1_aae02 cJ0_isLatin1_aae02 1 (some .boolean), Cond.fieldLink RJ0 38 "java/lang/String" "COMPACT_STRINGS" "Z", Cond.fieldLink RJ0 15 "java/lang/String" "coder" "B", Cond.methodLink RJ0 505 yJ0_length_8abf5, Cond.instanceMethod yJ0_length_8abf5, Cond.selects RJ0 yJ0_length_8abf5 yJ0_length_8abf5, Cond.code yJ0_length_8abf5 cJ0_length_8abf5 1 (some .int), Cond.methodLink RJ0 335 yJ0_coder_7d493, Cond.instanceMethod yJ0_coder_7d493, Cond.selects RJ0 yJ0_coder_7d493 yJ0_coder_7d493, Cond.code yJ0_coder_7d493 cJ0_coder_7d493 1 (some .byte), Cond.methodLink RJ0 637 yJ1_indexOf_4cfef, Cond.static yJ1_indexOf_4cfef, Cond.initialized RJ1, Cond.code yJ1_indexOf_4cfef cJ1_indexOf_4cfef 4 (some .int), Cond.methodLink RJ1 92 Lib.Math.max.name, Cond.static Lib.Math.max.name, Cond.initialized "java/lang/Math", Cond.code Lib.Math.max.name Lib.Math.max.code 2 (some .int), Cond.methodLink RJ1 38 Lib.Math.min.name, Cond.static Lib.Math.min.name, Cond.code Lib.Math.min.name Lib.Math.min.code 2 (some .int), Cond.methodLink RJ1 88 yJ1_canEncode_9a6ad, Cond.static yJ1_canEncode_9a6ad]
def wsX6_readInto_r4 : List Cond := [Cond.code yJ1_canEncode_9a6ad cJ1_canEncode_9a6ad 1 (some .boolean), Cond.methodLink RJ1 95 yJ1_indexOfChar_4cfef, Cond.static yJ1_indexOfChar_4cfef, Cond.code yJ1_indexOfChar_4cfef cJ1_indexOfChar_4cfef 6 (some .int), Cond.methodLink RJ0 640 yJ2_indexOf_4cfef, Cond.static yJ2_indexOf_4cfef, Cond.initialized RJ2, Cond.code yJ2_indexOf_4cfef cJ2_indexOf_4cfef 4 (some .int), Cond.methodLink RJ2 224 Lib.Math.max.name, Cond.methodLink RJ2 183 Lib.Math.min.name, Cond.constant RJ2 227 (65536), Cond.methodLink RJ2 228 yJ2_indexOfChar_4cfef, Cond.static yJ2_indexOfChar_4cfef, Cond.code yJ2_indexOfChar_4cfef cJ2_indexOfChar_4cfef 4 (some .int), Cond.methodLink RJ2 96 yJ2_checkBoundsBeginEnd_d044e, Cond.static yJ2_checkBoundsBeginEnd_d044e, Cond.code yJ2_checkBoundsBeginEnd_d044e cJ2_checkBoundsBeginEnd_d044e 3 none, Cond.methodLink RJ2 48 yJ2_length_9d52b, Cond.static yJ2_length_9d52b, Cond.code yJ2_length_9d52b cJ2_length_9d52b 1 (some .int), Cond.methodLink RJ2 241 yJ0_checkBoundsBeginEnd_23922, Cond.static yJ0_checkBoundsBeginEnd_23922, Cond.code yJ0_checkBoundsBeginEnd_23922 cJ0_checkBoundsBeginEnd_23922 3 none, Cond.fieldLink RJ0 1053 "jdk/internal/util/Preconditions" "SIOOBE_FORMATTER" "Ljava/util/function/BiFunction;"]
def wsX6_readInto_r5 : List Cond := [Cond.methodLink RJ0 1062 yJ3_checkFromToIndex_8c36e, Cond.static yJ3_checkFromToIndex_8c36e, Cond.initialized RJ3, Cond.code yJ3_checkFromToIndex_8c36e cJ3_checkFromToIndex_8c36e 4 (some .int), Cond.methodLink RJ2 244 yJ2_indexOfCharUnsafe_4cfef, Cond.static yJ2_indexOfCharUnsafe_4cfef, Cond.code yJ2_indexOfCharUnsafe_4cfef cJ2_indexOfCharUnsafe_4cfef 5 (some .int), Cond.methodLink RJ2 71 yJ2_getChar_3b067, Cond.static yJ2_getChar_3b067, Cond.code yJ2_getChar_3b067 cJ2_getChar_3b067 2 (some .char), Cond.fieldLink RJ2 44 "java/lang/StringUTF16" "$assertionsDisabled" "Z", Cond.fieldLink RJ2 59 "java/lang/StringUTF16" "HI_BYTE_SHIFT" "I", Cond.fieldLink RJ2 63 "java/lang/StringUTF16" "LO_BYTE_SHIFT" "I", Cond.methodLink RJ2 232 yJ2_indexOfSupplementary_4cfef, Cond.static yJ2_indexOfSupplementary_4cfef, Cond.code yJ2_indexOfSupplementary_4cfef cJ2_indexOfSupplementary_4cfef 7 (some .int), Cond.methodLink RJ2 164 yJ11_isValidCodePoint_9a6ad, Cond.static yJ11_isValidCodePoint_9a6ad, Cond.initialized RJ11, Cond.code yJ11_isValidCodePoint_9a6ad cJ11_isValidCodePoint_9a6ad 2 (some .boolean), Cond.methodLink RJ2 157 yJ11_highSurrogate_5068e, Cond.static yJ11_highSurrogate_5068e, Cond.code yJ11_highSurrogate_5068e cJ11_highSurrogate_5068e 1 (some .char), Cond.constant RJ11 110 (55232)]
def wsX6_readInto_r6 : List Cond := [Cond.methodLink RJ2 161 yJ11_lowSurrogate_5068e, Cond.static yJ11_lowSurrogate_5068e, Cond.code yJ11_lowSurrogate_5068e cJ11_lowSurrogate_5068e 1 (some .char), Cond.constant RJ11 76 (56320), Cond.methodLink RX6 58 yX5_isTold, Cond.instanceMethod yX5_isTold, Cond.selects RX5 yX5_isTold yX5_isTold, Cond.code yX5_isTold cX5_isTold 1 (some .boolean), Cond.methodLink RX6 62 yX6_blame, Cond.instanceMethod yX6_blame, Cond.selects RX6 yX6_blame yX6_blame, Cond.code yX6_blame cX6_blame 3 none, Cond.methodLink RX6 66 yX5_hasRoomFor, Cond.instanceMethod yX5_hasRoomFor, Cond.selects RX5 yX5_hasRoomFor yX5_hasRoomFor, Cond.code yX5_hasRoomFor cX5_hasRoomFor 2 (some .boolean), Cond.methodLink RX5 46 yX5_isTold, Cond.methodLink RX6 76 yX6_readNumber, Cond.instanceMethod yX6_readNumber, Cond.selects RX6 yX6_readNumber yX6_readNumber, Cond.code yX6_readNumber cX6_readNumber 6 none, Cond.fieldLink RX6 89 "ThreeBelow$ShoreText" "LEAST" "[I", Cond.fieldLink RX6 92 "ThreeBelow$ShoreText" "GREATEST" "[I", Cond.methodLink RX6 86 yX6_isFigure]
def wsX6_readInto_r7 : List Cond := [Cond.instanceMethod yX6_isFigure, Cond.selects RX6 yX6_isFigure yX6_isFigure, Cond.code yX6_isFigure cX6_isFigure 2 (some .boolean), Cond.methodLink RX6 79 yX6_readSemicolon, Cond.instanceMethod yX6_readSemicolon, Cond.selects RX6 yX6_readSemicolon yX6_readSemicolon, Cond.code yX6_readSemicolon cX6_readSemicolon 1 none, Cond.methodLink RX6 82 yX5_add, Cond.instanceMethod yX5_add, Cond.selects RX5 yX5_add yX5_add, Cond.code yX5_add cX5_add 5 none, Cond.fieldLink RX5 9 "ThreeBelow$Shore" "rate" "[I", Cond.fieldLink RX5 15 "ThreeBelow$Shore" "toldAge" "[I", Cond.fieldLink RX5 18 "ThreeBelow$Shore" "lifespan" "[I", Cond.fieldLink RX5 21 "ThreeBelow$Shore" "toldWorth" "[I", Cond.fieldLink RX5 24 "ThreeBelow$Shore" "change" "[I", Cond.fieldLink RX5 27 "ThreeBelow$Shore" "mostWorth" "[I", Cond.methodLink RX5 50 yX5_hasRoomFor]
def wsX6_readInto : List Cond := .code yX6_readInto cX6_readInto 2 none :: ((wsX6_readInto_r1 ++ (wsX6_readInto_r2 ++ (wsX6_readInto_r3 ++ (wsX6_readInto_r4 ++ (wsX6_readInto_r5 ++ (wsX6_readInto_r6 ++ wsX6_readInto_r7)))))) ++ wsX60 ++ wsX50)
def wsX7_init_r1 : List Cond := [Cond.methodLink RX7 1 objectInit, Cond.instanceMethod objectInit, Cond.code objectInit ⟨#[0xb1]⟩ 1 none, Cond.classLink RX7 7 RX6, Cond.instantiable RX6 6, Cond.initialized RX6, Cond.fieldLink RX7 10 "ThreeBelow" "text" "LThreeBelow$ShoreText;", Cond.classLink RX7 16 RX5, Cond.instantiable RX5 11, Cond.initialized RX5, Cond.fieldLink RX7 19 "ThreeBelow" "land" "LThreeBelow$Shore;", Cond.fieldLink RX7 23 "ThreeBelow" "draft" "LThreeBelow$Shore;", Cond.classLink RX7 26 RX3, Cond.instantiable RX3 1, Cond.initialized RX3, Cond.fieldLink RX7 29 "ThreeBelow" "life" "LThreeBelow$Life;", Cond.classLink RX7 33 RX4, Cond.instantiable RX4 3, Cond.initialized RX4, Cond.fieldLink RX7 36 "ThreeBelow" "past" "LThreeBelow$Past;", Cond.classLink RX7 40 RX2, Cond.instantiable RX2 3, Cond.initialized RX2, Cond.fieldLink RX7 43 "ThreeBelow" "images" "LThreeBelow$Images;"]
def wsX7_init_r2 : List Cond := [Cond.classLink RX7 47 RX1, Cond.instantiable RX1 9, Cond.initialized RX1, Cond.fieldLink RX7 50 "ThreeBelow" "finds" "LThreeBelow$Finds;", Cond.classLink RX7 54 RX0, Cond.instantiable RX0 3, Cond.initialized RX0, Cond.fieldLink RX7 57 "ThreeBelow" "book" "LThreeBelow$Book;", Cond.instanceMethod yX6_init, Cond.code yX6_init cX6_init 1 none, Cond.methodLink RX6 3 objectInit, Cond.arrayClass .int, Cond.fieldLink RX6 9 "ThreeBelow$ShoreText" "signs" "[I", Cond.fieldLink RX6 15 "ThreeBelow$ShoreText" "numbers" "[I", Cond.fieldLink RX6 18 "ThreeBelow$ShoreText" "faultAt" "I", Cond.instanceMethod yX5_init, Cond.code yX5_init cX5_init 1 none, Cond.methodLink RX5 3 objectInit, Cond.fieldLink RX5 9 "ThreeBelow$Shore" "rate" "[I", Cond.fieldLink RX5 15 "ThreeBelow$Shore" "toldAge" "[I", Cond.fieldLink RX5 18 "ThreeBelow$Shore" "lifespan" "[I", Cond.fieldLink RX5 21 "ThreeBelow$Shore" "toldWorth" "[I", Cond.fieldLink RX5 24 "ThreeBelow$Shore" "change" "[I", Cond.fieldLink RX5 27 "ThreeBelow$Shore" "mostWorth" "[I"]
def wsX7_init_r3 : List Cond := [Cond.instanceMethod yX3_init, Cond.code yX3_init cX3_init 1 none, Cond.methodLink RX3 5 objectInit, Cond.fieldLink RX3 11 "ThreeBelow$Life" "row" "[I", Cond.instanceMethod yX4_init, Cond.code yX4_init cX4_init 1 none, Cond.methodLink RX4 1 objectInit, Cond.classLink RX4 11 "[[I", Cond.fieldLink RX4 13 "ThreeBelow$Past" "rows" "[[I", Cond.instanceMethod yX2_init, Cond.code yX2_init cX2_init 1 none, Cond.methodLink RX2 1 objectInit, Cond.classLink RX2 11 "[[I", Cond.fieldLink RX2 13 "ThreeBelow$Images" "rows" "[[I", Cond.fieldLink RX2 16 "ThreeBelow$Images" "seeds" "[I", Cond.arrayClass .boolean, Cond.fieldLink RX2 20 "ThreeBelow$Images" "isKept" "[Z", Cond.instanceMethod yX1_init, Cond.code yX1_init cX1_init 1 none, Cond.methodLink RX1 5 objectInit, Cond.fieldLink RX1 11 "ThreeBelow$Finds" "kinds" "[I", Cond.fieldLink RX1 15 "ThreeBelow$Finds" "numbers" "[I", Cond.fieldLink RX1 18 "ThreeBelow$Finds" "values" "[I", Cond.classLink RX1 21 "[[I"]
def wsX7_init_r4 : List Cond := [Cond.fieldLink RX1 23 "ThreeBelow$Finds" "worthThen" "[[I", Cond.fieldLink RX1 26 "ThreeBelow$Finds" "fit" "[I", Cond.instanceMethod yX0_init, Cond.code yX0_init cX0_init 1 none, Cond.methodLink RX0 3 objectInit, Cond.fieldLink RX0 11 "ThreeBelow$Book" "who" "[I", Cond.fieldLink RX0 15 "ThreeBelow$Book" "ages" "[I"]
def wsX7_init : List Cond := .code yX7_init cX7_init 1 none :: ((wsX7_init_r1 ++ (wsX7_init_r2 ++ (wsX7_init_r3 ++ wsX7_init_r4))) ++ wsX60 ++ wsX70 ++ wsX50 ++ wsX30 ++ wsX40 ++ wsX20 ++ wsX10 ++ wsX00)
def wsX7_feed : List Cond := .code yX7_feed cX7_feed 2 (some .int) :: ([.constant RX7 61 (-1000000002), .fieldLink RX7 10 "ThreeBelow" "text" "LThreeBelow$ShoreText;", .fieldLink RX7 62 "ThreeBelow$ShoreText" "length" "I", .constant RX7 66 (-1000000004), .methodLink RX7 67 yX6_add, .instanceMethod yX6_add, .selects RX6 yX6_add yX6_add, .initialized RX6, .code yX6_add cX6_add 2 none, .fieldLink RX6 22 "ThreeBelow$ShoreText" "length" "I", .fieldLink RX6 9 "ThreeBelow$ShoreText" "signs" "[I"] ++ wsX70 ++ wsX60)
def wsX7_shore_r1 : List Cond := [Cond.fieldLink RX7 10 "ThreeBelow" "text" "LThreeBelow$ShoreText;", Cond.fieldLink RX7 23 "ThreeBelow" "draft" "LThreeBelow$Shore;", Cond.fieldLink RX7 78 "ThreeBelow$ShoreText" "faultNumber" "I", Cond.fieldLink RX7 19 "ThreeBelow" "land" "LThreeBelow$Shore;", Cond.fieldLink RX7 29 "ThreeBelow" "life" "LThreeBelow$Life;", Cond.fieldLink RX7 36 "ThreeBelow" "past" "LThreeBelow$Past;", Cond.fieldLink RX7 43 "ThreeBelow" "images" "LThreeBelow$Images;", Cond.fieldLink RX7 50 "ThreeBelow" "finds" "LThreeBelow$Finds;", Cond.fieldLink RX7 57 "ThreeBelow" "book" "LThreeBelow$Book;", Cond.fieldLink RX7 92 "ThreeBelow$Shore" "persons" "I", Cond.methodLink RX7 71 yX6_readInto, Cond.instanceMethod yX6_readInto, Cond.selects RX6 yX6_readInto yX6_readInto, Cond.initialized RX6, Cond.code yX6_readInto cX6_readInto 2 none, Cond.fieldLink RX6 25 "ThreeBelow$ShoreText" "at" "I", Cond.fieldLink RX6 28 "ThreeBelow$ShoreText" "faultNumber" "I", Cond.fieldLink RX6 18 "ThreeBelow$ShoreText" "faultAt" "I", Cond.methodLink RX6 31 yX5_empty, Cond.instanceMethod yX5_empty, Cond.selects RX5 yX5_empty yX5_empty, Cond.initialized RX5, Cond.code yX5_empty cX5_empty 1 none, Cond.fieldLink RX5 30 "ThreeBelow$Shore" "law" "I"]
def wsX7_shore_r2 : List Cond := [Cond.fieldLink RX5 34 "ThreeBelow$Shore" "reign" "I", Cond.fieldLink RX5 37 "ThreeBelow$Shore" "depths" "I", Cond.fieldLink RX5 40 "ThreeBelow$Shore" "persons" "I", Cond.fieldLink RX5 43 "ThreeBelow$Shore" "goods" "I", Cond.methodLink RX6 36 yX6_readClauses, Cond.instanceMethod yX6_readClauses, Cond.selects RX6 yX6_readClauses yX6_readClauses, Cond.code yX6_readClauses cX6_readClauses 3 none, Cond.methodLink RX6 40 yX6_skipBlanks, Cond.instanceMethod yX6_skipBlanks, Cond.selects RX6 yX6_skipBlanks yX6_skipBlanks, Cond.code yX6_skipBlanks cX6_skipBlanks 2 none, Cond.methodLink RX6 43 yX6_here, Cond.instanceMethod yX6_here, Cond.selects RX6 yX6_here yX6_here, Cond.code yX6_here cX6_here 1 (some .int), Cond.fieldLink RX6 22 "ThreeBelow$ShoreText" "length" "I", Cond.fieldLink RX6 9 "ThreeBelow$ShoreText" "signs" "[I", Cond.methodLink RX6 47 yX6_readClause, Cond.instanceMethod yX6_readClause, Cond.selects RX6 yX6_readClause yX6_readClause, Cond.code yX6_readClause cX6_readClause 5 none, Cond.fieldLink RX6 70 "ThreeBelow$ShoreText" "NUMBERS_OF_WORD" "[I", Cond.fieldLink RX6 73 "ThreeBelow$ShoreText" "FIRST_BOUND_OF_WORD" "[I"]
def wsX7_shore_r3 : List Cond := [Cond.fieldLink RX6 15 "ThreeBelow$ShoreText" "numbers" "[I", Cond.methodLink RX6 52 yJ0_indexOf_0f7a4, Cond.instanceMethod yJ0_indexOf_0f7a4, Cond.selects RJ0 yJ0_indexOf_0f7a4 yJ0_indexOf_0f7a4, Cond.initialized RJ0, Cond.code yJ0_indexOf_0f7a4 cJ0_indexOf_0f7a4 2 (some .int), Cond.methodLink RJ0 633 yJ0_indexOf_7cf53, Cond.instanceMethod yJ0_indexOf_7cf53, Cond.selects RJ0 yJ0_indexOf_7cf53 yJ0_indexOf_7cf53, Cond.code yJ0_indexOf_7cf53 cJ0_indexOf_7cf53 3 (some .int), Cond.fieldLink RJ0 9 "java/lang/String" "value" "[B", Cond.methodLink RJ0 492 yJ0_isLatin1_aae02, Cond.instanceMethod yJ0_isLatin1_aae02, Cond.selects RJ0 yJ0_isLatin1_aae02 yJ0_isLatin1_aae02, Cond.code yJ0_isLatin1_aae02 cJ0_isLatin1_aae02 1 (some .boolean), Cond.fieldLink RJ0 38 "java/lang/String" "COMPACT_STRINGS" "Z", Cond.fieldLink RJ0 15 "java/lang/String" "coder" "B", Cond.methodLink RJ0 505 yJ0_length_8abf5, Cond.instanceMethod yJ0_length_8abf5, Cond.selects RJ0 yJ0_length_8abf5 yJ0_length_8abf5, Cond.code yJ0_length_8abf5 cJ0_length_8abf5 1 (some .int), Cond.methodLink RJ0 335 yJ0_coder_7d493, Cond.instanceMethod yJ0_coder_7d493, Cond.selects RJ0 yJ0_coder_7d493 yJ0_coder_7d493]
def wsX7_shore_r4 : List Cond := [Cond.code yJ0_coder_7d493 cJ0_coder_7d493 1 (some .byte), Cond.methodLink RJ0 637 yJ1_indexOf_4cfef, Cond.static yJ1_indexOf_4cfef, Cond.initialized RJ1, Cond.code yJ1_indexOf_4cfef cJ1_indexOf_4cfef 4 (some .int), Cond.methodLink RJ1 92 Lib.Math.max.name, Cond.static Lib.Math.max.name, Cond.initialized "java/lang/Math", Cond.code Lib.Math.max.name Lib.Math.max.code 2 (some .int), Cond.methodLink RJ1 38 Lib.Math.min.name, Cond.static Lib.Math.min.name, Cond.code Lib.Math.min.name Lib.Math.min.code 2 (some .int), Cond.methodLink RJ1 88 yJ1_canEncode_9a6ad, Cond.static yJ1_canEncode_9a6ad, Cond.code yJ1_canEncode_9a6ad cJ1_canEncode_9a6ad 1 (some .boolean), Cond.methodLink RJ1 95 yJ1_indexOfChar_4cfef, Cond.static yJ1_indexOfChar_4cfef, Cond.code yJ1_indexOfChar_4cfef cJ1_indexOfChar_4cfef 6 (some .int), Cond.methodLink RJ0 640 yJ2_indexOf_4cfef, Cond.static yJ2_indexOf_4cfef, Cond.initialized RJ2, Cond.code yJ2_indexOf_4cfef cJ2_indexOf_4cfef 4 (some .int), Cond.methodLink RJ2 224 Lib.Math.max.name, Cond.methodLink RJ2 183 Lib.Math.min.name]
def wsX7_shore_r5 : List Cond := [Cond.constant RJ2 227 (65536), Cond.methodLink RJ2 228 yJ2_indexOfChar_4cfef, Cond.static yJ2_indexOfChar_4cfef, Cond.code yJ2_indexOfChar_4cfef cJ2_indexOfChar_4cfef 4 (some .int), Cond.methodLink RJ2 96 yJ2_checkBoundsBeginEnd_d044e, Cond.static yJ2_checkBoundsBeginEnd_d044e, Cond.code yJ2_checkBoundsBeginEnd_d044e cJ2_checkBoundsBeginEnd_d044e 3 none, Cond.methodLink RJ2 48 yJ2_length_9d52b, Cond.static yJ2_length_9d52b, Cond.code yJ2_length_9d52b cJ2_length_9d52b 1 (some .int), Cond.methodLink RJ2 241 yJ0_checkBoundsBeginEnd_23922, Cond.static yJ0_checkBoundsBeginEnd_23922, Cond.code yJ0_checkBoundsBeginEnd_23922 cJ0_checkBoundsBeginEnd_23922 3 none, Cond.fieldLink RJ0 1053 "jdk/internal/util/Preconditions" "SIOOBE_FORMATTER" "Ljava/util/function/BiFunction;", Cond.methodLink RJ0 1062 yJ3_checkFromToIndex_8c36e, Cond.static yJ3_checkFromToIndex_8c36e, Cond.initialized RJ3, Cond.code yJ3_checkFromToIndex_8c36e cJ3_checkFromToIndex_8c36e 4 (some .int), Cond.methodLink RJ2 244 yJ2_indexOfCharUnsafe_4cfef, Cond.static yJ2_indexOfCharUnsafe_4cfef, Cond.code yJ2_indexOfCharUnsafe_4cfef cJ2_indexOfCharUnsafe_4cfef 5 (some .int), Cond.methodLink RJ2 71 yJ2_getChar_3b067, Cond.static yJ2_getChar_3b067, Cond.code yJ2_getChar_3b067 cJ2_getChar_3b067 2 (some .char)]
def wsX7_shore_r6 : List Cond := [Cond.fieldLink RJ2 44 "java/lang/StringUTF16" "$assertionsDisabled" "Z", Cond.fieldLink RJ2 59 "java/lang/StringUTF16" "HI_BYTE_SHIFT" "I", Cond.fieldLink RJ2 63 "java/lang/StringUTF16" "LO_BYTE_SHIFT" "I", Cond.methodLink RJ2 232 yJ2_indexOfSupplementary_4cfef, Cond.static yJ2_indexOfSupplementary_4cfef, Cond.code yJ2_indexOfSupplementary_4cfef cJ2_indexOfSupplementary_4cfef 7 (some .int), Cond.methodLink RJ2 164 yJ11_isValidCodePoint_9a6ad, Cond.static yJ11_isValidCodePoint_9a6ad, Cond.initialized RJ11, Cond.code yJ11_isValidCodePoint_9a6ad cJ11_isValidCodePoint_9a6ad 2 (some .boolean), Cond.methodLink RJ2 157 yJ11_highSurrogate_5068e, Cond.static yJ11_highSurrogate_5068e, Cond.code yJ11_highSurrogate_5068e cJ11_highSurrogate_5068e 1 (some .char), Cond.constant RJ11 110 (55232), Cond.methodLink RJ2 161 yJ11_lowSurrogate_5068e, Cond.static yJ11_lowSurrogate_5068e, Cond.code yJ11_lowSurrogate_5068e cJ11_lowSurrogate_5068e 1 (some .char), Cond.constant RJ11 76 (56320), Cond.methodLink RX6 58 yX5_isTold, Cond.instanceMethod yX5_isTold, Cond.selects RX5 yX5_isTold yX5_isTold, Cond.code yX5_isTold cX5_isTold 1 (some .boolean), Cond.methodLink RX6 62 yX6_blame, Cond.instanceMethod yX6_blame]
def wsX7_shore_r7 : List Cond := [Cond.selects RX6 yX6_blame yX6_blame, Cond.code yX6_blame cX6_blame 3 none, Cond.methodLink RX6 66 yX5_hasRoomFor, Cond.instanceMethod yX5_hasRoomFor, Cond.selects RX5 yX5_hasRoomFor yX5_hasRoomFor, Cond.code yX5_hasRoomFor cX5_hasRoomFor 2 (some .boolean), Cond.methodLink RX5 46 yX5_isTold, Cond.methodLink RX6 76 yX6_readNumber, Cond.instanceMethod yX6_readNumber, Cond.selects RX6 yX6_readNumber yX6_readNumber, Cond.code yX6_readNumber cX6_readNumber 6 none, Cond.fieldLink RX6 89 "ThreeBelow$ShoreText" "LEAST" "[I", Cond.fieldLink RX6 92 "ThreeBelow$ShoreText" "GREATEST" "[I", Cond.methodLink RX6 86 yX6_isFigure, Cond.instanceMethod yX6_isFigure, Cond.selects RX6 yX6_isFigure yX6_isFigure, Cond.code yX6_isFigure cX6_isFigure 2 (some .boolean), Cond.methodLink RX6 79 yX6_readSemicolon, Cond.instanceMethod yX6_readSemicolon, Cond.selects RX6 yX6_readSemicolon yX6_readSemicolon, Cond.code yX6_readSemicolon cX6_readSemicolon 1 none, Cond.methodLink RX6 82 yX5_add, Cond.instanceMethod yX5_add, Cond.selects RX5 yX5_add yX5_add]
def wsX7_shore_r8 : List Cond := [Cond.code yX5_add cX5_add 5 none, Cond.fieldLink RX5 9 "ThreeBelow$Shore" "rate" "[I", Cond.fieldLink RX5 15 "ThreeBelow$Shore" "toldAge" "[I", Cond.fieldLink RX5 18 "ThreeBelow$Shore" "lifespan" "[I", Cond.fieldLink RX5 21 "ThreeBelow$Shore" "toldWorth" "[I", Cond.fieldLink RX5 24 "ThreeBelow$Shore" "change" "[I", Cond.fieldLink RX5 27 "ThreeBelow$Shore" "mostWorth" "[I", Cond.methodLink RX5 50 yX5_hasRoomFor, Cond.methodLink RX7 75 yX6_empty, Cond.instanceMethod yX6_empty, Cond.selects RX6 yX6_empty yX6_empty, Cond.code yX6_empty cX6_empty 1 none, Cond.methodLink RX7 81 yX3_begin, Cond.instanceMethod yX3_begin, Cond.selects RX3 yX3_begin yX3_begin, Cond.initialized RX3, Cond.code yX3_begin cX3_begin 3 none, Cond.fieldLink RX3 11 "ThreeBelow$Life" "row" "[I", Cond.fieldLink RX3 15 "ThreeBelow$Shore" "persons" "I", Cond.fieldLink RX3 21 "ThreeBelow$Shore" "toldAge" "[I", Cond.fieldLink RX3 28 "ThreeBelow$Shore" "goods" "I", Cond.fieldLink RX3 31 "ThreeBelow$Shore" "toldWorth" "[I", Cond.methodLink RX3 24 yX3_buryIfOld, Cond.instanceMethod yX3_buryIfOld]
def wsX7_shore_r9 : List Cond := [Cond.selects RX3 yX3_buryIfOld yX3_buryIfOld, Cond.code yX3_buryIfOld cX3_buryIfOld 3 none, Cond.fieldLink RX3 66 "ThreeBelow$Shore" "lifespan" "[I", Cond.methodLink RX7 84 yX4_forget, Cond.instanceMethod yX4_forget, Cond.selects RX4 yX4_forget yX4_forget, Cond.initialized RX4, Cond.code yX4_forget cX4_forget 1 none, Cond.fieldLink RX4 16 "ThreeBelow$Past" "count" "I", Cond.methodLink RX7 87 yX2_forget, Cond.instanceMethod yX2_forget, Cond.selects RX2 yX2_forget yX2_forget, Cond.initialized RX2, Cond.code yX2_forget cX2_forget 2 none, Cond.fieldLink RX2 20 "ThreeBelow$Images" "isKept" "[Z", Cond.methodLink RX7 88 yX1_beginAnew, Cond.instanceMethod yX1_beginAnew, Cond.selects RX1 yX1_beginAnew yX1_beginAnew, Cond.initialized RX1, Cond.code yX1_beginAnew cX1_beginAnew 1 none, Cond.fieldLink RX1 29 "ThreeBelow$Finds" "isCounted" "Z", Cond.methodLink RX1 33 yX1_empty, Cond.instanceMethod yX1_empty, Cond.selects RX1 yX1_empty yX1_empty]
def wsX7_shore_r10 : List Cond := [Cond.code yX1_empty cX1_empty 1 none, Cond.fieldLink RX1 36 "ThreeBelow$Finds" "count" "I", Cond.fieldLink RX1 40 "ThreeBelow$Finds" "isSought" "Z", Cond.methodLink RX7 91 yX0_empty, Cond.instanceMethod yX0_empty, Cond.selects RX0 yX0_empty yX0_empty, Cond.initialized RX0, Cond.code yX0_empty cX0_empty 1 none, Cond.fieldLink RX0 18 "ThreeBelow$Book" "count" "I"]
def wsX7_shore : List Cond := .code yX7_shore cX7_shore 2 (some .int) :: ((wsX7_shore_r1 ++ (wsX7_shore_r2 ++ (wsX7_shore_r3 ++ (wsX7_shore_r4 ++ (wsX7_shore_r5 ++ (wsX7_shore_r6 ++ (wsX7_shore_r7 ++ (wsX7_shore_r8 ++ (wsX7_shore_r9 ++ wsX7_shore_r10))))))))) ++ wsX70 ++ wsX60 ++ wsX50 ++ wsX30 ++ wsX40 ++ wsX20 ++ wsX10 ++ wsX00)
def wsX7_fault : List Cond := .code yX7_fault cX7_fault 1 (some .int) :: ([.fieldLink RX7 10 "ThreeBelow" "text" "LThreeBelow$ShoreText;", .fieldLink RX7 95 "ThreeBelow$ShoreText" "faultAt" "I"] ++ wsX70 ++ wsX60)
def wsX7_told_r1 : List Cond := [Cond.fieldLink RX7 19 "ThreeBelow" "land" "LThreeBelow$Shore;", Cond.fieldLink RX7 98 "ThreeBelow$Shore" "law" "I", Cond.fieldLink RX7 101 "ThreeBelow$Shore" "reign" "I", Cond.fieldLink RX7 104 "ThreeBelow$Shore" "depths" "I", Cond.fieldLink RX7 92 "ThreeBelow$Shore" "persons" "I", Cond.fieldLink RX7 107 "ThreeBelow$Shore" "goods" "I", Cond.fieldLink RX7 10 "ThreeBelow" "text" "LThreeBelow$ShoreText;", Cond.fieldLink RX7 62 "ThreeBelow$ShoreText" "length" "I", Cond.fieldLink RX7 29 "ThreeBelow" "life" "LThreeBelow$Life;", Cond.fieldLink RX7 50 "ThreeBelow" "finds" "LThreeBelow$Finds;", Cond.fieldLink RX7 126 "ThreeBelow$Finds" "count" "I", Cond.fieldLink RX7 57 "ThreeBelow" "book" "LThreeBelow$Book;", Cond.fieldLink RX7 129 "ThreeBelow$Book" "count" "I", Cond.fieldLink RX7 36 "ThreeBelow" "past" "LThreeBelow$Past;", Cond.fieldLink RX7 130 "ThreeBelow$Past" "count" "I", Cond.constant RX7 61 (-1000000002), Cond.methodLink RX7 110 yX3_years, Cond.instanceMethod yX3_years, Cond.selects RX3 yX3_years yX3_years, Cond.initialized RX3, Cond.code yX3_years cX3_years 1 (some .int), Cond.fieldLink RX3 11 "ThreeBelow$Life" "row" "[I", Cond.methodLink RX7 114 yX5_kingAt, Cond.instanceMethod yX5_kingAt]
def wsX7_told_r2 : List Cond := [Cond.selects RX5 yX5_kingAt yX5_kingAt, Cond.initialized RX5, Cond.code yX5_kingAt cX5_kingAt 2 (some .int), Cond.fieldLink RX5 34 "ThreeBelow$Shore" "reign" "I", Cond.methodLink RX7 118 yX3_deadOnes, Cond.instanceMethod yX3_deadOnes, Cond.selects RX3 yX3_deadOnes yX3_deadOnes, Cond.code yX3_deadOnes cX3_deadOnes 4 (some .int), Cond.fieldLink RX3 15 "ThreeBelow$Shore" "persons" "I", Cond.methodLink RX3 53 yX3_place, Cond.instanceMethod yX3_place, Cond.selects RX3 yX3_place yX3_place, Cond.code yX3_place cX3_place 2 (some .int), Cond.methodLink RX3 46 yX3_isPerson, Cond.static yX3_isPerson, Cond.code yX3_isPerson cX3_isPerson 1 (some .boolean), Cond.methodLink RX7 122 yX3_stayersOf, Cond.instanceMethod yX3_stayersOf, Cond.selects RX3 yX3_stayersOf yX3_stayersOf, Cond.code yX3_stayersOf cX3_stayersOf 5 (some .int), Cond.methodLink RX3 57 yX3_isBelow, Cond.instanceMethod yX3_isBelow, Cond.selects RX3 yX3_isBelow yX3_isBelow, Cond.code yX3_isBelow cX3_isBelow 2 (some .boolean)]
def wsX7_told : List Cond := .code yX7_told cX7_told 2 (some .int) :: ((wsX7_told_r1 ++ wsX7_told_r2) ++ wsX70 ++ wsX50 ++ wsX60 ++ wsX10 ++ wsX00 ++ wsX40 ++ wsX30)
def wsX7_depth : List Cond := .code yX7_depth cX7_depth 2 (some .int) :: ([.fieldLink RX7 19 "ThreeBelow" "land" "LThreeBelow$Shore;", .fieldLink RX7 135 "ThreeBelow$Shore" "rate" "[I", .constant RX7 139 (-1000000001), .methodLink RX7 131 yX5_hasDepth, .instanceMethod yX5_hasDepth, .selects RX5 yX5_hasDepth yX5_hasDepth, .initialized RX5, .code yX5_hasDepth cX5_hasDepth 2 (some .boolean), .fieldLink RX5 37 "ThreeBelow$Shore" "depths" "I"] ++ wsX70 ++ wsX50)
def wsX7_person_r1 : List Cond := [Cond.fieldLink RX7 19 "ThreeBelow" "land" "LThreeBelow$Shore;", Cond.constant RX7 139 (-1000000001), Cond.fieldLink RX7 29 "ThreeBelow" "life" "LThreeBelow$Life;", Cond.fieldLink RX7 146 "ThreeBelow$Shore" "lifespan" "[I", Cond.constant RX7 61 (-1000000002), Cond.methodLink RX7 140 yX5_hasPerson, Cond.instanceMethod yX5_hasPerson, Cond.selects RX5 yX5_hasPerson yX5_hasPerson, Cond.initialized RX5, Cond.code yX5_hasPerson cX5_hasPerson 2 (some .boolean), Cond.fieldLink RX5 40 "ThreeBelow$Shore" "persons" "I", Cond.methodLink RX7 143 yX3_age, Cond.instanceMethod yX3_age, Cond.selects RX3 yX3_age yX3_age, Cond.initialized RX3, Cond.code yX3_age cX3_age 2 (some .int), Cond.fieldLink RX3 11 "ThreeBelow$Life" "row" "[I", Cond.methodLink RX3 46 yX3_isPerson, Cond.static yX3_isPerson, Cond.code yX3_isPerson cX3_isPerson 1 (some .boolean), Cond.methodLink RX7 149 yX3_place, Cond.instanceMethod yX3_place, Cond.selects RX3 yX3_place yX3_place, Cond.code yX3_place cX3_place 2 (some .int)]
def wsX7_person_r2 : List Cond := [Cond.methodLink RX7 152 yX3_box, Cond.instanceMethod yX3_box, Cond.selects RX3 yX3_box yX3_box, Cond.code yX3_box cX3_box 2 (some .int), Cond.methodLink RX7 155 yX3_daysBelow, Cond.instanceMethod yX3_daysBelow, Cond.selects RX3 yX3_daysBelow yX3_daysBelow, Cond.code yX3_daysBelow cX3_daysBelow 3 (some .int), Cond.methodLink RX3 57 yX3_isBelow, Cond.instanceMethod yX3_isBelow, Cond.selects RX3 yX3_isBelow yX3_isBelow, Cond.code yX3_isBelow cX3_isBelow 2 (some .boolean), Cond.methodLink RX3 53 yX3_place, Cond.methodLink RX3 60 yX5_daysIn, Cond.instanceMethod yX5_daysIn, Cond.selects RX5 yX5_daysIn yX5_daysIn, Cond.code yX5_daysIn cX5_daysIn 3 (some .int), Cond.fieldLink RX5 9 "ThreeBelow$Shore" "rate" "[I", Cond.methodLink RX5 54 yX5_hasDepth, Cond.instanceMethod yX5_hasDepth, Cond.selects RX5 yX5_hasDepth yX5_hasDepth, Cond.code yX5_hasDepth cX5_hasDepth 2 (some .boolean), Cond.fieldLink RX5 37 "ThreeBelow$Shore" "depths" "I"]
def wsX7_person : List Cond := .code yX7_person cX7_person 3 (some .int) :: ((wsX7_person_r1 ++ wsX7_person_r2) ++ wsX70 ++ wsX50 ++ wsX30)
def wsX7_good : List Cond := .code yX7_good cX7_good 3 (some .int) :: ([.fieldLink RX7 19 "ThreeBelow" "land" "LThreeBelow$Shore;", .constant RX7 139 (-1000000001), .fieldLink RX7 29 "ThreeBelow" "life" "LThreeBelow$Life;", .fieldLink RX7 164 "ThreeBelow$Shore" "toldWorth" "[I", .fieldLink RX7 167 "ThreeBelow$Shore" "change" "[I", .fieldLink RX7 170 "ThreeBelow$Shore" "mostWorth" "[I", .constant RX7 61 (-1000000002), .methodLink RX7 158 yX5_hasGood, .instanceMethod yX5_hasGood, .selects RX5 yX5_hasGood yX5_hasGood, .initialized RX5, .code yX5_hasGood cX5_hasGood 2 (some .boolean), .fieldLink RX5 43 "ThreeBelow$Shore" "goods" "I", .methodLink RX7 161 yX3_worth, .instanceMethod yX3_worth, .selects RX3 yX3_worth yX3_worth, .initialized RX3, .code yX3_worth cX3_worth 2 (some .int), .fieldLink RX3 11 "ThreeBelow$Life" "row" "[I", .methodLink RX3 50 yX3_isGood, .static yX3_isGood, .code yX3_isGood cX3_isGood 1 (some .boolean)] ++ wsX70 ++ wsX50 ++ wsX30)
def wsX7_refuseYears : List Cond := .code yX7_refuseYears cX7_refuseYears 3 (some .int) :: ([.constant RX7 61 (-1000000002), .fieldLink RX7 19 "ThreeBelow" "land" "LThreeBelow$Shore;", .constant RX7 188 (-1000000003), .fieldLink RX7 29 "ThreeBelow" "life" "LThreeBelow$Life;", .constant RX7 218 (90000), .constant RX7 66 (-1000000004), .methodLink RX7 214 yX5_isTold, .instanceMethod yX5_isTold, .selects RX5 yX5_isTold yX5_isTold, .initialized RX5, .code yX5_isTold cX5_isTold 1 (some .boolean), .fieldLink RX5 30 "ThreeBelow$Shore" "law" "I", .methodLink RX7 110 yX3_years, .instanceMethod yX3_years, .selects RX3 yX3_years yX3_years, .initialized RX3, .code yX3_years cX3_years 1 (some .int), .fieldLink RX3 11 "ThreeBelow$Life" "row" "[I"] ++ wsX70 ++ wsX50 ++ wsX30)
def wsX7_year_r1 : List Cond := [Cond.fieldLink RX7 36 "ThreeBelow" "past" "LThreeBelow$Past;", Cond.fieldLink RX7 29 "ThreeBelow" "life" "LThreeBelow$Life;", Cond.fieldLink RX7 19 "ThreeBelow" "land" "LThreeBelow$Shore;", Cond.methodLink RX7 173 yX7_refuseYears, Cond.instanceMethod yX7_refuseYears, Cond.selects RX7 yX7_refuseYears yX7_refuseYears, Cond.initialized RX7, Cond.code yX7_refuseYears cX7_refuseYears 3 (some .int), Cond.constant RX7 61 (-1000000002), Cond.constant RX7 188 (-1000000003), Cond.constant RX7 218 (90000), Cond.constant RX7 66 (-1000000004), Cond.methodLink RX7 214 yX5_isTold, Cond.instanceMethod yX5_isTold, Cond.selects RX5 yX5_isTold yX5_isTold, Cond.initialized RX5, Cond.code yX5_isTold cX5_isTold 1 (some .boolean), Cond.fieldLink RX5 30 "ThreeBelow$Shore" "law" "I", Cond.methodLink RX7 110 yX3_years, Cond.instanceMethod yX3_years, Cond.selects RX3 yX3_years yX3_years, Cond.initialized RX3, Cond.code yX3_years cX3_years 1 (some .int), Cond.fieldLink RX3 11 "ThreeBelow$Life" "row" "[I"]
def wsX7_year_r2 : List Cond := [Cond.methodLink RX7 177 yX4_remember, Cond.instanceMethod yX4_remember, Cond.selects RX4 yX4_remember yX4_remember, Cond.initialized RX4, Cond.code yX4_remember cX4_remember 2 none, Cond.fieldLink RX4 13 "ThreeBelow$Past" "rows" "[[I", Cond.fieldLink RX4 20 "ThreeBelow$Past" "next" "I", Cond.fieldLink RX4 16 "ThreeBelow$Past" "count" "I", Cond.methodLink RX4 27 Lib.Math.min.name, Cond.static Lib.Math.min.name, Cond.initialized "java/lang/Math", Cond.code Lib.Math.min.name Lib.Math.min.code 2 (some .int), Cond.methodLink RX4 23 yX3_copyTo, Cond.instanceMethod yX3_copyTo, Cond.selects RX3 yX3_copyTo yX3_copyTo, Cond.code yX3_copyTo cX3_copyTo 2 none, Cond.methodLink RX3 34 Lib.Math.min.name, Cond.methodLink RX3 40 arraycopyName, Cond.native arraycopyName, Cond.static arraycopyName, Cond.initialized "java/lang/System", Cond.methodLink RX7 181 yX3_passYears, Cond.instanceMethod yX3_passYears, Cond.selects RX3 yX3_passYears yX3_passYears]
def wsX7_year_r3 : List Cond := [Cond.code yX3_passYears cX3_passYears 4 none, Cond.fieldLink RX3 15 "ThreeBelow$Shore" "persons" "I", Cond.fieldLink RX3 66 "ThreeBelow$Shore" "lifespan" "[I", Cond.fieldLink RX3 28 "ThreeBelow$Shore" "goods" "I", Cond.methodLink RX3 63 yX3_isAbove, Cond.instanceMethod yX3_isAbove, Cond.selects RX3 yX3_isAbove yX3_isAbove, Cond.code yX3_isAbove cX3_isAbove 2 (some .boolean), Cond.methodLink RX3 53 yX3_place, Cond.instanceMethod yX3_place, Cond.selects RX3 yX3_place yX3_place, Cond.code yX3_place cX3_place 2 (some .int), Cond.methodLink RX3 46 yX3_isPerson, Cond.static yX3_isPerson, Cond.code yX3_isPerson cX3_isPerson 1 (some .boolean), Cond.methodLink RX3 24 yX3_buryIfOld, Cond.instanceMethod yX3_buryIfOld, Cond.selects RX3 yX3_buryIfOld yX3_buryIfOld, Cond.code yX3_buryIfOld cX3_buryIfOld 3 none, Cond.methodLink RX3 57 yX3_isBelow, Cond.instanceMethod yX3_isBelow, Cond.selects RX3 yX3_isBelow yX3_isBelow, Cond.code yX3_isBelow cX3_isBelow 2 (some .boolean), Cond.methodLink RX3 69 yX5_worthBehind]
def wsX7_year_r4 : List Cond := [Cond.instanceMethod yX5_worthBehind, Cond.selects RX5 yX5_worthBehind yX5_worthBehind, Cond.code yX5_worthBehind cX5_worthBehind 7 (some .int), Cond.methodLink RX5 60 yX5_worthNextYear, Cond.instanceMethod yX5_worthNextYear, Cond.selects RX5 yX5_worthNextYear yX5_worthNextYear, Cond.code yX5_worthNextYear cX5_worthNextYear 4 (some .int), Cond.fieldLink RX5 24 "ThreeBelow$Shore" "change" "[I", Cond.fieldLink RX5 27 "ThreeBelow$Shore" "mostWorth" "[I", Cond.methodLink RX5 57 yX5_hasGood, Cond.instanceMethod yX5_hasGood, Cond.selects RX5 yX5_hasGood yX5_hasGood, Cond.code yX5_hasGood cX5_hasGood 2 (some .boolean), Cond.fieldLink RX5 43 "ThreeBelow$Shore" "goods" "I"]
def wsX7_year : List Cond := .code yX7_year cX7_year 3 (some .int) :: ((wsX7_year_r1 ++ (wsX7_year_r2 ++ (wsX7_year_r3 ++ wsX7_year_r4))) ++ wsX70 ++ wsX50 ++ wsX30 ++ wsX40)
def wsX7_down_r1 : List Cond := [Cond.fieldLink RX7 19 "ThreeBelow" "land" "LThreeBelow$Shore;", Cond.constant RX7 139 (-1000000001), Cond.fieldLink RX7 29 "ThreeBelow" "life" "LThreeBelow$Life;", Cond.constant RX7 188 (-1000000003), Cond.fieldLink RX7 36 "ThreeBelow" "past" "LThreeBelow$Past;", Cond.methodLink RX7 140 yX5_hasPerson, Cond.instanceMethod yX5_hasPerson, Cond.selects RX5 yX5_hasPerson yX5_hasPerson, Cond.initialized RX5, Cond.code yX5_hasPerson cX5_hasPerson 2 (some .boolean), Cond.fieldLink RX5 40 "ThreeBelow$Shore" "persons" "I", Cond.methodLink RX7 131 yX5_hasDepth, Cond.instanceMethod yX5_hasDepth, Cond.selects RX5 yX5_hasDepth yX5_hasDepth, Cond.code yX5_hasDepth cX5_hasDepth 2 (some .boolean), Cond.fieldLink RX5 37 "ThreeBelow$Shore" "depths" "I", Cond.methodLink RX7 185 yX3_isAbove, Cond.instanceMethod yX3_isAbove, Cond.selects RX3 yX3_isAbove yX3_isAbove, Cond.initialized RX3, Cond.code yX3_isAbove cX3_isAbove 2 (some .boolean), Cond.methodLink RX3 53 yX3_place, Cond.instanceMethod yX3_place, Cond.selects RX3 yX3_place yX3_place]
def wsX7_down_r2 : List Cond := [Cond.code yX3_place cX3_place 2 (some .int), Cond.fieldLink RX3 11 "ThreeBelow$Life" "row" "[I", Cond.methodLink RX3 46 yX3_isPerson, Cond.static yX3_isPerson, Cond.code yX3_isPerson cX3_isPerson 1 (some .boolean), Cond.methodLink RX7 177 yX4_remember, Cond.instanceMethod yX4_remember, Cond.selects RX4 yX4_remember yX4_remember, Cond.initialized RX4, Cond.code yX4_remember cX4_remember 2 none, Cond.fieldLink RX4 13 "ThreeBelow$Past" "rows" "[[I", Cond.fieldLink RX4 20 "ThreeBelow$Past" "next" "I", Cond.fieldLink RX4 16 "ThreeBelow$Past" "count" "I", Cond.methodLink RX4 27 Lib.Math.min.name, Cond.static Lib.Math.min.name, Cond.initialized "java/lang/Math", Cond.code Lib.Math.min.name Lib.Math.min.code 2 (some .int), Cond.methodLink RX4 23 yX3_copyTo, Cond.instanceMethod yX3_copyTo, Cond.selects RX3 yX3_copyTo yX3_copyTo, Cond.code yX3_copyTo cX3_copyTo 2 none, Cond.methodLink RX3 34 Lib.Math.min.name, Cond.methodLink RX3 40 arraycopyName, Cond.native arraycopyName]
def wsX7_down_r3 : List Cond := [Cond.static arraycopyName, Cond.initialized "java/lang/System", Cond.methodLink RX7 189 yX3_goDown, Cond.instanceMethod yX3_goDown, Cond.selects RX3 yX3_goDown yX3_goDown, Cond.code yX3_goDown cX3_goDown 3 none, Cond.methodLink RX7 143 yX3_age, Cond.instanceMethod yX3_age, Cond.selects RX3 yX3_age yX3_age, Cond.code yX3_age cX3_age 2 (some .int)]
def wsX7_down : List Cond := .code yX7_down cX7_down 3 (some .int) :: ((wsX7_down_r1 ++ (wsX7_down_r2 ++ wsX7_down_r3)) ++ wsX70 ++ wsX50 ++ wsX30 ++ wsX40)
def wsX7_up_r1 : List Cond := [Cond.fieldLink RX7 19 "ThreeBelow" "land" "LThreeBelow$Shore;", Cond.constant RX7 139 (-1000000001), Cond.fieldLink RX7 29 "ThreeBelow" "life" "LThreeBelow$Life;", Cond.constant RX7 188 (-1000000003), Cond.fieldLink RX7 36 "ThreeBelow" "past" "LThreeBelow$Past;", Cond.methodLink RX7 140 yX5_hasPerson, Cond.instanceMethod yX5_hasPerson, Cond.selects RX5 yX5_hasPerson yX5_hasPerson, Cond.initialized RX5, Cond.code yX5_hasPerson cX5_hasPerson 2 (some .boolean), Cond.fieldLink RX5 40 "ThreeBelow$Shore" "persons" "I", Cond.methodLink RX7 193 yX3_isBelow, Cond.instanceMethod yX3_isBelow, Cond.selects RX3 yX3_isBelow yX3_isBelow, Cond.initialized RX3, Cond.code yX3_isBelow cX3_isBelow 2 (some .boolean), Cond.methodLink RX3 53 yX3_place, Cond.instanceMethod yX3_place, Cond.selects RX3 yX3_place yX3_place, Cond.code yX3_place cX3_place 2 (some .int), Cond.fieldLink RX3 11 "ThreeBelow$Life" "row" "[I", Cond.methodLink RX3 46 yX3_isPerson, Cond.static yX3_isPerson, Cond.code yX3_isPerson cX3_isPerson 1 (some .boolean)]
def wsX7_up_r2 : List Cond := [Cond.methodLink RX7 177 yX4_remember, Cond.instanceMethod yX4_remember, Cond.selects RX4 yX4_remember yX4_remember, Cond.initialized RX4, Cond.code yX4_remember cX4_remember 2 none, Cond.fieldLink RX4 13 "ThreeBelow$Past" "rows" "[[I", Cond.fieldLink RX4 20 "ThreeBelow$Past" "next" "I", Cond.fieldLink RX4 16 "ThreeBelow$Past" "count" "I", Cond.methodLink RX4 27 Lib.Math.min.name, Cond.static Lib.Math.min.name, Cond.initialized "java/lang/Math", Cond.code Lib.Math.min.name Lib.Math.min.code 2 (some .int), Cond.methodLink RX4 23 yX3_copyTo, Cond.instanceMethod yX3_copyTo, Cond.selects RX3 yX3_copyTo yX3_copyTo, Cond.code yX3_copyTo cX3_copyTo 2 none, Cond.methodLink RX3 34 Lib.Math.min.name, Cond.methodLink RX3 40 arraycopyName, Cond.native arraycopyName, Cond.static arraycopyName, Cond.initialized "java/lang/System", Cond.methodLink RX7 155 yX3_daysBelow, Cond.instanceMethod yX3_daysBelow, Cond.selects RX3 yX3_daysBelow yX3_daysBelow]
def wsX7_up_r3 : List Cond := [Cond.code yX3_daysBelow cX3_daysBelow 3 (some .int), Cond.methodLink RX3 57 yX3_isBelow, Cond.methodLink RX3 60 yX5_daysIn, Cond.instanceMethod yX5_daysIn, Cond.selects RX5 yX5_daysIn yX5_daysIn, Cond.code yX5_daysIn cX5_daysIn 3 (some .int), Cond.fieldLink RX5 9 "ThreeBelow$Shore" "rate" "[I", Cond.methodLink RX5 54 yX5_hasDepth, Cond.instanceMethod yX5_hasDepth, Cond.selects RX5 yX5_hasDepth yX5_hasDepth, Cond.code yX5_hasDepth cX5_hasDepth 2 (some .boolean), Cond.fieldLink RX5 37 "ThreeBelow$Shore" "depths" "I", Cond.methodLink RX7 196 yX3_comeUp, Cond.instanceMethod yX3_comeUp, Cond.selects RX3 yX3_comeUp yX3_comeUp, Cond.code yX3_comeUp cX3_comeUp 2 none]
def wsX7_up : List Cond := .code yX7_up cX7_up 3 (some .int) :: ((wsX7_up_r1 ++ (wsX7_up_r2 ++ wsX7_up_r3)) ++ wsX70 ++ wsX50 ++ wsX30 ++ wsX40)
def wsX7_refuseUnlessAbove : List Cond := .code yX7_refuseUnlessAbove cX7_refuseUnlessAbove 2 (some .int) :: ([.fieldLink RX7 19 "ThreeBelow" "land" "LThreeBelow$Shore;", .constant RX7 139 (-1000000001), .fieldLink RX7 29 "ThreeBelow" "life" "LThreeBelow$Life;", .constant RX7 188 (-1000000003), .methodLink RX7 140 yX5_hasPerson, .instanceMethod yX5_hasPerson, .selects RX5 yX5_hasPerson yX5_hasPerson, .initialized RX5, .code yX5_hasPerson cX5_hasPerson 2 (some .boolean), .fieldLink RX5 40 "ThreeBelow$Shore" "persons" "I", .methodLink RX7 185 yX3_isAbove, .instanceMethod yX3_isAbove, .selects RX3 yX3_isAbove yX3_isAbove, .initialized RX3, .code yX3_isAbove cX3_isAbove 2 (some .boolean), .methodLink RX3 53 yX3_place, .instanceMethod yX3_place, .selects RX3 yX3_place yX3_place, .code yX3_place cX3_place 2 (some .int), .fieldLink RX3 11 "ThreeBelow$Life" "row" "[I", .methodLink RX3 46 yX3_isPerson, .static yX3_isPerson, .code yX3_isPerson cX3_isPerson 1 (some .boolean)] ++ wsX70 ++ wsX50 ++ wsX30)
def wsX7_open_r1 : List Cond := [Cond.fieldLink RX7 36 "ThreeBelow" "past" "LThreeBelow$Past;", Cond.fieldLink RX7 29 "ThreeBelow" "life" "LThreeBelow$Life;", Cond.fieldLink RX7 19 "ThreeBelow" "land" "LThreeBelow$Shore;", Cond.methodLink RX7 199 yX7_refuseUnlessAbove, Cond.instanceMethod yX7_refuseUnlessAbove, Cond.selects RX7 yX7_refuseUnlessAbove yX7_refuseUnlessAbove, Cond.initialized RX7, Cond.code yX7_refuseUnlessAbove cX7_refuseUnlessAbove 2 (some .int), Cond.constant RX7 139 (-1000000001), Cond.constant RX7 188 (-1000000003), Cond.methodLink RX7 140 yX5_hasPerson, Cond.instanceMethod yX5_hasPerson, Cond.selects RX5 yX5_hasPerson yX5_hasPerson, Cond.initialized RX5, Cond.code yX5_hasPerson cX5_hasPerson 2 (some .boolean), Cond.fieldLink RX5 40 "ThreeBelow$Shore" "persons" "I", Cond.methodLink RX7 185 yX3_isAbove, Cond.instanceMethod yX3_isAbove, Cond.selects RX3 yX3_isAbove yX3_isAbove, Cond.initialized RX3, Cond.code yX3_isAbove cX3_isAbove 2 (some .boolean), Cond.methodLink RX3 53 yX3_place, Cond.instanceMethod yX3_place, Cond.selects RX3 yX3_place yX3_place]
def wsX7_open_r2 : List Cond := [Cond.code yX3_place cX3_place 2 (some .int), Cond.fieldLink RX3 11 "ThreeBelow$Life" "row" "[I", Cond.methodLink RX3 46 yX3_isPerson, Cond.static yX3_isPerson, Cond.code yX3_isPerson cX3_isPerson 1 (some .boolean), Cond.methodLink RX7 177 yX4_remember, Cond.instanceMethod yX4_remember, Cond.selects RX4 yX4_remember yX4_remember, Cond.initialized RX4, Cond.code yX4_remember cX4_remember 2 none, Cond.fieldLink RX4 13 "ThreeBelow$Past" "rows" "[[I", Cond.fieldLink RX4 20 "ThreeBelow$Past" "next" "I", Cond.fieldLink RX4 16 "ThreeBelow$Past" "count" "I", Cond.methodLink RX4 27 Lib.Math.min.name, Cond.static Lib.Math.min.name, Cond.initialized "java/lang/Math", Cond.code Lib.Math.min.name Lib.Math.min.code 2 (some .int), Cond.methodLink RX4 23 yX3_copyTo, Cond.instanceMethod yX3_copyTo, Cond.selects RX3 yX3_copyTo yX3_copyTo, Cond.code yX3_copyTo cX3_copyTo 2 none, Cond.methodLink RX3 34 Lib.Math.min.name, Cond.methodLink RX3 40 arraycopyName, Cond.native arraycopyName]
def wsX7_open_r3 : List Cond := [Cond.static arraycopyName, Cond.initialized "java/lang/System", Cond.methodLink RX7 202 yX3_openBox, Cond.instanceMethod yX3_openBox, Cond.selects RX3 yX3_openBox yX3_openBox, Cond.code yX3_openBox cX3_openBox 3 none, Cond.methodLink RX3 24 yX3_buryIfOld, Cond.instanceMethod yX3_buryIfOld, Cond.selects RX3 yX3_buryIfOld yX3_buryIfOld, Cond.code yX3_buryIfOld cX3_buryIfOld 3 none, Cond.fieldLink RX3 66 "ThreeBelow$Shore" "lifespan" "[I", Cond.methodLink RX7 143 yX3_age, Cond.instanceMethod yX3_age, Cond.selects RX3 yX3_age yX3_age, Cond.code yX3_age cX3_age 2 (some .int)]
def wsX7_open : List Cond := .code yX7_open cX7_open 3 (some .int) :: ((wsX7_open_r1 ++ (wsX7_open_r2 ++ wsX7_open_r3)) ++ wsX70 ++ wsX50 ++ wsX30 ++ wsX40)
def wsX7_take_r1 : List Cond := [Cond.fieldLink RX7 19 "ThreeBelow" "land" "LThreeBelow$Shore;", Cond.constant RX7 139 (-1000000001), Cond.fieldLink RX7 29 "ThreeBelow" "life" "LThreeBelow$Life;", Cond.constant RX7 188 (-1000000003), Cond.fieldLink RX7 36 "ThreeBelow" "past" "LThreeBelow$Past;", Cond.methodLink RX7 158 yX5_hasGood, Cond.instanceMethod yX5_hasGood, Cond.selects RX5 yX5_hasGood yX5_hasGood, Cond.initialized RX5, Cond.code yX5_hasGood cX5_hasGood 2 (some .boolean), Cond.fieldLink RX5 43 "ThreeBelow$Shore" "goods" "I", Cond.methodLink RX7 161 yX3_worth, Cond.instanceMethod yX3_worth, Cond.selects RX3 yX3_worth yX3_worth, Cond.initialized RX3, Cond.code yX3_worth cX3_worth 2 (some .int), Cond.fieldLink RX3 11 "ThreeBelow$Life" "row" "[I", Cond.methodLink RX3 50 yX3_isGood, Cond.static yX3_isGood, Cond.code yX3_isGood cX3_isGood 1 (some .boolean), Cond.methodLink RX7 177 yX4_remember, Cond.instanceMethod yX4_remember, Cond.selects RX4 yX4_remember yX4_remember, Cond.initialized RX4]
def wsX7_take_r2 : List Cond := [Cond.code yX4_remember cX4_remember 2 none, Cond.fieldLink RX4 13 "ThreeBelow$Past" "rows" "[[I", Cond.fieldLink RX4 20 "ThreeBelow$Past" "next" "I", Cond.fieldLink RX4 16 "ThreeBelow$Past" "count" "I", Cond.methodLink RX4 27 Lib.Math.min.name, Cond.static Lib.Math.min.name, Cond.initialized "java/lang/Math", Cond.code Lib.Math.min.name Lib.Math.min.code 2 (some .int), Cond.methodLink RX4 23 yX3_copyTo, Cond.instanceMethod yX3_copyTo, Cond.selects RX3 yX3_copyTo yX3_copyTo, Cond.code yX3_copyTo cX3_copyTo 2 none, Cond.methodLink RX3 34 Lib.Math.min.name, Cond.methodLink RX3 40 arraycopyName, Cond.native arraycopyName, Cond.static arraycopyName, Cond.initialized "java/lang/System", Cond.methodLink RX7 205 yX3_takeGood, Cond.instanceMethod yX3_takeGood, Cond.selects RX3 yX3_takeGood yX3_takeGood, Cond.code yX3_takeGood cX3_takeGood 2 none]
def wsX7_take : List Cond := .code yX7_take cX7_take 3 (some .int) :: ((wsX7_take_r1 ++ wsX7_take_r2) ++ wsX70 ++ wsX50 ++ wsX30 ++ wsX40)
def wsX7_draw : List Cond := .code yX7_draw cX7_draw 2 (some .int) :: ([.fieldLink RX7 222 "ThreeBelow" "seedNow" "I", .constant RX7 225 (1103515245), .constant RX7 226 (2147483647), .constant RX7 227 (65536)] ++ wsX70)
def wsX7_driftOne_r1 : List Cond := [Cond.fieldLink RX7 19 "ThreeBelow" "land" "LThreeBelow$Shore;", Cond.fieldLink RX7 92 "ThreeBelow$Shore" "persons" "I", Cond.fieldLink RX7 104 "ThreeBelow$Shore" "depths" "I", Cond.fieldLink RX7 29 "ThreeBelow" "life" "LThreeBelow$Life;", Cond.methodLink RX7 219 yX7_draw, Cond.instanceMethod yX7_draw, Cond.selects RX7 yX7_draw yX7_draw, Cond.initialized RX7, Cond.code yX7_draw cX7_draw 2 (some .int), Cond.fieldLink RX7 222 "ThreeBelow" "seedNow" "I", Cond.constant RX7 225 (1103515245), Cond.constant RX7 226 (2147483647), Cond.constant RX7 227 (65536), Cond.methodLink RX7 185 yX3_isAbove, Cond.instanceMethod yX3_isAbove, Cond.selects RX3 yX3_isAbove yX3_isAbove, Cond.initialized RX3, Cond.code yX3_isAbove cX3_isAbove 2 (some .boolean), Cond.methodLink RX3 53 yX3_place, Cond.instanceMethod yX3_place, Cond.selects RX3 yX3_place yX3_place, Cond.code yX3_place cX3_place 2 (some .int), Cond.fieldLink RX3 11 "ThreeBelow$Life" "row" "[I", Cond.methodLink RX3 46 yX3_isPerson]
def wsX7_driftOne_r2 : List Cond := [Cond.static yX3_isPerson, Cond.code yX3_isPerson cX3_isPerson 1 (some .boolean), Cond.methodLink RX7 189 yX3_goDown, Cond.instanceMethod yX3_goDown, Cond.selects RX3 yX3_goDown yX3_goDown, Cond.code yX3_goDown cX3_goDown 3 none, Cond.methodLink RX7 193 yX3_isBelow, Cond.instanceMethod yX3_isBelow, Cond.selects RX3 yX3_isBelow yX3_isBelow, Cond.code yX3_isBelow cX3_isBelow 2 (some .boolean), Cond.methodLink RX7 196 yX3_comeUp, Cond.instanceMethod yX3_comeUp, Cond.selects RX3 yX3_comeUp yX3_comeUp, Cond.code yX3_comeUp cX3_comeUp 2 none]
def wsX7_driftOne : List Cond := .code yX7_driftOne cX7_driftOne 3 none :: ((wsX7_driftOne_r1 ++ wsX7_driftOne_r2) ++ wsX70 ++ wsX50 ++ wsX30)
def wsX7_drift_r1 : List Cond := [Cond.fieldLink RX7 36 "ThreeBelow" "past" "LThreeBelow$Past;", Cond.fieldLink RX7 29 "ThreeBelow" "life" "LThreeBelow$Life;", Cond.fieldLink RX7 19 "ThreeBelow" "land" "LThreeBelow$Shore;", Cond.methodLink RX7 173 yX7_refuseYears, Cond.instanceMethod yX7_refuseYears, Cond.selects RX7 yX7_refuseYears yX7_refuseYears, Cond.initialized RX7, Cond.code yX7_refuseYears cX7_refuseYears 3 (some .int), Cond.constant RX7 61 (-1000000002), Cond.constant RX7 188 (-1000000003), Cond.constant RX7 218 (90000), Cond.constant RX7 66 (-1000000004), Cond.methodLink RX7 214 yX5_isTold, Cond.instanceMethod yX5_isTold, Cond.selects RX5 yX5_isTold yX5_isTold, Cond.initialized RX5, Cond.code yX5_isTold cX5_isTold 1 (some .boolean), Cond.fieldLink RX5 30 "ThreeBelow$Shore" "law" "I", Cond.methodLink RX7 110 yX3_years, Cond.instanceMethod yX3_years, Cond.selects RX3 yX3_years yX3_years, Cond.initialized RX3, Cond.code yX3_years cX3_years 1 (some .int), Cond.fieldLink RX3 11 "ThreeBelow$Life" "row" "[I"]
def wsX7_drift_r2 : List Cond := [Cond.methodLink RX7 177 yX4_remember, Cond.instanceMethod yX4_remember, Cond.selects RX4 yX4_remember yX4_remember, Cond.initialized RX4, Cond.code yX4_remember cX4_remember 2 none, Cond.fieldLink RX4 13 "ThreeBelow$Past" "rows" "[[I", Cond.fieldLink RX4 20 "ThreeBelow$Past" "next" "I", Cond.fieldLink RX4 16 "ThreeBelow$Past" "count" "I", Cond.methodLink RX4 27 Lib.Math.min.name, Cond.static Lib.Math.min.name, Cond.initialized "java/lang/Math", Cond.code Lib.Math.min.name Lib.Math.min.code 2 (some .int), Cond.methodLink RX4 23 yX3_copyTo, Cond.instanceMethod yX3_copyTo, Cond.selects RX3 yX3_copyTo yX3_copyTo, Cond.code yX3_copyTo cX3_copyTo 2 none, Cond.methodLink RX3 34 Lib.Math.min.name, Cond.methodLink RX3 40 arraycopyName, Cond.native arraycopyName, Cond.static arraycopyName, Cond.initialized "java/lang/System", Cond.methodLink RX7 208 yX7_driftOne, Cond.instanceMethod yX7_driftOne, Cond.selects RX7 yX7_driftOne yX7_driftOne]
def wsX7_drift_r3 : List Cond := [Cond.code yX7_driftOne cX7_driftOne 3 none, Cond.fieldLink RX7 92 "ThreeBelow$Shore" "persons" "I", Cond.fieldLink RX7 104 "ThreeBelow$Shore" "depths" "I", Cond.methodLink RX7 219 yX7_draw, Cond.instanceMethod yX7_draw, Cond.selects RX7 yX7_draw yX7_draw, Cond.code yX7_draw cX7_draw 2 (some .int), Cond.fieldLink RX7 222 "ThreeBelow" "seedNow" "I", Cond.constant RX7 225 (1103515245), Cond.constant RX7 226 (2147483647), Cond.constant RX7 227 (65536), Cond.methodLink RX7 185 yX3_isAbove, Cond.instanceMethod yX3_isAbove, Cond.selects RX3 yX3_isAbove yX3_isAbove, Cond.code yX3_isAbove cX3_isAbove 2 (some .boolean), Cond.methodLink RX3 53 yX3_place, Cond.instanceMethod yX3_place, Cond.selects RX3 yX3_place yX3_place, Cond.code yX3_place cX3_place 2 (some .int), Cond.methodLink RX3 46 yX3_isPerson, Cond.static yX3_isPerson, Cond.code yX3_isPerson cX3_isPerson 1 (some .boolean), Cond.methodLink RX7 189 yX3_goDown, Cond.instanceMethod yX3_goDown]
def wsX7_drift_r4 : List Cond := [Cond.selects RX3 yX3_goDown yX3_goDown, Cond.code yX3_goDown cX3_goDown 3 none, Cond.methodLink RX7 193 yX3_isBelow, Cond.instanceMethod yX3_isBelow, Cond.selects RX3 yX3_isBelow yX3_isBelow, Cond.code yX3_isBelow cX3_isBelow 2 (some .boolean), Cond.methodLink RX7 196 yX3_comeUp, Cond.instanceMethod yX3_comeUp, Cond.selects RX3 yX3_comeUp yX3_comeUp, Cond.code yX3_comeUp cX3_comeUp 2 none, Cond.methodLink RX7 181 yX3_passYears, Cond.instanceMethod yX3_passYears, Cond.selects RX3 yX3_passYears yX3_passYears, Cond.code yX3_passYears cX3_passYears 4 none, Cond.fieldLink RX3 15 "ThreeBelow$Shore" "persons" "I", Cond.fieldLink RX3 66 "ThreeBelow$Shore" "lifespan" "[I", Cond.fieldLink RX3 28 "ThreeBelow$Shore" "goods" "I", Cond.methodLink RX3 63 yX3_isAbove, Cond.methodLink RX3 24 yX3_buryIfOld, Cond.instanceMethod yX3_buryIfOld, Cond.selects RX3 yX3_buryIfOld yX3_buryIfOld, Cond.code yX3_buryIfOld cX3_buryIfOld 3 none, Cond.methodLink RX3 57 yX3_isBelow, Cond.methodLink RX3 69 yX5_worthBehind]
def wsX7_drift_r5 : List Cond := [Cond.instanceMethod yX5_worthBehind, Cond.selects RX5 yX5_worthBehind yX5_worthBehind, Cond.code yX5_worthBehind cX5_worthBehind 7 (some .int), Cond.methodLink RX5 60 yX5_worthNextYear, Cond.instanceMethod yX5_worthNextYear, Cond.selects RX5 yX5_worthNextYear yX5_worthNextYear, Cond.code yX5_worthNextYear cX5_worthNextYear 4 (some .int), Cond.fieldLink RX5 24 "ThreeBelow$Shore" "change" "[I", Cond.fieldLink RX5 27 "ThreeBelow$Shore" "mostWorth" "[I", Cond.methodLink RX5 57 yX5_hasGood, Cond.instanceMethod yX5_hasGood, Cond.selects RX5 yX5_hasGood yX5_hasGood, Cond.code yX5_hasGood cX5_hasGood 2 (some .boolean), Cond.fieldLink RX5 43 "ThreeBelow$Shore" "goods" "I"]
def wsX7_drift : List Cond := .code yX7_drift cX7_drift 4 (some .int) :: ((wsX7_drift_r1 ++ (wsX7_drift_r2 ++ (wsX7_drift_r3 ++ (wsX7_drift_r4 ++ wsX7_drift_r5)))) ++ wsX70 ++ wsX50 ++ wsX30 ++ wsX40)
def wsX7_undo_r1 : List Cond := [Cond.fieldLink RX7 36 "ThreeBelow" "past" "LThreeBelow$Past;", Cond.fieldLink RX7 130 "ThreeBelow$Past" "count" "I", Cond.constant RX7 188 (-1000000003), Cond.fieldLink RX7 29 "ThreeBelow" "life" "LThreeBelow$Life;", Cond.methodLink RX7 211 yX4_bringBack, Cond.instanceMethod yX4_bringBack, Cond.selects RX4 yX4_bringBack yX4_bringBack, Cond.initialized RX4, Cond.code yX4_bringBack cX4_bringBack 2 none, Cond.fieldLink RX4 16 "ThreeBelow$Past" "count" "I", Cond.fieldLink RX4 20 "ThreeBelow$Past" "next" "I", Cond.fieldLink RX4 13 "ThreeBelow$Past" "rows" "[[I", Cond.methodLink RX4 33 yX3_copyFrom, Cond.instanceMethod yX3_copyFrom, Cond.selects RX3 yX3_copyFrom yX3_copyFrom, Cond.initialized RX3, Cond.code yX3_copyFrom cX3_copyFrom 2 none, Cond.fieldLink RX3 11 "ThreeBelow$Life" "row" "[I", Cond.methodLink RX3 34 Lib.Math.min.name, Cond.static Lib.Math.min.name, Cond.initialized "java/lang/Math", Cond.code Lib.Math.min.name Lib.Math.min.code 2 (some .int), Cond.methodLink RX3 40 arraycopyName, Cond.native arraycopyName]
def wsX7_undo_r2 : List Cond := [Cond.static arraycopyName, Cond.initialized "java/lang/System"]
def wsX7_undo : List Cond := .code yX7_undo cX7_undo 1 (some .int) :: ((wsX7_undo_r1 ++ wsX7_undo_r2) ++ wsX70 ++ wsX40 ++ wsX30)
def wsX7_areTwoPersons : List Cond := .code yX7_areTwoPersons cX7_areTwoPersons 3 (some .boolean) :: ([.fieldLink RX7 19 "ThreeBelow" "land" "LThreeBelow$Shore;", .methodLink RX7 140 yX5_hasPerson, .instanceMethod yX5_hasPerson, .selects RX5 yX5_hasPerson yX5_hasPerson, .initialized RX5, .code yX5_hasPerson cX5_hasPerson 2 (some .boolean), .fieldLink RX5 40 "ThreeBelow$Shore" "persons" "I"] ++ wsX70 ++ wsX50)
def wsX7_meet_r1 : List Cond := [Cond.fieldLink RX7 19 "ThreeBelow" "land" "LThreeBelow$Shore;", Cond.constant RX7 139 (-1000000001), Cond.constant RX7 61 (-1000000002), Cond.fieldLink RX7 29 "ThreeBelow" "life" "LThreeBelow$Life;", Cond.constant RX7 188 (-1000000003), Cond.constant RX7 226 (2147483647), Cond.fieldLink RX7 135 "ThreeBelow$Shore" "rate" "[I", Cond.fieldLink RX7 146 "ThreeBelow$Shore" "lifespan" "[I", Cond.methodLink RX7 232 Lib.Math.abs.name, Cond.static Lib.Math.abs.name, Cond.initialized "java/lang/Math", Cond.code Lib.Math.abs.name Lib.Math.abs.code 1 (some .int), Cond.methodLink RX7 237 Lib.Math.min.name, Cond.static Lib.Math.min.name, Cond.code Lib.Math.min.name Lib.Math.min.code 2 (some .int), Cond.methodLink RX7 228 yX7_areTwoPersons, Cond.instanceMethod yX7_areTwoPersons, Cond.selects RX7 yX7_areTwoPersons yX7_areTwoPersons, Cond.initialized RX7, Cond.code yX7_areTwoPersons cX7_areTwoPersons 3 (some .boolean), Cond.methodLink RX7 140 yX5_hasPerson, Cond.instanceMethod yX5_hasPerson, Cond.selects RX5 yX5_hasPerson yX5_hasPerson, Cond.initialized RX5]
def wsX7_meet_r2 : List Cond := [Cond.code yX5_hasPerson cX5_hasPerson 2 (some .boolean), Cond.fieldLink RX5 40 "ThreeBelow$Shore" "persons" "I", Cond.methodLink RX7 131 yX5_hasDepth, Cond.instanceMethod yX5_hasDepth, Cond.selects RX5 yX5_hasDepth yX5_hasDepth, Cond.code yX5_hasDepth cX5_hasDepth 2 (some .boolean), Cond.fieldLink RX5 37 "ThreeBelow$Shore" "depths" "I", Cond.methodLink RX7 185 yX3_isAbove, Cond.instanceMethod yX3_isAbove, Cond.selects RX3 yX3_isAbove yX3_isAbove, Cond.initialized RX3, Cond.code yX3_isAbove cX3_isAbove 2 (some .boolean), Cond.methodLink RX3 53 yX3_place, Cond.instanceMethod yX3_place, Cond.selects RX3 yX3_place yX3_place, Cond.code yX3_place cX3_place 2 (some .int), Cond.fieldLink RX3 11 "ThreeBelow$Life" "row" "[I", Cond.methodLink RX3 46 yX3_isPerson, Cond.static yX3_isPerson, Cond.code yX3_isPerson cX3_isPerson 1 (some .boolean), Cond.methodLink RX7 143 yX3_age, Cond.instanceMethod yX3_age, Cond.selects RX3 yX3_age yX3_age, Cond.code yX3_age cX3_age 2 (some .int)]
def wsX7_meet : List Cond := .code yX7_meet cX7_meet 10 (some .int) :: ((wsX7_meet_r1 ++ wsX7_meet_r2) ++ wsX70 ++ wsX50 ++ wsX30)
def wsX7_yearsOfStay : List Cond := .code yX7_yearsOfStay cX7_yearsOfStay 3 (some .int) :: ([.fieldLink RX7 19 "ThreeBelow" "land" "LThreeBelow$Shore;", .fieldLink RX7 135 "ThreeBelow$Shore" "rate" "[I", .methodLink RX7 131 yX5_hasDepth, .instanceMethod yX5_hasDepth, .selects RX5 yX5_hasDepth yX5_hasDepth, .initialized RX5, .code yX5_hasDepth cX5_hasDepth 2 (some .boolean), .fieldLink RX5 37 "ThreeBelow$Shore" "depths" "I"] ++ wsX70 ++ wsX50)
def wsX7_figuresOfStay : List Cond := .code yX7_figuresOfStay cX7_figuresOfStay 2 (some .int) :: ([])
def wsX7_bothBy_r1 : List Cond := [Cond.methodLink RX7 247 Lib.Math.max.name, Cond.static Lib.Math.max.name, Cond.initialized "java/lang/Math", Cond.code Lib.Math.max.name Lib.Math.max.code 2 (some .int), Cond.fieldLink RX7 29 "ThreeBelow" "life" "LThreeBelow$Life;", Cond.fieldLink RX7 19 "ThreeBelow" "land" "LThreeBelow$Shore;", Cond.fieldLink RX7 146 "ThreeBelow$Shore" "lifespan" "[I", Cond.constant RX7 226 (2147483647), Cond.methodLink RX7 244 yX7_yearsOfStay, Cond.instanceMethod yX7_yearsOfStay, Cond.selects RX7 yX7_yearsOfStay yX7_yearsOfStay, Cond.initialized RX7, Cond.code yX7_yearsOfStay cX7_yearsOfStay 3 (some .int), Cond.fieldLink RX7 135 "ThreeBelow$Shore" "rate" "[I", Cond.methodLink RX7 131 yX5_hasDepth, Cond.instanceMethod yX5_hasDepth, Cond.selects RX5 yX5_hasDepth yX5_hasDepth, Cond.initialized RX5, Cond.code yX5_hasDepth cX5_hasDepth 2 (some .boolean), Cond.fieldLink RX5 37 "ThreeBelow$Shore" "depths" "I", Cond.methodLink RX7 143 yX3_age, Cond.instanceMethod yX3_age, Cond.selects RX3 yX3_age yX3_age, Cond.initialized RX3]
def wsX7_bothBy_r2 : List Cond := [Cond.code yX3_age cX3_age 2 (some .int), Cond.fieldLink RX3 11 "ThreeBelow$Life" "row" "[I", Cond.methodLink RX3 46 yX3_isPerson, Cond.static yX3_isPerson, Cond.code yX3_isPerson cX3_isPerson 1 (some .boolean), Cond.methodLink RX7 250 yX7_figuresOfStay, Cond.instanceMethod yX7_figuresOfStay, Cond.selects RX7 yX7_figuresOfStay yX7_figuresOfStay, Cond.code yX7_figuresOfStay cX7_figuresOfStay 2 (some .int)]
def wsX7_bothBy : List Cond := .code yX7_bothBy cX7_bothBy 10 (some .int) :: ((wsX7_bothBy_r1 ++ wsX7_bothBy_r2) ++ wsX70 ++ wsX50 ++ wsX30)
def wsX7_both_r1 : List Cond := [Cond.constant RX7 139 (-1000000001), Cond.constant RX7 61 (-1000000002), Cond.fieldLink RX7 29 "ThreeBelow" "life" "LThreeBelow$Life;", Cond.constant RX7 188 (-1000000003), Cond.constant RX7 226 (2147483647), Cond.fieldLink RX7 19 "ThreeBelow" "land" "LThreeBelow$Shore;", Cond.fieldLink RX7 104 "ThreeBelow$Shore" "depths" "I", Cond.methodLink RX7 237 Lib.Math.min.name, Cond.static Lib.Math.min.name, Cond.initialized "java/lang/Math", Cond.code Lib.Math.min.name Lib.Math.min.code 2 (some .int), Cond.methodLink RX7 228 yX7_areTwoPersons, Cond.instanceMethod yX7_areTwoPersons, Cond.selects RX7 yX7_areTwoPersons yX7_areTwoPersons, Cond.initialized RX7, Cond.code yX7_areTwoPersons cX7_areTwoPersons 3 (some .boolean), Cond.methodLink RX7 140 yX5_hasPerson, Cond.instanceMethod yX5_hasPerson, Cond.selects RX5 yX5_hasPerson yX5_hasPerson, Cond.initialized RX5, Cond.code yX5_hasPerson cX5_hasPerson 2 (some .boolean), Cond.fieldLink RX5 40 "ThreeBelow$Shore" "persons" "I", Cond.methodLink RX7 185 yX3_isAbove, Cond.instanceMethod yX3_isAbove]
def wsX7_both_r2 : List Cond := [Cond.selects RX3 yX3_isAbove yX3_isAbove, Cond.initialized RX3, Cond.code yX3_isAbove cX3_isAbove 2 (some .boolean), Cond.methodLink RX3 53 yX3_place, Cond.instanceMethod yX3_place, Cond.selects RX3 yX3_place yX3_place, Cond.code yX3_place cX3_place 2 (some .int), Cond.fieldLink RX3 11 "ThreeBelow$Life" "row" "[I", Cond.methodLink RX3 46 yX3_isPerson, Cond.static yX3_isPerson, Cond.code yX3_isPerson cX3_isPerson 1 (some .boolean), Cond.methodLink RX7 240 yX7_bothBy, Cond.instanceMethod yX7_bothBy, Cond.selects RX7 yX7_bothBy yX7_bothBy, Cond.code yX7_bothBy cX7_bothBy 10 (some .int), Cond.methodLink RX7 247 Lib.Math.max.name, Cond.static Lib.Math.max.name, Cond.code Lib.Math.max.name Lib.Math.max.code 2 (some .int), Cond.fieldLink RX7 146 "ThreeBelow$Shore" "lifespan" "[I", Cond.methodLink RX7 244 yX7_yearsOfStay, Cond.instanceMethod yX7_yearsOfStay, Cond.selects RX7 yX7_yearsOfStay yX7_yearsOfStay, Cond.code yX7_yearsOfStay cX7_yearsOfStay 3 (some .int), Cond.fieldLink RX7 135 "ThreeBelow$Shore" "rate" "[I"]
def wsX7_both_r3 : List Cond := [Cond.methodLink RX7 131 yX5_hasDepth, Cond.instanceMethod yX5_hasDepth, Cond.selects RX5 yX5_hasDepth yX5_hasDepth, Cond.code yX5_hasDepth cX5_hasDepth 2 (some .boolean), Cond.fieldLink RX5 37 "ThreeBelow$Shore" "depths" "I", Cond.methodLink RX7 143 yX3_age, Cond.instanceMethod yX3_age, Cond.selects RX3 yX3_age yX3_age, Cond.code yX3_age cX3_age 2 (some .int), Cond.methodLink RX7 250 yX7_figuresOfStay, Cond.instanceMethod yX7_figuresOfStay, Cond.selects RX7 yX7_figuresOfStay yX7_figuresOfStay, Cond.code yX7_figuresOfStay cX7_figuresOfStay 2 (some .int)]
def wsX7_both : List Cond := .code yX7_both cX7_both 7 (some .int) :: ((wsX7_both_r1 ++ (wsX7_both_r2 ++ wsX7_both_r3)) ++ wsX70 ++ wsX50 ++ wsX30)
def wsX7_leave_r1 : List Cond := [Cond.constant RX7 61 (-1000000002), Cond.fieldLink RX7 19 "ThreeBelow" "land" "LThreeBelow$Shore;", Cond.fieldLink RX7 107 "ThreeBelow$Shore" "goods" "I", Cond.fieldLink RX7 29 "ThreeBelow" "life" "LThreeBelow$Life;", Cond.methodLink RX7 161 yX3_worth, Cond.instanceMethod yX3_worth, Cond.selects RX3 yX3_worth yX3_worth, Cond.initialized RX3, Cond.code yX3_worth cX3_worth 2 (some .int), Cond.fieldLink RX3 11 "ThreeBelow$Life" "row" "[I", Cond.methodLink RX3 50 yX3_isGood, Cond.static yX3_isGood, Cond.code yX3_isGood cX3_isGood 1 (some .boolean), Cond.methodLink RX7 253 yX5_worthBehind, Cond.instanceMethod yX5_worthBehind, Cond.selects RX5 yX5_worthBehind yX5_worthBehind, Cond.initialized RX5, Cond.code yX5_worthBehind cX5_worthBehind 7 (some .int), Cond.methodLink RX5 60 yX5_worthNextYear, Cond.instanceMethod yX5_worthNextYear, Cond.selects RX5 yX5_worthNextYear yX5_worthNextYear, Cond.code yX5_worthNextYear cX5_worthNextYear 4 (some .int), Cond.fieldLink RX5 24 "ThreeBelow$Shore" "change" "[I", Cond.fieldLink RX5 27 "ThreeBelow$Shore" "mostWorth" "[I"]
def wsX7_leave_r2 : List Cond := [Cond.methodLink RX5 57 yX5_hasGood, Cond.instanceMethod yX5_hasGood, Cond.selects RX5 yX5_hasGood yX5_hasGood, Cond.code yX5_hasGood cX5_hasGood 2 (some .boolean), Cond.fieldLink RX5 43 "ThreeBelow$Shore" "goods" "I"]
def wsX7_leave : List Cond := .code yX7_leave cX7_leave 7 (some .int) :: ((wsX7_leave_r1 ++ wsX7_leave_r2) ++ wsX70 ++ wsX50 ++ wsX30)
def wsX7_when_r1 : List Cond := [Cond.fieldLink RX7 19 "ThreeBelow" "land" "LThreeBelow$Shore;", Cond.constant RX7 139 (-1000000001), Cond.constant RX7 61 (-1000000002), Cond.fieldLink RX7 29 "ThreeBelow" "life" "LThreeBelow$Life;", Cond.methodLink RX7 158 yX5_hasGood, Cond.instanceMethod yX5_hasGood, Cond.selects RX5 yX5_hasGood yX5_hasGood, Cond.initialized RX5, Cond.code yX5_hasGood cX5_hasGood 2 (some .boolean), Cond.fieldLink RX5 43 "ThreeBelow$Shore" "goods" "I", Cond.methodLink RX7 161 yX3_worth, Cond.instanceMethod yX3_worth, Cond.selects RX3 yX3_worth yX3_worth, Cond.initialized RX3, Cond.code yX3_worth cX3_worth 2 (some .int), Cond.fieldLink RX3 11 "ThreeBelow$Life" "row" "[I", Cond.methodLink RX3 50 yX3_isGood, Cond.static yX3_isGood, Cond.code yX3_isGood cX3_isGood 1 (some .boolean), Cond.methodLink RX7 257 yX5_worthNextYear, Cond.instanceMethod yX5_worthNextYear, Cond.selects RX5 yX5_worthNextYear yX5_worthNextYear, Cond.code yX5_worthNextYear cX5_worthNextYear 4 (some .int), Cond.fieldLink RX5 24 "ThreeBelow$Shore" "change" "[I"]
def wsX7_when_r2 : List Cond := [Cond.fieldLink RX5 27 "ThreeBelow$Shore" "mostWorth" "[I", Cond.methodLink RX5 57 yX5_hasGood]
def wsX7_when : List Cond := .code yX7_when cX7_when 5 (some .int) :: ((wsX7_when_r1 ++ wsX7_when_r2) ++ wsX70 ++ wsX50 ++ wsX30)
def wsX7_letters : List Cond := .code yX7_letters cX7_letters 3 (some .int) :: ([.fieldLink RX7 19 "ThreeBelow" "land" "LThreeBelow$Shore;", .constant RX7 139 (-1000000001), .constant RX7 61 (-1000000002), .fieldLink RX7 29 "ThreeBelow" "life" "LThreeBelow$Life;", .fieldLink RX7 135 "ThreeBelow$Shore" "rate" "[I", .methodLink RX7 131 yX5_hasDepth, .instanceMethod yX5_hasDepth, .selects RX5 yX5_hasDepth yX5_hasDepth, .initialized RX5, .code yX5_hasDepth cX5_hasDepth 2 (some .boolean), .fieldLink RX5 37 "ThreeBelow$Shore" "depths" "I", .methodLink RX7 110 yX3_years, .instanceMethod yX3_years, .selects RX3 yX3_years yX3_years, .initialized RX3, .code yX3_years cX3_years 1 (some .int), .fieldLink RX3 11 "ThreeBelow$Life" "row" "[I", .methodLink RX7 260 yX5_daysIn, .instanceMethod yX5_daysIn, .selects RX5 yX5_daysIn yX5_daysIn, .code yX5_daysIn cX5_daysIn 3 (some .int), .fieldLink RX5 9 "ThreeBelow$Shore" "rate" "[I", .methodLink RX5 54 yX5_hasDepth] ++ wsX70 ++ wsX50 ++ wsX30)
def wsX7_wouldOpen_r1 : List Cond := [Cond.fieldLink RX7 29 "ThreeBelow" "life" "LThreeBelow$Life;", Cond.fieldLink RX7 19 "ThreeBelow" "land" "LThreeBelow$Shore;", Cond.fieldLink RX7 146 "ThreeBelow$Shore" "lifespan" "[I", Cond.methodLink RX7 199 yX7_refuseUnlessAbove, Cond.instanceMethod yX7_refuseUnlessAbove, Cond.selects RX7 yX7_refuseUnlessAbove yX7_refuseUnlessAbove, Cond.initialized RX7, Cond.code yX7_refuseUnlessAbove cX7_refuseUnlessAbove 2 (some .int), Cond.constant RX7 139 (-1000000001), Cond.constant RX7 188 (-1000000003), Cond.methodLink RX7 140 yX5_hasPerson, Cond.instanceMethod yX5_hasPerson, Cond.selects RX5 yX5_hasPerson yX5_hasPerson, Cond.initialized RX5, Cond.code yX5_hasPerson cX5_hasPerson 2 (some .boolean), Cond.fieldLink RX5 40 "ThreeBelow$Shore" "persons" "I", Cond.methodLink RX7 185 yX3_isAbove, Cond.instanceMethod yX3_isAbove, Cond.selects RX3 yX3_isAbove yX3_isAbove, Cond.initialized RX3, Cond.code yX3_isAbove cX3_isAbove 2 (some .boolean), Cond.methodLink RX3 53 yX3_place, Cond.instanceMethod yX3_place, Cond.selects RX3 yX3_place yX3_place]
def wsX7_wouldOpen_r2 : List Cond := [Cond.code yX3_place cX3_place 2 (some .int), Cond.fieldLink RX3 11 "ThreeBelow$Life" "row" "[I", Cond.methodLink RX3 46 yX3_isPerson, Cond.static yX3_isPerson, Cond.code yX3_isPerson cX3_isPerson 1 (some .boolean), Cond.methodLink RX7 143 yX3_age, Cond.instanceMethod yX3_age, Cond.selects RX3 yX3_age yX3_age, Cond.code yX3_age cX3_age 2 (some .int), Cond.methodLink RX7 152 yX3_box, Cond.instanceMethod yX3_box, Cond.selects RX3 yX3_box yX3_box, Cond.code yX3_box cX3_box 2 (some .int)]
def wsX7_wouldOpen : List Cond := .code yX7_wouldOpen cX7_wouldOpen 4 (some .int) :: ((wsX7_wouldOpen_r1 ++ wsX7_wouldOpen_r2) ++ wsX70 ++ wsX50 ++ wsX30)
def wsX7_yearsLeft_r1 : List Cond := [Cond.fieldLink RX7 19 "ThreeBelow" "land" "LThreeBelow$Shore;", Cond.fieldLink RX7 146 "ThreeBelow$Shore" "lifespan" "[I", Cond.fieldLink RX7 29 "ThreeBelow" "life" "LThreeBelow$Life;", Cond.methodLink RX7 199 yX7_refuseUnlessAbove, Cond.instanceMethod yX7_refuseUnlessAbove, Cond.selects RX7 yX7_refuseUnlessAbove yX7_refuseUnlessAbove, Cond.initialized RX7, Cond.code yX7_refuseUnlessAbove cX7_refuseUnlessAbove 2 (some .int), Cond.constant RX7 139 (-1000000001), Cond.constant RX7 188 (-1000000003), Cond.methodLink RX7 140 yX5_hasPerson, Cond.instanceMethod yX5_hasPerson, Cond.selects RX5 yX5_hasPerson yX5_hasPerson, Cond.initialized RX5, Cond.code yX5_hasPerson cX5_hasPerson 2 (some .boolean), Cond.fieldLink RX5 40 "ThreeBelow$Shore" "persons" "I", Cond.methodLink RX7 185 yX3_isAbove, Cond.instanceMethod yX3_isAbove, Cond.selects RX3 yX3_isAbove yX3_isAbove, Cond.initialized RX3, Cond.code yX3_isAbove cX3_isAbove 2 (some .boolean), Cond.methodLink RX3 53 yX3_place, Cond.instanceMethod yX3_place, Cond.selects RX3 yX3_place yX3_place]
def wsX7_yearsLeft_r2 : List Cond := [Cond.code yX3_place cX3_place 2 (some .int), Cond.fieldLink RX3 11 "ThreeBelow$Life" "row" "[I", Cond.methodLink RX3 46 yX3_isPerson, Cond.static yX3_isPerson, Cond.code yX3_isPerson cX3_isPerson 1 (some .boolean), Cond.methodLink RX7 143 yX3_age, Cond.instanceMethod yX3_age, Cond.selects RX3 yX3_age yX3_age, Cond.code yX3_age cX3_age 2 (some .int)]
def wsX7_yearsLeft : List Cond := .code yX7_yearsLeft cX7_yearsLeft 3 (some .int) :: ((wsX7_yearsLeft_r1 ++ wsX7_yearsLeft_r2) ++ wsX70 ++ wsX50 ++ wsX30)
def wsX7_latest : List Cond := .code yX7_latest cX7_latest 5 (some .int) :: ([.fieldLink RX7 19 "ThreeBelow" "land" "LThreeBelow$Shore;", .fieldLink RX7 92 "ThreeBelow$Shore" "persons" "I", .fieldLink RX7 146 "ThreeBelow$Shore" "lifespan" "[I", .fieldLink RX7 29 "ThreeBelow" "life" "LThreeBelow$Life;", .methodLink RX7 143 yX3_age, .instanceMethod yX3_age, .selects RX3 yX3_age yX3_age, .initialized RX3, .code yX3_age cX3_age 2 (some .int), .fieldLink RX3 11 "ThreeBelow$Life" "row" "[I", .methodLink RX3 46 yX3_isPerson, .static yX3_isPerson, .code yX3_isPerson cX3_isPerson 1 (some .boolean), .methodLink RX7 185 yX3_isAbove, .instanceMethod yX3_isAbove, .selects RX3 yX3_isAbove yX3_isAbove, .code yX3_isAbove cX3_isAbove 2 (some .boolean), .methodLink RX3 53 yX3_place, .instanceMethod yX3_place, .selects RX3 yX3_place yX3_place, .code yX3_place cX3_place 2 (some .int)] ++ wsX70 ++ wsX50 ++ wsX30)
def wsX7_storm : List Cond := .code yX7_storm cX7_storm 6 (some .int) :: ([.constant RX7 61 (-1000000002), .constantLong RX7 263 (1000000000), .constantLong RX7 265 (100)])
def wsX7_find : List Cond := .code yX7_find cX7_find 4 (some .int) :: ([.fieldLink RX7 19 "ThreeBelow" "land" "LThreeBelow$Shore;", .constant RX7 139 (-1000000001), .constant RX7 61 (-1000000002), .fieldLink RX7 50 "ThreeBelow" "finds" "LThreeBelow$Finds;", .fieldLink RX7 126 "ThreeBelow$Finds" "count" "I", .constant RX7 66 (-1000000004), .methodLink RX7 158 yX5_hasGood, .instanceMethod yX5_hasGood, .selects RX5 yX5_hasGood yX5_hasGood, .initialized RX5, .code yX5_hasGood cX5_hasGood 2 (some .boolean), .fieldLink RX5 43 "ThreeBelow$Shore" "goods" "I", .methodLink RX7 267 yX1_add, .instanceMethod yX1_add, .selects RX1 yX1_add yX1_add, .initialized RX1, .code yX1_add cX1_add 4 none, .fieldLink RX1 36 "ThreeBelow$Finds" "count" "I", .fieldLink RX1 11 "ThreeBelow$Finds" "kinds" "[I", .fieldLink RX1 15 "ThreeBelow$Finds" "numbers" "[I", .fieldLink RX1 18 "ThreeBelow$Finds" "values" "[I", .fieldLink RX1 40 "ThreeBelow$Finds" "isSought" "Z"] ++ wsX70 ++ wsX10 ++ wsX50)
def wsX7_stays_r1 : List Cond := [Cond.fieldLink RX7 50 "ThreeBelow" "finds" "LThreeBelow$Finds;", Cond.fieldLink RX7 19 "ThreeBelow" "land" "LThreeBelow$Shore;", Cond.fieldLink RX7 273 "ThreeBelow$Finds" "fitting" "I", Cond.fieldLink RX7 276 "ThreeBelow$Finds" "fit" "[I", Cond.methodLink RX7 270 yX1_seek, Cond.instanceMethod yX1_seek, Cond.selects RX1 yX1_seek yX1_seek, Cond.initialized RX1, Cond.code yX1_seek cX1_seek 4 none, Cond.fieldLink RX1 40 "ThreeBelow$Finds" "isSought" "Z", Cond.fieldLink RX1 47 "ThreeBelow$Finds" "fitting" "I", Cond.fieldLink RX1 50 "ThreeBelow$Shore" "depths" "I", Cond.fieldLink RX1 26 "ThreeBelow$Finds" "fit" "[I", Cond.methodLink RX1 43 yX1_countWorths, Cond.instanceMethod yX1_countWorths, Cond.selects RX1 yX1_countWorths yX1_countWorths, Cond.code yX1_countWorths cX1_countWorths 6 none, Cond.fieldLink RX1 29 "ThreeBelow$Finds" "isCounted" "Z", Cond.fieldLink RX1 78 "ThreeBelow$Shore" "goods" "I", Cond.fieldLink RX1 81 "ThreeBelow$Shore" "toldWorth" "[I", Cond.fieldLink RX1 23 "ThreeBelow$Finds" "worthThen" "[[I", Cond.fieldLink RX1 71 "ThreeBelow$Shore" "rate" "[I", Cond.methodLink RX1 84 yX5_worthBehind, Cond.instanceMethod yX5_worthBehind]
def wsX7_stays_r2 : List Cond := [Cond.selects RX5 yX5_worthBehind yX5_worthBehind, Cond.initialized RX5, Cond.code yX5_worthBehind cX5_worthBehind 7 (some .int), Cond.methodLink RX5 60 yX5_worthNextYear, Cond.instanceMethod yX5_worthNextYear, Cond.selects RX5 yX5_worthNextYear yX5_worthNextYear, Cond.code yX5_worthNextYear cX5_worthNextYear 4 (some .int), Cond.fieldLink RX5 24 "ThreeBelow$Shore" "change" "[I", Cond.fieldLink RX5 27 "ThreeBelow$Shore" "mostWorth" "[I", Cond.methodLink RX5 57 yX5_hasGood, Cond.instanceMethod yX5_hasGood, Cond.selects RX5 yX5_hasGood yX5_hasGood, Cond.code yX5_hasGood cX5_hasGood 2 (some .boolean), Cond.fieldLink RX5 43 "ThreeBelow$Shore" "goods" "I", Cond.methodLink RX1 55 yX1_fitsAll, Cond.instanceMethod yX1_fitsAll, Cond.selects RX1 yX1_fitsAll yX1_fitsAll, Cond.code yX1_fitsAll cX1_fitsAll 6 (some .boolean), Cond.fieldLink RX1 36 "ThreeBelow$Finds" "count" "I", Cond.fieldLink RX1 11 "ThreeBelow$Finds" "kinds" "[I", Cond.fieldLink RX1 15 "ThreeBelow$Finds" "numbers" "[I", Cond.fieldLink RX1 18 "ThreeBelow$Finds" "values" "[I", Cond.methodLink RX1 68 yX1_worthBy, Cond.instanceMethod yX1_worthBy]
def wsX7_stays_r3 : List Cond := [Cond.selects RX1 yX1_worthBy yX1_worthBy, Cond.code yX1_worthBy cX1_worthBy 4 (some .int), Cond.methodLink RX1 74 yX5_kingAt, Cond.instanceMethod yX5_kingAt, Cond.selects RX5 yX5_kingAt yX5_kingAt, Cond.code yX5_kingAt cX5_kingAt 2 (some .int), Cond.fieldLink RX5 34 "ThreeBelow$Shore" "reign" "I"]
def wsX7_stays : List Cond := .code yX7_stays cX7_stays 2 (some .int) :: ((wsX7_stays_r1 ++ (wsX7_stays_r2 ++ wsX7_stays_r3)) ++ wsX70 ++ wsX10 ++ wsX50)
def wsX7_ask_r1 : List Cond := [Cond.fieldLink RX7 50 "ThreeBelow" "finds" "LThreeBelow$Finds;", Cond.fieldLink RX7 19 "ThreeBelow" "land" "LThreeBelow$Shore;", Cond.fieldLink RX7 273 "ThreeBelow$Finds" "fitting" "I", Cond.fieldLink RX7 107 "ThreeBelow$Shore" "goods" "I", Cond.methodLink RX7 270 yX1_seek, Cond.instanceMethod yX1_seek, Cond.selects RX1 yX1_seek yX1_seek, Cond.initialized RX1, Cond.code yX1_seek cX1_seek 4 none, Cond.fieldLink RX1 40 "ThreeBelow$Finds" "isSought" "Z", Cond.fieldLink RX1 47 "ThreeBelow$Finds" "fitting" "I", Cond.fieldLink RX1 50 "ThreeBelow$Shore" "depths" "I", Cond.fieldLink RX1 26 "ThreeBelow$Finds" "fit" "[I", Cond.methodLink RX1 43 yX1_countWorths, Cond.instanceMethod yX1_countWorths, Cond.selects RX1 yX1_countWorths yX1_countWorths, Cond.code yX1_countWorths cX1_countWorths 6 none, Cond.fieldLink RX1 29 "ThreeBelow$Finds" "isCounted" "Z", Cond.fieldLink RX1 78 "ThreeBelow$Shore" "goods" "I", Cond.fieldLink RX1 81 "ThreeBelow$Shore" "toldWorth" "[I", Cond.fieldLink RX1 23 "ThreeBelow$Finds" "worthThen" "[[I", Cond.fieldLink RX1 71 "ThreeBelow$Shore" "rate" "[I", Cond.methodLink RX1 84 yX5_worthBehind, Cond.instanceMethod yX5_worthBehind]
def wsX7_ask_r2 : List Cond := [Cond.selects RX5 yX5_worthBehind yX5_worthBehind, Cond.initialized RX5, Cond.code yX5_worthBehind cX5_worthBehind 7 (some .int), Cond.methodLink RX5 60 yX5_worthNextYear, Cond.instanceMethod yX5_worthNextYear, Cond.selects RX5 yX5_worthNextYear yX5_worthNextYear, Cond.code yX5_worthNextYear cX5_worthNextYear 4 (some .int), Cond.fieldLink RX5 24 "ThreeBelow$Shore" "change" "[I", Cond.fieldLink RX5 27 "ThreeBelow$Shore" "mostWorth" "[I", Cond.methodLink RX5 57 yX5_hasGood, Cond.instanceMethod yX5_hasGood, Cond.selects RX5 yX5_hasGood yX5_hasGood, Cond.code yX5_hasGood cX5_hasGood 2 (some .boolean), Cond.fieldLink RX5 43 "ThreeBelow$Shore" "goods" "I", Cond.methodLink RX1 55 yX1_fitsAll, Cond.instanceMethod yX1_fitsAll, Cond.selects RX1 yX1_fitsAll yX1_fitsAll, Cond.code yX1_fitsAll cX1_fitsAll 6 (some .boolean), Cond.fieldLink RX1 36 "ThreeBelow$Finds" "count" "I", Cond.fieldLink RX1 11 "ThreeBelow$Finds" "kinds" "[I", Cond.fieldLink RX1 15 "ThreeBelow$Finds" "numbers" "[I", Cond.fieldLink RX1 18 "ThreeBelow$Finds" "values" "[I", Cond.methodLink RX1 68 yX1_worthBy, Cond.instanceMethod yX1_worthBy]
def wsX7_ask_r3 : List Cond := [Cond.selects RX1 yX1_worthBy yX1_worthBy, Cond.code yX1_worthBy cX1_worthBy 4 (some .int), Cond.methodLink RX1 74 yX5_kingAt, Cond.instanceMethod yX5_kingAt, Cond.selects RX5 yX5_kingAt yX5_kingAt, Cond.code yX5_kingAt cX5_kingAt 2 (some .int), Cond.fieldLink RX5 34 "ThreeBelow$Shore" "reign" "I", Cond.methodLink RX7 279 yX1_greatestPart, Cond.instanceMethod yX1_greatestPart, Cond.selects RX1 yX1_greatestPart yX1_greatestPart, Cond.code yX1_greatestPart cX1_greatestPart 4 (some .int), Cond.methodLink RX1 63 Lib.Math.max.name, Cond.static Lib.Math.max.name, Cond.initialized "java/lang/Math", Cond.code Lib.Math.max.name Lib.Math.max.code 2 (some .int), Cond.methodLink RX1 59 yX1_alikeFrom, Cond.instanceMethod yX1_alikeFrom, Cond.selects RX1 yX1_alikeFrom yX1_alikeFrom, Cond.code yX1_alikeFrom cX1_alikeFrom 6 (some .int)]
def wsX7_ask : List Cond := .code yX7_ask cX7_ask 5 (some .int) :: ((wsX7_ask_r1 ++ (wsX7_ask_r2 ++ wsX7_ask_r3)) ++ wsX70 ++ wsX10 ++ wsX50)
def wsX7_write : List Cond := .code yX7_write cX7_write 3 (some .int) :: ([.fieldLink RX7 19 "ThreeBelow" "land" "LThreeBelow$Shore;", .constant RX7 139 (-1000000001), .constant RX7 61 (-1000000002), .fieldLink RX7 57 "ThreeBelow" "book" "LThreeBelow$Book;", .fieldLink RX7 129 "ThreeBelow$Book" "count" "I", .constant RX7 66 (-1000000004), .methodLink RX7 140 yX5_hasPerson, .instanceMethod yX5_hasPerson, .selects RX5 yX5_hasPerson yX5_hasPerson, .initialized RX5, .code yX5_hasPerson cX5_hasPerson 2 (some .boolean), .fieldLink RX5 40 "ThreeBelow$Shore" "persons" "I", .methodLink RX7 282 yX0_add, .instanceMethod yX0_add, .selects RX0 yX0_add yX0_add, .initialized RX0, .code yX0_add cX0_add 3 none, .fieldLink RX0 18 "ThreeBelow$Book" "count" "I", .fieldLink RX0 11 "ThreeBelow$Book" "who" "[I", .fieldLink RX0 15 "ThreeBelow$Book" "ages" "[I"] ++ wsX70 ++ wsX00 ++ wsX50)
def wsX7_tear : List Cond := .code yX7_tear cX7_tear 2 (some .int) :: ([.fieldLink RX7 50 "ThreeBelow" "finds" "LThreeBelow$Finds;", .fieldLink RX7 126 "ThreeBelow$Finds" "count" "I", .fieldLink RX7 57 "ThreeBelow" "book" "LThreeBelow$Book;", .fieldLink RX7 129 "ThreeBelow$Book" "count" "I", .methodLink RX7 284 yX1_empty, .instanceMethod yX1_empty, .selects RX1 yX1_empty yX1_empty, .initialized RX1, .code yX1_empty cX1_empty 1 none, .fieldLink RX1 36 "ThreeBelow$Finds" "count" "I", .fieldLink RX1 40 "ThreeBelow$Finds" "isSought" "Z", .methodLink RX7 91 yX0_empty, .instanceMethod yX0_empty, .selects RX0 yX0_empty yX0_empty, .initialized RX0, .code yX0_empty cX0_empty 1 none, .fieldLink RX0 18 "ThreeBelow$Book" "count" "I"] ++ wsX70 ++ wsX10 ++ wsX00)
def wsX7_judge : List Cond := .code yX7_judge cX7_judge 1 (some .int) :: ([.fieldLink RX7 57 "ThreeBelow" "book" "LThreeBelow$Book;", .fieldLink RX7 29 "ThreeBelow" "life" "LThreeBelow$Life;", .methodLink RX7 285 yX0_firstWrong, .instanceMethod yX0_firstWrong, .selects RX0 yX0_firstWrong yX0_firstWrong, .initialized RX0, .code yX0_firstWrong cX0_firstWrong 3 (some .int), .fieldLink RX0 18 "ThreeBelow$Book" "count" "I", .fieldLink RX0 11 "ThreeBelow$Book" "who" "[I", .fieldLink RX0 15 "ThreeBelow$Book" "ages" "[I", .methodLink RX0 22 yX3_age, .instanceMethod yX3_age, .selects RX3 yX3_age yX3_age, .initialized RX3, .code yX3_age cX3_age 2 (some .int), .fieldLink RX3 11 "ThreeBelow$Life" "row" "[I", .methodLink RX3 46 yX3_isPerson, .static yX3_isPerson, .code yX3_isPerson cX3_isPerson 1 (some .boolean)] ++ wsX70 ++ wsX00 ++ wsX30)
def wsX7_seed : List Cond := .code yX7_seed cX7_seed 3 (some .int) :: ([.constant RX7 61 (-1000000002), .fieldLink RX7 222 "ThreeBelow" "seedNow" "I"] ++ wsX70)
def wsX7_keep_r1 : List Cond := [Cond.fieldLink RX7 43 "ThreeBelow" "images" "LThreeBelow$Images;", Cond.constant RX7 139 (-1000000001), Cond.fieldLink RX7 29 "ThreeBelow" "life" "LThreeBelow$Life;", Cond.fieldLink RX7 222 "ThreeBelow" "seedNow" "I", Cond.fieldLink RX7 36 "ThreeBelow" "past" "LThreeBelow$Past;", Cond.methodLink RX7 289 yX2_hasPlace, Cond.instanceMethod yX2_hasPlace, Cond.selects RX2 yX2_hasPlace yX2_hasPlace, Cond.initialized RX2, Cond.code yX2_hasPlace cX2_hasPlace 2 (some .boolean), Cond.methodLink RX7 292 yX2_put, Cond.instanceMethod yX2_put, Cond.selects RX2 yX2_put yX2_put, Cond.code yX2_put cX2_put 4 none, Cond.fieldLink RX2 13 "ThreeBelow$Images" "rows" "[[I", Cond.fieldLink RX2 16 "ThreeBelow$Images" "seeds" "[I", Cond.fieldLink RX2 20 "ThreeBelow$Images" "isKept" "[Z", Cond.methodLink RX2 24 yX2_hasPlace, Cond.methodLink RX2 28 yX3_copyTo, Cond.instanceMethod yX3_copyTo, Cond.selects RX3 yX3_copyTo yX3_copyTo, Cond.initialized RX3, Cond.code yX3_copyTo cX3_copyTo 2 none, Cond.fieldLink RX3 11 "ThreeBelow$Life" "row" "[I"]
def wsX7_keep_r2 : List Cond := [Cond.methodLink RX3 34 Lib.Math.min.name, Cond.static Lib.Math.min.name, Cond.initialized "java/lang/Math", Cond.code Lib.Math.min.name Lib.Math.min.code 2 (some .int), Cond.methodLink RX3 40 arraycopyName, Cond.native arraycopyName, Cond.static arraycopyName, Cond.initialized "java/lang/System", Cond.methodLink RX7 84 yX4_forget, Cond.instanceMethod yX4_forget, Cond.selects RX4 yX4_forget yX4_forget, Cond.initialized RX4, Cond.code yX4_forget cX4_forget 1 none, Cond.fieldLink RX4 16 "ThreeBelow$Past" "count" "I"]
def wsX7_keep : List Cond := .code yX7_keep cX7_keep 2 (some .int) :: ((wsX7_keep_r1 ++ wsX7_keep_r2) ++ wsX70 ++ wsX20 ++ wsX30 ++ wsX40)
def wsX7_goBack_r1 : List Cond := [Cond.fieldLink RX7 43 "ThreeBelow" "images" "LThreeBelow$Images;", Cond.constant RX7 139 (-1000000001), Cond.fieldLink RX7 296 "ThreeBelow$Images" "isKept" "[Z", Cond.constant RX7 188 (-1000000003), Cond.fieldLink RX7 29 "ThreeBelow" "life" "LThreeBelow$Life;", Cond.fieldLink RX7 300 "ThreeBelow$Images" "rows" "[[I", Cond.fieldLink RX7 308 "ThreeBelow$Images" "seeds" "[I", Cond.fieldLink RX7 222 "ThreeBelow" "seedNow" "I", Cond.fieldLink RX7 36 "ThreeBelow" "past" "LThreeBelow$Past;", Cond.methodLink RX7 289 yX2_hasPlace, Cond.instanceMethod yX2_hasPlace, Cond.selects RX2 yX2_hasPlace yX2_hasPlace, Cond.initialized RX2, Cond.code yX2_hasPlace cX2_hasPlace 2 (some .boolean), Cond.methodLink RX7 304 yX3_copyFrom, Cond.instanceMethod yX3_copyFrom, Cond.selects RX3 yX3_copyFrom yX3_copyFrom, Cond.initialized RX3, Cond.code yX3_copyFrom cX3_copyFrom 2 none, Cond.fieldLink RX3 11 "ThreeBelow$Life" "row" "[I", Cond.methodLink RX3 34 Lib.Math.min.name, Cond.static Lib.Math.min.name, Cond.initialized "java/lang/Math", Cond.code Lib.Math.min.name Lib.Math.min.code 2 (some .int)]
def wsX7_goBack_r2 : List Cond := [Cond.methodLink RX3 40 arraycopyName, Cond.native arraycopyName, Cond.static arraycopyName, Cond.initialized "java/lang/System", Cond.methodLink RX7 84 yX4_forget, Cond.instanceMethod yX4_forget, Cond.selects RX4 yX4_forget yX4_forget, Cond.initialized RX4, Cond.code yX4_forget cX4_forget 1 none, Cond.fieldLink RX4 16 "ThreeBelow$Past" "count" "I"]
def wsX7_goBack : List Cond := .code yX7_goBack cX7_goBack 2 (some .int) :: ((wsX7_goBack_r1 ++ wsX7_goBack_r2) ++ wsX70 ++ wsX20 ++ wsX30 ++ wsX40)
def wsX8_init_r1 : List Cond := [Cond.methodLink RX8 1 objectInit, Cond.instanceMethod objectInit, Cond.code objectInit ⟨#[0xb1]⟩ 1 none, Cond.arrayClass .int, Cond.fieldLink RX8 7 "ThreeBelowModel" "text" "[I", Cond.fieldLink RX8 13 "ThreeBelowModel" "faultAt" "I", Cond.fieldLink RX8 17 "ThreeBelowModel" "law" "[I", Cond.fieldLink RX8 20 "ThreeBelowModel" "depths" "[I", Cond.fieldLink RX8 23 "ThreeBelowModel" "people" "[I", Cond.fieldLink RX8 26 "ThreeBelowModel" "goods" "[I", Cond.fieldLink RX8 29 "ThreeBelowModel" "draftLaw" "[I", Cond.fieldLink RX8 32 "ThreeBelowModel" "draftDepths" "[I", Cond.fieldLink RX8 35 "ThreeBelowModel" "draftPeople" "[I", Cond.fieldLink RX8 38 "ThreeBelowModel" "draftGoods" "[I", Cond.fieldLink RX8 41 "ThreeBelowModel" "now" "[I", Cond.fieldLink RX8 44 "ThreeBelowModel" "past" "[I", Cond.fieldLink RX8 47 "ThreeBelowModel" "images" "[I", Cond.fieldLink RX8 50 "ThreeBelowModel" "imageSeeds" "[I", Cond.arrayClass .boolean, Cond.fieldLink RX8 53 "ThreeBelowModel" "kept" "[Z", Cond.fieldLink RX8 57 "ThreeBelowModel" "found" "[I", Cond.fieldLink RX8 60 "ThreeBelowModel" "book" "[I", Cond.fieldLink RX8 63 "ThreeBelowModel" "worths" "[I", Cond.fieldLink RX8 66 "ThreeBelowModel" "stays" "[I"]
def wsX8_init_r2 : List Cond := [Cond.fieldLink RX8 69 "ThreeBelowModel" "by" "[I"]
def wsX8_init : List Cond := .code yX8_init cX8_init 1 none :: ((wsX8_init_r1 ++ wsX8_init_r2) ++ wsX80)
def wsX8_in : List Cond := .code yX8_in cX8_in 3 (some .boolean) :: ([])
def wsX8_feed : List Cond := .code yX8_feed cX8_feed 2 (some .int) :: ([.constant RX8 76 (-1000000002), .fieldLink RX8 77 "ThreeBelowModel" "letters" "I", .constant RX8 80 (-1000000004), .fieldLink RX8 7 "ThreeBelowModel" "text" "[I", .methodLink RX8 72 yX8_in, .static yX8_in, .initialized RX8, .code yX8_in cX8_in 3 (some .boolean)] ++ wsX80)
def wsX8_look : List Cond := .code yX8_look cX8_look 1 (some .int) :: ([.fieldLink RX8 81 "ThreeBelowModel" "at" "I", .fieldLink RX8 77 "ThreeBelowModel" "letters" "I", .fieldLink RX8 7 "ThreeBelowModel" "text" "[I"] ++ wsX80)
def wsX8_skips : List Cond := .code yX8_skips cX8_skips 1 none :: ([.fieldLink RX8 84 "ThreeBelowModel" "wrong" "I", .fieldLink RX8 81 "ThreeBelowModel" "at" "I", .methodLink RX8 87 yX8_look, .instanceMethod yX8_look, .selects RX8 yX8_look yX8_look, .initialized RX8, .code yX8_look cX8_look 1 (some .int), .fieldLink RX8 77 "ThreeBelowModel" "letters" "I", .fieldLink RX8 7 "ThreeBelowModel" "text" "[I"] ++ wsX80)
def wsX8_fails : List Cond := .code yX8_fails cX8_fails 2 none :: ([.fieldLink RX8 84 "ThreeBelowModel" "wrong" "I"] ++ wsX80)
def wsX8_stops : List Cond := .code yX8_stops cX8_stops 1 none :: ([.fieldLink RX8 84 "ThreeBelowModel" "wrong" "I", .fieldLink RX8 81 "ThreeBelowModel" "at" "I", .methodLink RX8 91 yX8_skips, .instanceMethod yX8_skips, .selects RX8 yX8_skips yX8_skips, .initialized RX8, .code yX8_skips cX8_skips 1 none, .methodLink RX8 87 yX8_look, .instanceMethod yX8_look, .selects RX8 yX8_look yX8_look, .code yX8_look cX8_look 1 (some .int), .fieldLink RX8 77 "ThreeBelowModel" "letters" "I", .fieldLink RX8 7 "ThreeBelowModel" "text" "[I", .methodLink RX8 94 yX8_fails, .instanceMethod yX8_fails, .selects RX8 yX8_fails yX8_fails, .code yX8_fails cX8_fails 2 none] ++ wsX80)
def wsX8_number : List Cond := .code yX8_number cX8_number 5 (some .int) :: ([.fieldLink RX8 84 "ThreeBelowModel" "wrong" "I", .fieldLink RX8 81 "ThreeBelowModel" "at" "I", .methodLink RX8 91 yX8_skips, .instanceMethod yX8_skips, .selects RX8 yX8_skips yX8_skips, .initialized RX8, .code yX8_skips cX8_skips 1 none, .methodLink RX8 87 yX8_look, .instanceMethod yX8_look, .selects RX8 yX8_look yX8_look, .code yX8_look cX8_look 1 (some .int), .fieldLink RX8 77 "ThreeBelowModel" "letters" "I", .fieldLink RX8 7 "ThreeBelowModel" "text" "[I", .methodLink RX8 72 yX8_in, .static yX8_in, .code yX8_in cX8_in 3 (some .boolean), .methodLink RX8 94 yX8_fails, .instanceMethod yX8_fails, .selects RX8 yX8_fails yX8_fails, .code yX8_fails cX8_fails 2 none] ++ wsX80)
def wsX8_opens : List Cond := .code yX8_opens cX8_opens 3 (some .boolean) :: ([.fieldLink RX8 81 "ThreeBelowModel" "at" "I", .methodLink RX8 94 yX8_fails, .instanceMethod yX8_fails, .selects RX8 yX8_fails yX8_fails, .initialized RX8, .code yX8_fails cX8_fails 2 none, .fieldLink RX8 84 "ThreeBelowModel" "wrong" "I"] ++ wsX80)
def wsX8_readsLaw_r1 : List Cond := [Cond.fieldLink RX8 29 "ThreeBelowModel" "draftLaw" "[I", Cond.methodLink RX8 98 yX8_opens, Cond.instanceMethod yX8_opens, Cond.selects RX8 yX8_opens yX8_opens, Cond.initialized RX8, Cond.code yX8_opens cX8_opens 3 (some .boolean), Cond.fieldLink RX8 81 "ThreeBelowModel" "at" "I", Cond.methodLink RX8 94 yX8_fails, Cond.instanceMethod yX8_fails, Cond.selects RX8 yX8_fails yX8_fails, Cond.code yX8_fails cX8_fails 2 none, Cond.fieldLink RX8 84 "ThreeBelowModel" "wrong" "I", Cond.methodLink RX8 102 yX8_number, Cond.instanceMethod yX8_number, Cond.selects RX8 yX8_number yX8_number, Cond.code yX8_number cX8_number 5 (some .int), Cond.methodLink RX8 91 yX8_skips, Cond.instanceMethod yX8_skips, Cond.selects RX8 yX8_skips yX8_skips, Cond.code yX8_skips cX8_skips 1 none, Cond.methodLink RX8 87 yX8_look, Cond.instanceMethod yX8_look, Cond.selects RX8 yX8_look yX8_look, Cond.code yX8_look cX8_look 1 (some .int)]
def wsX8_readsLaw_r2 : List Cond := [Cond.fieldLink RX8 77 "ThreeBelowModel" "letters" "I", Cond.fieldLink RX8 7 "ThreeBelowModel" "text" "[I", Cond.methodLink RX8 72 yX8_in, Cond.static yX8_in, Cond.code yX8_in cX8_in 3 (some .boolean), Cond.methodLink RX8 106 yX8_stops, Cond.instanceMethod yX8_stops, Cond.selects RX8 yX8_stops yX8_stops, Cond.code yX8_stops cX8_stops 1 none]
def wsX8_readsLaw : List Cond := .code yX8_readsLaw cX8_readsLaw 1 none :: ((wsX8_readsLaw_r1 ++ wsX8_readsLaw_r2) ++ wsX80)
def wsX8_readsDepth_r1 : List Cond := [Cond.fieldLink RX8 29 "ThreeBelowModel" "draftLaw" "[I", Cond.fieldLink RX8 32 "ThreeBelowModel" "draftDepths" "[I", Cond.methodLink RX8 98 yX8_opens, Cond.instanceMethod yX8_opens, Cond.selects RX8 yX8_opens yX8_opens, Cond.initialized RX8, Cond.code yX8_opens cX8_opens 3 (some .boolean), Cond.fieldLink RX8 81 "ThreeBelowModel" "at" "I", Cond.methodLink RX8 94 yX8_fails, Cond.instanceMethod yX8_fails, Cond.selects RX8 yX8_fails yX8_fails, Cond.code yX8_fails cX8_fails 2 none, Cond.fieldLink RX8 84 "ThreeBelowModel" "wrong" "I", Cond.methodLink RX8 102 yX8_number, Cond.instanceMethod yX8_number, Cond.selects RX8 yX8_number yX8_number, Cond.code yX8_number cX8_number 5 (some .int), Cond.methodLink RX8 91 yX8_skips, Cond.instanceMethod yX8_skips, Cond.selects RX8 yX8_skips yX8_skips, Cond.code yX8_skips cX8_skips 1 none, Cond.methodLink RX8 87 yX8_look, Cond.instanceMethod yX8_look, Cond.selects RX8 yX8_look yX8_look]
def wsX8_readsDepth_r2 : List Cond := [Cond.code yX8_look cX8_look 1 (some .int), Cond.fieldLink RX8 77 "ThreeBelowModel" "letters" "I", Cond.fieldLink RX8 7 "ThreeBelowModel" "text" "[I", Cond.methodLink RX8 72 yX8_in, Cond.static yX8_in, Cond.code yX8_in cX8_in 3 (some .boolean), Cond.methodLink RX8 106 yX8_stops, Cond.instanceMethod yX8_stops, Cond.selects RX8 yX8_stops yX8_stops, Cond.code yX8_stops cX8_stops 1 none]
def wsX8_readsDepth : List Cond := .code yX8_readsDepth cX8_readsDepth 1 none :: ((wsX8_readsDepth_r1 ++ wsX8_readsDepth_r2) ++ wsX80)
def wsX8_readsPerson_r1 : List Cond := [Cond.fieldLink RX8 29 "ThreeBelowModel" "draftLaw" "[I", Cond.fieldLink RX8 35 "ThreeBelowModel" "draftPeople" "[I", Cond.methodLink RX8 98 yX8_opens, Cond.instanceMethod yX8_opens, Cond.selects RX8 yX8_opens yX8_opens, Cond.initialized RX8, Cond.code yX8_opens cX8_opens 3 (some .boolean), Cond.fieldLink RX8 81 "ThreeBelowModel" "at" "I", Cond.methodLink RX8 94 yX8_fails, Cond.instanceMethod yX8_fails, Cond.selects RX8 yX8_fails yX8_fails, Cond.code yX8_fails cX8_fails 2 none, Cond.fieldLink RX8 84 "ThreeBelowModel" "wrong" "I", Cond.methodLink RX8 102 yX8_number, Cond.instanceMethod yX8_number, Cond.selects RX8 yX8_number yX8_number, Cond.code yX8_number cX8_number 5 (some .int), Cond.methodLink RX8 91 yX8_skips, Cond.instanceMethod yX8_skips, Cond.selects RX8 yX8_skips yX8_skips, Cond.code yX8_skips cX8_skips 1 none, Cond.methodLink RX8 87 yX8_look, Cond.instanceMethod yX8_look, Cond.selects RX8 yX8_look yX8_look]
def wsX8_readsPerson_r2 : List Cond := [Cond.code yX8_look cX8_look 1 (some .int), Cond.fieldLink RX8 77 "ThreeBelowModel" "letters" "I", Cond.fieldLink RX8 7 "ThreeBelowModel" "text" "[I", Cond.methodLink RX8 72 yX8_in, Cond.static yX8_in, Cond.code yX8_in cX8_in 3 (some .boolean), Cond.methodLink RX8 106 yX8_stops, Cond.instanceMethod yX8_stops, Cond.selects RX8 yX8_stops yX8_stops, Cond.code yX8_stops cX8_stops 1 none]
def wsX8_readsPerson : List Cond := .code yX8_readsPerson cX8_readsPerson 1 none :: ((wsX8_readsPerson_r1 ++ wsX8_readsPerson_r2) ++ wsX80)
def wsX8_readsGood_r1 : List Cond := [Cond.fieldLink RX8 29 "ThreeBelowModel" "draftLaw" "[I", Cond.fieldLink RX8 38 "ThreeBelowModel" "draftGoods" "[I", Cond.methodLink RX8 98 yX8_opens, Cond.instanceMethod yX8_opens, Cond.selects RX8 yX8_opens yX8_opens, Cond.initialized RX8, Cond.code yX8_opens cX8_opens 3 (some .boolean), Cond.fieldLink RX8 81 "ThreeBelowModel" "at" "I", Cond.methodLink RX8 94 yX8_fails, Cond.instanceMethod yX8_fails, Cond.selects RX8 yX8_fails yX8_fails, Cond.code yX8_fails cX8_fails 2 none, Cond.fieldLink RX8 84 "ThreeBelowModel" "wrong" "I", Cond.methodLink RX8 102 yX8_number, Cond.instanceMethod yX8_number, Cond.selects RX8 yX8_number yX8_number, Cond.code yX8_number cX8_number 5 (some .int), Cond.methodLink RX8 91 yX8_skips, Cond.instanceMethod yX8_skips, Cond.selects RX8 yX8_skips yX8_skips, Cond.code yX8_skips cX8_skips 1 none, Cond.methodLink RX8 87 yX8_look, Cond.instanceMethod yX8_look, Cond.selects RX8 yX8_look yX8_look]
def wsX8_readsGood_r2 : List Cond := [Cond.code yX8_look cX8_look 1 (some .int), Cond.fieldLink RX8 77 "ThreeBelowModel" "letters" "I", Cond.fieldLink RX8 7 "ThreeBelowModel" "text" "[I", Cond.methodLink RX8 72 yX8_in, Cond.static yX8_in, Cond.code yX8_in cX8_in 3 (some .boolean), Cond.methodLink RX8 106 yX8_stops, Cond.instanceMethod yX8_stops, Cond.selects RX8 yX8_stops yX8_stops, Cond.code yX8_stops cX8_stops 1 none]
def wsX8_readsGood : List Cond := .code yX8_readsGood cX8_readsGood 1 none :: ((wsX8_readsGood_r1 ++ wsX8_readsGood_r2) ++ wsX80)
def wsX8_reads_r1 : List Cond := [Cond.fieldLink RX8 84 "ThreeBelowModel" "wrong" "I", Cond.fieldLink RX8 29 "ThreeBelowModel" "draftLaw" "[I", Cond.methodLink RX8 87 yX8_look, Cond.instanceMethod yX8_look, Cond.selects RX8 yX8_look yX8_look, Cond.initialized RX8, Cond.code yX8_look cX8_look 1 (some .int), Cond.fieldLink RX8 81 "ThreeBelowModel" "at" "I", Cond.fieldLink RX8 77 "ThreeBelowModel" "letters" "I", Cond.fieldLink RX8 7 "ThreeBelowModel" "text" "[I", Cond.methodLink RX8 109 yX8_readsLaw, Cond.instanceMethod yX8_readsLaw, Cond.selects RX8 yX8_readsLaw yX8_readsLaw, Cond.code yX8_readsLaw cX8_readsLaw 1 none, Cond.methodLink RX8 98 yX8_opens, Cond.instanceMethod yX8_opens, Cond.selects RX8 yX8_opens yX8_opens, Cond.code yX8_opens cX8_opens 3 (some .boolean), Cond.methodLink RX8 94 yX8_fails, Cond.instanceMethod yX8_fails, Cond.selects RX8 yX8_fails yX8_fails, Cond.code yX8_fails cX8_fails 2 none, Cond.methodLink RX8 102 yX8_number, Cond.instanceMethod yX8_number]
def wsX8_reads_r2 : List Cond := [Cond.selects RX8 yX8_number yX8_number, Cond.code yX8_number cX8_number 5 (some .int), Cond.methodLink RX8 91 yX8_skips, Cond.instanceMethod yX8_skips, Cond.selects RX8 yX8_skips yX8_skips, Cond.code yX8_skips cX8_skips 1 none, Cond.methodLink RX8 72 yX8_in, Cond.static yX8_in, Cond.code yX8_in cX8_in 3 (some .boolean), Cond.methodLink RX8 106 yX8_stops, Cond.instanceMethod yX8_stops, Cond.selects RX8 yX8_stops yX8_stops, Cond.code yX8_stops cX8_stops 1 none, Cond.methodLink RX8 112 yX8_readsDepth, Cond.instanceMethod yX8_readsDepth, Cond.selects RX8 yX8_readsDepth yX8_readsDepth, Cond.code yX8_readsDepth cX8_readsDepth 1 none, Cond.fieldLink RX8 32 "ThreeBelowModel" "draftDepths" "[I", Cond.methodLink RX8 115 yX8_readsPerson, Cond.instanceMethod yX8_readsPerson, Cond.selects RX8 yX8_readsPerson yX8_readsPerson, Cond.code yX8_readsPerson cX8_readsPerson 1 none, Cond.fieldLink RX8 35 "ThreeBelowModel" "draftPeople" "[I", Cond.methodLink RX8 118 yX8_readsGood]
def wsX8_reads_r3 : List Cond := [Cond.instanceMethod yX8_readsGood, Cond.selects RX8 yX8_readsGood yX8_readsGood, Cond.code yX8_readsGood cX8_readsGood 1 none, Cond.fieldLink RX8 38 "ThreeBelowModel" "draftGoods" "[I"]
def wsX8_reads : List Cond := .code yX8_reads cX8_reads 1 none :: ((wsX8_reads_r1 ++ (wsX8_reads_r2 ++ wsX8_reads_r3)) ++ wsX80)
def wsX8_copies : List Cond := .code yX8_copies cX8_copies 4 none :: ([])
def wsX8_shore_r1 : List Cond := [Cond.fieldLink RX8 81 "ThreeBelowModel" "at" "I", Cond.fieldLink RX8 84 "ThreeBelowModel" "wrong" "I", Cond.fieldLink RX8 38 "ThreeBelowModel" "draftGoods" "[I", Cond.fieldLink RX8 35 "ThreeBelowModel" "draftPeople" "[I", Cond.fieldLink RX8 29 "ThreeBelowModel" "draftLaw" "[I", Cond.fieldLink RX8 32 "ThreeBelowModel" "draftDepths" "[I", Cond.fieldLink RX8 77 "ThreeBelowModel" "letters" "I", Cond.fieldLink RX8 13 "ThreeBelowModel" "faultAt" "I", Cond.fieldLink RX8 17 "ThreeBelowModel" "law" "[I", Cond.fieldLink RX8 20 "ThreeBelowModel" "depths" "[I", Cond.fieldLink RX8 23 "ThreeBelowModel" "people" "[I", Cond.fieldLink RX8 26 "ThreeBelowModel" "goods" "[I", Cond.fieldLink RX8 41 "ThreeBelowModel" "now" "[I", Cond.fieldLink RX8 128 "ThreeBelowModel" "deeds" "I", Cond.fieldLink RX8 131 "ThreeBelowModel" "finds" "I", Cond.fieldLink RX8 134 "ThreeBelowModel" "entries" "I", Cond.fieldLink RX8 53 "ThreeBelowModel" "kept" "[Z", Cond.methodLink RX8 91 yX8_skips, Cond.instanceMethod yX8_skips, Cond.selects RX8 yX8_skips yX8_skips, Cond.initialized RX8, Cond.code yX8_skips cX8_skips 1 none, Cond.methodLink RX8 87 yX8_look, Cond.instanceMethod yX8_look]
def wsX8_shore_r2 : List Cond := [Cond.selects RX8 yX8_look yX8_look, Cond.code yX8_look cX8_look 1 (some .int), Cond.fieldLink RX8 7 "ThreeBelowModel" "text" "[I", Cond.methodLink RX8 121 yX8_reads, Cond.instanceMethod yX8_reads, Cond.selects RX8 yX8_reads yX8_reads, Cond.code yX8_reads cX8_reads 1 none, Cond.methodLink RX8 109 yX8_readsLaw, Cond.instanceMethod yX8_readsLaw, Cond.selects RX8 yX8_readsLaw yX8_readsLaw, Cond.code yX8_readsLaw cX8_readsLaw 1 none, Cond.methodLink RX8 98 yX8_opens, Cond.instanceMethod yX8_opens, Cond.selects RX8 yX8_opens yX8_opens, Cond.code yX8_opens cX8_opens 3 (some .boolean), Cond.methodLink RX8 94 yX8_fails, Cond.instanceMethod yX8_fails, Cond.selects RX8 yX8_fails yX8_fails, Cond.code yX8_fails cX8_fails 2 none, Cond.methodLink RX8 102 yX8_number, Cond.instanceMethod yX8_number, Cond.selects RX8 yX8_number yX8_number, Cond.code yX8_number cX8_number 5 (some .int), Cond.methodLink RX8 72 yX8_in]
def wsX8_shore_r3 : List Cond := [Cond.static yX8_in, Cond.code yX8_in cX8_in 3 (some .boolean), Cond.methodLink RX8 106 yX8_stops, Cond.instanceMethod yX8_stops, Cond.selects RX8 yX8_stops yX8_stops, Cond.code yX8_stops cX8_stops 1 none, Cond.methodLink RX8 112 yX8_readsDepth, Cond.instanceMethod yX8_readsDepth, Cond.selects RX8 yX8_readsDepth yX8_readsDepth, Cond.code yX8_readsDepth cX8_readsDepth 1 none, Cond.methodLink RX8 115 yX8_readsPerson, Cond.instanceMethod yX8_readsPerson, Cond.selects RX8 yX8_readsPerson yX8_readsPerson, Cond.code yX8_readsPerson cX8_readsPerson 1 none, Cond.methodLink RX8 118 yX8_readsGood, Cond.instanceMethod yX8_readsGood, Cond.selects RX8 yX8_readsGood yX8_readsGood, Cond.code yX8_readsGood cX8_readsGood 1 none, Cond.methodLink RX8 124 yX8_copies, Cond.static yX8_copies, Cond.code yX8_copies cX8_copies 4 none]
def wsX8_shore : List Cond := .code yX8_shore cX8_shore 2 (some .int) :: ((wsX8_shore_r1 ++ (wsX8_shore_r2 ++ wsX8_shore_r3)) ++ wsX80)
def wsX8_fault : List Cond := .code yX8_fault cX8_fault 1 (some .int) :: ([.fieldLink RX8 13 "ThreeBelowModel" "faultAt" "I"] ++ wsX80)
def wsX8_isShore : List Cond := .code yX8_isShore cX8_isShore 1 (some .boolean) :: ([.fieldLink RX8 17 "ThreeBelowModel" "law" "[I"] ++ wsX80)
def wsX8_isDepth : List Cond := .code yX8_isDepth cX8_isDepth 2 (some .boolean) :: ([.fieldLink RX8 17 "ThreeBelowModel" "law" "[I", .methodLink RX8 72 yX8_in, .static yX8_in, .initialized RX8, .code yX8_in cX8_in 3 (some .boolean)] ++ wsX80)
def wsX8_isPerson : List Cond := .code yX8_isPerson cX8_isPerson 2 (some .boolean) :: ([.fieldLink RX8 17 "ThreeBelowModel" "law" "[I", .methodLink RX8 72 yX8_in, .static yX8_in, .initialized RX8, .code yX8_in cX8_in 3 (some .boolean)] ++ wsX80)
def wsX8_isGood : List Cond := .code yX8_isGood cX8_isGood 2 (some .boolean) :: ([.fieldLink RX8 17 "ThreeBelowModel" "law" "[I", .methodLink RX8 72 yX8_in, .static yX8_in, .initialized RX8, .code yX8_in cX8_in 3 (some .boolean)] ++ wsX80)
def wsX8_isAbove : List Cond := .code yX8_isAbove cX8_isAbove 2 (some .boolean) :: ([.fieldLink RX8 41 "ThreeBelowModel" "now" "[I"] ++ wsX80)
def wsX8_isBelow : List Cond := .code yX8_isBelow cX8_isBelow 2 (some .boolean) :: ([.fieldLink RX8 41 "ThreeBelowModel" "now" "[I"] ++ wsX80)
def wsX8_end : List Cond := .code yX8_end cX8_end 2 (some .int) :: ([.fieldLink RX8 23 "ThreeBelowModel" "people" "[I"] ++ wsX80)
def wsX8_who : List Cond := .code yX8_who cX8_who 5 (some .int) :: ([.fieldLink RX8 17 "ThreeBelowModel" "law" "[I", .fieldLink RX8 41 "ThreeBelowModel" "now" "[I", .methodLink RX8 137 yX8_isBelow, .instanceMethod yX8_isBelow, .selects RX8 yX8_isBelow yX8_isBelow, .initialized RX8, .code yX8_isBelow cX8_isBelow 2 (some .boolean)] ++ wsX80)
def wsX8_told : List Cond := .code yX8_told cX8_told 2 (some .int) :: ([.fieldLink RX8 17 "ThreeBelowModel" "law" "[I", .fieldLink RX8 77 "ThreeBelowModel" "letters" "I", .fieldLink RX8 41 "ThreeBelowModel" "now" "[I", .fieldLink RX8 131 "ThreeBelowModel" "finds" "I", .fieldLink RX8 134 "ThreeBelowModel" "entries" "I", .fieldLink RX8 128 "ThreeBelowModel" "deeds" "I", .constant RX8 76 (-1000000002), .methodLink RX8 141 yX8_isShore, .instanceMethod yX8_isShore, .selects RX8 yX8_isShore yX8_isShore, .initialized RX8, .code yX8_isShore cX8_isShore 1 (some .boolean), .methodLink RX8 145 yX8_who, .instanceMethod yX8_who, .selects RX8 yX8_who yX8_who, .code yX8_who cX8_who 5 (some .int), .methodLink RX8 137 yX8_isBelow, .instanceMethod yX8_isBelow, .selects RX8 yX8_isBelow yX8_isBelow, .code yX8_isBelow cX8_isBelow 2 (some .boolean)] ++ wsX80)
def wsX8_depth : List Cond := .code yX8_depth cX8_depth 2 (some .int) :: ([.fieldLink RX8 20 "ThreeBelowModel" "depths" "[I", .constant RX8 152 (-1000000001), .methodLink RX8 149 yX8_isDepth, .instanceMethod yX8_isDepth, .selects RX8 yX8_isDepth yX8_isDepth, .initialized RX8, .code yX8_isDepth cX8_isDepth 2 (some .boolean), .fieldLink RX8 17 "ThreeBelowModel" "law" "[I", .methodLink RX8 72 yX8_in, .static yX8_in, .code yX8_in cX8_in 3 (some .boolean)] ++ wsX80)
def wsX8_daysOf : List Cond := .code yX8_daysOf cX8_daysOf 2 (some .int) :: ([.fieldLink RX8 41 "ThreeBelowModel" "now" "[I", .fieldLink RX8 20 "ThreeBelowModel" "depths" "[I", .methodLink RX8 137 yX8_isBelow, .instanceMethod yX8_isBelow, .selects RX8 yX8_isBelow yX8_isBelow, .initialized RX8, .code yX8_isBelow cX8_isBelow 2 (some .boolean)] ++ wsX80)
def wsX8_person_r1 : List Cond := [Cond.constant RX8 152 (-1000000001), Cond.fieldLink RX8 41 "ThreeBelowModel" "now" "[I", Cond.constant RX8 76 (-1000000002), Cond.methodLink RX8 153 yX8_isPerson, Cond.instanceMethod yX8_isPerson, Cond.selects RX8 yX8_isPerson yX8_isPerson, Cond.initialized RX8, Cond.code yX8_isPerson cX8_isPerson 2 (some .boolean), Cond.fieldLink RX8 17 "ThreeBelowModel" "law" "[I", Cond.methodLink RX8 72 yX8_in, Cond.static yX8_in, Cond.code yX8_in cX8_in 3 (some .boolean), Cond.methodLink RX8 156 yX8_end, Cond.instanceMethod yX8_end, Cond.selects RX8 yX8_end yX8_end, Cond.code yX8_end cX8_end 2 (some .int), Cond.fieldLink RX8 23 "ThreeBelowModel" "people" "[I", Cond.methodLink RX8 159 yX8_daysOf, Cond.instanceMethod yX8_daysOf, Cond.selects RX8 yX8_daysOf yX8_daysOf, Cond.code yX8_daysOf cX8_daysOf 2 (some .int), Cond.fieldLink RX8 20 "ThreeBelowModel" "depths" "[I", Cond.methodLink RX8 137 yX8_isBelow, Cond.instanceMethod yX8_isBelow]
def wsX8_person_r2 : List Cond := [Cond.selects RX8 yX8_isBelow yX8_isBelow, Cond.code yX8_isBelow cX8_isBelow 2 (some .boolean)]
def wsX8_person : List Cond := .code yX8_person cX8_person 3 (some .int) :: ((wsX8_person_r1 ++ wsX8_person_r2) ++ wsX80)
def wsX8_good : List Cond := .code yX8_good cX8_good 3 (some .int) :: ([.constant RX8 152 (-1000000001), .constant RX8 76 (-1000000002), .fieldLink RX8 41 "ThreeBelowModel" "now" "[I", .fieldLink RX8 26 "ThreeBelowModel" "goods" "[I", .methodLink RX8 162 yX8_isGood, .instanceMethod yX8_isGood, .selects RX8 yX8_isGood yX8_isGood, .initialized RX8, .code yX8_isGood cX8_isGood 2 (some .boolean), .fieldLink RX8 17 "ThreeBelowModel" "law" "[I", .methodLink RX8 72 yX8_in, .static yX8_in, .code yX8_in cX8_in 3 (some .boolean)] ++ wsX80)
def wsX8_notes : List Cond := .code yX8_notes cX8_notes 2 none :: ([.fieldLink RX8 128 "ThreeBelowModel" "deeds" "I", .fieldLink RX8 44 "ThreeBelowModel" "past" "[I", .fieldLink RX8 41 "ThreeBelowModel" "now" "[I"] ++ wsX80)
def wsX8_later : List Cond := .code yX8_later cX8_later 5 (some .int) :: ([.fieldLink RX8 26 "ThreeBelowModel" "goods" "[I"] ++ wsX80)
def wsX8_passes : List Cond := .code yX8_passes cX8_passes 2 none :: ([.fieldLink RX8 17 "ThreeBelowModel" "law" "[I", .fieldLink RX8 41 "ThreeBelowModel" "now" "[I", .methodLink RX8 165 yX8_isAbove, .instanceMethod yX8_isAbove, .selects RX8 yX8_isAbove yX8_isAbove, .initialized RX8, .code yX8_isAbove cX8_isAbove 2 (some .boolean), .methodLink RX8 156 yX8_end, .instanceMethod yX8_end, .selects RX8 yX8_end yX8_end, .code yX8_end cX8_end 2 (some .int), .fieldLink RX8 23 "ThreeBelowModel" "people" "[I", .methodLink RX8 137 yX8_isBelow, .instanceMethod yX8_isBelow, .selects RX8 yX8_isBelow yX8_isBelow, .code yX8_isBelow cX8_isBelow 2 (some .boolean), .methodLink RX8 168 yX8_later, .instanceMethod yX8_later, .selects RX8 yX8_later yX8_later, .code yX8_later cX8_later 5 (some .int), .fieldLink RX8 26 "ThreeBelowModel" "goods" "[I"] ++ wsX80)
def wsX8_barred : List Cond := .code yX8_barred cX8_barred 3 (some .int) :: ([.constant RX8 76 (-1000000002), .constant RX8 171 (-1000000003), .fieldLink RX8 41 "ThreeBelowModel" "now" "[I", .constant RX8 172 (90000), .constant RX8 80 (-1000000004), .methodLink RX8 72 yX8_in, .static yX8_in, .initialized RX8, .code yX8_in cX8_in 3 (some .boolean), .methodLink RX8 141 yX8_isShore, .instanceMethod yX8_isShore, .selects RX8 yX8_isShore yX8_isShore, .code yX8_isShore cX8_isShore 1 (some .boolean), .fieldLink RX8 17 "ThreeBelowModel" "law" "[I"] ++ wsX80)
def wsX8_year_r1 : List Cond := [Cond.fieldLink RX8 41 "ThreeBelowModel" "now" "[I", Cond.methodLink RX8 173 yX8_barred, Cond.instanceMethod yX8_barred, Cond.selects RX8 yX8_barred yX8_barred, Cond.initialized RX8, Cond.code yX8_barred cX8_barred 3 (some .int), Cond.constant RX8 76 (-1000000002), Cond.constant RX8 171 (-1000000003), Cond.constant RX8 172 (90000), Cond.constant RX8 80 (-1000000004), Cond.methodLink RX8 72 yX8_in, Cond.static yX8_in, Cond.code yX8_in cX8_in 3 (some .boolean), Cond.methodLink RX8 141 yX8_isShore, Cond.instanceMethod yX8_isShore, Cond.selects RX8 yX8_isShore yX8_isShore, Cond.code yX8_isShore cX8_isShore 1 (some .boolean), Cond.fieldLink RX8 17 "ThreeBelowModel" "law" "[I", Cond.methodLink RX8 176 yX8_notes, Cond.instanceMethod yX8_notes, Cond.selects RX8 yX8_notes yX8_notes, Cond.code yX8_notes cX8_notes 2 none, Cond.fieldLink RX8 128 "ThreeBelowModel" "deeds" "I", Cond.fieldLink RX8 44 "ThreeBelowModel" "past" "[I"]
def wsX8_year_r2 : List Cond := [Cond.methodLink RX8 179 yX8_passes, Cond.instanceMethod yX8_passes, Cond.selects RX8 yX8_passes yX8_passes, Cond.code yX8_passes cX8_passes 2 none, Cond.methodLink RX8 165 yX8_isAbove, Cond.instanceMethod yX8_isAbove, Cond.selects RX8 yX8_isAbove yX8_isAbove, Cond.code yX8_isAbove cX8_isAbove 2 (some .boolean), Cond.methodLink RX8 156 yX8_end, Cond.instanceMethod yX8_end, Cond.selects RX8 yX8_end yX8_end, Cond.code yX8_end cX8_end 2 (some .int), Cond.fieldLink RX8 23 "ThreeBelowModel" "people" "[I", Cond.methodLink RX8 137 yX8_isBelow, Cond.instanceMethod yX8_isBelow, Cond.selects RX8 yX8_isBelow yX8_isBelow, Cond.code yX8_isBelow cX8_isBelow 2 (some .boolean), Cond.methodLink RX8 168 yX8_later, Cond.instanceMethod yX8_later, Cond.selects RX8 yX8_later yX8_later, Cond.code yX8_later cX8_later 5 (some .int), Cond.fieldLink RX8 26 "ThreeBelowModel" "goods" "[I"]
def wsX8_year : List Cond := .code yX8_year cX8_year 4 (some .int) :: ((wsX8_year_r1 ++ wsX8_year_r2) ++ wsX80)
def wsX8_descends : List Cond := .code yX8_descends cX8_descends 3 none :: ([.fieldLink RX8 41 "ThreeBelowModel" "now" "[I"] ++ wsX80)
def wsX8_down_r1 : List Cond := [Cond.constant RX8 152 (-1000000001), Cond.constant RX8 171 (-1000000003), Cond.fieldLink RX8 41 "ThreeBelowModel" "now" "[I", Cond.methodLink RX8 153 yX8_isPerson, Cond.instanceMethod yX8_isPerson, Cond.selects RX8 yX8_isPerson yX8_isPerson, Cond.initialized RX8, Cond.code yX8_isPerson cX8_isPerson 2 (some .boolean), Cond.fieldLink RX8 17 "ThreeBelowModel" "law" "[I", Cond.methodLink RX8 72 yX8_in, Cond.static yX8_in, Cond.code yX8_in cX8_in 3 (some .boolean), Cond.methodLink RX8 149 yX8_isDepth, Cond.instanceMethod yX8_isDepth, Cond.selects RX8 yX8_isDepth yX8_isDepth, Cond.code yX8_isDepth cX8_isDepth 2 (some .boolean), Cond.methodLink RX8 165 yX8_isAbove, Cond.instanceMethod yX8_isAbove, Cond.selects RX8 yX8_isAbove yX8_isAbove, Cond.code yX8_isAbove cX8_isAbove 2 (some .boolean), Cond.methodLink RX8 176 yX8_notes, Cond.instanceMethod yX8_notes, Cond.selects RX8 yX8_notes yX8_notes, Cond.code yX8_notes cX8_notes 2 none]
def wsX8_down_r2 : List Cond := [Cond.fieldLink RX8 128 "ThreeBelowModel" "deeds" "I", Cond.fieldLink RX8 44 "ThreeBelowModel" "past" "[I", Cond.methodLink RX8 182 yX8_descends, Cond.instanceMethod yX8_descends, Cond.selects RX8 yX8_descends yX8_descends, Cond.code yX8_descends cX8_descends 3 none]
def wsX8_down : List Cond := .code yX8_down cX8_down 3 (some .int) :: ((wsX8_down_r1 ++ wsX8_down_r2) ++ wsX80)
def wsX8_ascends : List Cond := .code yX8_ascends cX8_ascends 2 none :: ([.fieldLink RX8 41 "ThreeBelowModel" "now" "[I"] ++ wsX80)
def wsX8_up_r1 : List Cond := [Cond.constant RX8 152 (-1000000001), Cond.constant RX8 171 (-1000000003), Cond.methodLink RX8 153 yX8_isPerson, Cond.instanceMethod yX8_isPerson, Cond.selects RX8 yX8_isPerson yX8_isPerson, Cond.initialized RX8, Cond.code yX8_isPerson cX8_isPerson 2 (some .boolean), Cond.fieldLink RX8 17 "ThreeBelowModel" "law" "[I", Cond.methodLink RX8 72 yX8_in, Cond.static yX8_in, Cond.code yX8_in cX8_in 3 (some .boolean), Cond.methodLink RX8 137 yX8_isBelow, Cond.instanceMethod yX8_isBelow, Cond.selects RX8 yX8_isBelow yX8_isBelow, Cond.code yX8_isBelow cX8_isBelow 2 (some .boolean), Cond.fieldLink RX8 41 "ThreeBelowModel" "now" "[I", Cond.methodLink RX8 176 yX8_notes, Cond.instanceMethod yX8_notes, Cond.selects RX8 yX8_notes yX8_notes, Cond.code yX8_notes cX8_notes 2 none, Cond.fieldLink RX8 128 "ThreeBelowModel" "deeds" "I", Cond.fieldLink RX8 44 "ThreeBelowModel" "past" "[I", Cond.methodLink RX8 159 yX8_daysOf, Cond.instanceMethod yX8_daysOf]
def wsX8_up_r2 : List Cond := [Cond.selects RX8 yX8_daysOf yX8_daysOf, Cond.code yX8_daysOf cX8_daysOf 2 (some .int), Cond.fieldLink RX8 20 "ThreeBelowModel" "depths" "[I", Cond.methodLink RX8 186 yX8_ascends, Cond.instanceMethod yX8_ascends, Cond.selects RX8 yX8_ascends yX8_ascends, Cond.code yX8_ascends cX8_ascends 2 none]
def wsX8_up : List Cond := .code yX8_up cX8_up 3 (some .int) :: ((wsX8_up_r1 ++ wsX8_up_r2) ++ wsX80)
def wsX8_open_r1 : List Cond := [Cond.constant RX8 152 (-1000000001), Cond.constant RX8 171 (-1000000003), Cond.fieldLink RX8 41 "ThreeBelowModel" "now" "[I", Cond.methodLink RX8 153 yX8_isPerson, Cond.instanceMethod yX8_isPerson, Cond.selects RX8 yX8_isPerson yX8_isPerson, Cond.initialized RX8, Cond.code yX8_isPerson cX8_isPerson 2 (some .boolean), Cond.fieldLink RX8 17 "ThreeBelowModel" "law" "[I", Cond.methodLink RX8 72 yX8_in, Cond.static yX8_in, Cond.code yX8_in cX8_in 3 (some .boolean), Cond.methodLink RX8 165 yX8_isAbove, Cond.instanceMethod yX8_isAbove, Cond.selects RX8 yX8_isAbove yX8_isAbove, Cond.code yX8_isAbove cX8_isAbove 2 (some .boolean), Cond.methodLink RX8 176 yX8_notes, Cond.instanceMethod yX8_notes, Cond.selects RX8 yX8_notes yX8_notes, Cond.code yX8_notes cX8_notes 2 none, Cond.fieldLink RX8 128 "ThreeBelowModel" "deeds" "I", Cond.fieldLink RX8 44 "ThreeBelowModel" "past" "[I", Cond.methodLink RX8 156 yX8_end, Cond.instanceMethod yX8_end]
def wsX8_open_r2 : List Cond := [Cond.selects RX8 yX8_end yX8_end, Cond.code yX8_end cX8_end 2 (some .int), Cond.fieldLink RX8 23 "ThreeBelowModel" "people" "[I"]
def wsX8_open : List Cond := .code yX8_open cX8_open 2 (some .int) :: ((wsX8_open_r1 ++ wsX8_open_r2) ++ wsX80)
def wsX8_take : List Cond := .code yX8_take cX8_take 3 (some .int) :: ([.constant RX8 152 (-1000000001), .fieldLink RX8 41 "ThreeBelowModel" "now" "[I", .constant RX8 171 (-1000000003), .methodLink RX8 162 yX8_isGood, .instanceMethod yX8_isGood, .selects RX8 yX8_isGood yX8_isGood, .initialized RX8, .code yX8_isGood cX8_isGood 2 (some .boolean), .fieldLink RX8 17 "ThreeBelowModel" "law" "[I", .methodLink RX8 72 yX8_in, .static yX8_in, .code yX8_in cX8_in 3 (some .boolean), .methodLink RX8 176 yX8_notes, .instanceMethod yX8_notes, .selects RX8 yX8_notes yX8_notes, .code yX8_notes cX8_notes 2 none, .fieldLink RX8 128 "ThreeBelowModel" "deeds" "I", .fieldLink RX8 44 "ThreeBelowModel" "past" "[I"] ++ wsX80)
def wsX8_draw : List Cond := .code yX8_draw cX8_draw 2 (some .int) :: ([.fieldLink RX8 189 "ThreeBelowModel" "seed" "I", .constantLong RX8 192 (1103515245), .constantLong RX8 194 (12345), .constantLong RX8 196 (2147483647), .constant RX8 198 (65536)] ++ wsX80)
def wsX8_drift_r1 : List Cond := [Cond.fieldLink RX8 17 "ThreeBelowModel" "law" "[I", Cond.fieldLink RX8 41 "ThreeBelowModel" "now" "[I", Cond.methodLink RX8 173 yX8_barred, Cond.instanceMethod yX8_barred, Cond.selects RX8 yX8_barred yX8_barred, Cond.initialized RX8, Cond.code yX8_barred cX8_barred 3 (some .int), Cond.constant RX8 76 (-1000000002), Cond.constant RX8 171 (-1000000003), Cond.constant RX8 172 (90000), Cond.constant RX8 80 (-1000000004), Cond.methodLink RX8 72 yX8_in, Cond.static yX8_in, Cond.code yX8_in cX8_in 3 (some .boolean), Cond.methodLink RX8 141 yX8_isShore, Cond.instanceMethod yX8_isShore, Cond.selects RX8 yX8_isShore yX8_isShore, Cond.code yX8_isShore cX8_isShore 1 (some .boolean), Cond.methodLink RX8 176 yX8_notes, Cond.instanceMethod yX8_notes, Cond.selects RX8 yX8_notes yX8_notes, Cond.code yX8_notes cX8_notes 2 none, Cond.fieldLink RX8 128 "ThreeBelowModel" "deeds" "I", Cond.fieldLink RX8 44 "ThreeBelowModel" "past" "[I"]
def wsX8_drift_r2 : List Cond := [Cond.methodLink RX8 199 yX8_draw, Cond.instanceMethod yX8_draw, Cond.selects RX8 yX8_draw yX8_draw, Cond.code yX8_draw cX8_draw 2 (some .int), Cond.fieldLink RX8 189 "ThreeBelowModel" "seed" "I", Cond.constantLong RX8 192 (1103515245), Cond.constantLong RX8 194 (12345), Cond.constantLong RX8 196 (2147483647), Cond.constant RX8 198 (65536), Cond.methodLink RX8 165 yX8_isAbove, Cond.instanceMethod yX8_isAbove, Cond.selects RX8 yX8_isAbove yX8_isAbove, Cond.code yX8_isAbove cX8_isAbove 2 (some .boolean), Cond.methodLink RX8 182 yX8_descends, Cond.instanceMethod yX8_descends, Cond.selects RX8 yX8_descends yX8_descends, Cond.code yX8_descends cX8_descends 3 none, Cond.methodLink RX8 137 yX8_isBelow, Cond.instanceMethod yX8_isBelow, Cond.selects RX8 yX8_isBelow yX8_isBelow, Cond.code yX8_isBelow cX8_isBelow 2 (some .boolean), Cond.methodLink RX8 186 yX8_ascends, Cond.instanceMethod yX8_ascends, Cond.selects RX8 yX8_ascends yX8_ascends]
def wsX8_drift_r3 : List Cond := [Cond.code yX8_ascends cX8_ascends 2 none, Cond.methodLink RX8 179 yX8_passes, Cond.instanceMethod yX8_passes, Cond.selects RX8 yX8_passes yX8_passes, Cond.code yX8_passes cX8_passes 2 none, Cond.methodLink RX8 156 yX8_end, Cond.instanceMethod yX8_end, Cond.selects RX8 yX8_end yX8_end, Cond.code yX8_end cX8_end 2 (some .int), Cond.fieldLink RX8 23 "ThreeBelowModel" "people" "[I", Cond.methodLink RX8 168 yX8_later, Cond.instanceMethod yX8_later, Cond.selects RX8 yX8_later yX8_later, Cond.code yX8_later cX8_later 5 (some .int), Cond.fieldLink RX8 26 "ThreeBelowModel" "goods" "[I"]
def wsX8_drift : List Cond := .code yX8_drift cX8_drift 6 (some .int) :: ((wsX8_drift_r1 ++ (wsX8_drift_r2 ++ wsX8_drift_r3)) ++ wsX80)
def wsX8_undo : List Cond := .code yX8_undo cX8_undo 2 (some .int) :: ([.fieldLink RX8 128 "ThreeBelowModel" "deeds" "I", .constant RX8 171 (-1000000003), .fieldLink RX8 41 "ThreeBelowModel" "now" "[I", .fieldLink RX8 44 "ThreeBelowModel" "past" "[I"] ++ wsX80)
def wsX8_off : List Cond := .code yX8_off cX8_off 2 (some .int) :: ([])
def wsX8_meet_r1 : List Cond := [Cond.constant RX8 152 (-1000000001), Cond.constant RX8 76 (-1000000002), Cond.constant RX8 171 (-1000000003), Cond.fieldLink RX8 41 "ThreeBelowModel" "now" "[I", Cond.fieldLink RX8 20 "ThreeBelowModel" "depths" "[I", Cond.methodLink RX8 153 yX8_isPerson, Cond.instanceMethod yX8_isPerson, Cond.selects RX8 yX8_isPerson yX8_isPerson, Cond.initialized RX8, Cond.code yX8_isPerson cX8_isPerson 2 (some .boolean), Cond.fieldLink RX8 17 "ThreeBelowModel" "law" "[I", Cond.methodLink RX8 72 yX8_in, Cond.static yX8_in, Cond.code yX8_in cX8_in 3 (some .boolean), Cond.methodLink RX8 149 yX8_isDepth, Cond.instanceMethod yX8_isDepth, Cond.selects RX8 yX8_isDepth yX8_isDepth, Cond.code yX8_isDepth cX8_isDepth 2 (some .boolean), Cond.methodLink RX8 165 yX8_isAbove, Cond.instanceMethod yX8_isAbove, Cond.selects RX8 yX8_isAbove yX8_isAbove, Cond.code yX8_isAbove cX8_isAbove 2 (some .boolean), Cond.methodLink RX8 202 yX8_off, Cond.static yX8_off]
def wsX8_meet_r2 : List Cond := [Cond.code yX8_off cX8_off 2 (some .int), Cond.methodLink RX8 156 yX8_end, Cond.instanceMethod yX8_end, Cond.selects RX8 yX8_end yX8_end, Cond.code yX8_end cX8_end 2 (some .int), Cond.fieldLink RX8 23 "ThreeBelowModel" "people" "[I"]
def wsX8_meet : List Cond := .code yX8_meet cX8_meet 12 (some .int) :: ((wsX8_meet_r1 ++ wsX8_meet_r2) ++ wsX80)
def wsX8_spanOf : List Cond := .code yX8_spanOf cX8_spanOf 2 (some .int) :: ([.fieldLink RX8 20 "ThreeBelowModel" "depths" "[I"] ++ wsX80)
def wsX8_isStay : List Cond := .code yX8_isStay cX8_isStay 2 (some .boolean) :: ([.fieldLink RX8 17 "ThreeBelowModel" "law" "[I", .methodLink RX8 72 yX8_in, .static yX8_in, .initialized RX8, .code yX8_in cX8_in 3 (some .boolean)] ++ wsX80)
def wsX8_both_r1 : List Cond := [Cond.constant RX8 152 (-1000000001), Cond.constant RX8 76 (-1000000002), Cond.constant RX8 171 (-1000000003), Cond.fieldLink RX8 41 "ThreeBelowModel" "now" "[I", Cond.methodLink RX8 153 yX8_isPerson, Cond.instanceMethod yX8_isPerson, Cond.selects RX8 yX8_isPerson yX8_isPerson, Cond.initialized RX8, Cond.code yX8_isPerson cX8_isPerson 2 (some .boolean), Cond.fieldLink RX8 17 "ThreeBelowModel" "law" "[I", Cond.methodLink RX8 72 yX8_in, Cond.static yX8_in, Cond.code yX8_in cX8_in 3 (some .boolean), Cond.methodLink RX8 165 yX8_isAbove, Cond.instanceMethod yX8_isAbove, Cond.selects RX8 yX8_isAbove yX8_isAbove, Cond.code yX8_isAbove cX8_isAbove 2 (some .boolean), Cond.methodLink RX8 205 yX8_isStay, Cond.instanceMethod yX8_isStay, Cond.selects RX8 yX8_isStay yX8_isStay, Cond.code yX8_isStay cX8_isStay 2 (some .boolean), Cond.methodLink RX8 208 yX8_spanOf, Cond.instanceMethod yX8_spanOf, Cond.selects RX8 yX8_spanOf yX8_spanOf]
def wsX8_both_r2 : List Cond := [Cond.code yX8_spanOf cX8_spanOf 2 (some .int), Cond.fieldLink RX8 20 "ThreeBelowModel" "depths" "[I", Cond.methodLink RX8 156 yX8_end, Cond.instanceMethod yX8_end, Cond.selects RX8 yX8_end yX8_end, Cond.code yX8_end cX8_end 2 (some .int), Cond.fieldLink RX8 23 "ThreeBelowModel" "people" "[I"]
def wsX8_both : List Cond := .code yX8_both cX8_both 15 (some .int) :: ((wsX8_both_r1 ++ wsX8_both_r2) ++ wsX80)
def wsX8_worthIn : List Cond := .code yX8_worthIn cX8_worthIn 6 (some .int) :: ([.methodLink RX8 168 yX8_later, .instanceMethod yX8_later, .selects RX8 yX8_later yX8_later, .initialized RX8, .code yX8_later cX8_later 5 (some .int), .fieldLink RX8 26 "ThreeBelowModel" "goods" "[I"] ++ wsX80)
def wsX8_leave : List Cond := .code yX8_leave cX8_leave 7 (some .int) :: ([.constant RX8 76 (-1000000002), .fieldLink RX8 17 "ThreeBelowModel" "law" "[I", .fieldLink RX8 41 "ThreeBelowModel" "now" "[I", .methodLink RX8 72 yX8_in, .static yX8_in, .initialized RX8, .code yX8_in cX8_in 3 (some .boolean), .methodLink RX8 211 yX8_worthIn, .instanceMethod yX8_worthIn, .selects RX8 yX8_worthIn yX8_worthIn, .code yX8_worthIn cX8_worthIn 6 (some .int), .methodLink RX8 168 yX8_later, .instanceMethod yX8_later, .selects RX8 yX8_later yX8_later, .code yX8_later cX8_later 5 (some .int), .fieldLink RX8 26 "ThreeBelowModel" "goods" "[I"] ++ wsX80)
def wsX8_when : List Cond := .code yX8_when cX8_when 5 (some .int) :: ([.constant RX8 152 (-1000000001), .constant RX8 76 (-1000000002), .fieldLink RX8 41 "ThreeBelowModel" "now" "[I", .methodLink RX8 162 yX8_isGood, .instanceMethod yX8_isGood, .selects RX8 yX8_isGood yX8_isGood, .initialized RX8, .code yX8_isGood cX8_isGood 2 (some .boolean), .fieldLink RX8 17 "ThreeBelowModel" "law" "[I", .methodLink RX8 72 yX8_in, .static yX8_in, .code yX8_in cX8_in 3 (some .boolean), .methodLink RX8 168 yX8_later, .instanceMethod yX8_later, .selects RX8 yX8_later yX8_later, .code yX8_later cX8_later 5 (some .int), .fieldLink RX8 26 "ThreeBelowModel" "goods" "[I"] ++ wsX80)
def wsX8_letters : List Cond := .code yX8_letters cX8_letters 3 (some .int) :: ([.constant RX8 152 (-1000000001), .constant RX8 76 (-1000000002), .fieldLink RX8 41 "ThreeBelowModel" "now" "[I", .fieldLink RX8 20 "ThreeBelowModel" "depths" "[I", .methodLink RX8 149 yX8_isDepth, .instanceMethod yX8_isDepth, .selects RX8 yX8_isDepth yX8_isDepth, .initialized RX8, .code yX8_isDepth cX8_isDepth 2 (some .boolean), .fieldLink RX8 17 "ThreeBelowModel" "law" "[I", .methodLink RX8 72 yX8_in, .static yX8_in, .code yX8_in cX8_in 3 (some .boolean)] ++ wsX80)
def wsX8_wouldOpen : List Cond := .code yX8_wouldOpen cX8_wouldOpen 3 (some .int) :: ([.constant RX8 152 (-1000000001), .constant RX8 171 (-1000000003), .fieldLink RX8 41 "ThreeBelowModel" "now" "[I", .methodLink RX8 153 yX8_isPerson, .instanceMethod yX8_isPerson, .selects RX8 yX8_isPerson yX8_isPerson, .initialized RX8, .code yX8_isPerson cX8_isPerson 2 (some .boolean), .fieldLink RX8 17 "ThreeBelowModel" "law" "[I", .methodLink RX8 72 yX8_in, .static yX8_in, .code yX8_in cX8_in 3 (some .boolean), .methodLink RX8 165 yX8_isAbove, .instanceMethod yX8_isAbove, .selects RX8 yX8_isAbove yX8_isAbove, .code yX8_isAbove cX8_isAbove 2 (some .boolean), .methodLink RX8 156 yX8_end, .instanceMethod yX8_end, .selects RX8 yX8_end yX8_end, .code yX8_end cX8_end 2 (some .int), .fieldLink RX8 23 "ThreeBelowModel" "people" "[I"] ++ wsX80)
def wsX8_yearsLeft : List Cond := .code yX8_yearsLeft cX8_yearsLeft 2 (some .int) :: ([.constant RX8 152 (-1000000001), .constant RX8 171 (-1000000003), .fieldLink RX8 41 "ThreeBelowModel" "now" "[I", .methodLink RX8 153 yX8_isPerson, .instanceMethod yX8_isPerson, .selects RX8 yX8_isPerson yX8_isPerson, .initialized RX8, .code yX8_isPerson cX8_isPerson 2 (some .boolean), .fieldLink RX8 17 "ThreeBelowModel" "law" "[I", .methodLink RX8 72 yX8_in, .static yX8_in, .code yX8_in cX8_in 3 (some .boolean), .methodLink RX8 165 yX8_isAbove, .instanceMethod yX8_isAbove, .selects RX8 yX8_isAbove yX8_isAbove, .code yX8_isAbove cX8_isAbove 2 (some .boolean), .methodLink RX8 156 yX8_end, .instanceMethod yX8_end, .selects RX8 yX8_end yX8_end, .code yX8_end cX8_end 2 (some .int), .fieldLink RX8 23 "ThreeBelowModel" "people" "[I"] ++ wsX80)
def wsX8_latest : List Cond := .code yX8_latest cX8_latest 5 (some .int) :: ([.fieldLink RX8 17 "ThreeBelowModel" "law" "[I", .fieldLink RX8 41 "ThreeBelowModel" "now" "[I", .methodLink RX8 165 yX8_isAbove, .instanceMethod yX8_isAbove, .selects RX8 yX8_isAbove yX8_isAbove, .initialized RX8, .code yX8_isAbove cX8_isAbove 2 (some .boolean), .methodLink RX8 156 yX8_end, .instanceMethod yX8_end, .selects RX8 yX8_end yX8_end, .code yX8_end cX8_end 2 (some .int), .fieldLink RX8 23 "ThreeBelowModel" "people" "[I"] ++ wsX80)
def wsX8_storm : List Cond := .code yX8_storm cX8_storm 6 (some .int) :: ([.constant RX8 76 (-1000000002), .constantLong RX8 215 (1000000000), .constantLong RX8 217 (100), .methodLink RX8 72 yX8_in, .static yX8_in, .initialized RX8, .code yX8_in cX8_in 3 (some .boolean)])
def wsX8_find : List Cond := .code yX8_find cX8_find 4 (some .int) :: ([.constant RX8 152 (-1000000001), .constant RX8 76 (-1000000002), .fieldLink RX8 131 "ThreeBelowModel" "finds" "I", .constant RX8 80 (-1000000004), .fieldLink RX8 57 "ThreeBelowModel" "found" "[I", .methodLink RX8 162 yX8_isGood, .instanceMethod yX8_isGood, .selects RX8 yX8_isGood yX8_isGood, .initialized RX8, .code yX8_isGood cX8_isGood 2 (some .boolean), .fieldLink RX8 17 "ThreeBelowModel" "law" "[I", .methodLink RX8 72 yX8_in, .static yX8_in, .code yX8_in cX8_in 3 (some .boolean)] ++ wsX80)
def wsX8_isSo : List Cond := .code yX8_isSo cX8_isSo 5 (some .boolean) :: ([.fieldLink RX8 131 "ThreeBelowModel" "finds" "I", .fieldLink RX8 57 "ThreeBelowModel" "found" "[I", .fieldLink RX8 63 "ThreeBelowModel" "worths" "[I", .fieldLink RX8 17 "ThreeBelowModel" "law" "[I"] ++ wsX80)
def wsX8_lays : List Cond := .code yX8_lays cX8_lays 5 (some .int) :: ([.fieldLink RX8 17 "ThreeBelowModel" "law" "[I", .fieldLink RX8 63 "ThreeBelowModel" "worths" "[I", .fieldLink RX8 26 "ThreeBelowModel" "goods" "[I", .fieldLink RX8 20 "ThreeBelowModel" "depths" "[I", .fieldLink RX8 66 "ThreeBelowModel" "stays" "[I", .fieldLink RX8 69 "ThreeBelowModel" "by" "[I", .methodLink RX8 219 yX8_isSo, .instanceMethod yX8_isSo, .selects RX8 yX8_isSo yX8_isSo, .initialized RX8, .code yX8_isSo cX8_isSo 5 (some .boolean), .fieldLink RX8 131 "ThreeBelowModel" "finds" "I", .fieldLink RX8 57 "ThreeBelowModel" "found" "[I", .methodLink RX8 211 yX8_worthIn, .instanceMethod yX8_worthIn, .selects RX8 yX8_worthIn yX8_worthIn, .code yX8_worthIn cX8_worthIn 6 (some .int), .methodLink RX8 168 yX8_later, .instanceMethod yX8_later, .selects RX8 yX8_later yX8_later, .code yX8_later cX8_later 5 (some .int)] ++ wsX80)
def wsX8_stays_r1 : List Cond := [Cond.fieldLink RX8 66 "ThreeBelowModel" "stays" "[I", Cond.methodLink RX8 222 yX8_lays, Cond.instanceMethod yX8_lays, Cond.selects RX8 yX8_lays yX8_lays, Cond.initialized RX8, Cond.code yX8_lays cX8_lays 5 (some .int), Cond.fieldLink RX8 17 "ThreeBelowModel" "law" "[I", Cond.fieldLink RX8 63 "ThreeBelowModel" "worths" "[I", Cond.fieldLink RX8 26 "ThreeBelowModel" "goods" "[I", Cond.fieldLink RX8 20 "ThreeBelowModel" "depths" "[I", Cond.fieldLink RX8 69 "ThreeBelowModel" "by" "[I", Cond.methodLink RX8 219 yX8_isSo, Cond.instanceMethod yX8_isSo, Cond.selects RX8 yX8_isSo yX8_isSo, Cond.code yX8_isSo cX8_isSo 5 (some .boolean), Cond.fieldLink RX8 131 "ThreeBelowModel" "finds" "I", Cond.fieldLink RX8 57 "ThreeBelowModel" "found" "[I", Cond.methodLink RX8 211 yX8_worthIn, Cond.instanceMethod yX8_worthIn, Cond.selects RX8 yX8_worthIn yX8_worthIn, Cond.code yX8_worthIn cX8_worthIn 6 (some .int), Cond.methodLink RX8 168 yX8_later, Cond.instanceMethod yX8_later, Cond.selects RX8 yX8_later yX8_later]
def wsX8_stays_r2 : List Cond := [Cond.code yX8_later cX8_later 5 (some .int), Cond.methodLink RX8 72 yX8_in, Cond.static yX8_in, Cond.code yX8_in cX8_in 3 (some .boolean)]
def wsX8_stays : List Cond := .code yX8_stays cX8_stays 3 (some .int) :: ((wsX8_stays_r1 ++ wsX8_stays_r2) ++ wsX80)
def wsX8_ask_r1 : List Cond := [Cond.fieldLink RX8 17 "ThreeBelowModel" "law" "[I", Cond.fieldLink RX8 69 "ThreeBelowModel" "by" "[I", Cond.methodLink RX8 222 yX8_lays, Cond.instanceMethod yX8_lays, Cond.selects RX8 yX8_lays yX8_lays, Cond.initialized RX8, Cond.code yX8_lays cX8_lays 5 (some .int), Cond.fieldLink RX8 63 "ThreeBelowModel" "worths" "[I", Cond.fieldLink RX8 26 "ThreeBelowModel" "goods" "[I", Cond.fieldLink RX8 20 "ThreeBelowModel" "depths" "[I", Cond.fieldLink RX8 66 "ThreeBelowModel" "stays" "[I", Cond.methodLink RX8 219 yX8_isSo, Cond.instanceMethod yX8_isSo, Cond.selects RX8 yX8_isSo yX8_isSo, Cond.code yX8_isSo cX8_isSo 5 (some .boolean), Cond.fieldLink RX8 131 "ThreeBelowModel" "finds" "I", Cond.fieldLink RX8 57 "ThreeBelowModel" "found" "[I", Cond.methodLink RX8 211 yX8_worthIn, Cond.instanceMethod yX8_worthIn, Cond.selects RX8 yX8_worthIn yX8_worthIn, Cond.code yX8_worthIn cX8_worthIn 6 (some .int), Cond.methodLink RX8 168 yX8_later, Cond.instanceMethod yX8_later, Cond.selects RX8 yX8_later yX8_later]
def wsX8_ask_r2 : List Cond := [Cond.code yX8_later cX8_later 5 (some .int)]
def wsX8_ask : List Cond := .code yX8_ask cX8_ask 9 (some .int) :: ((wsX8_ask_r1 ++ wsX8_ask_r2) ++ wsX80)
def wsX8_write : List Cond := .code yX8_write cX8_write 3 (some .int) :: ([.constant RX8 152 (-1000000001), .constant RX8 76 (-1000000002), .fieldLink RX8 134 "ThreeBelowModel" "entries" "I", .constant RX8 80 (-1000000004), .fieldLink RX8 60 "ThreeBelowModel" "book" "[I", .methodLink RX8 153 yX8_isPerson, .instanceMethod yX8_isPerson, .selects RX8 yX8_isPerson yX8_isPerson, .initialized RX8, .code yX8_isPerson cX8_isPerson 2 (some .boolean), .fieldLink RX8 17 "ThreeBelowModel" "law" "[I", .methodLink RX8 72 yX8_in, .static yX8_in, .code yX8_in cX8_in 3 (some .boolean)] ++ wsX80)
def wsX8_tear : List Cond := .code yX8_tear cX8_tear 2 (some .int) :: ([.fieldLink RX8 131 "ThreeBelowModel" "finds" "I", .fieldLink RX8 134 "ThreeBelowModel" "entries" "I"] ++ wsX80)
def wsX8_judge : List Cond := .code yX8_judge cX8_judge 2 (some .int) :: ([.fieldLink RX8 134 "ThreeBelowModel" "entries" "I", .fieldLink RX8 41 "ThreeBelowModel" "now" "[I", .fieldLink RX8 60 "ThreeBelowModel" "book" "[I"] ++ wsX80)
def wsX8_seed : List Cond := .code yX8_seed cX8_seed 3 (some .int) :: ([.constant RX8 76 (-1000000002), .fieldLink RX8 189 "ThreeBelowModel" "seed" "I"] ++ wsX80)
def wsX8_keep : List Cond := .code yX8_keep cX8_keep 3 (some .int) :: ([.constant RX8 152 (-1000000001), .fieldLink RX8 47 "ThreeBelowModel" "images" "[I", .fieldLink RX8 41 "ThreeBelowModel" "now" "[I", .fieldLink RX8 50 "ThreeBelowModel" "imageSeeds" "[I", .fieldLink RX8 189 "ThreeBelowModel" "seed" "I", .fieldLink RX8 53 "ThreeBelowModel" "kept" "[Z", .fieldLink RX8 128 "ThreeBelowModel" "deeds" "I", .methodLink RX8 72 yX8_in, .static yX8_in, .initialized RX8, .code yX8_in cX8_in 3 (some .boolean)] ++ wsX80)
def wsX8_goBack : List Cond := .code yX8_goBack cX8_goBack 3 (some .int) :: ([.constant RX8 152 (-1000000001), .fieldLink RX8 53 "ThreeBelowModel" "kept" "[Z", .constant RX8 171 (-1000000003), .fieldLink RX8 41 "ThreeBelowModel" "now" "[I", .fieldLink RX8 47 "ThreeBelowModel" "images" "[I", .fieldLink RX8 50 "ThreeBelowModel" "imageSeeds" "[I", .fieldLink RX8 189 "ThreeBelowModel" "seed" "I", .fieldLink RX8 128 "ThreeBelowModel" "deeds" "I", .methodLink RX8 72 yX8_in, .static yX8_in, .initialized RX8, .code yX8_in cX8_in 3 (some .boolean)] ++ wsX80)
def wsJ9_abs_0f7a4 : List Cond := .code yJ9_abs_0f7a4 cJ9_abs_0f7a4 1 (some .int) :: ([])
def wsJ9_max_7cf53 : List Cond := .code yJ9_max_7cf53 cJ9_max_7cf53 2 (some .int) :: ([])
def wsJ9_min_7cf53 : List Cond := .code yJ9_min_7cf53 cJ9_min_7cf53 2 (some .int) :: ([])
theorem inJ11 : ∀ w ∈ wsJ110, w ∈ lw_tbl := by decide +kernel
theorem inJ9 : ∀ w ∈ wsJ90, w ∈ lw_tbl := by decide +kernel
theorem inJ0 : ∀ w ∈ wsJ00, w ∈ lw_tbl := by decide +kernel
theorem inJ1 : ∀ w ∈ wsJ10, w ∈ lw_tbl := by decide +kernel
theorem inJ2 : ∀ w ∈ wsJ20, w ∈ lw_tbl := by decide +kernel
theorem inJ10 : ∀ w ∈ wsJ100, w ∈ lw_tbl := by decide +kernel
theorem inJ3 : ∀ w ∈ wsJ30, w ∈ lw_tbl := by decide +kernel
abbrev vwCl : List vw_C := [(RX0, TX0, 3), (RX1, TX1, 9), (RX2, TX2, 3), (RX3, TX3, 1), (RX4, TX4, 3), (RX5, TX5, 11), (RX6, TX6, 6), (RX7, TX7, 9), (RX8, TX8, 27)]
end
section
theorem dX0_init_0 : decode cX0_init 0 = .ok (.aload_n 0, 1) := by decide +kernel
theorem dX0_init_1 : decode cX0_init 1 = .ok (.invokespecial 3, 3) := by decide +kernel
theorem dX0_init_4 : decode cX0_init 4 = .ok (.aload_n 0, 1) := by decide +kernel
theorem dX0_init_5 : decode cX0_init 5 = .ok (.bipush 15, 2) := by decide +kernel
theorem dX0_init_7 : decode cX0_init 7 = .ok (.newarray .int, 2) := by decide +kernel
theorem dX0_init_9 : decode cX0_init 9 = .ok (.putfield 11, 3) := by decide +kernel
theorem dX0_init_12 : decode cX0_init 12 = .ok (.aload_n 0, 1) := by decide +kernel
theorem dX0_init_13 : decode cX0_init 13 = .ok (.bipush 15, 2) := by decide +kernel
theorem dX0_init_15 : decode cX0_init 15 = .ok (.newarray .int, 2) := by decide +kernel
theorem dX0_init_17 : decode cX0_init 17 = .ok (.putfield 15, 3) := by decide +kernel
theorem dX0_init_20 : decode cX0_init 20 = .ok (.return_, 1) := by decide +kernel
theorem dX0_empty_0 : decode cX0_empty 0 = .ok (.aload_n 0, 1) := by decide +kernel
theorem dX0_empty_1 : decode cX0_empty 1 = .ok (.iconst 0, 1) := by decide +kernel
theorem dX0_empty_2 : decode cX0_empty 2 = .ok (.putfield 18, 3) := by decide +kernel
theorem dX0_empty_5 : decode cX0_empty 5 = .ok (.return_, 1) := by decide +kernel
theorem dX0_add_0 : decode cX0_add 0 = .ok (.aload_n 0, 1) := by decide +kernel
theorem dX0_add_1 : decode cX0_add 1 = .ok (.getfield 18, 3) := by decide +kernel
theorem dX0_add_4 : decode cX0_add 4 = .ok (.bipush 15, 2) := by decide +kernel
theorem dX0_add_6 : decode cX0_add 6 = .ok (.if_icmp .ge 33, 3) := by decide +kernel
theorem dX0_add_9 : decode cX0_add 9 = .ok (.aload_n 0, 1) := by decide +kernel
theorem dX0_add_10 : decode cX0_add 10 = .ok (.getfield 11, 3) := by decide +kernel
theorem dX0_add_13 : decode cX0_add 13 = .ok (.aload_n 0, 1) := by decide +kernel
theorem dX0_add_14 : decode cX0_add 14 = .ok (.getfield 18, 3) := by decide +kernel
theorem dX0_add_17 : decode cX0_add 17 = .ok (.iload_n 1, 1) := by decide +kernel
theorem dX0_add_18 : decode cX0_add 18 = .ok (.iastore, 1) := by decide +kernel
theorem dX0_add_19 : decode cX0_add 19 = .ok (.aload_n 0, 1) := by decide +kernel
theorem dX0_add_20 : decode cX0_add 20 = .ok (.getfield 15, 3) := by decide +kernel
theorem dX0_add_23 : decode cX0_add 23 = .ok (.aload_n 0, 1) := by decide +kernel
theorem dX0_add_24 : decode cX0_add 24 = .ok (.getfield 18, 3) := by decide +kernel
theorem dX0_add_27 : decode cX0_add 27 = .ok (.iload_n 2, 1) := by decide +kernel
theorem dX0_add_28 : decode cX0_add 28 = .ok (.iastore, 1) := by decide +kernel
theorem dX0_add_29 : decode cX0_add 29 = .ok (.aload_n 0, 1) := by decide +kernel
theorem dX0_add_30 : decode cX0_add 30 = .ok (.dup, 1) := by decide +kernel
theorem dX0_add_31 : decode cX0_add 31 = .ok (.getfield 18, 3) := by decide +kernel
theorem dX0_add_34 : decode cX0_add 34 = .ok (.iconst 1, 1) := by decide +kernel
theorem dX0_add_35 : decode cX0_add 35 = .ok (.iadd, 1) := by decide +kernel
theorem dX0_add_36 : decode cX0_add 36 = .ok (.putfield 18, 3) := by decide +kernel
theorem dX0_add_39 : decode cX0_add 39 = .ok (.return_, 1) := by decide +kernel
set_option maxRecDepth 20000 in
theorem ggX0_firstWrong_X3_age : GoodIn wsX0_firstWrong wsX3_age := goodIn_r _ [8, 9, 10, 11, 7, 12, 16] (by decide +kernel) (by decide +kernel)
set_option maxRecDepth 20000 in
theorem gX0_firstWrong_X3_age : GoodIn wsX0_firstWrong (wsV RX0 22 RX3 yX3_age wsX3_age) := goodIn_app (goodIn_of _ (by decide +kernel)) ggX0_firstWrong_X3_age
theorem dX0_firstWrong_0 : decode cX0_firstWrong 0 = .ok (.iconst 0, 1) := by decide +kernel
theorem dX0_firstWrong_1 : decode cX0_firstWrong 1 = .ok (.istore_n 2, 1) := by decide +kernel
theorem dX0_firstWrong_2 : decode cX0_firstWrong 2 = .ok (.iload_n 2, 1) := by decide +kernel
theorem dX0_firstWrong_3 : decode cX0_firstWrong 3 = .ok (.aload_n 0, 1) := by decide +kernel
theorem dX0_firstWrong_4 : decode cX0_firstWrong 4 = .ok (.getfield 18, 3) := by decide +kernel
theorem dX0_firstWrong_7 : decode cX0_firstWrong 7 = .ok (.if_icmp .ge 36, 3) := by decide +kernel
theorem dX0_firstWrong_10 : decode cX0_firstWrong 10 = .ok (.iload_n 2, 1) := by decide +kernel
theorem dX0_firstWrong_11 : decode cX0_firstWrong 11 = .ok (.bipush 15, 2) := by decide +kernel
theorem dX0_firstWrong_13 : decode cX0_firstWrong 13 = .ok (.if_icmp .ge 30, 3) := by decide +kernel
theorem dX0_firstWrong_16 : decode cX0_firstWrong 16 = .ok (.aload_n 1, 1) := by decide +kernel
theorem dX0_firstWrong_17 : decode cX0_firstWrong 17 = .ok (.aload_n 0, 1) := by decide +kernel
theorem dX0_firstWrong_18 : decode cX0_firstWrong 18 = .ok (.getfield 11, 3) := by decide +kernel
theorem dX0_firstWrong_21 : decode cX0_firstWrong 21 = .ok (.iload_n 2, 1) := by decide +kernel
theorem dX0_firstWrong_22 : decode cX0_firstWrong 22 = .ok (.iaload, 1) := by decide +kernel
theorem dX0_firstWrong_23 : decode cX0_firstWrong 23 = .ok (.invokevirtual 22, 3) := by decide +kernel
theorem dX0_firstWrong_26 : decode cX0_firstWrong 26 = .ok (.aload_n 0, 1) := by decide +kernel
theorem dX0_firstWrong_27 : decode cX0_firstWrong 27 = .ok (.getfield 15, 3) := by decide +kernel
theorem dX0_firstWrong_30 : decode cX0_firstWrong 30 = .ok (.iload_n 2, 1) := by decide +kernel
theorem dX0_firstWrong_31 : decode cX0_firstWrong 31 = .ok (.iaload, 1) := by decide +kernel
theorem dX0_firstWrong_32 : decode cX0_firstWrong 32 = .ok (.if_icmp .eq 5, 3) := by decide +kernel
theorem dX0_firstWrong_35 : decode cX0_firstWrong 35 = .ok (.iload_n 2, 1) := by decide +kernel
theorem dX0_firstWrong_36 : decode cX0_firstWrong 36 = .ok (.ireturn, 1) := by decide +kernel
theorem dX0_firstWrong_37 : decode cX0_firstWrong 37 = .ok (.iinc 2 1, 3) := by decide +kernel
theorem dX0_firstWrong_40 : decode cX0_firstWrong 40 = .ok (.goto (-38), 3) := by decide +kernel
theorem dX0_firstWrong_43 : decode cX0_firstWrong 43 = .ok (.iconst (-1), 1) := by decide +kernel
theorem dX0_firstWrong_44 : decode cX0_firstWrong 44 = .ok (.ireturn, 1) := by decide +kernel
theorem dX1_init_0 : decode cX1_init 0 = .ok (.aload_n 0, 1) := by decide +kernel
theorem dX1_init_1 : decode cX1_init 1 = .ok (.invokespecial 5, 3) := by decide +kernel
theorem dX1_init_4 : decode cX1_init 4 = .ok (.aload_n 0, 1) := by decide +kernel
theorem dX1_init_5 : decode cX1_init 5 = .ok (.bipush 6, 2) := by decide +kernel
theorem dX1_init_7 : decode cX1_init 7 = .ok (.newarray .int, 2) := by decide +kernel
theorem dX1_init_9 : decode cX1_init 9 = .ok (.putfield 11, 3) := by decide +kernel
theorem dX1_init_12 : decode cX1_init 12 = .ok (.aload_n 0, 1) := by decide +kernel
theorem dX1_init_13 : decode cX1_init 13 = .ok (.bipush 6, 2) := by decide +kernel
theorem dX1_init_15 : decode cX1_init 15 = .ok (.newarray .int, 2) := by decide +kernel
theorem dX1_init_17 : decode cX1_init 17 = .ok (.putfield 15, 3) := by decide +kernel
theorem dX1_init_20 : decode cX1_init 20 = .ok (.aload_n 0, 1) := by decide +kernel
theorem dX1_init_21 : decode cX1_init 21 = .ok (.bipush 6, 2) := by decide +kernel
theorem dX1_init_23 : decode cX1_init 23 = .ok (.newarray .int, 2) := by decide +kernel
theorem dX1_init_25 : decode cX1_init 25 = .ok (.putfield 18, 3) := by decide +kernel
theorem dX1_init_28 : decode cX1_init 28 = .ok (.aload_n 0, 1) := by decide +kernel
theorem dX1_init_29 : decode cX1_init 29 = .ok (.bipush 6, 2) := by decide +kernel
theorem dX1_init_31 : decode cX1_init 31 = .ok (.bipush 124, 2) := by decide +kernel
theorem dX1_init_33 : decode cX1_init 33 = .ok (.multianewarray 21 2, 4) := by decide +kernel
theorem dX1_init_37 : decode cX1_init 37 = .ok (.putfield 23, 3) := by decide +kernel
theorem dX1_init_40 : decode cX1_init 40 = .ok (.aload_n 0, 1) := by decide +kernel
theorem dX1_init_41 : decode cX1_init 41 = .ok (.bipush 124, 2) := by decide +kernel
theorem dX1_init_43 : decode cX1_init 43 = .ok (.newarray .int, 2) := by decide +kernel
theorem dX1_init_45 : decode cX1_init 45 = .ok (.putfield 26, 3) := by decide +kernel
theorem dX1_init_48 : decode cX1_init 48 = .ok (.return_, 1) := by decide +kernel
set_option maxRecDepth 20000 in
theorem ggX1_beginAnew_X1_empty : GoodIn wsX1_beginAnew wsX1_empty := goodIn_r _ [6, 7, 8, 9, 10, 11, 12, 13, 14, 15, 16, 17] (by decide +kernel) (by decide +kernel)
set_option maxRecDepth 20000 in
theorem gX1_beginAnew_X1_empty : GoodIn wsX1_beginAnew (wsV RX1 33 RX1 yX1_empty wsX1_empty) := goodIn_app (goodIn_of _ (by decide +kernel)) ggX1_beginAnew_X1_empty
theorem dX1_beginAnew_0 : decode cX1_beginAnew 0 = .ok (.aload_n 0, 1) := by decide +kernel
theorem dX1_beginAnew_1 : decode cX1_beginAnew 1 = .ok (.iconst 0, 1) := by decide +kernel
theorem dX1_beginAnew_2 : decode cX1_beginAnew 2 = .ok (.putfield 29, 3) := by decide +kernel
theorem dX1_beginAnew_5 : decode cX1_beginAnew 5 = .ok (.aload_n 0, 1) := by decide +kernel
theorem dX1_beginAnew_6 : decode cX1_beginAnew 6 = .ok (.invokevirtual 33, 3) := by decide +kernel
theorem dX1_beginAnew_9 : decode cX1_beginAnew 9 = .ok (.return_, 1) := by decide +kernel
theorem dX1_empty_0 : decode cX1_empty 0 = .ok (.aload_n 0, 1) := by decide +kernel
theorem dX1_empty_1 : decode cX1_empty 1 = .ok (.iconst 0, 1) := by decide +kernel
theorem dX1_empty_2 : decode cX1_empty 2 = .ok (.putfield 36, 3) := by decide +kernel
theorem dX1_empty_5 : decode cX1_empty 5 = .ok (.aload_n 0, 1) := by decide +kernel
theorem dX1_empty_6 : decode cX1_empty 6 = .ok (.iconst 0, 1) := by decide +kernel
theorem dX1_empty_7 : decode cX1_empty 7 = .ok (.putfield 40, 3) := by decide +kernel
theorem dX1_empty_10 : decode cX1_empty 10 = .ok (.return_, 1) := by decide +kernel
theorem dX1_add_0 : decode cX1_add 0 = .ok (.aload_n 0, 1) := by decide +kernel
theorem dX1_add_1 : decode cX1_add 1 = .ok (.getfield 36, 3) := by decide +kernel
theorem dX1_add_4 : decode cX1_add 4 = .ok (.bipush 6, 2) := by decide +kernel
theorem dX1_add_6 : decode cX1_add 6 = .ok (.if_icmp .ge 48, 3) := by decide +kernel
theorem dX1_add_9 : decode cX1_add 9 = .ok (.aload_n 0, 1) := by decide +kernel
theorem dX1_add_10 : decode cX1_add 10 = .ok (.getfield 11, 3) := by decide +kernel
theorem dX1_add_13 : decode cX1_add 13 = .ok (.aload_n 0, 1) := by decide +kernel
theorem dX1_add_14 : decode cX1_add 14 = .ok (.getfield 36, 3) := by decide +kernel
theorem dX1_add_17 : decode cX1_add 17 = .ok (.iload_n 1, 1) := by decide +kernel
theorem dX1_add_18 : decode cX1_add 18 = .ok (.iastore, 1) := by decide +kernel
theorem dX1_add_19 : decode cX1_add 19 = .ok (.aload_n 0, 1) := by decide +kernel
theorem dX1_add_20 : decode cX1_add 20 = .ok (.getfield 15, 3) := by decide +kernel
theorem dX1_add_23 : decode cX1_add 23 = .ok (.aload_n 0, 1) := by decide +kernel
theorem dX1_add_24 : decode cX1_add 24 = .ok (.getfield 36, 3) := by decide +kernel
theorem dX1_add_27 : decode cX1_add 27 = .ok (.iload_n 2, 1) := by decide +kernel
theorem dX1_add_28 : decode cX1_add 28 = .ok (.iastore, 1) := by decide +kernel
theorem dX1_add_29 : decode cX1_add 29 = .ok (.aload_n 0, 1) := by decide +kernel
theorem dX1_add_30 : decode cX1_add 30 = .ok (.getfield 18, 3) := by decide +kernel
theorem dX1_add_33 : decode cX1_add 33 = .ok (.aload_n 0, 1) := by decide +kernel
theorem dX1_add_34 : decode cX1_add 34 = .ok (.getfield 36, 3) := by decide +kernel
theorem dX1_add_37 : decode cX1_add 37 = .ok (.iload_n 3, 1) := by decide +kernel
theorem dX1_add_38 : decode cX1_add 38 = .ok (.iastore, 1) := by decide +kernel
theorem dX1_add_39 : decode cX1_add 39 = .ok (.aload_n 0, 1) := by decide +kernel
theorem dX1_add_40 : decode cX1_add 40 = .ok (.dup, 1) := by decide +kernel
theorem dX1_add_41 : decode cX1_add 41 = .ok (.getfield 36, 3) := by decide +kernel
theorem dX1_add_44 : decode cX1_add 44 = .ok (.iconst 1, 1) := by decide +kernel
theorem dX1_add_45 : decode cX1_add 45 = .ok (.iadd, 1) := by decide +kernel
theorem dX1_add_46 : decode cX1_add 46 = .ok (.putfield 36, 3) := by decide +kernel
theorem dX1_add_49 : decode cX1_add 49 = .ok (.aload_n 0, 1) := by decide +kernel
theorem dX1_add_50 : decode cX1_add 50 = .ok (.iconst 0, 1) := by decide +kernel
theorem dX1_add_51 : decode cX1_add 51 = .ok (.putfield 40, 3) := by decide +kernel
theorem dX1_add_54 : decode cX1_add 54 = .ok (.return_, 1) := by decide +kernel
set_option maxRecDepth 20000 in
theorem ggX1_seek_X1_countWorths : GoodIn wsX1_seek wsX1_countWorths := goodIn_r _ [9, 10, 11, 3, 12, 13, 14, 15, 16, 17, 18, 19, 20, 21, 22, 23, 24, 25, 26, 27, 28, 29, 30, 48, 49, 50, 51, 52, 53, 54, 55, 56, 57, 58, 59, 60, 61, 62, 63, 64, 65, 66, 67] (by decide +kernel) (by decide +kernel)
set_option maxRecDepth 20000 in
theorem gX1_seek_X1_countWorths : GoodIn wsX1_seek (wsV RX1 43 RX1 yX1_countWorths wsX1_countWorths) := goodIn_app (goodIn_of _ (by decide +kernel)) ggX1_seek_X1_countWorths
set_option maxRecDepth 20000 in
theorem ggX1_seek_X1_fitsAll : GoodIn wsX1_seek wsX1_fitsAll := goodIn_r _ [34, 35, 36, 37, 14, 38, 39, 40, 41, 8, 42, 13, 43, 44, 45, 18, 46, 47, 48, 49, 50, 51, 52, 53, 54, 55, 56, 57, 58, 59, 60, 61, 62, 63, 64, 65, 66, 67] (by decide +kernel) (by decide +kernel)
set_option maxRecDepth 20000 in
theorem gX1_seek_X1_fitsAll : GoodIn wsX1_seek (wsV RX1 55 RX1 yX1_fitsAll wsX1_fitsAll) := goodIn_app (goodIn_of _ (by decide +kernel)) ggX1_seek_X1_fitsAll
theorem dX1_seek_0 : decode cX1_seek 0 = .ok (.aload_n 0, 1) := by decide +kernel
theorem dX1_seek_1 : decode cX1_seek 1 = .ok (.getfield 40, 3) := by decide +kernel
theorem dX1_seek_4 : decode cX1_seek 4 = .ok (.ifCond .eq 4, 3) := by decide +kernel
theorem dX1_seek_7 : decode cX1_seek 7 = .ok (.return_, 1) := by decide +kernel
theorem dX1_seek_8 : decode cX1_seek 8 = .ok (.aload_n 0, 1) := by decide +kernel
theorem dX1_seek_9 : decode cX1_seek 9 = .ok (.aload_n 1, 1) := by decide +kernel
theorem dX1_seek_10 : decode cX1_seek 10 = .ok (.invokevirtual 43, 3) := by decide +kernel
theorem dX1_seek_13 : decode cX1_seek 13 = .ok (.aload_n 0, 1) := by decide +kernel
theorem dX1_seek_14 : decode cX1_seek 14 = .ok (.iconst 0, 1) := by decide +kernel
theorem dX1_seek_15 : decode cX1_seek 15 = .ok (.putfield 47, 3) := by decide +kernel
theorem dX1_seek_18 : decode cX1_seek 18 = .ok (.iconst 0, 1) := by decide +kernel
theorem dX1_seek_19 : decode cX1_seek 19 = .ok (.istore_n 2, 1) := by decide +kernel
theorem dX1_seek_20 : decode cX1_seek 20 = .ok (.iload_n 2, 1) := by decide +kernel
theorem dX1_seek_21 : decode cX1_seek 21 = .ok (.aload_n 1, 1) := by decide +kernel
theorem dX1_seek_22 : decode cX1_seek 22 = .ok (.getfield 50, 3) := by decide +kernel
theorem dX1_seek_25 : decode cX1_seek 25 = .ok (.if_icmp .ge 58, 3) := by decide +kernel
theorem dX1_seek_28 : decode cX1_seek 28 = .ok (.iconst 0, 1) := by decide +kernel
theorem dX1_seek_29 : decode cX1_seek 29 = .ok (.istore_n 3, 1) := by decide +kernel
theorem dX1_seek_30 : decode cX1_seek 30 = .ok (.iload_n 3, 1) := by decide +kernel
theorem dX1_seek_31 : decode cX1_seek 31 = .ok (.bipush 30, 2) := by decide +kernel
theorem dX1_seek_33 : decode cX1_seek 33 = .ok (.if_icmp .gt 44, 3) := by decide +kernel
theorem dX1_seek_36 : decode cX1_seek 36 = .ok (.aload_n 0, 1) := by decide +kernel
theorem dX1_seek_37 : decode cX1_seek 37 = .ok (.aload_n 1, 1) := by decide +kernel
theorem dX1_seek_38 : decode cX1_seek 38 = .ok (.iload_n 2, 1) := by decide +kernel
theorem dX1_seek_39 : decode cX1_seek 39 = .ok (.iload_n 3, 1) := by decide +kernel
theorem dX1_seek_40 : decode cX1_seek 40 = .ok (.invokevirtual 55, 3) := by decide +kernel
theorem dX1_seek_43 : decode cX1_seek 43 = .ok (.ifCond .eq 28, 3) := by decide +kernel
theorem dX1_seek_46 : decode cX1_seek 46 = .ok (.aload_n 0, 1) := by decide +kernel
theorem dX1_seek_47 : decode cX1_seek 47 = .ok (.getfield 26, 3) := by decide +kernel
theorem dX1_seek_50 : decode cX1_seek 50 = .ok (.aload_n 0, 1) := by decide +kernel
theorem dX1_seek_51 : decode cX1_seek 51 = .ok (.getfield 47, 3) := by decide +kernel
theorem dX1_seek_54 : decode cX1_seek 54 = .ok (.bipush 100, 2) := by decide +kernel
theorem dX1_seek_56 : decode cX1_seek 56 = .ok (.iload_n 2, 1) := by decide +kernel
theorem dX1_seek_57 : decode cX1_seek 57 = .ok (.imul, 1) := by decide +kernel
theorem dX1_seek_58 : decode cX1_seek 58 = .ok (.iload_n 3, 1) := by decide +kernel
theorem dX1_seek_59 : decode cX1_seek 59 = .ok (.iadd, 1) := by decide +kernel
theorem dX1_seek_60 : decode cX1_seek 60 = .ok (.iastore, 1) := by decide +kernel
theorem dX1_seek_61 : decode cX1_seek 61 = .ok (.aload_n 0, 1) := by decide +kernel
theorem dX1_seek_62 : decode cX1_seek 62 = .ok (.dup, 1) := by decide +kernel
theorem dX1_seek_63 : decode cX1_seek 63 = .ok (.getfield 47, 3) := by decide +kernel
theorem dX1_seek_66 : decode cX1_seek 66 = .ok (.iconst 1, 1) := by decide +kernel
theorem dX1_seek_67 : decode cX1_seek 67 = .ok (.iadd, 1) := by decide +kernel
theorem dX1_seek_68 : decode cX1_seek 68 = .ok (.putfield 47, 3) := by decide +kernel
theorem dX1_seek_71 : decode cX1_seek 71 = .ok (.iinc 3 1, 3) := by decide +kernel
theorem dX1_seek_74 : decode cX1_seek 74 = .ok (.goto (-44), 3) := by decide +kernel
theorem dX1_seek_77 : decode cX1_seek 77 = .ok (.iinc 2 1, 3) := by decide +kernel
theorem dX1_seek_80 : decode cX1_seek 80 = .ok (.goto (-60), 3) := by decide +kernel
theorem dX1_seek_83 : decode cX1_seek 83 = .ok (.aload_n 0, 1) := by decide +kernel
theorem dX1_seek_84 : decode cX1_seek 84 = .ok (.iconst 1, 1) := by decide +kernel
theorem dX1_seek_85 : decode cX1_seek 85 = .ok (.putfield 40, 3) := by decide +kernel
theorem dX1_seek_88 : decode cX1_seek 88 = .ok (.return_, 1) := by decide +kernel
set_option maxRecDepth 20000 in
theorem ggX1_greatestPart_X1_alikeFrom : GoodIn wsX1_greatestPart wsX1_alikeFrom := goodIn_r _ [10, 11, 1, 12, 13, 14, 9, 15, 16, 17, 18, 19, 20, 21, 22, 23, 24, 25] (by decide +kernel) (by decide +kernel)
set_option maxRecDepth 20000 in
theorem gX1_greatestPart_X1_alikeFrom : GoodIn wsX1_greatestPart (wsV RX1 59 RX1 yX1_alikeFrom wsX1_alikeFrom) := goodIn_app (goodIn_of _ (by decide +kernel)) ggX1_greatestPart_X1_alikeFrom
theorem dX1_greatestPart_0 : decode cX1_greatestPart 0 = .ok (.iconst 0, 1) := by decide +kernel
theorem dX1_greatestPart_1 : decode cX1_greatestPart 1 = .ok (.istore_n 2, 1) := by decide +kernel
theorem dX1_greatestPart_2 : decode cX1_greatestPart 2 = .ok (.iconst 0, 1) := by decide +kernel
theorem dX1_greatestPart_3 : decode cX1_greatestPart 3 = .ok (.istore_n 3, 1) := by decide +kernel
theorem dX1_greatestPart_4 : decode cX1_greatestPart 4 = .ok (.iload_n 3, 1) := by decide +kernel
theorem dX1_greatestPart_5 : decode cX1_greatestPart 5 = .ok (.aload_n 0, 1) := by decide +kernel
theorem dX1_greatestPart_6 : decode cX1_greatestPart 6 = .ok (.getfield 47, 3) := by decide +kernel
theorem dX1_greatestPart_9 : decode cX1_greatestPart 9 = .ok (.iload_n 2, 1) := by decide +kernel
theorem dX1_greatestPart_10 : decode cX1_greatestPart 10 = .ok (.isub, 1) := by decide +kernel
theorem dX1_greatestPart_11 : decode cX1_greatestPart 11 = .ok (.if_icmp .ge 20, 3) := by decide +kernel
theorem dX1_greatestPart_14 : decode cX1_greatestPart 14 = .ok (.iload_n 2, 1) := by decide +kernel
theorem dX1_greatestPart_15 : decode cX1_greatestPart 15 = .ok (.aload_n 0, 1) := by decide +kernel
theorem dX1_greatestPart_16 : decode cX1_greatestPart 16 = .ok (.iload_n 1, 1) := by decide +kernel
theorem dX1_greatestPart_17 : decode cX1_greatestPart 17 = .ok (.iload_n 3, 1) := by decide +kernel
theorem dX1_greatestPart_18 : decode cX1_greatestPart 18 = .ok (.invokevirtual 59, 3) := by decide +kernel
theorem dX1_greatestPart_21 : decode cX1_greatestPart 21 = .ok (.invokestatic 63, 3) := by decide +kernel
theorem dX1_greatestPart_24 : decode cX1_greatestPart 24 = .ok (.istore_n 2, 1) := by decide +kernel
theorem dX1_greatestPart_25 : decode cX1_greatestPart 25 = .ok (.iinc 3 1, 3) := by decide +kernel
theorem dX1_greatestPart_28 : decode cX1_greatestPart 28 = .ok (.goto (-24), 3) := by decide +kernel
theorem dX1_greatestPart_31 : decode cX1_greatestPart 31 = .ok (.iload_n 2, 1) := by decide +kernel
theorem dX1_greatestPart_32 : decode cX1_greatestPart 32 = .ok (.ireturn, 1) := by decide +kernel
set_option maxRecDepth 20000 in
theorem ggX1_alikeFrom_X1_worthBy : GoodIn wsX1_alikeFrom wsX1_worthBy := goodIn_r _ [7, 8, 9, 10, 11, 12, 13, 14, 15, 16, 17] (by decide +kernel) (by decide +kernel)
set_option maxRecDepth 20000 in
theorem gX1_alikeFrom_X1_worthBy : GoodIn wsX1_alikeFrom (wsV RX1 68 RX1 yX1_worthBy wsX1_worthBy) := goodIn_app (goodIn_of _ (by decide +kernel)) ggX1_alikeFrom_X1_worthBy
theorem dX1_alikeFrom_0 : decode cX1_alikeFrom 0 = .ok (.aload_n 0, 1) := by decide +kernel
theorem dX1_alikeFrom_1 : decode cX1_alikeFrom 1 = .ok (.iload_n 1, 1) := by decide +kernel
theorem dX1_alikeFrom_2 : decode cX1_alikeFrom 2 = .ok (.aload_n 0, 1) := by decide +kernel
theorem dX1_alikeFrom_3 : decode cX1_alikeFrom 3 = .ok (.getfield 26, 3) := by decide +kernel
theorem dX1_alikeFrom_6 : decode cX1_alikeFrom 6 = .ok (.iload_n 2, 1) := by decide +kernel
theorem dX1_alikeFrom_7 : decode cX1_alikeFrom 7 = .ok (.iaload, 1) := by decide +kernel
theorem dX1_alikeFrom_8 : decode cX1_alikeFrom 8 = .ok (.invokevirtual 68, 3) := by decide +kernel
theorem dX1_alikeFrom_11 : decode cX1_alikeFrom 11 = .ok (.istore_n 3, 1) := by decide +kernel
theorem dX1_alikeFrom_12 : decode cX1_alikeFrom 12 = .ok (.iconst 0, 1) := by decide +kernel
theorem dX1_alikeFrom_13 : decode cX1_alikeFrom 13 = .ok (.istore 4, 2) := by decide +kernel
theorem dX1_alikeFrom_15 : decode cX1_alikeFrom 15 = .ok (.iload_n 2, 1) := by decide +kernel
theorem dX1_alikeFrom_16 : decode cX1_alikeFrom 16 = .ok (.istore 5, 2) := by decide +kernel
theorem dX1_alikeFrom_18 : decode cX1_alikeFrom 18 = .ok (.iload 5, 2) := by decide +kernel
theorem dX1_alikeFrom_20 : decode cX1_alikeFrom 20 = .ok (.aload_n 0, 1) := by decide +kernel
theorem dX1_alikeFrom_21 : decode cX1_alikeFrom 21 = .ok (.getfield 47, 3) := by decide +kernel
theorem dX1_alikeFrom_24 : decode cX1_alikeFrom 24 = .ok (.if_icmp .ge 28, 3) := by decide +kernel
theorem dX1_alikeFrom_27 : decode cX1_alikeFrom 27 = .ok (.aload_n 0, 1) := by decide +kernel
theorem dX1_alikeFrom_28 : decode cX1_alikeFrom 28 = .ok (.iload_n 1, 1) := by decide +kernel
theorem dX1_alikeFrom_29 : decode cX1_alikeFrom 29 = .ok (.aload_n 0, 1) := by decide +kernel
theorem dX1_alikeFrom_30 : decode cX1_alikeFrom 30 = .ok (.getfield 26, 3) := by decide +kernel
theorem dX1_alikeFrom_33 : decode cX1_alikeFrom 33 = .ok (.iload 5, 2) := by decide +kernel
theorem dX1_alikeFrom_35 : decode cX1_alikeFrom 35 = .ok (.iaload, 1) := by decide +kernel
theorem dX1_alikeFrom_36 : decode cX1_alikeFrom 36 = .ok (.invokevirtual 68, 3) := by decide +kernel
theorem dX1_alikeFrom_39 : decode cX1_alikeFrom 39 = .ok (.iload_n 3, 1) := by decide +kernel
theorem dX1_alikeFrom_40 : decode cX1_alikeFrom 40 = .ok (.if_icmp .ne 6, 3) := by decide +kernel
theorem dX1_alikeFrom_43 : decode cX1_alikeFrom 43 = .ok (.iinc 4 1, 3) := by decide +kernel
theorem dX1_alikeFrom_46 : decode cX1_alikeFrom 46 = .ok (.iinc 5 1, 3) := by decide +kernel
theorem dX1_alikeFrom_49 : decode cX1_alikeFrom 49 = .ok (.goto (-31), 3) := by decide +kernel
theorem dX1_alikeFrom_52 : decode cX1_alikeFrom 52 = .ok (.iload 4, 2) := by decide +kernel
theorem dX1_alikeFrom_54 : decode cX1_alikeFrom 54 = .ok (.ireturn, 1) := by decide +kernel
set_option maxRecDepth 20000 in
theorem ggX1_fitsAll_X1_worthBy : GoodIn wsX1_fitsAll wsX1_worthBy := goodIn_r _ [10, 11, 18, 19, 20, 21, 22, 23, 24, 25, 26] (by decide +kernel) (by decide +kernel)
set_option maxRecDepth 20000 in
theorem gX1_fitsAll_X1_worthBy : GoodIn wsX1_fitsAll (wsV RX1 68 RX1 yX1_worthBy wsX1_worthBy) := goodIn_app (goodIn_of _ (by decide +kernel)) ggX1_fitsAll_X1_worthBy
set_option maxRecDepth 20000 in
theorem ggX1_fitsAll_X5_kingAt : GoodIn wsX1_fitsAll wsX5_kingAt := goodIn_r _ [16, 17, 27, 28, 29, 30, 31, 32, 33, 34, 35, 36, 37] (by decide +kernel) (by decide +kernel)
set_option maxRecDepth 20000 in
theorem gX1_fitsAll_X5_kingAt : GoodIn wsX1_fitsAll (wsV RX1 74 RX5 yX5_kingAt wsX5_kingAt) := goodIn_app (goodIn_of _ (by decide +kernel)) ggX1_fitsAll_X5_kingAt
theorem dX1_fitsAll_0 : decode cX1_fitsAll 0 = .ok (.iconst 0, 1) := by decide +kernel
theorem dX1_fitsAll_1 : decode cX1_fitsAll 1 = .ok (.istore 4, 2) := by decide +kernel
theorem dX1_fitsAll_3 : decode cX1_fitsAll 3 = .ok (.iload 4, 2) := by decide +kernel
theorem dX1_fitsAll_5 : decode cX1_fitsAll 5 = .ok (.aload_n 0, 1) := by decide +kernel
theorem dX1_fitsAll_6 : decode cX1_fitsAll 6 = .ok (.getfield 36, 3) := by decide +kernel
theorem dX1_fitsAll_9 : decode cX1_fitsAll 9 = .ok (.if_icmp .ge 67, 3) := by decide +kernel
theorem dX1_fitsAll_12 : decode cX1_fitsAll 12 = .ok (.aload_n 0, 1) := by decide +kernel
theorem dX1_fitsAll_13 : decode cX1_fitsAll 13 = .ok (.getfield 11, 3) := by decide +kernel
theorem dX1_fitsAll_16 : decode cX1_fitsAll 16 = .ok (.iload 4, 2) := by decide +kernel
theorem dX1_fitsAll_18 : decode cX1_fitsAll 18 = .ok (.iaload, 1) := by decide +kernel
theorem dX1_fitsAll_19 : decode cX1_fitsAll 19 = .ok (.ifCond .ne 23, 3) := by decide +kernel
theorem dX1_fitsAll_22 : decode cX1_fitsAll 22 = .ok (.aload_n 0, 1) := by decide +kernel
theorem dX1_fitsAll_23 : decode cX1_fitsAll 23 = .ok (.aload_n 0, 1) := by decide +kernel
theorem dX1_fitsAll_24 : decode cX1_fitsAll 24 = .ok (.getfield 15, 3) := by decide +kernel
theorem dX1_fitsAll_27 : decode cX1_fitsAll 27 = .ok (.iload 4, 2) := by decide +kernel
theorem dX1_fitsAll_29 : decode cX1_fitsAll 29 = .ok (.iaload, 1) := by decide +kernel
theorem dX1_fitsAll_30 : decode cX1_fitsAll 30 = .ok (.bipush 100, 2) := by decide +kernel
theorem dX1_fitsAll_32 : decode cX1_fitsAll 32 = .ok (.iload_n 2, 1) := by decide +kernel
theorem dX1_fitsAll_33 : decode cX1_fitsAll 33 = .ok (.imul, 1) := by decide +kernel
theorem dX1_fitsAll_34 : decode cX1_fitsAll 34 = .ok (.iload_n 3, 1) := by decide +kernel
theorem dX1_fitsAll_35 : decode cX1_fitsAll 35 = .ok (.iadd, 1) := by decide +kernel
theorem dX1_fitsAll_36 : decode cX1_fitsAll 36 = .ok (.invokevirtual 68, 3) := by decide +kernel
theorem dX1_fitsAll_39 : decode cX1_fitsAll 39 = .ok (.goto 15, 3) := by decide +kernel
theorem dX1_fitsAll_42 : decode cX1_fitsAll 42 = .ok (.aload_n 1, 1) := by decide +kernel
theorem dX1_fitsAll_43 : decode cX1_fitsAll 43 = .ok (.iload_n 3, 1) := by decide +kernel
theorem dX1_fitsAll_44 : decode cX1_fitsAll 44 = .ok (.aload_n 1, 1) := by decide +kernel
theorem dX1_fitsAll_45 : decode cX1_fitsAll 45 = .ok (.getfield 71, 3) := by decide +kernel
theorem dX1_fitsAll_48 : decode cX1_fitsAll 48 = .ok (.iload_n 2, 1) := by decide +kernel
theorem dX1_fitsAll_49 : decode cX1_fitsAll 49 = .ok (.iaload, 1) := by decide +kernel
theorem dX1_fitsAll_50 : decode cX1_fitsAll 50 = .ok (.imul, 1) := by decide +kernel
theorem dX1_fitsAll_51 : decode cX1_fitsAll 51 = .ok (.invokevirtual 74, 3) := by decide +kernel
theorem dX1_fitsAll_54 : decode cX1_fitsAll 54 = .ok (.istore 5, 2) := by decide +kernel
theorem dX1_fitsAll_56 : decode cX1_fitsAll 56 = .ok (.iload 5, 2) := by decide +kernel
theorem dX1_fitsAll_58 : decode cX1_fitsAll 58 = .ok (.aload_n 0, 1) := by decide +kernel
theorem dX1_fitsAll_59 : decode cX1_fitsAll 59 = .ok (.getfield 18, 3) := by decide +kernel
theorem dX1_fitsAll_62 : decode cX1_fitsAll 62 = .ok (.iload 4, 2) := by decide +kernel
theorem dX1_fitsAll_64 : decode cX1_fitsAll 64 = .ok (.iaload, 1) := by decide +kernel
theorem dX1_fitsAll_65 : decode cX1_fitsAll 65 = .ok (.if_icmp .eq 5, 3) := by decide +kernel
theorem dX1_fitsAll_68 : decode cX1_fitsAll 68 = .ok (.iconst 0, 1) := by decide +kernel
theorem dX1_fitsAll_69 : decode cX1_fitsAll 69 = .ok (.ireturn, 1) := by decide +kernel
theorem dX1_fitsAll_70 : decode cX1_fitsAll 70 = .ok (.iinc 4 1, 3) := by decide +kernel
theorem dX1_fitsAll_73 : decode cX1_fitsAll 73 = .ok (.goto (-70), 3) := by decide +kernel
theorem dX1_fitsAll_76 : decode cX1_fitsAll 76 = .ok (.iconst 1, 1) := by decide +kernel
theorem dX1_fitsAll_77 : decode cX1_fitsAll 77 = .ok (.ireturn, 1) := by decide +kernel
theorem dX1_worthBy_0 : decode cX1_worthBy 0 = .ok (.iload_n 2, 1) := by decide +kernel
theorem dX1_worthBy_1 : decode cX1_worthBy 1 = .ok (.bipush 100, 2) := by decide +kernel
theorem dX1_worthBy_3 : decode cX1_worthBy 3 = .ok (.idiv, 1) := by decide +kernel
theorem dX1_worthBy_4 : decode cX1_worthBy 4 = .ok (.bipush 31, 2) := by decide +kernel
theorem dX1_worthBy_6 : decode cX1_worthBy 6 = .ok (.imul, 1) := by decide +kernel
theorem dX1_worthBy_7 : decode cX1_worthBy 7 = .ok (.iload_n 2, 1) := by decide +kernel
theorem dX1_worthBy_8 : decode cX1_worthBy 8 = .ok (.bipush 100, 2) := by decide +kernel
theorem dX1_worthBy_10 : decode cX1_worthBy 10 = .ok (.irem, 1) := by decide +kernel
theorem dX1_worthBy_11 : decode cX1_worthBy 11 = .ok (.iadd, 1) := by decide +kernel
theorem dX1_worthBy_12 : decode cX1_worthBy 12 = .ok (.istore_n 3, 1) := by decide +kernel
theorem dX1_worthBy_13 : decode cX1_worthBy 13 = .ok (.iload_n 1, 1) := by decide +kernel
theorem dX1_worthBy_14 : decode cX1_worthBy 14 = .ok (.ifCond .lt 19, 3) := by decide +kernel
theorem dX1_worthBy_17 : decode cX1_worthBy 17 = .ok (.iload_n 1, 1) := by decide +kernel
theorem dX1_worthBy_18 : decode cX1_worthBy 18 = .ok (.bipush 6, 2) := by decide +kernel
theorem dX1_worthBy_20 : decode cX1_worthBy 20 = .ok (.if_icmp .ge 13, 3) := by decide +kernel
theorem dX1_worthBy_23 : decode cX1_worthBy 23 = .ok (.iload_n 3, 1) := by decide +kernel
theorem dX1_worthBy_24 : decode cX1_worthBy 24 = .ok (.ifCond .lt 9, 3) := by decide +kernel
theorem dX1_worthBy_27 : decode cX1_worthBy 27 = .ok (.iload_n 3, 1) := by decide +kernel
theorem dX1_worthBy_28 : decode cX1_worthBy 28 = .ok (.bipush 124, 2) := by decide +kernel
theorem dX1_worthBy_30 : decode cX1_worthBy 30 = .ok (.if_icmp .lt 7, 3) := by decide +kernel
theorem dX1_worthBy_33 : decode cX1_worthBy 33 = .ok (.iconst 0, 1) := by decide +kernel
theorem dX1_worthBy_34 : decode cX1_worthBy 34 = .ok (.goto 11, 3) := by decide +kernel
theorem dX1_worthBy_37 : decode cX1_worthBy 37 = .ok (.aload_n 0, 1) := by decide +kernel
theorem dX1_worthBy_38 : decode cX1_worthBy 38 = .ok (.getfield 23, 3) := by decide +kernel
theorem dX1_worthBy_41 : decode cX1_worthBy 41 = .ok (.iload_n 1, 1) := by decide +kernel
theorem dX1_worthBy_42 : decode cX1_worthBy 42 = .ok (.aaload, 1) := by decide +kernel
theorem dX1_worthBy_43 : decode cX1_worthBy 43 = .ok (.iload_n 3, 1) := by decide +kernel
theorem dX1_worthBy_44 : decode cX1_worthBy 44 = .ok (.iaload, 1) := by decide +kernel
theorem dX1_worthBy_45 : decode cX1_worthBy 45 = .ok (.ireturn, 1) := by decide +kernel
set_option maxRecDepth 20000 in
theorem ggX1_countWorths_X5_worthBehind : GoodIn wsX1_countWorths wsX5_worthBehind := goodIn_r _ [11, 12, 13, 14, 10, 15, 16, 17, 18, 19, 20, 21, 22, 32, 33, 34, 35, 36, 37, 38, 39, 40, 41, 42] (by decide +kernel) (by decide +kernel)
set_option maxRecDepth 20000 in
theorem gX1_countWorths_X5_worthBehind : GoodIn wsX1_countWorths (wsV RX1 84 RX5 yX5_worthBehind wsX5_worthBehind) := goodIn_app (goodIn_of _ (by decide +kernel)) ggX1_countWorths_X5_worthBehind
theorem dX1_countWorths_0 : decode cX1_countWorths 0 = .ok (.aload_n 0, 1) := by decide +kernel
theorem dX1_countWorths_1 : decode cX1_countWorths 1 = .ok (.getfield 29, 3) := by decide +kernel
theorem dX1_countWorths_4 : decode cX1_countWorths 4 = .ok (.ifCond .eq 4, 3) := by decide +kernel
theorem dX1_countWorths_7 : decode cX1_countWorths 7 = .ok (.return_, 1) := by decide +kernel
theorem dX1_countWorths_8 : decode cX1_countWorths 8 = .ok (.iconst 0, 1) := by decide +kernel
theorem dX1_countWorths_9 : decode cX1_countWorths 9 = .ok (.istore_n 2, 1) := by decide +kernel
theorem dX1_countWorths_10 : decode cX1_countWorths 10 = .ok (.iload_n 2, 1) := by decide +kernel
theorem dX1_countWorths_11 : decode cX1_countWorths 11 = .ok (.aload_n 1, 1) := by decide +kernel
theorem dX1_countWorths_12 : decode cX1_countWorths 12 = .ok (.getfield 78, 3) := by decide +kernel
theorem dX1_countWorths_15 : decode cX1_countWorths 15 = .ok (.if_icmp .ge 80, 3) := by decide +kernel
theorem dX1_countWorths_18 : decode cX1_countWorths 18 = .ok (.iconst 0, 1) := by decide +kernel
theorem dX1_countWorths_19 : decode cX1_countWorths 19 = .ok (.istore_n 3, 1) := by decide +kernel
theorem dX1_countWorths_20 : decode cX1_countWorths 20 = .ok (.iload_n 3, 1) := by decide +kernel
theorem dX1_countWorths_21 : decode cX1_countWorths 21 = .ok (.aload_n 1, 1) := by decide +kernel
theorem dX1_countWorths_22 : decode cX1_countWorths 22 = .ok (.getfield 50, 3) := by decide +kernel
theorem dX1_countWorths_25 : decode cX1_countWorths 25 = .ok (.if_icmp .ge 64, 3) := by decide +kernel
theorem dX1_countWorths_28 : decode cX1_countWorths 28 = .ok (.aload_n 1, 1) := by decide +kernel
theorem dX1_countWorths_29 : decode cX1_countWorths 29 = .ok (.getfield 81, 3) := by decide +kernel
theorem dX1_countWorths_32 : decode cX1_countWorths 32 = .ok (.iload_n 2, 1) := by decide +kernel
theorem dX1_countWorths_33 : decode cX1_countWorths 33 = .ok (.iaload, 1) := by decide +kernel
theorem dX1_countWorths_34 : decode cX1_countWorths 34 = .ok (.istore 4, 2) := by decide +kernel
theorem dX1_countWorths_36 : decode cX1_countWorths 36 = .ok (.iconst 0, 1) := by decide +kernel
theorem dX1_countWorths_37 : decode cX1_countWorths 37 = .ok (.istore 5, 2) := by decide +kernel
theorem dX1_countWorths_39 : decode cX1_countWorths 39 = .ok (.iload 5, 2) := by decide +kernel
theorem dX1_countWorths_41 : decode cX1_countWorths 41 = .ok (.bipush 30, 2) := by decide +kernel
theorem dX1_countWorths_43 : decode cX1_countWorths 43 = .ok (.if_icmp .gt 40, 3) := by decide +kernel
theorem dX1_countWorths_46 : decode cX1_countWorths 46 = .ok (.aload_n 0, 1) := by decide +kernel
theorem dX1_countWorths_47 : decode cX1_countWorths 47 = .ok (.getfield 23, 3) := by decide +kernel
theorem dX1_countWorths_50 : decode cX1_countWorths 50 = .ok (.iload_n 2, 1) := by decide +kernel
theorem dX1_countWorths_51 : decode cX1_countWorths 51 = .ok (.aaload, 1) := by decide +kernel
theorem dX1_countWorths_52 : decode cX1_countWorths 52 = .ok (.iload_n 3, 1) := by decide +kernel
theorem dX1_countWorths_53 : decode cX1_countWorths 53 = .ok (.bipush 31, 2) := by decide +kernel
theorem dX1_countWorths_55 : decode cX1_countWorths 55 = .ok (.imul, 1) := by decide +kernel
theorem dX1_countWorths_56 : decode cX1_countWorths 56 = .ok (.iload 5, 2) := by decide +kernel
theorem dX1_countWorths_58 : decode cX1_countWorths 58 = .ok (.iadd, 1) := by decide +kernel
theorem dX1_countWorths_59 : decode cX1_countWorths 59 = .ok (.iload 4, 2) := by decide +kernel
theorem dX1_countWorths_61 : decode cX1_countWorths 61 = .ok (.iastore, 1) := by decide +kernel
theorem dX1_countWorths_62 : decode cX1_countWorths 62 = .ok (.aload_n 1, 1) := by decide +kernel
theorem dX1_countWorths_63 : decode cX1_countWorths 63 = .ok (.iload_n 2, 1) := by decide +kernel
theorem dX1_countWorths_64 : decode cX1_countWorths 64 = .ok (.iload 4, 2) := by decide +kernel
theorem dX1_countWorths_66 : decode cX1_countWorths 66 = .ok (.aload_n 1, 1) := by decide +kernel
theorem dX1_countWorths_67 : decode cX1_countWorths 67 = .ok (.getfield 71, 3) := by decide +kernel
theorem dX1_countWorths_70 : decode cX1_countWorths 70 = .ok (.iload_n 3, 1) := by decide +kernel
theorem dX1_countWorths_71 : decode cX1_countWorths 71 = .ok (.iaload, 1) := by decide +kernel
theorem dX1_countWorths_72 : decode cX1_countWorths 72 = .ok (.invokevirtual 84, 3) := by decide +kernel
theorem dX1_countWorths_75 : decode cX1_countWorths 75 = .ok (.istore 4, 2) := by decide +kernel
theorem dX1_countWorths_77 : decode cX1_countWorths 77 = .ok (.iinc 5 1, 3) := by decide +kernel
theorem dX1_countWorths_80 : decode cX1_countWorths 80 = .ok (.goto (-41), 3) := by decide +kernel
theorem dX1_countWorths_83 : decode cX1_countWorths 83 = .ok (.iinc 3 1, 3) := by decide +kernel
theorem dX1_countWorths_86 : decode cX1_countWorths 86 = .ok (.goto (-66), 3) := by decide +kernel
theorem dX1_countWorths_89 : decode cX1_countWorths 89 = .ok (.iinc 2 1, 3) := by decide +kernel
theorem dX1_countWorths_92 : decode cX1_countWorths 92 = .ok (.goto (-82), 3) := by decide +kernel
theorem dX1_countWorths_95 : decode cX1_countWorths 95 = .ok (.aload_n 0, 1) := by decide +kernel
theorem dX1_countWorths_96 : decode cX1_countWorths 96 = .ok (.iconst 1, 1) := by decide +kernel
theorem dX1_countWorths_97 : decode cX1_countWorths 97 = .ok (.putfield 29, 3) := by decide +kernel
theorem dX1_countWorths_100 : decode cX1_countWorths 100 = .ok (.return_, 1) := by decide +kernel
theorem dX2_init_0 : decode cX2_init 0 = .ok (.aload_n 0, 1) := by decide +kernel
theorem dX2_init_1 : decode cX2_init 1 = .ok (.invokespecial 1, 3) := by decide +kernel
theorem dX2_init_4 : decode cX2_init 4 = .ok (.aload_n 0, 1) := by decide +kernel
theorem dX2_init_5 : decode cX2_init 5 = .ok (.iconst 2, 1) := by decide +kernel
theorem dX2_init_6 : decode cX2_init 6 = .ok (.bipush 35, 2) := by decide +kernel
theorem dX2_init_8 : decode cX2_init 8 = .ok (.multianewarray 11 2, 4) := by decide +kernel
theorem dX2_init_12 : decode cX2_init 12 = .ok (.putfield 13, 3) := by decide +kernel
theorem dX2_init_15 : decode cX2_init 15 = .ok (.aload_n 0, 1) := by decide +kernel
theorem dX2_init_16 : decode cX2_init 16 = .ok (.iconst 2, 1) := by decide +kernel
theorem dX2_init_17 : decode cX2_init 17 = .ok (.newarray .int, 2) := by decide +kernel
theorem dX2_init_19 : decode cX2_init 19 = .ok (.putfield 16, 3) := by decide +kernel
theorem dX2_init_22 : decode cX2_init 22 = .ok (.aload_n 0, 1) := by decide +kernel
theorem dX2_init_23 : decode cX2_init 23 = .ok (.iconst 2, 1) := by decide +kernel
theorem dX2_init_24 : decode cX2_init 24 = .ok (.newarray .boolean, 2) := by decide +kernel
theorem dX2_init_26 : decode cX2_init 26 = .ok (.putfield 20, 3) := by decide +kernel
theorem dX2_init_29 : decode cX2_init 29 = .ok (.return_, 1) := by decide +kernel
theorem dX2_hasPlace_0 : decode cX2_hasPlace 0 = .ok (.iload_n 1, 1) := by decide +kernel
theorem dX2_hasPlace_1 : decode cX2_hasPlace 1 = .ok (.ifCond .lt 12, 3) := by decide +kernel
theorem dX2_hasPlace_4 : decode cX2_hasPlace 4 = .ok (.iload_n 1, 1) := by decide +kernel
theorem dX2_hasPlace_5 : decode cX2_hasPlace 5 = .ok (.iconst 2, 1) := by decide +kernel
theorem dX2_hasPlace_6 : decode cX2_hasPlace 6 = .ok (.if_icmp .ge 7, 3) := by decide +kernel
theorem dX2_hasPlace_9 : decode cX2_hasPlace 9 = .ok (.iconst 1, 1) := by decide +kernel
theorem dX2_hasPlace_10 : decode cX2_hasPlace 10 = .ok (.goto 4, 3) := by decide +kernel
theorem dX2_hasPlace_13 : decode cX2_hasPlace 13 = .ok (.iconst 0, 1) := by decide +kernel
theorem dX2_hasPlace_14 : decode cX2_hasPlace 14 = .ok (.ireturn, 1) := by decide +kernel
theorem dX2_forget_0 : decode cX2_forget 0 = .ok (.iconst 0, 1) := by decide +kernel
theorem dX2_forget_1 : decode cX2_forget 1 = .ok (.istore_n 1, 1) := by decide +kernel
theorem dX2_forget_2 : decode cX2_forget 2 = .ok (.iload_n 1, 1) := by decide +kernel
theorem dX2_forget_3 : decode cX2_forget 3 = .ok (.iconst 2, 1) := by decide +kernel
theorem dX2_forget_4 : decode cX2_forget 4 = .ok (.if_icmp .ge 16, 3) := by decide +kernel
theorem dX2_forget_7 : decode cX2_forget 7 = .ok (.aload_n 0, 1) := by decide +kernel
theorem dX2_forget_8 : decode cX2_forget 8 = .ok (.getfield 20, 3) := by decide +kernel
theorem dX2_forget_11 : decode cX2_forget 11 = .ok (.iload_n 1, 1) := by decide +kernel
theorem dX2_forget_12 : decode cX2_forget 12 = .ok (.iconst 0, 1) := by decide +kernel
theorem dX2_forget_13 : decode cX2_forget 13 = .ok (.bastore, 1) := by decide +kernel
theorem dX2_forget_14 : decode cX2_forget 14 = .ok (.iinc 1 1, 3) := by decide +kernel
theorem dX2_forget_17 : decode cX2_forget 17 = .ok (.goto (-15), 3) := by decide +kernel
theorem dX2_forget_20 : decode cX2_forget 20 = .ok (.return_, 1) := by decide +kernel
set_option maxRecDepth 20000 in
theorem ggX2_put_X2_hasPlace : GoodIn wsX2_put wsX2_hasPlace := goodIn_r _ [8] (by decide +kernel) (by decide +kernel)
set_option maxRecDepth 20000 in
theorem gX2_put_X2_hasPlace : GoodIn wsX2_put (wsV RX2 24 RX2 yX2_hasPlace wsX2_hasPlace) := goodIn_app (goodIn_of _ (by decide +kernel)) ggX2_put_X2_hasPlace
set_option maxRecDepth 20000 in
theorem ggX2_put_X3_copyTo : GoodIn wsX2_put wsX3_copyTo := goodIn_r _ [13, 14, 15, 16, 17, 18, 19, 20, 21, 22, 26] (by decide +kernel) (by decide +kernel)
set_option maxRecDepth 20000 in
theorem gX2_put_X3_copyTo : GoodIn wsX2_put (wsV RX2 28 RX3 yX3_copyTo wsX3_copyTo) := goodIn_app (goodIn_of _ (by decide +kernel)) ggX2_put_X3_copyTo
theorem dX2_put_0 : decode cX2_put 0 = .ok (.aload_n 0, 1) := by decide +kernel
theorem dX2_put_1 : decode cX2_put 1 = .ok (.iload_n 1, 1) := by decide +kernel
theorem dX2_put_2 : decode cX2_put 2 = .ok (.invokevirtual 24, 3) := by decide +kernel
theorem dX2_put_5 : decode cX2_put 5 = .ok (.ifCond .eq 27, 3) := by decide +kernel
theorem dX2_put_8 : decode cX2_put 8 = .ok (.aload_n 2, 1) := by decide +kernel
theorem dX2_put_9 : decode cX2_put 9 = .ok (.aload_n 0, 1) := by decide +kernel
theorem dX2_put_10 : decode cX2_put 10 = .ok (.getfield 13, 3) := by decide +kernel
theorem dX2_put_13 : decode cX2_put 13 = .ok (.iload_n 1, 1) := by decide +kernel
theorem dX2_put_14 : decode cX2_put 14 = .ok (.aaload, 1) := by decide +kernel
theorem dX2_put_15 : decode cX2_put 15 = .ok (.invokevirtual 28, 3) := by decide +kernel
theorem dX2_put_18 : decode cX2_put 18 = .ok (.aload_n 0, 1) := by decide +kernel
theorem dX2_put_19 : decode cX2_put 19 = .ok (.getfield 16, 3) := by decide +kernel
theorem dX2_put_22 : decode cX2_put 22 = .ok (.iload_n 1, 1) := by decide +kernel
theorem dX2_put_23 : decode cX2_put 23 = .ok (.iload_n 3, 1) := by decide +kernel
theorem dX2_put_24 : decode cX2_put 24 = .ok (.iastore, 1) := by decide +kernel
theorem dX2_put_25 : decode cX2_put 25 = .ok (.aload_n 0, 1) := by decide +kernel
theorem dX2_put_26 : decode cX2_put 26 = .ok (.getfield 20, 3) := by decide +kernel
theorem dX2_put_29 : decode cX2_put 29 = .ok (.iload_n 1, 1) := by decide +kernel
theorem dX2_put_30 : decode cX2_put 30 = .ok (.iconst 1, 1) := by decide +kernel
theorem dX2_put_31 : decode cX2_put 31 = .ok (.bastore, 1) := by decide +kernel
theorem dX2_put_32 : decode cX2_put 32 = .ok (.return_, 1) := by decide +kernel
theorem dX3_init_0 : decode cX3_init 0 = .ok (.aload_n 0, 1) := by decide +kernel
theorem dX3_init_1 : decode cX3_init 1 = .ok (.invokespecial 5, 3) := by decide +kernel
theorem dX3_init_4 : decode cX3_init 4 = .ok (.aload_n 0, 1) := by decide +kernel
theorem dX3_init_5 : decode cX3_init 5 = .ok (.bipush 35, 2) := by decide +kernel
theorem dX3_init_7 : decode cX3_init 7 = .ok (.newarray .int, 2) := by decide +kernel
theorem dX3_init_9 : decode cX3_init 9 = .ok (.putfield 11, 3) := by decide +kernel
theorem dX3_init_12 : decode cX3_init 12 = .ok (.return_, 1) := by decide +kernel
set_option maxRecDepth 20000 in
theorem ggX3_begin_X3_buryIfOld : GoodIn wsX3_begin wsX3_buryIfOld := goodIn_r _ [10, 1, 11, 12, 13, 14, 15, 16, 17, 18, 19, 20, 21, 22, 23] (by decide +kernel) (by decide +kernel)
set_option maxRecDepth 20000 in
theorem gX3_begin_X3_buryIfOld : GoodIn wsX3_begin (wsV RX3 24 RX3 yX3_buryIfOld wsX3_buryIfOld) := goodIn_app (goodIn_of _ (by decide +kernel)) ggX3_begin_X3_buryIfOld
theorem dX3_begin_0 : decode cX3_begin 0 = .ok (.iconst 0, 1) := by decide +kernel
theorem dX3_begin_1 : decode cX3_begin 1 = .ok (.istore_n 2, 1) := by decide +kernel
theorem dX3_begin_2 : decode cX3_begin 2 = .ok (.iload_n 2, 1) := by decide +kernel
theorem dX3_begin_3 : decode cX3_begin 3 = .ok (.bipush 35, 2) := by decide +kernel
theorem dX3_begin_5 : decode cX3_begin 5 = .ok (.if_icmp .ge 16, 3) := by decide +kernel
theorem dX3_begin_8 : decode cX3_begin 8 = .ok (.aload_n 0, 1) := by decide +kernel
theorem dX3_begin_9 : decode cX3_begin 9 = .ok (.getfield 11, 3) := by decide +kernel
theorem dX3_begin_12 : decode cX3_begin 12 = .ok (.iload_n 2, 1) := by decide +kernel
theorem dX3_begin_13 : decode cX3_begin 13 = .ok (.iconst 0, 1) := by decide +kernel
theorem dX3_begin_14 : decode cX3_begin 14 = .ok (.iastore, 1) := by decide +kernel
theorem dX3_begin_15 : decode cX3_begin 15 = .ok (.iinc 2 1, 3) := by decide +kernel
theorem dX3_begin_18 : decode cX3_begin 18 = .ok (.goto (-16), 3) := by decide +kernel
theorem dX3_begin_21 : decode cX3_begin 21 = .ok (.iconst 0, 1) := by decide +kernel
theorem dX3_begin_22 : decode cX3_begin 22 = .ok (.istore_n 2, 1) := by decide +kernel
theorem dX3_begin_23 : decode cX3_begin 23 = .ok (.iload_n 2, 1) := by decide +kernel
theorem dX3_begin_24 : decode cX3_begin 24 = .ok (.aload_n 1, 1) := by decide +kernel
theorem dX3_begin_25 : decode cX3_begin 25 = .ok (.getfield 15, 3) := by decide +kernel
theorem dX3_begin_28 : decode cX3_begin 28 = .ok (.if_icmp .ge 29, 3) := by decide +kernel
theorem dX3_begin_31 : decode cX3_begin 31 = .ok (.aload_n 0, 1) := by decide +kernel
theorem dX3_begin_32 : decode cX3_begin 32 = .ok (.getfield 11, 3) := by decide +kernel
theorem dX3_begin_35 : decode cX3_begin 35 = .ok (.iconst 1, 1) := by decide +kernel
theorem dX3_begin_36 : decode cX3_begin 36 = .ok (.iload_n 2, 1) := by decide +kernel
theorem dX3_begin_37 : decode cX3_begin 37 = .ok (.iadd, 1) := by decide +kernel
theorem dX3_begin_38 : decode cX3_begin 38 = .ok (.aload_n 1, 1) := by decide +kernel
theorem dX3_begin_39 : decode cX3_begin 39 = .ok (.getfield 21, 3) := by decide +kernel
theorem dX3_begin_42 : decode cX3_begin 42 = .ok (.iload_n 2, 1) := by decide +kernel
theorem dX3_begin_43 : decode cX3_begin 43 = .ok (.iaload, 1) := by decide +kernel
theorem dX3_begin_44 : decode cX3_begin 44 = .ok (.iastore, 1) := by decide +kernel
theorem dX3_begin_45 : decode cX3_begin 45 = .ok (.aload_n 0, 1) := by decide +kernel
theorem dX3_begin_46 : decode cX3_begin 46 = .ok (.aload_n 1, 1) := by decide +kernel
theorem dX3_begin_47 : decode cX3_begin 47 = .ok (.iload_n 2, 1) := by decide +kernel
theorem dX3_begin_48 : decode cX3_begin 48 = .ok (.invokevirtual 24, 3) := by decide +kernel
theorem dX3_begin_51 : decode cX3_begin 51 = .ok (.iinc 2 1, 3) := by decide +kernel
theorem dX3_begin_54 : decode cX3_begin 54 = .ok (.goto (-31), 3) := by decide +kernel
theorem dX3_begin_57 : decode cX3_begin 57 = .ok (.iconst 0, 1) := by decide +kernel
theorem dX3_begin_58 : decode cX3_begin 58 = .ok (.istore_n 2, 1) := by decide +kernel
theorem dX3_begin_59 : decode cX3_begin 59 = .ok (.iload_n 2, 1) := by decide +kernel
theorem dX3_begin_60 : decode cX3_begin 60 = .ok (.aload_n 1, 1) := by decide +kernel
theorem dX3_begin_61 : decode cX3_begin 61 = .ok (.getfield 28, 3) := by decide +kernel
theorem dX3_begin_64 : decode cX3_begin 64 = .ok (.if_icmp .ge 24, 3) := by decide +kernel
theorem dX3_begin_67 : decode cX3_begin 67 = .ok (.aload_n 0, 1) := by decide +kernel
theorem dX3_begin_68 : decode cX3_begin 68 = .ok (.getfield 11, 3) := by decide +kernel
theorem dX3_begin_71 : decode cX3_begin 71 = .ok (.bipush 29, 2) := by decide +kernel
theorem dX3_begin_73 : decode cX3_begin 73 = .ok (.iload_n 2, 1) := by decide +kernel
theorem dX3_begin_74 : decode cX3_begin 74 = .ok (.iadd, 1) := by decide +kernel
theorem dX3_begin_75 : decode cX3_begin 75 = .ok (.aload_n 1, 1) := by decide +kernel
theorem dX3_begin_76 : decode cX3_begin 76 = .ok (.getfield 31, 3) := by decide +kernel
theorem dX3_begin_79 : decode cX3_begin 79 = .ok (.iload_n 2, 1) := by decide +kernel
theorem dX3_begin_80 : decode cX3_begin 80 = .ok (.iaload, 1) := by decide +kernel
theorem dX3_begin_81 : decode cX3_begin 81 = .ok (.iastore, 1) := by decide +kernel
theorem dX3_begin_82 : decode cX3_begin 82 = .ok (.iinc 2 1, 3) := by decide +kernel
theorem dX3_begin_85 : decode cX3_begin 85 = .ok (.goto (-26), 3) := by decide +kernel
theorem dX3_begin_88 : decode cX3_begin 88 = .ok (.return_, 1) := by decide +kernel
theorem dX3_copyTo_0 : decode cX3_copyTo 0 = .ok (.aload_n 0, 1) := by decide +kernel
theorem dX3_copyTo_1 : decode cX3_copyTo 1 = .ok (.getfield 11, 3) := by decide +kernel
theorem dX3_copyTo_4 : decode cX3_copyTo 4 = .ok (.iconst 0, 1) := by decide +kernel
theorem dX3_copyTo_5 : decode cX3_copyTo 5 = .ok (.aload_n 1, 1) := by decide +kernel
theorem dX3_copyTo_6 : decode cX3_copyTo 6 = .ok (.iconst 0, 1) := by decide +kernel
theorem dX3_copyTo_7 : decode cX3_copyTo 7 = .ok (.bipush 35, 2) := by decide +kernel
theorem dX3_copyTo_9 : decode cX3_copyTo 9 = .ok (.aload_n 1, 1) := by decide +kernel
theorem dX3_copyTo_10 : decode cX3_copyTo 10 = .ok (.arraylength, 1) := by decide +kernel
theorem dX3_copyTo_11 : decode cX3_copyTo 11 = .ok (.invokestatic 34, 3) := by decide +kernel
theorem dX3_copyTo_14 : decode cX3_copyTo 14 = .ok (.invokestatic 40, 3) := by decide +kernel
theorem dX3_copyTo_17 : decode cX3_copyTo 17 = .ok (.return_, 1) := by decide +kernel
theorem dX3_copyFrom_0 : decode cX3_copyFrom 0 = .ok (.aload_n 1, 1) := by decide +kernel
theorem dX3_copyFrom_1 : decode cX3_copyFrom 1 = .ok (.iconst 0, 1) := by decide +kernel
theorem dX3_copyFrom_2 : decode cX3_copyFrom 2 = .ok (.aload_n 0, 1) := by decide +kernel
theorem dX3_copyFrom_3 : decode cX3_copyFrom 3 = .ok (.getfield 11, 3) := by decide +kernel
theorem dX3_copyFrom_6 : decode cX3_copyFrom 6 = .ok (.iconst 0, 1) := by decide +kernel
theorem dX3_copyFrom_7 : decode cX3_copyFrom 7 = .ok (.bipush 35, 2) := by decide +kernel
theorem dX3_copyFrom_9 : decode cX3_copyFrom 9 = .ok (.aload_n 1, 1) := by decide +kernel
theorem dX3_copyFrom_10 : decode cX3_copyFrom 10 = .ok (.arraylength, 1) := by decide +kernel
theorem dX3_copyFrom_11 : decode cX3_copyFrom 11 = .ok (.invokestatic 34, 3) := by decide +kernel
theorem dX3_copyFrom_14 : decode cX3_copyFrom 14 = .ok (.invokestatic 40, 3) := by decide +kernel
theorem dX3_copyFrom_17 : decode cX3_copyFrom 17 = .ok (.return_, 1) := by decide +kernel
theorem dX3_years_0 : decode cX3_years 0 = .ok (.aload_n 0, 1) := by decide +kernel
theorem dX3_years_1 : decode cX3_years 1 = .ok (.getfield 11, 3) := by decide +kernel
theorem dX3_years_4 : decode cX3_years 4 = .ok (.iconst 0, 1) := by decide +kernel
theorem dX3_years_5 : decode cX3_years 5 = .ok (.iaload, 1) := by decide +kernel
theorem dX3_years_6 : decode cX3_years 6 = .ok (.ireturn, 1) := by decide +kernel
set_option maxRecDepth 20000 in
theorem ggX3_age_X3_isPerson : GoodIn wsX3_age wsX3_isPerson := goodIn_r _ [5] (by decide +kernel) (by decide +kernel)
set_option maxRecDepth 20000 in
theorem gX3_age_X3_isPerson : GoodIn wsX3_age (va_wsS RX3 46 yX3_isPerson wsX3_isPerson) := goodIn_app (goodIn_of _ (by decide +kernel)) ggX3_age_X3_isPerson
theorem dX3_age_0 : decode cX3_age 0 = .ok (.iload_n 1, 1) := by decide +kernel
theorem dX3_age_1 : decode cX3_age 1 = .ok (.invokestatic 46, 3) := by decide +kernel
theorem dX3_age_4 : decode cX3_age 4 = .ok (.ifCond .eq 14, 3) := by decide +kernel
theorem dX3_age_7 : decode cX3_age 7 = .ok (.aload_n 0, 1) := by decide +kernel
theorem dX3_age_8 : decode cX3_age 8 = .ok (.getfield 11, 3) := by decide +kernel
theorem dX3_age_11 : decode cX3_age 11 = .ok (.iconst 1, 1) := by decide +kernel
theorem dX3_age_12 : decode cX3_age 12 = .ok (.iload_n 1, 1) := by decide +kernel
theorem dX3_age_13 : decode cX3_age 13 = .ok (.iadd, 1) := by decide +kernel
theorem dX3_age_14 : decode cX3_age 14 = .ok (.iaload, 1) := by decide +kernel
theorem dX3_age_15 : decode cX3_age 15 = .ok (.goto 4, 3) := by decide +kernel
theorem dX3_age_18 : decode cX3_age 18 = .ok (.iconst 0, 1) := by decide +kernel
theorem dX3_age_19 : decode cX3_age 19 = .ok (.ireturn, 1) := by decide +kernel
set_option maxRecDepth 20000 in
theorem ggX3_place_X3_isPerson : GoodIn wsX3_place wsX3_isPerson := goodIn_r _ [5] (by decide +kernel) (by decide +kernel)
set_option maxRecDepth 20000 in
theorem gX3_place_X3_isPerson : GoodIn wsX3_place (va_wsS RX3 46 yX3_isPerson wsX3_isPerson) := goodIn_app (goodIn_of _ (by decide +kernel)) ggX3_place_X3_isPerson
theorem dX3_place_0 : decode cX3_place 0 = .ok (.iload_n 1, 1) := by decide +kernel
theorem dX3_place_1 : decode cX3_place 1 = .ok (.invokestatic 46, 3) := by decide +kernel
theorem dX3_place_4 : decode cX3_place 4 = .ok (.ifCond .eq 15, 3) := by decide +kernel
theorem dX3_place_7 : decode cX3_place 7 = .ok (.aload_n 0, 1) := by decide +kernel
theorem dX3_place_8 : decode cX3_place 8 = .ok (.getfield 11, 3) := by decide +kernel
theorem dX3_place_11 : decode cX3_place 11 = .ok (.bipush 8, 2) := by decide +kernel
theorem dX3_place_13 : decode cX3_place 13 = .ok (.iload_n 1, 1) := by decide +kernel
theorem dX3_place_14 : decode cX3_place 14 = .ok (.iadd, 1) := by decide +kernel
theorem dX3_place_15 : decode cX3_place 15 = .ok (.iaload, 1) := by decide +kernel
theorem dX3_place_16 : decode cX3_place 16 = .ok (.goto 4, 3) := by decide +kernel
theorem dX3_place_19 : decode cX3_place 19 = .ok (.iconst 1, 1) := by decide +kernel
theorem dX3_place_20 : decode cX3_place 20 = .ok (.ireturn, 1) := by decide +kernel
set_option maxRecDepth 20000 in
theorem ggX3_box_X3_isPerson : GoodIn wsX3_box wsX3_isPerson := goodIn_r _ [5] (by decide +kernel) (by decide +kernel)
set_option maxRecDepth 20000 in
theorem gX3_box_X3_isPerson : GoodIn wsX3_box (va_wsS RX3 46 yX3_isPerson wsX3_isPerson) := goodIn_app (goodIn_of _ (by decide +kernel)) ggX3_box_X3_isPerson
theorem dX3_box_0 : decode cX3_box 0 = .ok (.iload_n 1, 1) := by decide +kernel
theorem dX3_box_1 : decode cX3_box 1 = .ok (.invokestatic 46, 3) := by decide +kernel
theorem dX3_box_4 : decode cX3_box 4 = .ok (.ifCond .eq 15, 3) := by decide +kernel
theorem dX3_box_7 : decode cX3_box 7 = .ok (.aload_n 0, 1) := by decide +kernel
theorem dX3_box_8 : decode cX3_box 8 = .ok (.getfield 11, 3) := by decide +kernel
theorem dX3_box_11 : decode cX3_box 11 = .ok (.bipush 15, 2) := by decide +kernel
theorem dX3_box_13 : decode cX3_box 13 = .ok (.iload_n 1, 1) := by decide +kernel
theorem dX3_box_14 : decode cX3_box 14 = .ok (.iadd, 1) := by decide +kernel
theorem dX3_box_15 : decode cX3_box 15 = .ok (.iaload, 1) := by decide +kernel
theorem dX3_box_16 : decode cX3_box 16 = .ok (.goto 4, 3) := by decide +kernel
theorem dX3_box_19 : decode cX3_box 19 = .ok (.iconst 0, 1) := by decide +kernel
theorem dX3_box_20 : decode cX3_box 20 = .ok (.ireturn, 1) := by decide +kernel
set_option maxRecDepth 20000 in
theorem ggX3_worth_X3_isGood : GoodIn wsX3_worth wsX3_isGood := goodIn_r _ [5] (by decide +kernel) (by decide +kernel)
set_option maxRecDepth 20000 in
theorem gX3_worth_X3_isGood : GoodIn wsX3_worth (va_wsS RX3 50 yX3_isGood wsX3_isGood) := goodIn_app (goodIn_of _ (by decide +kernel)) ggX3_worth_X3_isGood
theorem dX3_worth_0 : decode cX3_worth 0 = .ok (.iload_n 1, 1) := by decide +kernel
theorem dX3_worth_1 : decode cX3_worth 1 = .ok (.invokestatic 50, 3) := by decide +kernel
theorem dX3_worth_4 : decode cX3_worth 4 = .ok (.ifCond .eq 15, 3) := by decide +kernel
theorem dX3_worth_7 : decode cX3_worth 7 = .ok (.aload_n 0, 1) := by decide +kernel
theorem dX3_worth_8 : decode cX3_worth 8 = .ok (.getfield 11, 3) := by decide +kernel
theorem dX3_worth_11 : decode cX3_worth 11 = .ok (.bipush 29, 2) := by decide +kernel
theorem dX3_worth_13 : decode cX3_worth 13 = .ok (.iload_n 1, 1) := by decide +kernel
theorem dX3_worth_14 : decode cX3_worth 14 = .ok (.iadd, 1) := by decide +kernel
theorem dX3_worth_15 : decode cX3_worth 15 = .ok (.iaload, 1) := by decide +kernel
theorem dX3_worth_16 : decode cX3_worth 16 = .ok (.goto 4, 3) := by decide +kernel
theorem dX3_worth_19 : decode cX3_worth 19 = .ok (.iconst 0, 1) := by decide +kernel
theorem dX3_worth_20 : decode cX3_worth 20 = .ok (.ireturn, 1) := by decide +kernel
set_option maxRecDepth 20000 in
theorem ggX3_isAbove_X3_place : GoodIn wsX3_isAbove wsX3_place := goodIn_r _ [5, 6, 7, 8, 4, 9, 10] (by decide +kernel) (by decide +kernel)
set_option maxRecDepth 20000 in
theorem gX3_isAbove_X3_place : GoodIn wsX3_isAbove (wsV RX3 53 RX3 yX3_place wsX3_place) := goodIn_app (goodIn_of _ (by decide +kernel)) ggX3_isAbove_X3_place
theorem dX3_isAbove_0 : decode cX3_isAbove 0 = .ok (.aload_n 0, 1) := by decide +kernel
theorem dX3_isAbove_1 : decode cX3_isAbove 1 = .ok (.iload_n 1, 1) := by decide +kernel
theorem dX3_isAbove_2 : decode cX3_isAbove 2 = .ok (.invokevirtual 53, 3) := by decide +kernel
theorem dX3_isAbove_5 : decode cX3_isAbove 5 = .ok (.ifCond .ne 7, 3) := by decide +kernel
theorem dX3_isAbove_8 : decode cX3_isAbove 8 = .ok (.iconst 1, 1) := by decide +kernel
theorem dX3_isAbove_9 : decode cX3_isAbove 9 = .ok (.goto 4, 3) := by decide +kernel
theorem dX3_isAbove_12 : decode cX3_isAbove 12 = .ok (.iconst 0, 1) := by decide +kernel
theorem dX3_isAbove_13 : decode cX3_isAbove 13 = .ok (.ireturn, 1) := by decide +kernel
set_option maxRecDepth 20000 in
theorem ggX3_isBelow_X3_place : GoodIn wsX3_isBelow wsX3_place := goodIn_r _ [5, 6, 7, 8, 4, 9, 10] (by decide +kernel) (by decide +kernel)
set_option maxRecDepth 20000 in
theorem gX3_isBelow_X3_place : GoodIn wsX3_isBelow (wsV RX3 53 RX3 yX3_place wsX3_place) := goodIn_app (goodIn_of _ (by decide +kernel)) ggX3_isBelow_X3_place
theorem dX3_isBelow_0 : decode cX3_isBelow 0 = .ok (.aload_n 0, 1) := by decide +kernel
theorem dX3_isBelow_1 : decode cX3_isBelow 1 = .ok (.iload_n 1, 1) := by decide +kernel
theorem dX3_isBelow_2 : decode cX3_isBelow 2 = .ok (.invokevirtual 53, 3) := by decide +kernel
theorem dX3_isBelow_5 : decode cX3_isBelow 5 = .ok (.bipush 10, 2) := by decide +kernel
theorem dX3_isBelow_7 : decode cX3_isBelow 7 = .ok (.if_icmp .lt 7, 3) := by decide +kernel
theorem dX3_isBelow_10 : decode cX3_isBelow 10 = .ok (.iconst 1, 1) := by decide +kernel
theorem dX3_isBelow_11 : decode cX3_isBelow 11 = .ok (.goto 4, 3) := by decide +kernel
theorem dX3_isBelow_14 : decode cX3_isBelow 14 = .ok (.iconst 0, 1) := by decide +kernel
theorem dX3_isBelow_15 : decode cX3_isBelow 15 = .ok (.ireturn, 1) := by decide +kernel
set_option maxRecDepth 20000 in
theorem ggX3_daysBelow_X3_isBelow : GoodIn wsX3_daysBelow wsX3_isBelow := goodIn_r _ [6, 7, 8, 9, 5, 10, 1, 11, 12, 13, 25] (by decide +kernel) (by decide +kernel)
set_option maxRecDepth 20000 in
theorem gX3_daysBelow_X3_isBelow : GoodIn wsX3_daysBelow (wsV RX3 57 RX3 yX3_isBelow wsX3_isBelow) := goodIn_app (goodIn_of _ (by decide +kernel)) ggX3_daysBelow_X3_isBelow
set_option maxRecDepth 20000 in
theorem ggX3_daysBelow_X3_place : GoodIn wsX3_daysBelow wsX3_place := goodIn_r _ [10, 1, 11, 12, 5, 13, 25] (by decide +kernel) (by decide +kernel)
set_option maxRecDepth 20000 in
theorem gX3_daysBelow_X3_place : GoodIn wsX3_daysBelow (wsV RX3 53 RX3 yX3_place wsX3_place) := goodIn_app (goodIn_of _ (by decide +kernel)) ggX3_daysBelow_X3_place
set_option maxRecDepth 20000 in
theorem ggX3_daysBelow_X5_daysIn : GoodIn wsX3_daysBelow wsX5_daysIn := goodIn_r _ [18, 19, 20, 21, 22, 17, 23, 24, 26, 27, 28, 29, 30, 31, 32, 33, 34, 35, 36] (by decide +kernel) (by decide +kernel)
set_option maxRecDepth 20000 in
theorem gX3_daysBelow_X5_daysIn : GoodIn wsX3_daysBelow (wsV RX3 60 RX5 yX5_daysIn wsX5_daysIn) := goodIn_app (goodIn_of _ (by decide +kernel)) ggX3_daysBelow_X5_daysIn
theorem dX3_daysBelow_0 : decode cX3_daysBelow 0 = .ok (.aload_n 0, 1) := by decide +kernel
theorem dX3_daysBelow_1 : decode cX3_daysBelow 1 = .ok (.iload_n 2, 1) := by decide +kernel
theorem dX3_daysBelow_2 : decode cX3_daysBelow 2 = .ok (.invokevirtual 57, 3) := by decide +kernel
theorem dX3_daysBelow_5 : decode cX3_daysBelow 5 = .ok (.ifCond .eq 27, 3) := by decide +kernel
theorem dX3_daysBelow_8 : decode cX3_daysBelow 8 = .ok (.aload_n 1, 1) := by decide +kernel
theorem dX3_daysBelow_9 : decode cX3_daysBelow 9 = .ok (.aload_n 0, 1) := by decide +kernel
theorem dX3_daysBelow_10 : decode cX3_daysBelow 10 = .ok (.iload_n 2, 1) := by decide +kernel
theorem dX3_daysBelow_11 : decode cX3_daysBelow 11 = .ok (.invokevirtual 53, 3) := by decide +kernel
theorem dX3_daysBelow_14 : decode cX3_daysBelow 14 = .ok (.bipush 10, 2) := by decide +kernel
theorem dX3_daysBelow_16 : decode cX3_daysBelow 16 = .ok (.isub, 1) := by decide +kernel
theorem dX3_daysBelow_17 : decode cX3_daysBelow 17 = .ok (.aload_n 0, 1) := by decide +kernel
theorem dX3_daysBelow_18 : decode cX3_daysBelow 18 = .ok (.getfield 11, 3) := by decide +kernel
theorem dX3_daysBelow_21 : decode cX3_daysBelow 21 = .ok (.bipush 22, 2) := by decide +kernel
theorem dX3_daysBelow_23 : decode cX3_daysBelow 23 = .ok (.iload_n 2, 1) := by decide +kernel
theorem dX3_daysBelow_24 : decode cX3_daysBelow 24 = .ok (.iadd, 1) := by decide +kernel
theorem dX3_daysBelow_25 : decode cX3_daysBelow 25 = .ok (.iaload, 1) := by decide +kernel
theorem dX3_daysBelow_26 : decode cX3_daysBelow 26 = .ok (.invokevirtual 60, 3) := by decide +kernel
theorem dX3_daysBelow_29 : decode cX3_daysBelow 29 = .ok (.goto 4, 3) := by decide +kernel
theorem dX3_daysBelow_32 : decode cX3_daysBelow 32 = .ok (.iconst 0, 1) := by decide +kernel
theorem dX3_daysBelow_33 : decode cX3_daysBelow 33 = .ok (.ireturn, 1) := by decide +kernel
set_option maxRecDepth 20000 in
theorem ggX3_deadOnes_X3_place : GoodIn wsX3_deadOnes wsX3_place := goodIn_r _ [6, 7, 8, 9, 5, 10, 22] (by decide +kernel) (by decide +kernel)
set_option maxRecDepth 20000 in
theorem gX3_deadOnes_X3_place : GoodIn wsX3_deadOnes (wsV RX3 53 RX3 yX3_place wsX3_place) := goodIn_app (goodIn_of _ (by decide +kernel)) ggX3_deadOnes_X3_place
theorem dX3_deadOnes_0 : decode cX3_deadOnes 0 = .ok (.iconst 0, 1) := by decide +kernel
theorem dX3_deadOnes_1 : decode cX3_deadOnes 1 = .ok (.istore_n 2, 1) := by decide +kernel
theorem dX3_deadOnes_2 : decode cX3_deadOnes 2 = .ok (.iconst 0, 1) := by decide +kernel
theorem dX3_deadOnes_3 : decode cX3_deadOnes 3 = .ok (.istore_n 3, 1) := by decide +kernel
theorem dX3_deadOnes_4 : decode cX3_deadOnes 4 = .ok (.iload_n 3, 1) := by decide +kernel
theorem dX3_deadOnes_5 : decode cX3_deadOnes 5 = .ok (.aload_n 1, 1) := by decide +kernel
theorem dX3_deadOnes_6 : decode cX3_deadOnes 6 = .ok (.getfield 15, 3) := by decide +kernel
theorem dX3_deadOnes_9 : decode cX3_deadOnes 9 = .ok (.if_icmp .ge 24, 3) := by decide +kernel
theorem dX3_deadOnes_12 : decode cX3_deadOnes 12 = .ok (.aload_n 0, 1) := by decide +kernel
theorem dX3_deadOnes_13 : decode cX3_deadOnes 13 = .ok (.iload_n 3, 1) := by decide +kernel
theorem dX3_deadOnes_14 : decode cX3_deadOnes 14 = .ok (.invokevirtual 53, 3) := by decide +kernel
theorem dX3_deadOnes_17 : decode cX3_deadOnes 17 = .ok (.iconst 1, 1) := by decide +kernel
theorem dX3_deadOnes_18 : decode cX3_deadOnes 18 = .ok (.if_icmp .ne 9, 3) := by decide +kernel
theorem dX3_deadOnes_21 : decode cX3_deadOnes 21 = .ok (.iload_n 2, 1) := by decide +kernel
theorem dX3_deadOnes_22 : decode cX3_deadOnes 22 = .ok (.iconst 1, 1) := by decide +kernel
theorem dX3_deadOnes_23 : decode cX3_deadOnes 23 = .ok (.iload_n 3, 1) := by decide +kernel
theorem dX3_deadOnes_24 : decode cX3_deadOnes 24 = .ok (.ishl, 1) := by decide +kernel
theorem dX3_deadOnes_25 : decode cX3_deadOnes 25 = .ok (.ior, 1) := by decide +kernel
theorem dX3_deadOnes_26 : decode cX3_deadOnes 26 = .ok (.istore_n 2, 1) := by decide +kernel
theorem dX3_deadOnes_27 : decode cX3_deadOnes 27 = .ok (.iinc 3 1, 3) := by decide +kernel
theorem dX3_deadOnes_30 : decode cX3_deadOnes 30 = .ok (.goto (-26), 3) := by decide +kernel
theorem dX3_deadOnes_33 : decode cX3_deadOnes 33 = .ok (.iload_n 2, 1) := by decide +kernel
theorem dX3_deadOnes_34 : decode cX3_deadOnes 34 = .ok (.ireturn, 1) := by decide +kernel
set_option maxRecDepth 20000 in
theorem ggX3_stayersOf_X3_isBelow : GoodIn wsX3_stayersOf wsX3_isBelow := goodIn_r _ [7, 8, 9, 10, 6, 11, 2, 12, 13, 14, 26] (by decide +kernel) (by decide +kernel)
set_option maxRecDepth 20000 in
theorem gX3_stayersOf_X3_isBelow : GoodIn wsX3_stayersOf (wsV RX3 57 RX3 yX3_isBelow wsX3_isBelow) := goodIn_app (goodIn_of _ (by decide +kernel)) ggX3_stayersOf_X3_isBelow
theorem dX3_stayersOf_0 : decode cX3_stayersOf 0 = .ok (.iconst 0, 1) := by decide +kernel
theorem dX3_stayersOf_1 : decode cX3_stayersOf 1 = .ok (.istore_n 3, 1) := by decide +kernel
theorem dX3_stayersOf_2 : decode cX3_stayersOf 2 = .ok (.iconst 0, 1) := by decide +kernel
theorem dX3_stayersOf_3 : decode cX3_stayersOf 3 = .ok (.istore 4, 2) := by decide +kernel
theorem dX3_stayersOf_5 : decode cX3_stayersOf 5 = .ok (.iload 4, 2) := by decide +kernel
theorem dX3_stayersOf_7 : decode cX3_stayersOf 7 = .ok (.aload_n 1, 1) := by decide +kernel
theorem dX3_stayersOf_8 : decode cX3_stayersOf 8 = .ok (.getfield 15, 3) := by decide +kernel
theorem dX3_stayersOf_11 : decode cX3_stayersOf 11 = .ok (.if_icmp .ge 39, 3) := by decide +kernel
theorem dX3_stayersOf_14 : decode cX3_stayersOf 14 = .ok (.aload_n 0, 1) := by decide +kernel
theorem dX3_stayersOf_15 : decode cX3_stayersOf 15 = .ok (.iload 4, 2) := by decide +kernel
theorem dX3_stayersOf_17 : decode cX3_stayersOf 17 = .ok (.invokevirtual 57, 3) := by decide +kernel
theorem dX3_stayersOf_20 : decode cX3_stayersOf 20 = .ok (.ifCond .eq 24, 3) := by decide +kernel
theorem dX3_stayersOf_23 : decode cX3_stayersOf 23 = .ok (.aload_n 0, 1) := by decide +kernel
theorem dX3_stayersOf_24 : decode cX3_stayersOf 24 = .ok (.getfield 11, 3) := by decide +kernel
theorem dX3_stayersOf_27 : decode cX3_stayersOf 27 = .ok (.bipush 22, 2) := by decide +kernel
theorem dX3_stayersOf_29 : decode cX3_stayersOf 29 = .ok (.iload 4, 2) := by decide +kernel
theorem dX3_stayersOf_31 : decode cX3_stayersOf 31 = .ok (.iadd, 1) := by decide +kernel
theorem dX3_stayersOf_32 : decode cX3_stayersOf 32 = .ok (.iaload, 1) := by decide +kernel
theorem dX3_stayersOf_33 : decode cX3_stayersOf 33 = .ok (.iload_n 2, 1) := by decide +kernel
theorem dX3_stayersOf_34 : decode cX3_stayersOf 34 = .ok (.if_icmp .lt 10, 3) := by decide +kernel
theorem dX3_stayersOf_37 : decode cX3_stayersOf 37 = .ok (.iload_n 3, 1) := by decide +kernel
theorem dX3_stayersOf_38 : decode cX3_stayersOf 38 = .ok (.iconst 1, 1) := by decide +kernel
theorem dX3_stayersOf_39 : decode cX3_stayersOf 39 = .ok (.iload 4, 2) := by decide +kernel
theorem dX3_stayersOf_41 : decode cX3_stayersOf 41 = .ok (.ishl, 1) := by decide +kernel
theorem dX3_stayersOf_42 : decode cX3_stayersOf 42 = .ok (.ior, 1) := by decide +kernel
theorem dX3_stayersOf_43 : decode cX3_stayersOf 43 = .ok (.istore_n 3, 1) := by decide +kernel
theorem dX3_stayersOf_44 : decode cX3_stayersOf 44 = .ok (.iinc 4 1, 3) := by decide +kernel
theorem dX3_stayersOf_47 : decode cX3_stayersOf 47 = .ok (.goto (-42), 3) := by decide +kernel
theorem dX3_stayersOf_50 : decode cX3_stayersOf 50 = .ok (.iload_n 3, 1) := by decide +kernel
theorem dX3_stayersOf_51 : decode cX3_stayersOf 51 = .ok (.ireturn, 1) := by decide +kernel
set_option maxRecDepth 20000 in
theorem ggX3_passYears_X3_isAbove : GoodIn wsX3_passYears wsX3_isAbove := goodIn_r _ [13, 14, 15, 16, 12, 17, 1, 18, 19, 20, 45] (by decide +kernel) (by decide +kernel)
set_option maxRecDepth 20000 in
theorem gX3_passYears_X3_isAbove : GoodIn wsX3_passYears (wsV RX3 63 RX3 yX3_isAbove wsX3_isAbove) := goodIn_app (goodIn_of _ (by decide +kernel)) ggX3_passYears_X3_isAbove
set_option maxRecDepth 20000 in
theorem ggX3_passYears_X3_buryIfOld : GoodIn wsX3_passYears wsX3_buryIfOld := goodIn_r _ [24, 1, 3, 45, 46, 47, 48, 49, 50, 51, 52, 53, 54, 55, 56] (by decide +kernel) (by decide +kernel)
set_option maxRecDepth 20000 in
theorem gX3_passYears_X3_buryIfOld : GoodIn wsX3_passYears (wsV RX3 24 RX3 yX3_buryIfOld wsX3_buryIfOld) := goodIn_app (goodIn_of _ (by decide +kernel)) ggX3_passYears_X3_buryIfOld
set_option maxRecDepth 20000 in
theorem ggX3_passYears_X3_isBelow : GoodIn wsX3_passYears wsX3_isBelow := goodIn_r _ [28, 14, 15, 16, 12, 17, 1, 18, 19, 20, 45] (by decide +kernel) (by decide +kernel)
set_option maxRecDepth 20000 in
theorem gX3_passYears_X3_isBelow : GoodIn wsX3_passYears (wsV RX3 57 RX3 yX3_isBelow wsX3_isBelow) := goodIn_app (goodIn_of _ (by decide +kernel)) ggX3_passYears_X3_isBelow
set_option maxRecDepth 20000 in
theorem ggX3_passYears_X5_worthBehind : GoodIn wsX3_passYears wsX5_worthBehind := goodIn_r _ [33, 34, 35, 36, 32, 37, 38, 39, 40, 41, 42, 43, 44, 46, 47, 48, 49, 50, 51, 52, 53, 54, 55, 56] (by decide +kernel) (by decide +kernel)
set_option maxRecDepth 20000 in
theorem gX3_passYears_X5_worthBehind : GoodIn wsX3_passYears (wsV RX3 69 RX5 yX5_worthBehind wsX5_worthBehind) := goodIn_app (goodIn_of _ (by decide +kernel)) ggX3_passYears_X5_worthBehind
theorem dX3_passYears_0 : decode cX3_passYears 0 = .ok (.aload_n 0, 1) := by decide +kernel
theorem dX3_passYears_1 : decode cX3_passYears 1 = .ok (.getfield 11, 3) := by decide +kernel
theorem dX3_passYears_4 : decode cX3_passYears 4 = .ok (.iconst 0, 1) := by decide +kernel
theorem dX3_passYears_5 : decode cX3_passYears 5 = .ok (.dup2, 1) := by decide +kernel
theorem dX3_passYears_6 : decode cX3_passYears 6 = .ok (.iaload, 1) := by decide +kernel
theorem dX3_passYears_7 : decode cX3_passYears 7 = .ok (.iload_n 2, 1) := by decide +kernel
theorem dX3_passYears_8 : decode cX3_passYears 8 = .ok (.iadd, 1) := by decide +kernel
theorem dX3_passYears_9 : decode cX3_passYears 9 = .ok (.iastore, 1) := by decide +kernel
theorem dX3_passYears_10 : decode cX3_passYears 10 = .ok (.iconst 0, 1) := by decide +kernel
theorem dX3_passYears_11 : decode cX3_passYears 11 = .ok (.istore_n 3, 1) := by decide +kernel
theorem dX3_passYears_12 : decode cX3_passYears 12 = .ok (.iload_n 3, 1) := by decide +kernel
theorem dX3_passYears_13 : decode cX3_passYears 13 = .ok (.aload_n 1, 1) := by decide +kernel
theorem dX3_passYears_14 : decode cX3_passYears 14 = .ok (.getfield 15, 3) := by decide +kernel
theorem dX3_passYears_17 : decode cX3_passYears 17 = .ok (.if_icmp .ge 90, 3) := by decide +kernel
theorem dX3_passYears_20 : decode cX3_passYears 20 = .ok (.aload_n 0, 1) := by decide +kernel
theorem dX3_passYears_21 : decode cX3_passYears 21 = .ok (.iload_n 3, 1) := by decide +kernel
theorem dX3_passYears_22 : decode cX3_passYears 22 = .ok (.invokevirtual 63, 3) := by decide +kernel
theorem dX3_passYears_25 : decode cX3_passYears 25 = .ok (.ifCond .eq 42, 3) := by decide +kernel
theorem dX3_passYears_28 : decode cX3_passYears 28 = .ok (.aload_n 0, 1) := by decide +kernel
theorem dX3_passYears_29 : decode cX3_passYears 29 = .ok (.getfield 11, 3) := by decide +kernel
theorem dX3_passYears_32 : decode cX3_passYears 32 = .ok (.iconst 1, 1) := by decide +kernel
theorem dX3_passYears_33 : decode cX3_passYears 33 = .ok (.iload_n 3, 1) := by decide +kernel
theorem dX3_passYears_34 : decode cX3_passYears 34 = .ok (.iadd, 1) := by decide +kernel
theorem dX3_passYears_35 : decode cX3_passYears 35 = .ok (.dup2, 1) := by decide +kernel
theorem dX3_passYears_36 : decode cX3_passYears 36 = .ok (.iaload, 1) := by decide +kernel
theorem dX3_passYears_37 : decode cX3_passYears 37 = .ok (.iload_n 2, 1) := by decide +kernel
theorem dX3_passYears_38 : decode cX3_passYears 38 = .ok (.aload_n 1, 1) := by decide +kernel
theorem dX3_passYears_39 : decode cX3_passYears 39 = .ok (.getfield 66, 3) := by decide +kernel
theorem dX3_passYears_42 : decode cX3_passYears 42 = .ok (.iload_n 3, 1) := by decide +kernel
theorem dX3_passYears_43 : decode cX3_passYears 43 = .ok (.iaload, 1) := by decide +kernel
theorem dX3_passYears_44 : decode cX3_passYears 44 = .ok (.aload_n 0, 1) := by decide +kernel
theorem dX3_passYears_45 : decode cX3_passYears 45 = .ok (.getfield 11, 3) := by decide +kernel
theorem dX3_passYears_48 : decode cX3_passYears 48 = .ok (.iconst 1, 1) := by decide +kernel
theorem dX3_passYears_49 : decode cX3_passYears 49 = .ok (.iload_n 3, 1) := by decide +kernel
theorem dX3_passYears_50 : decode cX3_passYears 50 = .ok (.iadd, 1) := by decide +kernel
theorem dX3_passYears_51 : decode cX3_passYears 51 = .ok (.iaload, 1) := by decide +kernel
theorem dX3_passYears_52 : decode cX3_passYears 52 = .ok (.isub, 1) := by decide +kernel
theorem dX3_passYears_53 : decode cX3_passYears 53 = .ok (.invokestatic 34, 3) := by decide +kernel
theorem dX3_passYears_56 : decode cX3_passYears 56 = .ok (.iadd, 1) := by decide +kernel
theorem dX3_passYears_57 : decode cX3_passYears 57 = .ok (.iastore, 1) := by decide +kernel
theorem dX3_passYears_58 : decode cX3_passYears 58 = .ok (.aload_n 0, 1) := by decide +kernel
theorem dX3_passYears_59 : decode cX3_passYears 59 = .ok (.aload_n 1, 1) := by decide +kernel
theorem dX3_passYears_60 : decode cX3_passYears 60 = .ok (.iload_n 3, 1) := by decide +kernel
theorem dX3_passYears_61 : decode cX3_passYears 61 = .ok (.invokevirtual 24, 3) := by decide +kernel
theorem dX3_passYears_64 : decode cX3_passYears 64 = .ok (.goto 37, 3) := by decide +kernel
theorem dX3_passYears_67 : decode cX3_passYears 67 = .ok (.aload_n 0, 1) := by decide +kernel
theorem dX3_passYears_68 : decode cX3_passYears 68 = .ok (.iload_n 3, 1) := by decide +kernel
theorem dX3_passYears_69 : decode cX3_passYears 69 = .ok (.invokevirtual 57, 3) := by decide +kernel
theorem dX3_passYears_72 : decode cX3_passYears 72 = .ok (.ifCond .eq 29, 3) := by decide +kernel
theorem dX3_passYears_75 : decode cX3_passYears 75 = .ok (.aload_n 0, 1) := by decide +kernel
theorem dX3_passYears_76 : decode cX3_passYears 76 = .ok (.getfield 11, 3) := by decide +kernel
theorem dX3_passYears_79 : decode cX3_passYears 79 = .ok (.bipush 15, 2) := by decide +kernel
theorem dX3_passYears_81 : decode cX3_passYears 81 = .ok (.iload_n 3, 1) := by decide +kernel
theorem dX3_passYears_82 : decode cX3_passYears 82 = .ok (.iadd, 1) := by decide +kernel
theorem dX3_passYears_83 : decode cX3_passYears 83 = .ok (.dup2, 1) := by decide +kernel
theorem dX3_passYears_84 : decode cX3_passYears 84 = .ok (.iaload, 1) := by decide +kernel
theorem dX3_passYears_85 : decode cX3_passYears 85 = .ok (.iload_n 2, 1) := by decide +kernel
theorem dX3_passYears_86 : decode cX3_passYears 86 = .ok (.iadd, 1) := by decide +kernel
theorem dX3_passYears_87 : decode cX3_passYears 87 = .ok (.iastore, 1) := by decide +kernel
theorem dX3_passYears_88 : decode cX3_passYears 88 = .ok (.aload_n 0, 1) := by decide +kernel
theorem dX3_passYears_89 : decode cX3_passYears 89 = .ok (.getfield 11, 3) := by decide +kernel
theorem dX3_passYears_92 : decode cX3_passYears 92 = .ok (.bipush 22, 2) := by decide +kernel
theorem dX3_passYears_94 : decode cX3_passYears 94 = .ok (.iload_n 3, 1) := by decide +kernel
theorem dX3_passYears_95 : decode cX3_passYears 95 = .ok (.iadd, 1) := by decide +kernel
theorem dX3_passYears_96 : decode cX3_passYears 96 = .ok (.dup2, 1) := by decide +kernel
theorem dX3_passYears_97 : decode cX3_passYears 97 = .ok (.iaload, 1) := by decide +kernel
theorem dX3_passYears_98 : decode cX3_passYears 98 = .ok (.iload_n 2, 1) := by decide +kernel
theorem dX3_passYears_99 : decode cX3_passYears 99 = .ok (.iadd, 1) := by decide +kernel
theorem dX3_passYears_100 : decode cX3_passYears 100 = .ok (.iastore, 1) := by decide +kernel
theorem dX3_passYears_101 : decode cX3_passYears 101 = .ok (.iinc 3 1, 3) := by decide +kernel
theorem dX3_passYears_104 : decode cX3_passYears 104 = .ok (.goto (-92), 3) := by decide +kernel
theorem dX3_passYears_107 : decode cX3_passYears 107 = .ok (.iconst 0, 1) := by decide +kernel
theorem dX3_passYears_108 : decode cX3_passYears 108 = .ok (.istore_n 3, 1) := by decide +kernel
theorem dX3_passYears_109 : decode cX3_passYears 109 = .ok (.iload_n 3, 1) := by decide +kernel
theorem dX3_passYears_110 : decode cX3_passYears 110 = .ok (.aload_n 1, 1) := by decide +kernel
theorem dX3_passYears_111 : decode cX3_passYears 111 = .ok (.getfield 28, 3) := by decide +kernel
theorem dX3_passYears_114 : decode cX3_passYears 114 = .ok (.if_icmp .ge 33, 3) := by decide +kernel
theorem dX3_passYears_117 : decode cX3_passYears 117 = .ok (.aload_n 0, 1) := by decide +kernel
theorem dX3_passYears_118 : decode cX3_passYears 118 = .ok (.getfield 11, 3) := by decide +kernel
theorem dX3_passYears_121 : decode cX3_passYears 121 = .ok (.bipush 29, 2) := by decide +kernel
theorem dX3_passYears_123 : decode cX3_passYears 123 = .ok (.iload_n 3, 1) := by decide +kernel
theorem dX3_passYears_124 : decode cX3_passYears 124 = .ok (.iadd, 1) := by decide +kernel
theorem dX3_passYears_125 : decode cX3_passYears 125 = .ok (.aload_n 1, 1) := by decide +kernel
theorem dX3_passYears_126 : decode cX3_passYears 126 = .ok (.iload_n 3, 1) := by decide +kernel
theorem dX3_passYears_127 : decode cX3_passYears 127 = .ok (.aload_n 0, 1) := by decide +kernel
theorem dX3_passYears_128 : decode cX3_passYears 128 = .ok (.getfield 11, 3) := by decide +kernel
theorem dX3_passYears_131 : decode cX3_passYears 131 = .ok (.bipush 29, 2) := by decide +kernel
theorem dX3_passYears_133 : decode cX3_passYears 133 = .ok (.iload_n 3, 1) := by decide +kernel
theorem dX3_passYears_134 : decode cX3_passYears 134 = .ok (.iadd, 1) := by decide +kernel
theorem dX3_passYears_135 : decode cX3_passYears 135 = .ok (.iaload, 1) := by decide +kernel
theorem dX3_passYears_136 : decode cX3_passYears 136 = .ok (.iload_n 2, 1) := by decide +kernel
theorem dX3_passYears_137 : decode cX3_passYears 137 = .ok (.invokevirtual 69, 3) := by decide +kernel
theorem dX3_passYears_140 : decode cX3_passYears 140 = .ok (.iastore, 1) := by decide +kernel
theorem dX3_passYears_141 : decode cX3_passYears 141 = .ok (.iinc 3 1, 3) := by decide +kernel
theorem dX3_passYears_144 : decode cX3_passYears 144 = .ok (.goto (-35), 3) := by decide +kernel
theorem dX3_passYears_147 : decode cX3_passYears 147 = .ok (.return_, 1) := by decide +kernel
set_option maxRecDepth 20000 in
theorem ggX3_goDown_X3_isPerson : GoodIn wsX3_goDown wsX3_isPerson := goodIn_r _ [5] (by decide +kernel) (by decide +kernel)
set_option maxRecDepth 20000 in
theorem gX3_goDown_X3_isPerson : GoodIn wsX3_goDown (va_wsS RX3 46 yX3_isPerson wsX3_isPerson) := goodIn_app (goodIn_of _ (by decide +kernel)) ggX3_goDown_X3_isPerson
theorem dX3_goDown_0 : decode cX3_goDown 0 = .ok (.iload_n 1, 1) := by decide +kernel
theorem dX3_goDown_1 : decode cX3_goDown 1 = .ok (.invokestatic 46, 3) := by decide +kernel
theorem dX3_goDown_4 : decode cX3_goDown 4 = .ok (.ifCond .eq 26, 3) := by decide +kernel
theorem dX3_goDown_7 : decode cX3_goDown 7 = .ok (.aload_n 0, 1) := by decide +kernel
theorem dX3_goDown_8 : decode cX3_goDown 8 = .ok (.getfield 11, 3) := by decide +kernel
theorem dX3_goDown_11 : decode cX3_goDown 11 = .ok (.bipush 8, 2) := by decide +kernel
theorem dX3_goDown_13 : decode cX3_goDown 13 = .ok (.iload_n 1, 1) := by decide +kernel
theorem dX3_goDown_14 : decode cX3_goDown 14 = .ok (.iadd, 1) := by decide +kernel
theorem dX3_goDown_15 : decode cX3_goDown 15 = .ok (.bipush 10, 2) := by decide +kernel
theorem dX3_goDown_17 : decode cX3_goDown 17 = .ok (.iload_n 2, 1) := by decide +kernel
theorem dX3_goDown_18 : decode cX3_goDown 18 = .ok (.iadd, 1) := by decide +kernel
theorem dX3_goDown_19 : decode cX3_goDown 19 = .ok (.iastore, 1) := by decide +kernel
theorem dX3_goDown_20 : decode cX3_goDown 20 = .ok (.aload_n 0, 1) := by decide +kernel
theorem dX3_goDown_21 : decode cX3_goDown 21 = .ok (.getfield 11, 3) := by decide +kernel
theorem dX3_goDown_24 : decode cX3_goDown 24 = .ok (.bipush 22, 2) := by decide +kernel
theorem dX3_goDown_26 : decode cX3_goDown 26 = .ok (.iload_n 1, 1) := by decide +kernel
theorem dX3_goDown_27 : decode cX3_goDown 27 = .ok (.iadd, 1) := by decide +kernel
theorem dX3_goDown_28 : decode cX3_goDown 28 = .ok (.iconst 0, 1) := by decide +kernel
theorem dX3_goDown_29 : decode cX3_goDown 29 = .ok (.iastore, 1) := by decide +kernel
theorem dX3_goDown_30 : decode cX3_goDown 30 = .ok (.return_, 1) := by decide +kernel
set_option maxRecDepth 20000 in
theorem ggX3_comeUp_X3_isPerson : GoodIn wsX3_comeUp wsX3_isPerson := goodIn_r _ [5] (by decide +kernel) (by decide +kernel)
set_option maxRecDepth 20000 in
theorem gX3_comeUp_X3_isPerson : GoodIn wsX3_comeUp (va_wsS RX3 46 yX3_isPerson wsX3_isPerson) := goodIn_app (goodIn_of _ (by decide +kernel)) ggX3_comeUp_X3_isPerson
theorem dX3_comeUp_0 : decode cX3_comeUp 0 = .ok (.iload_n 1, 1) := by decide +kernel
theorem dX3_comeUp_1 : decode cX3_comeUp 1 = .ok (.invokestatic 46, 3) := by decide +kernel
theorem dX3_comeUp_4 : decode cX3_comeUp 4 = .ok (.ifCond .eq 13, 3) := by decide +kernel
theorem dX3_comeUp_7 : decode cX3_comeUp 7 = .ok (.aload_n 0, 1) := by decide +kernel
theorem dX3_comeUp_8 : decode cX3_comeUp 8 = .ok (.getfield 11, 3) := by decide +kernel
theorem dX3_comeUp_11 : decode cX3_comeUp 11 = .ok (.bipush 8, 2) := by decide +kernel
theorem dX3_comeUp_13 : decode cX3_comeUp 13 = .ok (.iload_n 1, 1) := by decide +kernel
theorem dX3_comeUp_14 : decode cX3_comeUp 14 = .ok (.iadd, 1) := by decide +kernel
theorem dX3_comeUp_15 : decode cX3_comeUp 15 = .ok (.iconst 0, 1) := by decide +kernel
theorem dX3_comeUp_16 : decode cX3_comeUp 16 = .ok (.iastore, 1) := by decide +kernel
theorem dX3_comeUp_17 : decode cX3_comeUp 17 = .ok (.return_, 1) := by decide +kernel
set_option maxRecDepth 20000 in
theorem ggX3_openBox_X3_isPerson : GoodIn wsX3_openBox wsX3_isPerson := goodIn_r _ [5] (by decide +kernel) (by decide +kernel)
set_option maxRecDepth 20000 in
theorem gX3_openBox_X3_isPerson : GoodIn wsX3_openBox (va_wsS RX3 46 yX3_isPerson wsX3_isPerson) := goodIn_app (goodIn_of _ (by decide +kernel)) ggX3_openBox_X3_isPerson
set_option maxRecDepth 20000 in
theorem ggX3_openBox_X3_buryIfOld : GoodIn wsX3_openBox wsX3_buryIfOld := goodIn_r _ [9, 1, 10, 11, 12, 13, 14, 15, 16, 17, 18, 19, 20, 21, 22] (by decide +kernel) (by decide +kernel)
set_option maxRecDepth 20000 in
theorem gX3_openBox_X3_buryIfOld : GoodIn wsX3_openBox (wsV RX3 24 RX3 yX3_buryIfOld wsX3_buryIfOld) := goodIn_app (goodIn_of _ (by decide +kernel)) ggX3_openBox_X3_buryIfOld
theorem dX3_openBox_0 : decode cX3_openBox 0 = .ok (.iload_n 2, 1) := by decide +kernel
theorem dX3_openBox_1 : decode cX3_openBox 1 = .ok (.invokestatic 46, 3) := by decide +kernel
theorem dX3_openBox_4 : decode cX3_openBox 4 = .ok (.ifCond .eq 39, 3) := by decide +kernel
theorem dX3_openBox_7 : decode cX3_openBox 7 = .ok (.aload_n 0, 1) := by decide +kernel
theorem dX3_openBox_8 : decode cX3_openBox 8 = .ok (.getfield 11, 3) := by decide +kernel
theorem dX3_openBox_11 : decode cX3_openBox 11 = .ok (.iconst 1, 1) := by decide +kernel
theorem dX3_openBox_12 : decode cX3_openBox 12 = .ok (.iload_n 2, 1) := by decide +kernel
theorem dX3_openBox_13 : decode cX3_openBox 13 = .ok (.iadd, 1) := by decide +kernel
theorem dX3_openBox_14 : decode cX3_openBox 14 = .ok (.dup2, 1) := by decide +kernel
theorem dX3_openBox_15 : decode cX3_openBox 15 = .ok (.iaload, 1) := by decide +kernel
theorem dX3_openBox_16 : decode cX3_openBox 16 = .ok (.aload_n 0, 1) := by decide +kernel
theorem dX3_openBox_17 : decode cX3_openBox 17 = .ok (.getfield 11, 3) := by decide +kernel
theorem dX3_openBox_20 : decode cX3_openBox 20 = .ok (.bipush 15, 2) := by decide +kernel
theorem dX3_openBox_22 : decode cX3_openBox 22 = .ok (.iload_n 2, 1) := by decide +kernel
theorem dX3_openBox_23 : decode cX3_openBox 23 = .ok (.iadd, 1) := by decide +kernel
theorem dX3_openBox_24 : decode cX3_openBox 24 = .ok (.iaload, 1) := by decide +kernel
theorem dX3_openBox_25 : decode cX3_openBox 25 = .ok (.iadd, 1) := by decide +kernel
theorem dX3_openBox_26 : decode cX3_openBox 26 = .ok (.iastore, 1) := by decide +kernel
theorem dX3_openBox_27 : decode cX3_openBox 27 = .ok (.aload_n 0, 1) := by decide +kernel
theorem dX3_openBox_28 : decode cX3_openBox 28 = .ok (.getfield 11, 3) := by decide +kernel
theorem dX3_openBox_31 : decode cX3_openBox 31 = .ok (.bipush 15, 2) := by decide +kernel
theorem dX3_openBox_33 : decode cX3_openBox 33 = .ok (.iload_n 2, 1) := by decide +kernel
theorem dX3_openBox_34 : decode cX3_openBox 34 = .ok (.iadd, 1) := by decide +kernel
theorem dX3_openBox_35 : decode cX3_openBox 35 = .ok (.iconst 0, 1) := by decide +kernel
theorem dX3_openBox_36 : decode cX3_openBox 36 = .ok (.iastore, 1) := by decide +kernel
theorem dX3_openBox_37 : decode cX3_openBox 37 = .ok (.aload_n 0, 1) := by decide +kernel
theorem dX3_openBox_38 : decode cX3_openBox 38 = .ok (.aload_n 1, 1) := by decide +kernel
theorem dX3_openBox_39 : decode cX3_openBox 39 = .ok (.iload_n 2, 1) := by decide +kernel
theorem dX3_openBox_40 : decode cX3_openBox 40 = .ok (.invokevirtual 24, 3) := by decide +kernel
theorem dX3_openBox_43 : decode cX3_openBox 43 = .ok (.return_, 1) := by decide +kernel
set_option maxRecDepth 20000 in
theorem ggX3_takeGood_X3_isGood : GoodIn wsX3_takeGood wsX3_isGood := goodIn_r _ [5] (by decide +kernel) (by decide +kernel)
set_option maxRecDepth 20000 in
theorem gX3_takeGood_X3_isGood : GoodIn wsX3_takeGood (va_wsS RX3 50 yX3_isGood wsX3_isGood) := goodIn_app (goodIn_of _ (by decide +kernel)) ggX3_takeGood_X3_isGood
theorem dX3_takeGood_0 : decode cX3_takeGood 0 = .ok (.iload_n 1, 1) := by decide +kernel
theorem dX3_takeGood_1 : decode cX3_takeGood 1 = .ok (.invokestatic 50, 3) := by decide +kernel
theorem dX3_takeGood_4 : decode cX3_takeGood 4 = .ok (.ifCond .eq 13, 3) := by decide +kernel
theorem dX3_takeGood_7 : decode cX3_takeGood 7 = .ok (.aload_n 0, 1) := by decide +kernel
theorem dX3_takeGood_8 : decode cX3_takeGood 8 = .ok (.getfield 11, 3) := by decide +kernel
theorem dX3_takeGood_11 : decode cX3_takeGood 11 = .ok (.bipush 29, 2) := by decide +kernel
theorem dX3_takeGood_13 : decode cX3_takeGood 13 = .ok (.iload_n 1, 1) := by decide +kernel
theorem dX3_takeGood_14 : decode cX3_takeGood 14 = .ok (.iadd, 1) := by decide +kernel
theorem dX3_takeGood_15 : decode cX3_takeGood 15 = .ok (.iconst 0, 1) := by decide +kernel
theorem dX3_takeGood_16 : decode cX3_takeGood 16 = .ok (.iastore, 1) := by decide +kernel
theorem dX3_takeGood_17 : decode cX3_takeGood 17 = .ok (.return_, 1) := by decide +kernel
theorem dX3_buryIfOld_0 : decode cX3_buryIfOld 0 = .ok (.aload_n 0, 1) := by decide +kernel
theorem dX3_buryIfOld_1 : decode cX3_buryIfOld 1 = .ok (.getfield 11, 3) := by decide +kernel
theorem dX3_buryIfOld_4 : decode cX3_buryIfOld 4 = .ok (.iconst 1, 1) := by decide +kernel
theorem dX3_buryIfOld_5 : decode cX3_buryIfOld 5 = .ok (.iload_n 2, 1) := by decide +kernel
theorem dX3_buryIfOld_6 : decode cX3_buryIfOld 6 = .ok (.iadd, 1) := by decide +kernel
theorem dX3_buryIfOld_7 : decode cX3_buryIfOld 7 = .ok (.iaload, 1) := by decide +kernel
theorem dX3_buryIfOld_8 : decode cX3_buryIfOld 8 = .ok (.aload_n 1, 1) := by decide +kernel
theorem dX3_buryIfOld_9 : decode cX3_buryIfOld 9 = .ok (.getfield 66, 3) := by decide +kernel
theorem dX3_buryIfOld_12 : decode cX3_buryIfOld 12 = .ok (.iload_n 2, 1) := by decide +kernel
theorem dX3_buryIfOld_13 : decode cX3_buryIfOld 13 = .ok (.iaload, 1) := by decide +kernel
theorem dX3_buryIfOld_14 : decode cX3_buryIfOld 14 = .ok (.if_icmp .lt 13, 3) := by decide +kernel
theorem dX3_buryIfOld_17 : decode cX3_buryIfOld 17 = .ok (.aload_n 0, 1) := by decide +kernel
theorem dX3_buryIfOld_18 : decode cX3_buryIfOld 18 = .ok (.getfield 11, 3) := by decide +kernel
theorem dX3_buryIfOld_21 : decode cX3_buryIfOld 21 = .ok (.bipush 8, 2) := by decide +kernel
theorem dX3_buryIfOld_23 : decode cX3_buryIfOld 23 = .ok (.iload_n 2, 1) := by decide +kernel
theorem dX3_buryIfOld_24 : decode cX3_buryIfOld 24 = .ok (.iadd, 1) := by decide +kernel
theorem dX3_buryIfOld_25 : decode cX3_buryIfOld 25 = .ok (.iconst 1, 1) := by decide +kernel
theorem dX3_buryIfOld_26 : decode cX3_buryIfOld 26 = .ok (.iastore, 1) := by decide +kernel
theorem dX3_buryIfOld_27 : decode cX3_buryIfOld 27 = .ok (.return_, 1) := by decide +kernel
theorem dX3_isPerson_0 : decode cX3_isPerson 0 = .ok (.iload_n 0, 1) := by decide +kernel
theorem dX3_isPerson_1 : decode cX3_isPerson 1 = .ok (.ifCond .lt 13, 3) := by decide +kernel
theorem dX3_isPerson_4 : decode cX3_isPerson 4 = .ok (.iload_n 0, 1) := by decide +kernel
theorem dX3_isPerson_5 : decode cX3_isPerson 5 = .ok (.bipush 7, 2) := by decide +kernel
theorem dX3_isPerson_7 : decode cX3_isPerson 7 = .ok (.if_icmp .ge 7, 3) := by decide +kernel
theorem dX3_isPerson_10 : decode cX3_isPerson 10 = .ok (.iconst 1, 1) := by decide +kernel
theorem dX3_isPerson_11 : decode cX3_isPerson 11 = .ok (.goto 4, 3) := by decide +kernel
theorem dX3_isPerson_14 : decode cX3_isPerson 14 = .ok (.iconst 0, 1) := by decide +kernel
theorem dX3_isPerson_15 : decode cX3_isPerson 15 = .ok (.ireturn, 1) := by decide +kernel
theorem dX3_isGood_0 : decode cX3_isGood 0 = .ok (.iload_n 0, 1) := by decide +kernel
theorem dX3_isGood_1 : decode cX3_isGood 1 = .ok (.ifCond .lt 13, 3) := by decide +kernel
theorem dX3_isGood_4 : decode cX3_isGood 4 = .ok (.iload_n 0, 1) := by decide +kernel
theorem dX3_isGood_5 : decode cX3_isGood 5 = .ok (.bipush 6, 2) := by decide +kernel
theorem dX3_isGood_7 : decode cX3_isGood 7 = .ok (.if_icmp .ge 7, 3) := by decide +kernel
theorem dX3_isGood_10 : decode cX3_isGood 10 = .ok (.iconst 1, 1) := by decide +kernel
theorem dX3_isGood_11 : decode cX3_isGood 11 = .ok (.goto 4, 3) := by decide +kernel
theorem dX3_isGood_14 : decode cX3_isGood 14 = .ok (.iconst 0, 1) := by decide +kernel
theorem dX3_isGood_15 : decode cX3_isGood 15 = .ok (.ireturn, 1) := by decide +kernel
theorem dX4_init_0 : decode cX4_init 0 = .ok (.aload_n 0, 1) := by decide +kernel
theorem dX4_init_1 : decode cX4_init 1 = .ok (.invokespecial 1, 3) := by decide +kernel
theorem dX4_init_4 : decode cX4_init 4 = .ok (.aload_n 0, 1) := by decide +kernel
theorem dX4_init_5 : decode cX4_init 5 = .ok (.bipush 20, 2) := by decide +kernel
theorem dX4_init_7 : decode cX4_init 7 = .ok (.bipush 35, 2) := by decide +kernel
theorem dX4_init_9 : decode cX4_init 9 = .ok (.multianewarray 11 2, 4) := by decide +kernel
theorem dX4_init_13 : decode cX4_init 13 = .ok (.putfield 13, 3) := by decide +kernel
theorem dX4_init_16 : decode cX4_init 16 = .ok (.return_, 1) := by decide +kernel
theorem dX4_forget_0 : decode cX4_forget 0 = .ok (.aload_n 0, 1) := by decide +kernel
theorem dX4_forget_1 : decode cX4_forget 1 = .ok (.iconst 0, 1) := by decide +kernel
theorem dX4_forget_2 : decode cX4_forget 2 = .ok (.putfield 16, 3) := by decide +kernel
theorem dX4_forget_5 : decode cX4_forget 5 = .ok (.return_, 1) := by decide +kernel
set_option maxRecDepth 20000 in
theorem ggX4_remember_X3_copyTo : GoodIn wsX4_remember wsX3_copyTo := goodIn_r _ [12, 13, 14, 5, 6, 7, 15, 16, 17, 18, 22] (by decide +kernel) (by decide +kernel)
set_option maxRecDepth 20000 in
theorem gX4_remember_X3_copyTo : GoodIn wsX4_remember (wsV RX4 23 RX3 yX3_copyTo wsX3_copyTo) := goodIn_app (goodIn_of _ (by decide +kernel)) ggX4_remember_X3_copyTo
theorem dX4_remember_0 : decode cX4_remember 0 = .ok (.aload_n 1, 1) := by decide +kernel
theorem dX4_remember_1 : decode cX4_remember 1 = .ok (.aload_n 0, 1) := by decide +kernel
theorem dX4_remember_2 : decode cX4_remember 2 = .ok (.getfield 13, 3) := by decide +kernel
theorem dX4_remember_5 : decode cX4_remember 5 = .ok (.aload_n 0, 1) := by decide +kernel
theorem dX4_remember_6 : decode cX4_remember 6 = .ok (.getfield 20, 3) := by decide +kernel
theorem dX4_remember_9 : decode cX4_remember 9 = .ok (.aaload, 1) := by decide +kernel
theorem dX4_remember_10 : decode cX4_remember 10 = .ok (.invokevirtual 23, 3) := by decide +kernel
theorem dX4_remember_13 : decode cX4_remember 13 = .ok (.aload_n 0, 1) := by decide +kernel
theorem dX4_remember_14 : decode cX4_remember 14 = .ok (.aload_n 0, 1) := by decide +kernel
theorem dX4_remember_15 : decode cX4_remember 15 = .ok (.getfield 20, 3) := by decide +kernel
theorem dX4_remember_18 : decode cX4_remember 18 = .ok (.iconst 1, 1) := by decide +kernel
theorem dX4_remember_19 : decode cX4_remember 19 = .ok (.iadd, 1) := by decide +kernel
theorem dX4_remember_20 : decode cX4_remember 20 = .ok (.bipush 20, 2) := by decide +kernel
theorem dX4_remember_22 : decode cX4_remember 22 = .ok (.irem, 1) := by decide +kernel
theorem dX4_remember_23 : decode cX4_remember 23 = .ok (.putfield 20, 3) := by decide +kernel
theorem dX4_remember_26 : decode cX4_remember 26 = .ok (.aload_n 0, 1) := by decide +kernel
theorem dX4_remember_27 : decode cX4_remember 27 = .ok (.aload_n 0, 1) := by decide +kernel
theorem dX4_remember_28 : decode cX4_remember 28 = .ok (.getfield 16, 3) := by decide +kernel
theorem dX4_remember_31 : decode cX4_remember 31 = .ok (.iconst 1, 1) := by decide +kernel
theorem dX4_remember_32 : decode cX4_remember 32 = .ok (.iadd, 1) := by decide +kernel
theorem dX4_remember_33 : decode cX4_remember 33 = .ok (.bipush 20, 2) := by decide +kernel
theorem dX4_remember_35 : decode cX4_remember 35 = .ok (.invokestatic 27, 3) := by decide +kernel
theorem dX4_remember_38 : decode cX4_remember 38 = .ok (.putfield 16, 3) := by decide +kernel
theorem dX4_remember_41 : decode cX4_remember 41 = .ok (.return_, 1) := by decide +kernel
set_option maxRecDepth 20000 in
theorem ggX4_bringBack_X3_copyFrom : GoodIn wsX4_bringBack wsX3_copyFrom := goodIn_r _ [8, 9, 10, 11, 12, 13, 14, 15, 16, 17, 21] (by decide +kernel) (by decide +kernel)
set_option maxRecDepth 20000 in
theorem gX4_bringBack_X3_copyFrom : GoodIn wsX4_bringBack (wsV RX4 33 RX3 yX3_copyFrom wsX3_copyFrom) := goodIn_app (goodIn_of _ (by decide +kernel)) ggX4_bringBack_X3_copyFrom
theorem dX4_bringBack_0 : decode cX4_bringBack 0 = .ok (.aload_n 0, 1) := by decide +kernel
theorem dX4_bringBack_1 : decode cX4_bringBack 1 = .ok (.getfield 16, 3) := by decide +kernel
theorem dX4_bringBack_4 : decode cX4_bringBack 4 = .ok (.ifCond .le 42, 3) := by decide +kernel
theorem dX4_bringBack_7 : decode cX4_bringBack 7 = .ok (.aload_n 0, 1) := by decide +kernel
theorem dX4_bringBack_8 : decode cX4_bringBack 8 = .ok (.aload_n 0, 1) := by decide +kernel
theorem dX4_bringBack_9 : decode cX4_bringBack 9 = .ok (.getfield 20, 3) := by decide +kernel
theorem dX4_bringBack_12 : decode cX4_bringBack 12 = .ok (.bipush 20, 2) := by decide +kernel
theorem dX4_bringBack_14 : decode cX4_bringBack 14 = .ok (.iadd, 1) := by decide +kernel
theorem dX4_bringBack_15 : decode cX4_bringBack 15 = .ok (.iconst 1, 1) := by decide +kernel
theorem dX4_bringBack_16 : decode cX4_bringBack 16 = .ok (.isub, 1) := by decide +kernel
theorem dX4_bringBack_17 : decode cX4_bringBack 17 = .ok (.bipush 20, 2) := by decide +kernel
theorem dX4_bringBack_19 : decode cX4_bringBack 19 = .ok (.irem, 1) := by decide +kernel
theorem dX4_bringBack_20 : decode cX4_bringBack 20 = .ok (.putfield 20, 3) := by decide +kernel
theorem dX4_bringBack_23 : decode cX4_bringBack 23 = .ok (.aload_n 0, 1) := by decide +kernel
theorem dX4_bringBack_24 : decode cX4_bringBack 24 = .ok (.dup, 1) := by decide +kernel
theorem dX4_bringBack_25 : decode cX4_bringBack 25 = .ok (.getfield 16, 3) := by decide +kernel
theorem dX4_bringBack_28 : decode cX4_bringBack 28 = .ok (.iconst 1, 1) := by decide +kernel
theorem dX4_bringBack_29 : decode cX4_bringBack 29 = .ok (.isub, 1) := by decide +kernel
theorem dX4_bringBack_30 : decode cX4_bringBack 30 = .ok (.putfield 16, 3) := by decide +kernel
theorem dX4_bringBack_33 : decode cX4_bringBack 33 = .ok (.aload_n 1, 1) := by decide +kernel
theorem dX4_bringBack_34 : decode cX4_bringBack 34 = .ok (.aload_n 0, 1) := by decide +kernel
theorem dX4_bringBack_35 : decode cX4_bringBack 35 = .ok (.getfield 13, 3) := by decide +kernel
theorem dX4_bringBack_38 : decode cX4_bringBack 38 = .ok (.aload_n 0, 1) := by decide +kernel
theorem dX4_bringBack_39 : decode cX4_bringBack 39 = .ok (.getfield 20, 3) := by decide +kernel
theorem dX4_bringBack_42 : decode cX4_bringBack 42 = .ok (.aaload, 1) := by decide +kernel
theorem dX4_bringBack_43 : decode cX4_bringBack 43 = .ok (.invokevirtual 33, 3) := by decide +kernel
theorem dX4_bringBack_46 : decode cX4_bringBack 46 = .ok (.return_, 1) := by decide +kernel
theorem dX5_init_0 : decode cX5_init 0 = .ok (.aload_n 0, 1) := by decide +kernel
theorem dX5_init_1 : decode cX5_init 1 = .ok (.invokespecial 3, 3) := by decide +kernel
theorem dX5_init_4 : decode cX5_init 4 = .ok (.aload_n 0, 1) := by decide +kernel
theorem dX5_init_5 : decode cX5_init 5 = .ok (.iconst 4, 1) := by decide +kernel
theorem dX5_init_6 : decode cX5_init 6 = .ok (.newarray .int, 2) := by decide +kernel
theorem dX5_init_8 : decode cX5_init 8 = .ok (.putfield 9, 3) := by decide +kernel
theorem dX5_init_11 : decode cX5_init 11 = .ok (.aload_n 0, 1) := by decide +kernel
theorem dX5_init_12 : decode cX5_init 12 = .ok (.bipush 7, 2) := by decide +kernel
theorem dX5_init_14 : decode cX5_init 14 = .ok (.newarray .int, 2) := by decide +kernel
theorem dX5_init_16 : decode cX5_init 16 = .ok (.putfield 15, 3) := by decide +kernel
theorem dX5_init_19 : decode cX5_init 19 = .ok (.aload_n 0, 1) := by decide +kernel
theorem dX5_init_20 : decode cX5_init 20 = .ok (.bipush 7, 2) := by decide +kernel
theorem dX5_init_22 : decode cX5_init 22 = .ok (.newarray .int, 2) := by decide +kernel
theorem dX5_init_24 : decode cX5_init 24 = .ok (.putfield 18, 3) := by decide +kernel
theorem dX5_init_27 : decode cX5_init 27 = .ok (.aload_n 0, 1) := by decide +kernel
theorem dX5_init_28 : decode cX5_init 28 = .ok (.bipush 6, 2) := by decide +kernel
theorem dX5_init_30 : decode cX5_init 30 = .ok (.newarray .int, 2) := by decide +kernel
theorem dX5_init_32 : decode cX5_init 32 = .ok (.putfield 21, 3) := by decide +kernel
theorem dX5_init_35 : decode cX5_init 35 = .ok (.aload_n 0, 1) := by decide +kernel
theorem dX5_init_36 : decode cX5_init 36 = .ok (.bipush 6, 2) := by decide +kernel
theorem dX5_init_38 : decode cX5_init 38 = .ok (.newarray .int, 2) := by decide +kernel
theorem dX5_init_40 : decode cX5_init 40 = .ok (.putfield 24, 3) := by decide +kernel
theorem dX5_init_43 : decode cX5_init 43 = .ok (.aload_n 0, 1) := by decide +kernel
theorem dX5_init_44 : decode cX5_init 44 = .ok (.bipush 6, 2) := by decide +kernel
theorem dX5_init_46 : decode cX5_init 46 = .ok (.newarray .int, 2) := by decide +kernel
theorem dX5_init_48 : decode cX5_init 48 = .ok (.putfield 27, 3) := by decide +kernel
theorem dX5_init_51 : decode cX5_init 51 = .ok (.return_, 1) := by decide +kernel
theorem dX5_empty_0 : decode cX5_empty 0 = .ok (.aload_n 0, 1) := by decide +kernel
theorem dX5_empty_1 : decode cX5_empty 1 = .ok (.iconst 0, 1) := by decide +kernel
theorem dX5_empty_2 : decode cX5_empty 2 = .ok (.putfield 30, 3) := by decide +kernel
theorem dX5_empty_5 : decode cX5_empty 5 = .ok (.aload_n 0, 1) := by decide +kernel
theorem dX5_empty_6 : decode cX5_empty 6 = .ok (.iconst 0, 1) := by decide +kernel
theorem dX5_empty_7 : decode cX5_empty 7 = .ok (.putfield 34, 3) := by decide +kernel
theorem dX5_empty_10 : decode cX5_empty 10 = .ok (.aload_n 0, 1) := by decide +kernel
theorem dX5_empty_11 : decode cX5_empty 11 = .ok (.iconst 0, 1) := by decide +kernel
theorem dX5_empty_12 : decode cX5_empty 12 = .ok (.putfield 37, 3) := by decide +kernel
theorem dX5_empty_15 : decode cX5_empty 15 = .ok (.aload_n 0, 1) := by decide +kernel
theorem dX5_empty_16 : decode cX5_empty 16 = .ok (.iconst 0, 1) := by decide +kernel
theorem dX5_empty_17 : decode cX5_empty 17 = .ok (.putfield 40, 3) := by decide +kernel
theorem dX5_empty_20 : decode cX5_empty 20 = .ok (.aload_n 0, 1) := by decide +kernel
theorem dX5_empty_21 : decode cX5_empty 21 = .ok (.iconst 0, 1) := by decide +kernel
theorem dX5_empty_22 : decode cX5_empty 22 = .ok (.putfield 43, 3) := by decide +kernel
theorem dX5_empty_25 : decode cX5_empty 25 = .ok (.return_, 1) := by decide +kernel
theorem dX5_isTold_0 : decode cX5_isTold 0 = .ok (.aload_n 0, 1) := by decide +kernel
theorem dX5_isTold_1 : decode cX5_isTold 1 = .ok (.getfield 30, 3) := by decide +kernel
theorem dX5_isTold_4 : decode cX5_isTold 4 = .ok (.ifCond .le 7, 3) := by decide +kernel
theorem dX5_isTold_7 : decode cX5_isTold 7 = .ok (.iconst 1, 1) := by decide +kernel
theorem dX5_isTold_8 : decode cX5_isTold 8 = .ok (.goto 4, 3) := by decide +kernel
theorem dX5_isTold_11 : decode cX5_isTold 11 = .ok (.iconst 0, 1) := by decide +kernel
theorem dX5_isTold_12 : decode cX5_isTold 12 = .ok (.ireturn, 1) := by decide +kernel
theorem dX5_hasDepth_0 : decode cX5_hasDepth 0 = .ok (.iload_n 1, 1) := by decide +kernel
theorem dX5_hasDepth_1 : decode cX5_hasDepth 1 = .ok (.ifCond .lt 20, 3) := by decide +kernel
theorem dX5_hasDepth_4 : decode cX5_hasDepth 4 = .ok (.iload_n 1, 1) := by decide +kernel
theorem dX5_hasDepth_5 : decode cX5_hasDepth 5 = .ok (.aload_n 0, 1) := by decide +kernel
theorem dX5_hasDepth_6 : decode cX5_hasDepth 6 = .ok (.getfield 37, 3) := by decide +kernel
theorem dX5_hasDepth_9 : decode cX5_hasDepth 9 = .ok (.if_icmp .ge 12, 3) := by decide +kernel
theorem dX5_hasDepth_12 : decode cX5_hasDepth 12 = .ok (.iload_n 1, 1) := by decide +kernel
theorem dX5_hasDepth_13 : decode cX5_hasDepth 13 = .ok (.iconst 4, 1) := by decide +kernel
theorem dX5_hasDepth_14 : decode cX5_hasDepth 14 = .ok (.if_icmp .ge 7, 3) := by decide +kernel
theorem dX5_hasDepth_17 : decode cX5_hasDepth 17 = .ok (.iconst 1, 1) := by decide +kernel
theorem dX5_hasDepth_18 : decode cX5_hasDepth 18 = .ok (.goto 4, 3) := by decide +kernel
theorem dX5_hasDepth_21 : decode cX5_hasDepth 21 = .ok (.iconst 0, 1) := by decide +kernel
theorem dX5_hasDepth_22 : decode cX5_hasDepth 22 = .ok (.ireturn, 1) := by decide +kernel
theorem dX5_hasPerson_0 : decode cX5_hasPerson 0 = .ok (.iload_n 1, 1) := by decide +kernel
theorem dX5_hasPerson_1 : decode cX5_hasPerson 1 = .ok (.ifCond .lt 21, 3) := by decide +kernel
theorem dX5_hasPerson_4 : decode cX5_hasPerson 4 = .ok (.iload_n 1, 1) := by decide +kernel
theorem dX5_hasPerson_5 : decode cX5_hasPerson 5 = .ok (.aload_n 0, 1) := by decide +kernel
theorem dX5_hasPerson_6 : decode cX5_hasPerson 6 = .ok (.getfield 40, 3) := by decide +kernel
theorem dX5_hasPerson_9 : decode cX5_hasPerson 9 = .ok (.if_icmp .ge 13, 3) := by decide +kernel
theorem dX5_hasPerson_12 : decode cX5_hasPerson 12 = .ok (.iload_n 1, 1) := by decide +kernel
theorem dX5_hasPerson_13 : decode cX5_hasPerson 13 = .ok (.bipush 7, 2) := by decide +kernel
theorem dX5_hasPerson_15 : decode cX5_hasPerson 15 = .ok (.if_icmp .ge 7, 3) := by decide +kernel
theorem dX5_hasPerson_18 : decode cX5_hasPerson 18 = .ok (.iconst 1, 1) := by decide +kernel
theorem dX5_hasPerson_19 : decode cX5_hasPerson 19 = .ok (.goto 4, 3) := by decide +kernel
theorem dX5_hasPerson_22 : decode cX5_hasPerson 22 = .ok (.iconst 0, 1) := by decide +kernel
theorem dX5_hasPerson_23 : decode cX5_hasPerson 23 = .ok (.ireturn, 1) := by decide +kernel
theorem dX5_hasGood_0 : decode cX5_hasGood 0 = .ok (.iload_n 1, 1) := by decide +kernel
theorem dX5_hasGood_1 : decode cX5_hasGood 1 = .ok (.ifCond .lt 21, 3) := by decide +kernel
theorem dX5_hasGood_4 : decode cX5_hasGood 4 = .ok (.iload_n 1, 1) := by decide +kernel
theorem dX5_hasGood_5 : decode cX5_hasGood 5 = .ok (.aload_n 0, 1) := by decide +kernel
theorem dX5_hasGood_6 : decode cX5_hasGood 6 = .ok (.getfield 43, 3) := by decide +kernel
theorem dX5_hasGood_9 : decode cX5_hasGood 9 = .ok (.if_icmp .ge 13, 3) := by decide +kernel
theorem dX5_hasGood_12 : decode cX5_hasGood 12 = .ok (.iload_n 1, 1) := by decide +kernel
theorem dX5_hasGood_13 : decode cX5_hasGood 13 = .ok (.bipush 6, 2) := by decide +kernel
theorem dX5_hasGood_15 : decode cX5_hasGood 15 = .ok (.if_icmp .ge 7, 3) := by decide +kernel
theorem dX5_hasGood_18 : decode cX5_hasGood 18 = .ok (.iconst 1, 1) := by decide +kernel
theorem dX5_hasGood_19 : decode cX5_hasGood 19 = .ok (.goto 4, 3) := by decide +kernel
theorem dX5_hasGood_22 : decode cX5_hasGood 22 = .ok (.iconst 0, 1) := by decide +kernel
theorem dX5_hasGood_23 : decode cX5_hasGood 23 = .ok (.ireturn, 1) := by decide +kernel
set_option maxRecDepth 20000 in
theorem ggX5_hasRoomFor_X5_isTold : GoodIn wsX5_hasRoomFor wsX5_isTold := goodIn_r _ [8, 9, 10, 11, 12, 13, 14, 15, 16, 17, 18, 19, 20] (by decide +kernel) (by decide +kernel)
set_option maxRecDepth 20000 in
theorem gX5_hasRoomFor_X5_isTold : GoodIn wsX5_hasRoomFor (wsV RX5 46 RX5 yX5_isTold wsX5_isTold) := goodIn_app (goodIn_of _ (by decide +kernel)) ggX5_hasRoomFor_X5_isTold
theorem dX5_hasRoomFor_0 : decode cX5_hasRoomFor 0 = .ok (.iload_n 1, 1) := by decide +kernel
theorem dX5_hasRoomFor_1 : decode cX5_hasRoomFor 1 = .ok (.lookupswitch 100 #[(100, 56), (103, 85), (112, 70), (115, 43)], 43) := by decide +kernel
theorem dX5_hasRoomFor_44 : decode cX5_hasRoomFor 44 = .ok (.aload_n 0, 1) := by decide +kernel
theorem dX5_hasRoomFor_45 : decode cX5_hasRoomFor 45 = .ok (.invokevirtual 46, 3) := by decide +kernel
theorem dX5_hasRoomFor_48 : decode cX5_hasRoomFor 48 = .ok (.ifCond .ne 7, 3) := by decide +kernel
theorem dX5_hasRoomFor_51 : decode cX5_hasRoomFor 51 = .ok (.iconst 1, 1) := by decide +kernel
theorem dX5_hasRoomFor_52 : decode cX5_hasRoomFor 52 = .ok (.goto 4, 3) := by decide +kernel
theorem dX5_hasRoomFor_55 : decode cX5_hasRoomFor 55 = .ok (.iconst 0, 1) := by decide +kernel
theorem dX5_hasRoomFor_56 : decode cX5_hasRoomFor 56 = .ok (.ireturn, 1) := by decide +kernel
theorem dX5_hasRoomFor_57 : decode cX5_hasRoomFor 57 = .ok (.aload_n 0, 1) := by decide +kernel
theorem dX5_hasRoomFor_58 : decode cX5_hasRoomFor 58 = .ok (.getfield 37, 3) := by decide +kernel
theorem dX5_hasRoomFor_61 : decode cX5_hasRoomFor 61 = .ok (.iconst 4, 1) := by decide +kernel
theorem dX5_hasRoomFor_62 : decode cX5_hasRoomFor 62 = .ok (.if_icmp .ge 7, 3) := by decide +kernel
theorem dX5_hasRoomFor_65 : decode cX5_hasRoomFor 65 = .ok (.iconst 1, 1) := by decide +kernel
theorem dX5_hasRoomFor_66 : decode cX5_hasRoomFor 66 = .ok (.goto 4, 3) := by decide +kernel
theorem dX5_hasRoomFor_69 : decode cX5_hasRoomFor 69 = .ok (.iconst 0, 1) := by decide +kernel
theorem dX5_hasRoomFor_70 : decode cX5_hasRoomFor 70 = .ok (.ireturn, 1) := by decide +kernel
theorem dX5_hasRoomFor_71 : decode cX5_hasRoomFor 71 = .ok (.aload_n 0, 1) := by decide +kernel
theorem dX5_hasRoomFor_72 : decode cX5_hasRoomFor 72 = .ok (.getfield 40, 3) := by decide +kernel
theorem dX5_hasRoomFor_75 : decode cX5_hasRoomFor 75 = .ok (.bipush 7, 2) := by decide +kernel
theorem dX5_hasRoomFor_77 : decode cX5_hasRoomFor 77 = .ok (.if_icmp .ge 7, 3) := by decide +kernel
theorem dX5_hasRoomFor_80 : decode cX5_hasRoomFor 80 = .ok (.iconst 1, 1) := by decide +kernel
theorem dX5_hasRoomFor_81 : decode cX5_hasRoomFor 81 = .ok (.goto 4, 3) := by decide +kernel
theorem dX5_hasRoomFor_84 : decode cX5_hasRoomFor 84 = .ok (.iconst 0, 1) := by decide +kernel
theorem dX5_hasRoomFor_85 : decode cX5_hasRoomFor 85 = .ok (.ireturn, 1) := by decide +kernel
theorem dX5_hasRoomFor_86 : decode cX5_hasRoomFor 86 = .ok (.aload_n 0, 1) := by decide +kernel
theorem dX5_hasRoomFor_87 : decode cX5_hasRoomFor 87 = .ok (.getfield 43, 3) := by decide +kernel
theorem dX5_hasRoomFor_90 : decode cX5_hasRoomFor 90 = .ok (.bipush 6, 2) := by decide +kernel
theorem dX5_hasRoomFor_92 : decode cX5_hasRoomFor 92 = .ok (.if_icmp .ge 7, 3) := by decide +kernel
theorem dX5_hasRoomFor_95 : decode cX5_hasRoomFor 95 = .ok (.iconst 1, 1) := by decide +kernel
theorem dX5_hasRoomFor_96 : decode cX5_hasRoomFor 96 = .ok (.goto 4, 3) := by decide +kernel
theorem dX5_hasRoomFor_99 : decode cX5_hasRoomFor 99 = .ok (.iconst 0, 1) := by decide +kernel
theorem dX5_hasRoomFor_100 : decode cX5_hasRoomFor 100 = .ok (.ireturn, 1) := by decide +kernel
theorem dX5_hasRoomFor_101 : decode cX5_hasRoomFor 101 = .ok (.iconst 0, 1) := by decide +kernel
theorem dX5_hasRoomFor_102 : decode cX5_hasRoomFor 102 = .ok (.ireturn, 1) := by decide +kernel
set_option maxRecDepth 20000 in
theorem ggX5_add_X5_hasRoomFor : GoodIn wsX5_add wsX5_hasRoomFor := goodIn_r _ [16, 4, 6, 9, 17, 18, 19, 15, 20, 1, 21, 22, 23, 24, 25, 26, 27, 28, 29, 30, 31] (by decide +kernel) (by decide +kernel)
set_option maxRecDepth 20000 in
theorem gX5_add_X5_hasRoomFor : GoodIn wsX5_add (wsV RX5 50 RX5 yX5_hasRoomFor wsX5_hasRoomFor) := goodIn_app (goodIn_of _ (by decide +kernel)) ggX5_add_X5_hasRoomFor
theorem dX5_add_0 : decode cX5_add 0 = .ok (.aload_n 0, 1) := by decide +kernel
theorem dX5_add_1 : decode cX5_add 1 = .ok (.iload_n 1, 1) := by decide +kernel
theorem dX5_add_2 : decode cX5_add 2 = .ok (.invokevirtual 50, 3) := by decide +kernel
theorem dX5_add_5 : decode cX5_add 5 = .ok (.ifCond .ne 4, 3) := by decide +kernel
theorem dX5_add_8 : decode cX5_add 8 = .ok (.return_, 1) := by decide +kernel
theorem dX5_add_9 : decode cX5_add 9 = .ok (.iload_n 1, 1) := by decide +kernel
theorem dX5_add_10 : decode cX5_add 10 = .ok (.lookupswitch 103 #[(100, 47), (112, 70), (115, 34)], 34) := by decide +kernel
theorem dX5_add_44 : decode cX5_add 44 = .ok (.aload_n 0, 1) := by decide +kernel
theorem dX5_add_45 : decode cX5_add 45 = .ok (.iload_n 2, 1) := by decide +kernel
theorem dX5_add_46 : decode cX5_add 46 = .ok (.putfield 30, 3) := by decide +kernel
theorem dX5_add_49 : decode cX5_add 49 = .ok (.aload_n 0, 1) := by decide +kernel
theorem dX5_add_50 : decode cX5_add 50 = .ok (.iload_n 3, 1) := by decide +kernel
theorem dX5_add_51 : decode cX5_add 51 = .ok (.putfield 34, 3) := by decide +kernel
theorem dX5_add_54 : decode cX5_add 54 = .ok (.goto 100, 3) := by decide +kernel
theorem dX5_add_57 : decode cX5_add 57 = .ok (.aload_n 0, 1) := by decide +kernel
theorem dX5_add_58 : decode cX5_add 58 = .ok (.getfield 9, 3) := by decide +kernel
theorem dX5_add_61 : decode cX5_add 61 = .ok (.aload_n 0, 1) := by decide +kernel
theorem dX5_add_62 : decode cX5_add 62 = .ok (.getfield 37, 3) := by decide +kernel
theorem dX5_add_65 : decode cX5_add 65 = .ok (.iload_n 2, 1) := by decide +kernel
theorem dX5_add_66 : decode cX5_add 66 = .ok (.iastore, 1) := by decide +kernel
theorem dX5_add_67 : decode cX5_add 67 = .ok (.aload_n 0, 1) := by decide +kernel
theorem dX5_add_68 : decode cX5_add 68 = .ok (.dup, 1) := by decide +kernel
theorem dX5_add_69 : decode cX5_add 69 = .ok (.getfield 37, 3) := by decide +kernel
theorem dX5_add_72 : decode cX5_add 72 = .ok (.iconst 1, 1) := by decide +kernel
theorem dX5_add_73 : decode cX5_add 73 = .ok (.iadd, 1) := by decide +kernel
theorem dX5_add_74 : decode cX5_add 74 = .ok (.putfield 37, 3) := by decide +kernel
theorem dX5_add_77 : decode cX5_add 77 = .ok (.goto 77, 3) := by decide +kernel
theorem dX5_add_80 : decode cX5_add 80 = .ok (.aload_n 0, 1) := by decide +kernel
theorem dX5_add_81 : decode cX5_add 81 = .ok (.getfield 15, 3) := by decide +kernel
theorem dX5_add_84 : decode cX5_add 84 = .ok (.aload_n 0, 1) := by decide +kernel
theorem dX5_add_85 : decode cX5_add 85 = .ok (.getfield 40, 3) := by decide +kernel
theorem dX5_add_88 : decode cX5_add 88 = .ok (.iload_n 2, 1) := by decide +kernel
theorem dX5_add_89 : decode cX5_add 89 = .ok (.iastore, 1) := by decide +kernel
theorem dX5_add_90 : decode cX5_add 90 = .ok (.aload_n 0, 1) := by decide +kernel
theorem dX5_add_91 : decode cX5_add 91 = .ok (.getfield 18, 3) := by decide +kernel
theorem dX5_add_94 : decode cX5_add 94 = .ok (.aload_n 0, 1) := by decide +kernel
theorem dX5_add_95 : decode cX5_add 95 = .ok (.getfield 40, 3) := by decide +kernel
theorem dX5_add_98 : decode cX5_add 98 = .ok (.iload_n 3, 1) := by decide +kernel
theorem dX5_add_99 : decode cX5_add 99 = .ok (.iastore, 1) := by decide +kernel
theorem dX5_add_100 : decode cX5_add 100 = .ok (.aload_n 0, 1) := by decide +kernel
theorem dX5_add_101 : decode cX5_add 101 = .ok (.dup, 1) := by decide +kernel
theorem dX5_add_102 : decode cX5_add 102 = .ok (.getfield 40, 3) := by decide +kernel
theorem dX5_add_105 : decode cX5_add 105 = .ok (.iconst 1, 1) := by decide +kernel
theorem dX5_add_106 : decode cX5_add 106 = .ok (.iadd, 1) := by decide +kernel
theorem dX5_add_107 : decode cX5_add 107 = .ok (.putfield 40, 3) := by decide +kernel
theorem dX5_add_110 : decode cX5_add 110 = .ok (.goto 44, 3) := by decide +kernel
theorem dX5_add_113 : decode cX5_add 113 = .ok (.aload_n 0, 1) := by decide +kernel
theorem dX5_add_114 : decode cX5_add 114 = .ok (.getfield 21, 3) := by decide +kernel
theorem dX5_add_117 : decode cX5_add 117 = .ok (.aload_n 0, 1) := by decide +kernel
theorem dX5_add_118 : decode cX5_add 118 = .ok (.getfield 43, 3) := by decide +kernel
theorem dX5_add_121 : decode cX5_add 121 = .ok (.iload_n 2, 1) := by decide +kernel
theorem dX5_add_122 : decode cX5_add 122 = .ok (.iastore, 1) := by decide +kernel
theorem dX5_add_123 : decode cX5_add 123 = .ok (.aload_n 0, 1) := by decide +kernel
theorem dX5_add_124 : decode cX5_add 124 = .ok (.getfield 24, 3) := by decide +kernel
theorem dX5_add_127 : decode cX5_add 127 = .ok (.aload_n 0, 1) := by decide +kernel
theorem dX5_add_128 : decode cX5_add 128 = .ok (.getfield 43, 3) := by decide +kernel
theorem dX5_add_131 : decode cX5_add 131 = .ok (.iload_n 3, 1) := by decide +kernel
theorem dX5_add_132 : decode cX5_add 132 = .ok (.iastore, 1) := by decide +kernel
theorem dX5_add_133 : decode cX5_add 133 = .ok (.aload_n 0, 1) := by decide +kernel
theorem dX5_add_134 : decode cX5_add 134 = .ok (.getfield 27, 3) := by decide +kernel
theorem dX5_add_137 : decode cX5_add 137 = .ok (.aload_n 0, 1) := by decide +kernel
theorem dX5_add_138 : decode cX5_add 138 = .ok (.getfield 43, 3) := by decide +kernel
theorem dX5_add_141 : decode cX5_add 141 = .ok (.iload 4, 2) := by decide +kernel
theorem dX5_add_143 : decode cX5_add 143 = .ok (.iastore, 1) := by decide +kernel
theorem dX5_add_144 : decode cX5_add 144 = .ok (.aload_n 0, 1) := by decide +kernel
theorem dX5_add_145 : decode cX5_add 145 = .ok (.dup, 1) := by decide +kernel
theorem dX5_add_146 : decode cX5_add 146 = .ok (.getfield 43, 3) := by decide +kernel
theorem dX5_add_149 : decode cX5_add 149 = .ok (.iconst 1, 1) := by decide +kernel
theorem dX5_add_150 : decode cX5_add 150 = .ok (.iadd, 1) := by decide +kernel
theorem dX5_add_151 : decode cX5_add 151 = .ok (.putfield 43, 3) := by decide +kernel
theorem dX5_add_154 : decode cX5_add 154 = .ok (.return_, 1) := by decide +kernel
theorem dX5_kingAt_0 : decode cX5_kingAt 0 = .ok (.aload_n 0, 1) := by decide +kernel
theorem dX5_kingAt_1 : decode cX5_kingAt 1 = .ok (.getfield 34, 3) := by decide +kernel
theorem dX5_kingAt_4 : decode cX5_kingAt 4 = .ok (.ifCond .le 12, 3) := by decide +kernel
theorem dX5_kingAt_7 : decode cX5_kingAt 7 = .ok (.iload_n 1, 1) := by decide +kernel
theorem dX5_kingAt_8 : decode cX5_kingAt 8 = .ok (.aload_n 0, 1) := by decide +kernel
theorem dX5_kingAt_9 : decode cX5_kingAt 9 = .ok (.getfield 34, 3) := by decide +kernel
theorem dX5_kingAt_12 : decode cX5_kingAt 12 = .ok (.idiv, 1) := by decide +kernel
theorem dX5_kingAt_13 : decode cX5_kingAt 13 = .ok (.goto 4, 3) := by decide +kernel
theorem dX5_kingAt_16 : decode cX5_kingAt 16 = .ok (.iconst 0, 1) := by decide +kernel
theorem dX5_kingAt_17 : decode cX5_kingAt 17 = .ok (.ireturn, 1) := by decide +kernel
set_option maxRecDepth 20000 in
theorem ggX5_daysIn_X5_hasDepth : GoodIn wsX5_daysIn wsX5_hasDepth := goodIn_r _ [6, 7, 8, 9, 10, 11, 12, 13, 14, 15, 16, 17, 18] (by decide +kernel) (by decide +kernel)
set_option maxRecDepth 20000 in
theorem gX5_daysIn_X5_hasDepth : GoodIn wsX5_daysIn (wsV RX5 54 RX5 yX5_hasDepth wsX5_hasDepth) := goodIn_app (goodIn_of _ (by decide +kernel)) ggX5_daysIn_X5_hasDepth
theorem dX5_daysIn_0 : decode cX5_daysIn 0 = .ok (.aload_n 0, 1) := by decide +kernel
theorem dX5_daysIn_1 : decode cX5_daysIn 1 = .ok (.iload_n 1, 1) := by decide +kernel
theorem dX5_daysIn_2 : decode cX5_daysIn 2 = .ok (.invokevirtual 54, 3) := by decide +kernel
theorem dX5_daysIn_5 : decode cX5_daysIn 5 = .ok (.ifCond .eq 23, 3) := by decide +kernel
theorem dX5_daysIn_8 : decode cX5_daysIn 8 = .ok (.aload_n 0, 1) := by decide +kernel
theorem dX5_daysIn_9 : decode cX5_daysIn 9 = .ok (.getfield 9, 3) := by decide +kernel
theorem dX5_daysIn_12 : decode cX5_daysIn 12 = .ok (.iload_n 1, 1) := by decide +kernel
theorem dX5_daysIn_13 : decode cX5_daysIn 13 = .ok (.iaload, 1) := by decide +kernel
theorem dX5_daysIn_14 : decode cX5_daysIn 14 = .ok (.ifCond .le 14, 3) := by decide +kernel
theorem dX5_daysIn_17 : decode cX5_daysIn 17 = .ok (.iload_n 2, 1) := by decide +kernel
theorem dX5_daysIn_18 : decode cX5_daysIn 18 = .ok (.aload_n 0, 1) := by decide +kernel
theorem dX5_daysIn_19 : decode cX5_daysIn 19 = .ok (.getfield 9, 3) := by decide +kernel
theorem dX5_daysIn_22 : decode cX5_daysIn 22 = .ok (.iload_n 1, 1) := by decide +kernel
theorem dX5_daysIn_23 : decode cX5_daysIn 23 = .ok (.iaload, 1) := by decide +kernel
theorem dX5_daysIn_24 : decode cX5_daysIn 24 = .ok (.idiv, 1) := by decide +kernel
theorem dX5_daysIn_25 : decode cX5_daysIn 25 = .ok (.goto 4, 3) := by decide +kernel
theorem dX5_daysIn_28 : decode cX5_daysIn 28 = .ok (.iconst 0, 1) := by decide +kernel
theorem dX5_daysIn_29 : decode cX5_daysIn 29 = .ok (.ireturn, 1) := by decide +kernel
set_option maxRecDepth 20000 in
theorem ggX5_worthNextYear_X5_hasGood : GoodIn wsX5_worthNextYear wsX5_hasGood := goodIn_r _ [7, 8, 9, 10, 11, 12, 13, 14, 15, 16, 17, 18, 19] (by decide +kernel) (by decide +kernel)
set_option maxRecDepth 20000 in
theorem gX5_worthNextYear_X5_hasGood : GoodIn wsX5_worthNextYear (wsV RX5 57 RX5 yX5_hasGood wsX5_hasGood) := goodIn_app (goodIn_of _ (by decide +kernel)) ggX5_worthNextYear_X5_hasGood
theorem dX5_worthNextYear_0 : decode cX5_worthNextYear 0 = .ok (.aload_n 0, 1) := by decide +kernel
theorem dX5_worthNextYear_1 : decode cX5_worthNextYear 1 = .ok (.iload_n 1, 1) := by decide +kernel
theorem dX5_worthNextYear_2 : decode cX5_worthNextYear 2 = .ok (.invokevirtual 57, 3) := by decide +kernel
theorem dX5_worthNextYear_5 : decode cX5_worthNextYear 5 = .ok (.ifCond .ne 5, 3) := by decide +kernel
theorem dX5_worthNextYear_8 : decode cX5_worthNextYear 8 = .ok (.iload_n 2, 1) := by decide +kernel
theorem dX5_worthNextYear_9 : decode cX5_worthNextYear 9 = .ok (.ireturn, 1) := by decide +kernel
theorem dX5_worthNextYear_10 : decode cX5_worthNextYear 10 = .ok (.aload_n 0, 1) := by decide +kernel
theorem dX5_worthNextYear_11 : decode cX5_worthNextYear 11 = .ok (.getfield 24, 3) := by decide +kernel
theorem dX5_worthNextYear_14 : decode cX5_worthNextYear 14 = .ok (.iload_n 1, 1) := by decide +kernel
theorem dX5_worthNextYear_15 : decode cX5_worthNextYear 15 = .ok (.iaload, 1) := by decide +kernel
theorem dX5_worthNextYear_16 : decode cX5_worthNextYear 16 = .ok (.bipush 50, 2) := by decide +kernel
theorem dX5_worthNextYear_18 : decode cX5_worthNextYear 18 = .ok (.if_icmp .le 20, 3) := by decide +kernel
theorem dX5_worthNextYear_21 : decode cX5_worthNextYear 21 = .ok (.iload_n 2, 1) := by decide +kernel
theorem dX5_worthNextYear_22 : decode cX5_worthNextYear 22 = .ok (.iload_n 2, 1) := by decide +kernel
theorem dX5_worthNextYear_23 : decode cX5_worthNextYear 23 = .ok (.aload_n 0, 1) := by decide +kernel
theorem dX5_worthNextYear_24 : decode cX5_worthNextYear 24 = .ok (.getfield 24, 3) := by decide +kernel
theorem dX5_worthNextYear_27 : decode cX5_worthNextYear 27 = .ok (.iload_n 1, 1) := by decide +kernel
theorem dX5_worthNextYear_28 : decode cX5_worthNextYear 28 = .ok (.iaload, 1) := by decide +kernel
theorem dX5_worthNextYear_29 : decode cX5_worthNextYear 29 = .ok (.bipush 50, 2) := by decide +kernel
theorem dX5_worthNextYear_31 : decode cX5_worthNextYear 31 = .ok (.isub, 1) := by decide +kernel
theorem dX5_worthNextYear_32 : decode cX5_worthNextYear 32 = .ok (.imul, 1) := by decide +kernel
theorem dX5_worthNextYear_33 : decode cX5_worthNextYear 33 = .ok (.bipush 100, 2) := by decide +kernel
theorem dX5_worthNextYear_35 : decode cX5_worthNextYear 35 = .ok (.idiv, 1) := by decide +kernel
theorem dX5_worthNextYear_36 : decode cX5_worthNextYear 36 = .ok (.isub, 1) := by decide +kernel
theorem dX5_worthNextYear_37 : decode cX5_worthNextYear 37 = .ok (.ireturn, 1) := by decide +kernel
theorem dX5_worthNextYear_38 : decode cX5_worthNextYear 38 = .ok (.iload_n 2, 1) := by decide +kernel
theorem dX5_worthNextYear_39 : decode cX5_worthNextYear 39 = .ok (.iload_n 2, 1) := by decide +kernel
theorem dX5_worthNextYear_40 : decode cX5_worthNextYear 40 = .ok (.aload_n 0, 1) := by decide +kernel
theorem dX5_worthNextYear_41 : decode cX5_worthNextYear 41 = .ok (.getfield 24, 3) := by decide +kernel
theorem dX5_worthNextYear_44 : decode cX5_worthNextYear 44 = .ok (.iload_n 1, 1) := by decide +kernel
theorem dX5_worthNextYear_45 : decode cX5_worthNextYear 45 = .ok (.iaload, 1) := by decide +kernel
theorem dX5_worthNextYear_46 : decode cX5_worthNextYear 46 = .ok (.imul, 1) := by decide +kernel
theorem dX5_worthNextYear_47 : decode cX5_worthNextYear 47 = .ok (.bipush 100, 2) := by decide +kernel
theorem dX5_worthNextYear_49 : decode cX5_worthNextYear 49 = .ok (.idiv, 1) := by decide +kernel
theorem dX5_worthNextYear_50 : decode cX5_worthNextYear 50 = .ok (.iadd, 1) := by decide +kernel
theorem dX5_worthNextYear_51 : decode cX5_worthNextYear 51 = .ok (.istore_n 3, 1) := by decide +kernel
theorem dX5_worthNextYear_52 : decode cX5_worthNextYear 52 = .ok (.iload_n 3, 1) := by decide +kernel
theorem dX5_worthNextYear_53 : decode cX5_worthNextYear 53 = .ok (.aload_n 0, 1) := by decide +kernel
theorem dX5_worthNextYear_54 : decode cX5_worthNextYear 54 = .ok (.getfield 27, 3) := by decide +kernel
theorem dX5_worthNextYear_57 : decode cX5_worthNextYear 57 = .ok (.iload_n 1, 1) := by decide +kernel
theorem dX5_worthNextYear_58 : decode cX5_worthNextYear 58 = .ok (.iaload, 1) := by decide +kernel
theorem dX5_worthNextYear_59 : decode cX5_worthNextYear 59 = .ok (.if_icmp .gt 7, 3) := by decide +kernel
theorem dX5_worthNextYear_62 : decode cX5_worthNextYear 62 = .ok (.iload_n 3, 1) := by decide +kernel
theorem dX5_worthNextYear_63 : decode cX5_worthNextYear 63 = .ok (.goto 4, 3) := by decide +kernel
theorem dX5_worthNextYear_66 : decode cX5_worthNextYear 66 = .ok (.iload_n 2, 1) := by decide +kernel
theorem dX5_worthNextYear_67 : decode cX5_worthNextYear 67 = .ok (.ireturn, 1) := by decide +kernel
set_option maxRecDepth 20000 in
theorem ggX5_worthBehind_X5_worthNextYear : GoodIn wsX5_worthBehind wsX5_worthNextYear := goodIn_r _ [5, 6, 7, 8, 9, 10, 4, 11, 12, 13, 14, 15, 16, 17, 18, 19, 20, 21, 22, 23] (by decide +kernel) (by decide +kernel)
set_option maxRecDepth 20000 in
theorem gX5_worthBehind_X5_worthNextYear : GoodIn wsX5_worthBehind (wsV RX5 60 RX5 yX5_worthNextYear wsX5_worthNextYear) := goodIn_app (goodIn_of _ (by decide +kernel)) ggX5_worthBehind_X5_worthNextYear
theorem dX5_worthBehind_0 : decode cX5_worthBehind 0 = .ok (.iload_n 2, 1) := by decide +kernel
theorem dX5_worthBehind_1 : decode cX5_worthBehind 1 = .ok (.istore 4, 2) := by decide +kernel
theorem dX5_worthBehind_3 : decode cX5_worthBehind 3 = .ok (.iconst 0, 1) := by decide +kernel
theorem dX5_worthBehind_4 : decode cX5_worthBehind 4 = .ok (.istore 5, 2) := by decide +kernel
theorem dX5_worthBehind_6 : decode cX5_worthBehind 6 = .ok (.iload 5, 2) := by decide +kernel
theorem dX5_worthBehind_8 : decode cX5_worthBehind 8 = .ok (.iload_n 3, 1) := by decide +kernel
theorem dX5_worthBehind_9 : decode cX5_worthBehind 9 = .ok (.if_icmp .ge 32, 3) := by decide +kernel
theorem dX5_worthBehind_12 : decode cX5_worthBehind 12 = .ok (.aload_n 0, 1) := by decide +kernel
theorem dX5_worthBehind_13 : decode cX5_worthBehind 13 = .ok (.iload_n 1, 1) := by decide +kernel
theorem dX5_worthBehind_14 : decode cX5_worthBehind 14 = .ok (.iload 4, 2) := by decide +kernel
theorem dX5_worthBehind_16 : decode cX5_worthBehind 16 = .ok (.invokevirtual 60, 3) := by decide +kernel
theorem dX5_worthBehind_19 : decode cX5_worthBehind 19 = .ok (.istore 6, 2) := by decide +kernel
theorem dX5_worthBehind_21 : decode cX5_worthBehind 21 = .ok (.iload 6, 2) := by decide +kernel
theorem dX5_worthBehind_23 : decode cX5_worthBehind 23 = .ok (.iload 4, 2) := by decide +kernel
theorem dX5_worthBehind_25 : decode cX5_worthBehind 25 = .ok (.if_icmp .ne 6, 3) := by decide +kernel
theorem dX5_worthBehind_28 : decode cX5_worthBehind 28 = .ok (.iload 4, 2) := by decide +kernel
theorem dX5_worthBehind_30 : decode cX5_worthBehind 30 = .ok (.ireturn, 1) := by decide +kernel
theorem dX5_worthBehind_31 : decode cX5_worthBehind 31 = .ok (.iload 6, 2) := by decide +kernel
theorem dX5_worthBehind_33 : decode cX5_worthBehind 33 = .ok (.istore 4, 2) := by decide +kernel
theorem dX5_worthBehind_35 : decode cX5_worthBehind 35 = .ok (.iinc 5 1, 3) := by decide +kernel
theorem dX5_worthBehind_38 : decode cX5_worthBehind 38 = .ok (.goto (-32), 3) := by decide +kernel
theorem dX5_worthBehind_41 : decode cX5_worthBehind 41 = .ok (.iload 4, 2) := by decide +kernel
theorem dX5_worthBehind_43 : decode cX5_worthBehind 43 = .ok (.ireturn, 1) := by decide +kernel
theorem dX6_init_0 : decode cX6_init 0 = .ok (.aload_n 0, 1) := by decide +kernel
theorem dX6_init_1 : decode cX6_init 1 = .ok (.invokespecial 3, 3) := by decide +kernel
theorem dX6_init_4 : decode cX6_init 4 = .ok (.aload_n 0, 1) := by decide +kernel
theorem dX6_init_5 : decode cX6_init 5 = .ok (.sipush 240, 3) := by decide +kernel
theorem dX6_init_8 : decode cX6_init 8 = .ok (.newarray .int, 2) := by decide +kernel
theorem dX6_init_10 : decode cX6_init 10 = .ok (.putfield 9, 3) := by decide +kernel
theorem dX6_init_13 : decode cX6_init 13 = .ok (.aload_n 0, 1) := by decide +kernel
theorem dX6_init_14 : decode cX6_init 14 = .ok (.iconst 3, 1) := by decide +kernel
theorem dX6_init_15 : decode cX6_init 15 = .ok (.newarray .int, 2) := by decide +kernel
theorem dX6_init_17 : decode cX6_init 17 = .ok (.putfield 15, 3) := by decide +kernel
theorem dX6_init_20 : decode cX6_init 20 = .ok (.aload_n 0, 1) := by decide +kernel
theorem dX6_init_21 : decode cX6_init 21 = .ok (.iconst (-1), 1) := by decide +kernel
theorem dX6_init_22 : decode cX6_init 22 = .ok (.putfield 18, 3) := by decide +kernel
theorem dX6_init_25 : decode cX6_init 25 = .ok (.return_, 1) := by decide +kernel
theorem dX6_add_0 : decode cX6_add 0 = .ok (.aload_n 0, 1) := by decide +kernel
theorem dX6_add_1 : decode cX6_add 1 = .ok (.getfield 22, 3) := by decide +kernel
theorem dX6_add_4 : decode cX6_add 4 = .ok (.sipush 240, 3) := by decide +kernel
theorem dX6_add_7 : decode cX6_add 7 = .ok (.if_icmp .ge 23, 3) := by decide +kernel
theorem dX6_add_10 : decode cX6_add 10 = .ok (.aload_n 0, 1) := by decide +kernel
theorem dX6_add_11 : decode cX6_add 11 = .ok (.getfield 9, 3) := by decide +kernel
theorem dX6_add_14 : decode cX6_add 14 = .ok (.aload_n 0, 1) := by decide +kernel
theorem dX6_add_15 : decode cX6_add 15 = .ok (.getfield 22, 3) := by decide +kernel
theorem dX6_add_18 : decode cX6_add 18 = .ok (.iload_n 1, 1) := by decide +kernel
theorem dX6_add_19 : decode cX6_add 19 = .ok (.iastore, 1) := by decide +kernel
theorem dX6_add_20 : decode cX6_add 20 = .ok (.aload_n 0, 1) := by decide +kernel
theorem dX6_add_21 : decode cX6_add 21 = .ok (.dup, 1) := by decide +kernel
theorem dX6_add_22 : decode cX6_add 22 = .ok (.getfield 22, 3) := by decide +kernel
theorem dX6_add_25 : decode cX6_add 25 = .ok (.iconst 1, 1) := by decide +kernel
theorem dX6_add_26 : decode cX6_add 26 = .ok (.iadd, 1) := by decide +kernel
theorem dX6_add_27 : decode cX6_add 27 = .ok (.putfield 22, 3) := by decide +kernel
theorem dX6_add_30 : decode cX6_add 30 = .ok (.return_, 1) := by decide +kernel
theorem dX6_empty_0 : decode cX6_empty 0 = .ok (.aload_n 0, 1) := by decide +kernel
theorem dX6_empty_1 : decode cX6_empty 1 = .ok (.iconst 0, 1) := by decide +kernel
theorem dX6_empty_2 : decode cX6_empty 2 = .ok (.putfield 22, 3) := by decide +kernel
theorem dX6_empty_5 : decode cX6_empty 5 = .ok (.return_, 1) := by decide +kernel
set_option maxRecDepth 20000 in
theorem ggX6_readInto_X5_empty : GoodIn wsX6_readInto wsX5_empty := goodIn_r _ [8, 9, 10, 11, 12, 13, 169, 170, 171, 172, 173, 174, 175, 176, 177, 178, 179] (by decide +kernel) (by decide +kernel)
set_option maxRecDepth 20000 in
theorem gX6_readInto_X5_empty : GoodIn wsX6_readInto (wsV RX6 31 RX5 yX5_empty wsX5_empty) := goodIn_app (goodIn_of _ (by decide +kernel)) ggX6_readInto_X5_empty
set_option maxRecDepth 20000 in
theorem ggX6_readInto_X6_readClauses : GoodIn wsX6_readInto wsX6_readClauses := goodIn_r _ [18, 2, 19, 20, 21, 17, 22, 1, 23, 24, 25, 26, 27, 28, 29, 30, 31, 32, 33, 34, 35, 36, 37, 38, 39, 40, 41, 42, 43, 44, 45, 46, 47, 48, 49, 50, 51, 52, 53, 54, 55, 56, 57, 58, 59, 60, 61, 62, 63, 64, 65, 66, 67, 68, 69, 70, 71, 72, 73, 74, 75, 76, 77, 78, 79, 80, 81, 82, 83, 84, 85, 86, 87, 88, 89, 90, 91, 92, 93, 94, 95, 96, 97, 98, 99, 100, 101, 102, 103, 104, 105, 106, 107, 108, 109, 110, 111, 112, 113, 114, 115, 116, 117, 118, 119, 120, 121, 122, 123, 124, 125, 126, 127, 7, 128, 9, 129, 130, 131, 132, 3, 133, 134, 135, 136, 11, 12, 13, 137, 138, 139, 140, 141, 142, 143, 144, 145, 146, 147, 148, 149, 150, 151, 152, 153, 154, 155, 10, 156, 157, 158, 159, 160, 161, 162, 163, 164, 165, 166, 167, 168, 169, 170, 171, 172, 173, 174, 175, 176, 177, 178, 179] (by decide +kernel) (by decide +kernel)
set_option maxRecDepth 20000 in
theorem gX6_readInto_X6_readClauses : GoodIn wsX6_readInto (wsV RX6 36 RX6 yX6_readClauses wsX6_readClauses) := goodIn_app (goodIn_of _ (by decide +kernel)) ggX6_readInto_X6_readClauses
theorem dX6_readInto_0 : decode cX6_readInto 0 = .ok (.aload_n 0, 1) := by decide +kernel
theorem dX6_readInto_1 : decode cX6_readInto 1 = .ok (.iconst 0, 1) := by decide +kernel
theorem dX6_readInto_2 : decode cX6_readInto 2 = .ok (.putfield 25, 3) := by decide +kernel
theorem dX6_readInto_5 : decode cX6_readInto 5 = .ok (.aload_n 0, 1) := by decide +kernel
theorem dX6_readInto_6 : decode cX6_readInto 6 = .ok (.iconst 0, 1) := by decide +kernel
theorem dX6_readInto_7 : decode cX6_readInto 7 = .ok (.putfield 28, 3) := by decide +kernel
theorem dX6_readInto_10 : decode cX6_readInto 10 = .ok (.aload_n 0, 1) := by decide +kernel
theorem dX6_readInto_11 : decode cX6_readInto 11 = .ok (.iconst (-1), 1) := by decide +kernel
theorem dX6_readInto_12 : decode cX6_readInto 12 = .ok (.putfield 18, 3) := by decide +kernel
theorem dX6_readInto_15 : decode cX6_readInto 15 = .ok (.aload_n 1, 1) := by decide +kernel
theorem dX6_readInto_16 : decode cX6_readInto 16 = .ok (.invokevirtual 31, 3) := by decide +kernel
theorem dX6_readInto_19 : decode cX6_readInto 19 = .ok (.aload_n 0, 1) := by decide +kernel
theorem dX6_readInto_20 : decode cX6_readInto 20 = .ok (.aload_n 1, 1) := by decide +kernel
theorem dX6_readInto_21 : decode cX6_readInto 21 = .ok (.invokevirtual 36, 3) := by decide +kernel
theorem dX6_readInto_24 : decode cX6_readInto 24 = .ok (.return_, 1) := by decide +kernel
set_option maxRecDepth 20000 in
theorem ggX6_readClauses_X6_skipBlanks : GoodIn wsX6_readClauses wsX6_skipBlanks := goodIn_r _ [6, 7, 8, 9, 10, 5, 11, 12, 13, 155, 156, 157, 158, 159, 160] (by decide +kernel) (by decide +kernel)
set_option maxRecDepth 20000 in
theorem gX6_readClauses_X6_skipBlanks : GoodIn wsX6_readClauses (wsV RX6 40 RX6 yX6_skipBlanks wsX6_skipBlanks) := goodIn_app (goodIn_of _ (by decide +kernel)) ggX6_readClauses_X6_skipBlanks
set_option maxRecDepth 20000 in
theorem ggX6_readClauses_X6_here : GoodIn wsX6_readClauses wsX6_here := goodIn_r _ [11, 7, 12, 13, 155, 156, 157, 158, 159, 160] (by decide +kernel) (by decide +kernel)
set_option maxRecDepth 20000 in
theorem gX6_readClauses_X6_here : GoodIn wsX6_readClauses (wsV RX6 43 RX6 yX6_here wsX6_here) := goodIn_app (goodIn_of _ (by decide +kernel)) ggX6_readClauses_X6_here
set_option maxRecDepth 20000 in
theorem ggX6_readClauses_X6_readClause : GoodIn wsX6_readClauses wsX6_readClause := goodIn_r _ [17, 7, 18, 1, 19, 20, 8, 9, 10, 5, 11, 12, 13, 21, 22, 23, 24, 25, 26, 27, 28, 29, 30, 31, 32, 33, 34, 35, 36, 37, 38, 39, 40, 41, 42, 43, 44, 45, 46, 47, 48, 49, 50, 51, 52, 53, 54, 55, 56, 57, 58, 59, 60, 61, 62, 63, 64, 65, 66, 67, 68, 69, 70, 71, 72, 73, 74, 75, 76, 77, 78, 79, 80, 81, 82, 83, 84, 85, 86, 87, 88, 89, 90, 91, 92, 93, 94, 95, 96, 97, 98, 99, 100, 101, 102, 103, 104, 105, 106, 107, 108, 109, 110, 111, 112, 113, 114, 115, 116, 117, 118, 119, 120, 121, 122, 123, 124, 125, 126, 127, 128, 129, 130, 131, 132, 133, 134, 2, 3, 4, 6, 135, 136, 137, 138, 139, 140, 141, 142, 143, 144, 145, 146, 147, 148, 149, 150, 151, 152, 153, 154, 155, 156, 157, 158, 159, 160, 161, 162, 163, 164, 165, 166, 167, 168, 169, 170, 171] (by decide +kernel) (by decide +kernel)
set_option maxRecDepth 20000 in
theorem gX6_readClauses_X6_readClause : GoodIn wsX6_readClauses (wsV RX6 47 RX6 yX6_readClause wsX6_readClause) := goodIn_app (goodIn_of _ (by decide +kernel)) ggX6_readClauses_X6_readClause
theorem dX6_readClauses_0 : decode cX6_readClauses 0 = .ok (.iconst 0, 1) := by decide +kernel
theorem dX6_readClauses_1 : decode cX6_readClauses 1 = .ok (.istore_n 2, 1) := by decide +kernel
theorem dX6_readClauses_2 : decode cX6_readClauses 2 = .ok (.iload_n 2, 1) := by decide +kernel
theorem dX6_readClauses_3 : decode cX6_readClauses 3 = .ok (.sipush 240, 3) := by decide +kernel
theorem dX6_readClauses_6 : decode cX6_readClauses 6 = .ok (.if_icmp .gt 34, 3) := by decide +kernel
theorem dX6_readClauses_9 : decode cX6_readClauses 9 = .ok (.aload_n 0, 1) := by decide +kernel
theorem dX6_readClauses_10 : decode cX6_readClauses 10 = .ok (.getfield 28, 3) := by decide +kernel
theorem dX6_readClauses_13 : decode cX6_readClauses 13 = .ok (.ifCond .ne 27, 3) := by decide +kernel
theorem dX6_readClauses_16 : decode cX6_readClauses 16 = .ok (.aload_n 0, 1) := by decide +kernel
theorem dX6_readClauses_17 : decode cX6_readClauses 17 = .ok (.invokevirtual 40, 3) := by decide +kernel
theorem dX6_readClauses_20 : decode cX6_readClauses 20 = .ok (.aload_n 0, 1) := by decide +kernel
theorem dX6_readClauses_21 : decode cX6_readClauses 21 = .ok (.invokevirtual 43, 3) := by decide +kernel
theorem dX6_readClauses_24 : decode cX6_readClauses 24 = .ok (.iconst (-1), 1) := by decide +kernel
theorem dX6_readClauses_25 : decode cX6_readClauses 25 = .ok (.if_icmp .ne 4, 3) := by decide +kernel
theorem dX6_readClauses_28 : decode cX6_readClauses 28 = .ok (.return_, 1) := by decide +kernel
theorem dX6_readClauses_29 : decode cX6_readClauses 29 = .ok (.aload_n 0, 1) := by decide +kernel
theorem dX6_readClauses_30 : decode cX6_readClauses 30 = .ok (.aload_n 1, 1) := by decide +kernel
theorem dX6_readClauses_31 : decode cX6_readClauses 31 = .ok (.invokevirtual 47, 3) := by decide +kernel
theorem dX6_readClauses_34 : decode cX6_readClauses 34 = .ok (.iinc 2 1, 3) := by decide +kernel
theorem dX6_readClauses_37 : decode cX6_readClauses 37 = .ok (.goto (-35), 3) := by decide +kernel
theorem dX6_readClauses_40 : decode cX6_readClauses 40 = .ok (.return_, 1) := by decide +kernel
set_option maxRecDepth 20000 in
theorem ggX6_readClause_X6_here : GoodIn wsX6_readClause wsX6_here := goodIn_r _ [10, 1, 11, 12, 151, 152, 153, 154, 155, 156] (by decide +kernel) (by decide +kernel)
set_option maxRecDepth 20000 in
theorem gX6_readClause_X6_here : GoodIn wsX6_readClause (wsV RX6 43 RX6 yX6_here wsX6_here) := goodIn_app (goodIn_of _ (by decide +kernel)) ggX6_readClause_X6_here
set_option maxRecDepth 20000 in
theorem ggX6_readClause_J0_indexOf_0f7a4 : GoodIn wsX6_readClause wsJ0_indexOf_0f7a4 := goodIn_r _ [17, 18, 19, 20, 16, 21, 22, 23, 24, 25, 26, 27, 28, 29, 30, 31, 32, 33, 34, 35, 36, 37, 38, 39, 40, 41, 42, 43, 44, 45, 46, 47, 48, 49, 50, 51, 52, 53, 54, 55, 56, 57, 58, 59, 60, 61, 62, 63, 64, 65, 66, 67, 68, 69, 70, 71, 72, 73, 74, 75, 76, 77, 78, 79, 80, 81, 82, 83, 84, 85, 86, 87, 88, 89, 90, 91, 92, 93, 94, 95, 96, 97, 98, 99, 100, 101] (by decide +kernel) (by decide +kernel)
set_option maxRecDepth 20000 in
theorem gX6_readClause_J0_indexOf_0f7a4 : GoodIn wsX6_readClause (wsV RX6 52 RJ0 yJ0_indexOf_0f7a4 wsJ0_indexOf_0f7a4) := goodIn_app (goodIn_of _ (by decide +kernel)) ggX6_readClause_J0_indexOf_0f7a4
set_option maxRecDepth 20000 in
theorem ggX6_readClause_X5_isTold : GoodIn wsX6_readClause wsX5_isTold := goodIn_r _ [106, 107, 157, 158, 159, 160, 161, 162, 163, 164, 165, 166, 167] (by decide +kernel) (by decide +kernel)
set_option maxRecDepth 20000 in
theorem gX6_readClause_X5_isTold : GoodIn wsX6_readClause (wsV RX6 58 RX5 yX5_isTold wsX5_isTold) := goodIn_app (goodIn_of _ (by decide +kernel)) ggX6_readClause_X5_isTold
set_option maxRecDepth 20000 in
theorem ggX6_readClause_X6_blame : GoodIn wsX6_readClause wsX6_blame := goodIn_r _ [111, 3, 112, 151, 152, 153, 154, 155, 156] (by decide +kernel) (by decide +kernel)
set_option maxRecDepth 20000 in
theorem gX6_readClause_X6_blame : GoodIn wsX6_readClause (wsV RX6 62 RX6 yX6_blame wsX6_blame) := goodIn_app (goodIn_of _ (by decide +kernel)) ggX6_readClause_X6_blame
set_option maxRecDepth 20000 in
theorem ggX6_readClause_X5_hasRoomFor : GoodIn wsX6_readClause wsX5_hasRoomFor := goodIn_r _ [116, 117, 118, 119, 120, 103, 104, 105, 106, 107, 157, 158, 159, 160, 161, 162, 163, 164, 165, 166, 167] (by decide +kernel) (by decide +kernel)
set_option maxRecDepth 20000 in
theorem gX6_readClause_X5_hasRoomFor : GoodIn wsX6_readClause (wsV RX6 66 RX5 yX5_hasRoomFor wsX5_hasRoomFor) := goodIn_app (goodIn_of _ (by decide +kernel)) ggX6_readClause_X5_hasRoomFor
set_option maxRecDepth 20000 in
theorem ggX6_readClause_X6_readNumber : GoodIn wsX6_readClause wsX6_readNumber := goodIn_r _ [124, 1, 125, 126, 5, 127, 128, 129, 9, 130, 6, 7, 8, 10, 11, 12, 131, 132, 133, 134, 108, 109, 110, 111, 3, 112, 151, 152, 153, 154, 155, 156] (by decide +kernel) (by decide +kernel)
set_option maxRecDepth 20000 in
theorem gX6_readClause_X6_readNumber : GoodIn wsX6_readClause (wsV RX6 76 RX6 yX6_readNumber wsX6_readNumber) := goodIn_app (goodIn_of _ (by decide +kernel)) ggX6_readClause_X6_readNumber
set_option maxRecDepth 20000 in
theorem ggX6_readClause_X6_readSemicolon : GoodIn wsX6_readClause wsX6_readSemicolon := goodIn_r _ [138, 1, 127, 128, 129, 9, 130, 6, 7, 8, 10, 11, 12, 108, 109, 110, 111, 3, 112, 151, 152, 153, 154, 155, 156] (by decide +kernel) (by decide +kernel)
set_option maxRecDepth 20000 in
theorem gX6_readClause_X6_readSemicolon : GoodIn wsX6_readClause (wsV RX6 79 RX6 yX6_readSemicolon wsX6_readSemicolon) := goodIn_app (goodIn_of _ (by decide +kernel)) ggX6_readClause_X6_readSemicolon
set_option maxRecDepth 20000 in
theorem ggX6_readClause_X5_add : GoodIn wsX6_readClause wsX5_add := goodIn_r _ [142, 107, 143, 144, 117, 145, 118, 146, 147, 119, 148, 149, 150, 114, 115, 105, 116, 120, 103, 104, 106, 157, 158, 159, 160, 161, 162, 163, 164, 165, 166, 167] (by decide +kernel) (by decide +kernel)
set_option maxRecDepth 20000 in
theorem gX6_readClause_X5_add : GoodIn wsX6_readClause (wsV RX6 82 RX5 yX5_add wsX5_add) := goodIn_app (goodIn_of _ (by decide +kernel)) ggX6_readClause_X5_add
theorem dX6_readClause_0 : decode cX6_readClause 0 = .ok (.aload_n 0, 1) := by decide +kernel
theorem dX6_readClause_1 : decode cX6_readClause 1 = .ok (.invokevirtual 43, 3) := by decide +kernel
theorem dX6_readClause_4 : decode cX6_readClause 4 = .ok (.istore_n 2, 1) := by decide +kernel
theorem dX6_readClause_5 : decode cX6_readClause 5 = .ok (.ldc 50, 2) := by decide +kernel
theorem dX6_readClause_7 : decode cX6_readClause 7 = .ok (.iload_n 2, 1) := by decide +kernel
theorem dX6_readClause_8 : decode cX6_readClause 8 = .ok (.i2c, 1) := by decide +kernel
theorem dX6_readClause_9 : decode cX6_readClause 9 = .ok (.invokevirtual 52, 3) := by decide +kernel
theorem dX6_readClause_12 : decode cX6_readClause 12 = .ok (.istore_n 3, 1) := by decide +kernel
theorem dX6_readClause_13 : decode cX6_readClause 13 = .ok (.iload_n 3, 1) := by decide +kernel
theorem dX6_readClause_14 : decode cX6_readClause 14 = .ok (.ifCond .lt 14, 3) := by decide +kernel
theorem dX6_readClause_17 : decode cX6_readClause 17 = .ok (.aload_n 1, 1) := by decide +kernel
theorem dX6_readClause_18 : decode cX6_readClause 18 = .ok (.invokevirtual 58, 3) := by decide +kernel
theorem dX6_readClause_21 : decode cX6_readClause 21 = .ok (.ifCond .ne 17, 3) := by decide +kernel
theorem dX6_readClause_24 : decode cX6_readClause 24 = .ok (.iload_n 3, 1) := by decide +kernel
theorem dX6_readClause_25 : decode cX6_readClause 25 = .ok (.ifCond .eq 13, 3) := by decide +kernel
theorem dX6_readClause_28 : decode cX6_readClause 28 = .ok (.aload_n 0, 1) := by decide +kernel
theorem dX6_readClause_29 : decode cX6_readClause 29 = .ok (.iconst 1, 1) := by decide +kernel
theorem dX6_readClause_30 : decode cX6_readClause 30 = .ok (.aload_n 0, 1) := by decide +kernel
theorem dX6_readClause_31 : decode cX6_readClause 31 = .ok (.getfield 25, 3) := by decide +kernel
theorem dX6_readClause_34 : decode cX6_readClause 34 = .ok (.invokevirtual 62, 3) := by decide +kernel
theorem dX6_readClause_37 : decode cX6_readClause 37 = .ok (.return_, 1) := by decide +kernel
theorem dX6_readClause_38 : decode cX6_readClause 38 = .ok (.aload_n 1, 1) := by decide +kernel
theorem dX6_readClause_39 : decode cX6_readClause 39 = .ok (.iload_n 2, 1) := by decide +kernel
theorem dX6_readClause_40 : decode cX6_readClause 40 = .ok (.invokevirtual 66, 3) := by decide +kernel
theorem dX6_readClause_43 : decode cX6_readClause 43 = .ok (.ifCond .ne 13, 3) := by decide +kernel
theorem dX6_readClause_46 : decode cX6_readClause 46 = .ok (.aload_n 0, 1) := by decide +kernel
theorem dX6_readClause_47 : decode cX6_readClause 47 = .ok (.iconst 3, 1) := by decide +kernel
theorem dX6_readClause_48 : decode cX6_readClause 48 = .ok (.aload_n 0, 1) := by decide +kernel
theorem dX6_readClause_49 : decode cX6_readClause 49 = .ok (.getfield 25, 3) := by decide +kernel
theorem dX6_readClause_52 : decode cX6_readClause 52 = .ok (.invokevirtual 62, 3) := by decide +kernel
theorem dX6_readClause_55 : decode cX6_readClause 55 = .ok (.return_, 1) := by decide +kernel
theorem dX6_readClause_56 : decode cX6_readClause 56 = .ok (.aload_n 0, 1) := by decide +kernel
theorem dX6_readClause_57 : decode cX6_readClause 57 = .ok (.dup, 1) := by decide +kernel
theorem dX6_readClause_58 : decode cX6_readClause 58 = .ok (.getfield 25, 3) := by decide +kernel
theorem dX6_readClause_61 : decode cX6_readClause 61 = .ok (.iconst 1, 1) := by decide +kernel
theorem dX6_readClause_62 : decode cX6_readClause 62 = .ok (.iadd, 1) := by decide +kernel
theorem dX6_readClause_63 : decode cX6_readClause 63 = .ok (.putfield 25, 3) := by decide +kernel
theorem dX6_readClause_66 : decode cX6_readClause 66 = .ok (.iconst 0, 1) := by decide +kernel
theorem dX6_readClause_67 : decode cX6_readClause 67 = .ok (.istore 4, 2) := by decide +kernel
theorem dX6_readClause_69 : decode cX6_readClause 69 = .ok (.iload 4, 2) := by decide +kernel
theorem dX6_readClause_71 : decode cX6_readClause 71 = .ok (.getstatic 70, 3) := by decide +kernel
theorem dX6_readClause_74 : decode cX6_readClause 74 = .ok (.iload_n 3, 1) := by decide +kernel
theorem dX6_readClause_75 : decode cX6_readClause 75 = .ok (.iaload, 1) := by decide +kernel
theorem dX6_readClause_76 : decode cX6_readClause 76 = .ok (.if_icmp .ge 30, 3) := by decide +kernel
theorem dX6_readClause_79 : decode cX6_readClause 79 = .ok (.aload_n 0, 1) := by decide +kernel
theorem dX6_readClause_80 : decode cX6_readClause 80 = .ok (.getfield 28, 3) := by decide +kernel
theorem dX6_readClause_83 : decode cX6_readClause 83 = .ok (.ifCond .ne 23, 3) := by decide +kernel
theorem dX6_readClause_86 : decode cX6_readClause 86 = .ok (.aload_n 0, 1) := by decide +kernel
theorem dX6_readClause_87 : decode cX6_readClause 87 = .ok (.iload 4, 2) := by decide +kernel
theorem dX6_readClause_89 : decode cX6_readClause 89 = .ok (.getstatic 73, 3) := by decide +kernel
theorem dX6_readClause_92 : decode cX6_readClause 92 = .ok (.iload_n 3, 1) := by decide +kernel
theorem dX6_readClause_93 : decode cX6_readClause 93 = .ok (.iaload, 1) := by decide +kernel
theorem dX6_readClause_94 : decode cX6_readClause 94 = .ok (.iload 4, 2) := by decide +kernel
theorem dX6_readClause_96 : decode cX6_readClause 96 = .ok (.iadd, 1) := by decide +kernel
theorem dX6_readClause_97 : decode cX6_readClause 97 = .ok (.invokevirtual 76, 3) := by decide +kernel
theorem dX6_readClause_100 : decode cX6_readClause 100 = .ok (.iinc 4 1, 3) := by decide +kernel
theorem dX6_readClause_103 : decode cX6_readClause 103 = .ok (.goto (-34), 3) := by decide +kernel
theorem dX6_readClause_106 : decode cX6_readClause 106 = .ok (.aload_n 0, 1) := by decide +kernel
theorem dX6_readClause_107 : decode cX6_readClause 107 = .ok (.getfield 28, 3) := by decide +kernel
theorem dX6_readClause_110 : decode cX6_readClause 110 = .ok (.ifCond .ne 7, 3) := by decide +kernel
theorem dX6_readClause_113 : decode cX6_readClause 113 = .ok (.aload_n 0, 1) := by decide +kernel
theorem dX6_readClause_114 : decode cX6_readClause 114 = .ok (.invokevirtual 79, 3) := by decide +kernel
theorem dX6_readClause_117 : decode cX6_readClause 117 = .ok (.aload_n 0, 1) := by decide +kernel
theorem dX6_readClause_118 : decode cX6_readClause 118 = .ok (.getfield 28, 3) := by decide +kernel
theorem dX6_readClause_121 : decode cX6_readClause 121 = .ok (.ifCond .ne 26, 3) := by decide +kernel
theorem dX6_readClause_124 : decode cX6_readClause 124 = .ok (.aload_n 1, 1) := by decide +kernel
theorem dX6_readClause_125 : decode cX6_readClause 125 = .ok (.iload_n 2, 1) := by decide +kernel
theorem dX6_readClause_126 : decode cX6_readClause 126 = .ok (.aload_n 0, 1) := by decide +kernel
theorem dX6_readClause_127 : decode cX6_readClause 127 = .ok (.getfield 15, 3) := by decide +kernel
theorem dX6_readClause_130 : decode cX6_readClause 130 = .ok (.iconst 0, 1) := by decide +kernel
theorem dX6_readClause_131 : decode cX6_readClause 131 = .ok (.iaload, 1) := by decide +kernel
theorem dX6_readClause_132 : decode cX6_readClause 132 = .ok (.aload_n 0, 1) := by decide +kernel
theorem dX6_readClause_133 : decode cX6_readClause 133 = .ok (.getfield 15, 3) := by decide +kernel
theorem dX6_readClause_136 : decode cX6_readClause 136 = .ok (.iconst 1, 1) := by decide +kernel
theorem dX6_readClause_137 : decode cX6_readClause 137 = .ok (.iaload, 1) := by decide +kernel
theorem dX6_readClause_138 : decode cX6_readClause 138 = .ok (.aload_n 0, 1) := by decide +kernel
theorem dX6_readClause_139 : decode cX6_readClause 139 = .ok (.getfield 15, 3) := by decide +kernel
theorem dX6_readClause_142 : decode cX6_readClause 142 = .ok (.iconst 2, 1) := by decide +kernel
theorem dX6_readClause_143 : decode cX6_readClause 143 = .ok (.iaload, 1) := by decide +kernel
theorem dX6_readClause_144 : decode cX6_readClause 144 = .ok (.invokevirtual 82, 3) := by decide +kernel
theorem dX6_readClause_147 : decode cX6_readClause 147 = .ok (.return_, 1) := by decide +kernel
set_option maxRecDepth 20000 in
theorem ggX6_readNumber_X6_skipBlanks : GoodIn wsX6_readNumber wsX6_skipBlanks := goodIn_r _ [9, 1, 10, 11, 12, 8, 13, 14, 15, 26, 27, 28, 29, 30, 31] (by decide +kernel) (by decide +kernel)
set_option maxRecDepth 20000 in
theorem gX6_readNumber_X6_skipBlanks : GoodIn wsX6_readNumber (wsV RX6 40 RX6 yX6_skipBlanks wsX6_skipBlanks) := goodIn_app (goodIn_of _ (by decide +kernel)) ggX6_readNumber_X6_skipBlanks
set_option maxRecDepth 20000 in
theorem ggX6_readNumber_X6_here : GoodIn wsX6_readNumber wsX6_here := goodIn_r _ [13, 1, 14, 15, 26, 27, 28, 29, 30, 31] (by decide +kernel) (by decide +kernel)
set_option maxRecDepth 20000 in
theorem gX6_readNumber_X6_here : GoodIn wsX6_readNumber (wsV RX6 43 RX6 yX6_here wsX6_here) := goodIn_app (goodIn_of _ (by decide +kernel)) ggX6_readNumber_X6_here
set_option maxRecDepth 20000 in
theorem ggX6_readNumber_X6_isFigure : GoodIn wsX6_readNumber wsX6_isFigure := goodIn_r _ [19] (by decide +kernel) (by decide +kernel)
set_option maxRecDepth 20000 in
theorem gX6_readNumber_X6_isFigure : GoodIn wsX6_readNumber (wsV RX6 86 RX6 yX6_isFigure wsX6_isFigure) := goodIn_app (goodIn_of _ (by decide +kernel)) ggX6_readNumber_X6_isFigure
set_option maxRecDepth 20000 in
theorem ggX6_readNumber_X6_blame : GoodIn wsX6_readNumber wsX6_blame := goodIn_r _ [23, 24, 25, 26, 27, 28, 29, 30, 31] (by decide +kernel) (by decide +kernel)
set_option maxRecDepth 20000 in
theorem gX6_readNumber_X6_blame : GoodIn wsX6_readNumber (wsV RX6 62 RX6 yX6_blame wsX6_blame) := goodIn_app (goodIn_of _ (by decide +kernel)) ggX6_readNumber_X6_blame
theorem dX6_readNumber_0 : decode cX6_readNumber 0 = .ok (.aload_n 0, 1) := by decide +kernel
theorem dX6_readNumber_1 : decode cX6_readNumber 1 = .ok (.invokevirtual 40, 3) := by decide +kernel
theorem dX6_readNumber_4 : decode cX6_readNumber 4 = .ok (.aload_n 0, 1) := by decide +kernel
theorem dX6_readNumber_5 : decode cX6_readNumber 5 = .ok (.getfield 25, 3) := by decide +kernel
theorem dX6_readNumber_8 : decode cX6_readNumber 8 = .ok (.istore_n 3, 1) := by decide +kernel
theorem dX6_readNumber_9 : decode cX6_readNumber 9 = .ok (.iconst 0, 1) := by decide +kernel
theorem dX6_readNumber_10 : decode cX6_readNumber 10 = .ok (.istore 4, 2) := by decide +kernel
theorem dX6_readNumber_12 : decode cX6_readNumber 12 = .ok (.iconst 0, 1) := by decide +kernel
theorem dX6_readNumber_13 : decode cX6_readNumber 13 = .ok (.istore 5, 2) := by decide +kernel
theorem dX6_readNumber_15 : decode cX6_readNumber 15 = .ok (.iload 5, 2) := by decide +kernel
theorem dX6_readNumber_17 : decode cX6_readNumber 17 = .ok (.sipush 240, 3) := by decide +kernel
theorem dX6_readNumber_20 : decode cX6_readNumber 20 = .ok (.if_icmp .gt 51, 3) := by decide +kernel
theorem dX6_readNumber_23 : decode cX6_readNumber 23 = .ok (.aload_n 0, 1) := by decide +kernel
theorem dX6_readNumber_24 : decode cX6_readNumber 24 = .ok (.aload_n 0, 1) := by decide +kernel
theorem dX6_readNumber_25 : decode cX6_readNumber 25 = .ok (.invokevirtual 43, 3) := by decide +kernel
theorem dX6_readNumber_28 : decode cX6_readNumber 28 = .ok (.invokevirtual 86, 3) := by decide +kernel
theorem dX6_readNumber_31 : decode cX6_readNumber 31 = .ok (.ifCond .eq 40, 3) := by decide +kernel
theorem dX6_readNumber_34 : decode cX6_readNumber 34 = .ok (.iload 5, 2) := by decide +kernel
theorem dX6_readNumber_36 : decode cX6_readNumber 36 = .ok (.iconst 4, 1) := by decide +kernel
theorem dX6_readNumber_37 : decode cX6_readNumber 37 = .ok (.if_icmp .ge 18, 3) := by decide +kernel
theorem dX6_readNumber_40 : decode cX6_readNumber 40 = .ok (.iload 4, 2) := by decide +kernel
theorem dX6_readNumber_42 : decode cX6_readNumber 42 = .ok (.bipush 10, 2) := by decide +kernel
theorem dX6_readNumber_44 : decode cX6_readNumber 44 = .ok (.imul, 1) := by decide +kernel
theorem dX6_readNumber_45 : decode cX6_readNumber 45 = .ok (.aload_n 0, 1) := by decide +kernel
theorem dX6_readNumber_46 : decode cX6_readNumber 46 = .ok (.invokevirtual 43, 3) := by decide +kernel
theorem dX6_readNumber_49 : decode cX6_readNumber 49 = .ok (.iadd, 1) := by decide +kernel
theorem dX6_readNumber_50 : decode cX6_readNumber 50 = .ok (.bipush 48, 2) := by decide +kernel
theorem dX6_readNumber_52 : decode cX6_readNumber 52 = .ok (.isub, 1) := by decide +kernel
theorem dX6_readNumber_53 : decode cX6_readNumber 53 = .ok (.istore 4, 2) := by decide +kernel
theorem dX6_readNumber_55 : decode cX6_readNumber 55 = .ok (.aload_n 0, 1) := by decide +kernel
theorem dX6_readNumber_56 : decode cX6_readNumber 56 = .ok (.dup, 1) := by decide +kernel
theorem dX6_readNumber_57 : decode cX6_readNumber 57 = .ok (.getfield 25, 3) := by decide +kernel
theorem dX6_readNumber_60 : decode cX6_readNumber 60 = .ok (.iconst 1, 1) := by decide +kernel
theorem dX6_readNumber_61 : decode cX6_readNumber 61 = .ok (.iadd, 1) := by decide +kernel
theorem dX6_readNumber_62 : decode cX6_readNumber 62 = .ok (.putfield 25, 3) := by decide +kernel
theorem dX6_readNumber_65 : decode cX6_readNumber 65 = .ok (.iinc 5 1, 3) := by decide +kernel
theorem dX6_readNumber_68 : decode cX6_readNumber 68 = .ok (.goto (-53), 3) := by decide +kernel
theorem dX6_readNumber_71 : decode cX6_readNumber 71 = .ok (.aload_n 0, 1) := by decide +kernel
theorem dX6_readNumber_72 : decode cX6_readNumber 72 = .ok (.getfield 25, 3) := by decide +kernel
theorem dX6_readNumber_75 : decode cX6_readNumber 75 = .ok (.iload_n 3, 1) := by decide +kernel
theorem dX6_readNumber_76 : decode cX6_readNumber 76 = .ok (.if_icmp .ne 15, 3) := by decide +kernel
theorem dX6_readNumber_79 : decode cX6_readNumber 79 = .ok (.aload_n 0, 1) := by decide +kernel
theorem dX6_readNumber_80 : decode cX6_readNumber 80 = .ok (.iconst 1, 1) := by decide +kernel
theorem dX6_readNumber_81 : decode cX6_readNumber 81 = .ok (.aload_n 0, 1) := by decide +kernel
theorem dX6_readNumber_82 : decode cX6_readNumber 82 = .ok (.getfield 25, 3) := by decide +kernel
theorem dX6_readNumber_85 : decode cX6_readNumber 85 = .ok (.invokevirtual 62, 3) := by decide +kernel
theorem dX6_readNumber_88 : decode cX6_readNumber 88 = .ok (.goto 50, 3) := by decide +kernel
theorem dX6_readNumber_91 : decode cX6_readNumber 91 = .ok (.aload_n 0, 1) := by decide +kernel
theorem dX6_readNumber_92 : decode cX6_readNumber 92 = .ok (.getfield 25, 3) := by decide +kernel
theorem dX6_readNumber_95 : decode cX6_readNumber 95 = .ok (.iload_n 3, 1) := by decide +kernel
theorem dX6_readNumber_96 : decode cX6_readNumber 96 = .ok (.isub, 1) := by decide +kernel
theorem dX6_readNumber_97 : decode cX6_readNumber 97 = .ok (.iconst 4, 1) := by decide +kernel
theorem dX6_readNumber_98 : decode cX6_readNumber 98 = .ok (.if_icmp .gt 23, 3) := by decide +kernel
theorem dX6_readNumber_101 : decode cX6_readNumber 101 = .ok (.iload 4, 2) := by decide +kernel
theorem dX6_readNumber_103 : decode cX6_readNumber 103 = .ok (.getstatic 89, 3) := by decide +kernel
theorem dX6_readNumber_106 : decode cX6_readNumber 106 = .ok (.iload_n 2, 1) := by decide +kernel
theorem dX6_readNumber_107 : decode cX6_readNumber 107 = .ok (.iaload, 1) := by decide +kernel
theorem dX6_readNumber_108 : decode cX6_readNumber 108 = .ok (.if_icmp .lt 13, 3) := by decide +kernel
theorem dX6_readNumber_111 : decode cX6_readNumber 111 = .ok (.iload 4, 2) := by decide +kernel
theorem dX6_readNumber_113 : decode cX6_readNumber 113 = .ok (.getstatic 92, 3) := by decide +kernel
theorem dX6_readNumber_116 : decode cX6_readNumber 116 = .ok (.iload_n 2, 1) := by decide +kernel
theorem dX6_readNumber_117 : decode cX6_readNumber 117 = .ok (.iaload, 1) := by decide +kernel
theorem dX6_readNumber_118 : decode cX6_readNumber 118 = .ok (.if_icmp .le 12, 3) := by decide +kernel
theorem dX6_readNumber_121 : decode cX6_readNumber 121 = .ok (.aload_n 0, 1) := by decide +kernel
theorem dX6_readNumber_122 : decode cX6_readNumber 122 = .ok (.iconst 2, 1) := by decide +kernel
theorem dX6_readNumber_123 : decode cX6_readNumber 123 = .ok (.iload_n 3, 1) := by decide +kernel
theorem dX6_readNumber_124 : decode cX6_readNumber 124 = .ok (.invokevirtual 62, 3) := by decide +kernel
theorem dX6_readNumber_127 : decode cX6_readNumber 127 = .ok (.goto 11, 3) := by decide +kernel
theorem dX6_readNumber_130 : decode cX6_readNumber 130 = .ok (.aload_n 0, 1) := by decide +kernel
theorem dX6_readNumber_131 : decode cX6_readNumber 131 = .ok (.getfield 15, 3) := by decide +kernel
theorem dX6_readNumber_134 : decode cX6_readNumber 134 = .ok (.iload_n 1, 1) := by decide +kernel
theorem dX6_readNumber_135 : decode cX6_readNumber 135 = .ok (.iload 4, 2) := by decide +kernel
theorem dX6_readNumber_137 : decode cX6_readNumber 137 = .ok (.iastore, 1) := by decide +kernel
theorem dX6_readNumber_138 : decode cX6_readNumber 138 = .ok (.return_, 1) := by decide +kernel
set_option maxRecDepth 20000 in
theorem ggX6_readSemicolon_X6_skipBlanks : GoodIn wsX6_readSemicolon wsX6_skipBlanks := goodIn_r _ [6, 1, 7, 8, 9, 5, 10, 11, 12, 19, 20, 21, 22, 23, 24] (by decide +kernel) (by decide +kernel)
set_option maxRecDepth 20000 in
theorem gX6_readSemicolon_X6_skipBlanks : GoodIn wsX6_readSemicolon (wsV RX6 40 RX6 yX6_skipBlanks wsX6_skipBlanks) := goodIn_app (goodIn_of _ (by decide +kernel)) ggX6_readSemicolon_X6_skipBlanks
set_option maxRecDepth 20000 in
theorem ggX6_readSemicolon_X6_here : GoodIn wsX6_readSemicolon wsX6_here := goodIn_r _ [10, 1, 11, 12, 19, 20, 21, 22, 23, 24] (by decide +kernel) (by decide +kernel)
set_option maxRecDepth 20000 in
theorem gX6_readSemicolon_X6_here : GoodIn wsX6_readSemicolon (wsV RX6 43 RX6 yX6_here wsX6_here) := goodIn_app (goodIn_of _ (by decide +kernel)) ggX6_readSemicolon_X6_here
set_option maxRecDepth 20000 in
theorem ggX6_readSemicolon_X6_blame : GoodIn wsX6_readSemicolon wsX6_blame := goodIn_r _ [16, 17, 18, 19, 20, 21, 22, 23, 24] (by decide +kernel) (by decide +kernel)
set_option maxRecDepth 20000 in
theorem gX6_readSemicolon_X6_blame : GoodIn wsX6_readSemicolon (wsV RX6 62 RX6 yX6_blame wsX6_blame) := goodIn_app (goodIn_of _ (by decide +kernel)) ggX6_readSemicolon_X6_blame
theorem dX6_readSemicolon_0 : decode cX6_readSemicolon 0 = .ok (.aload_n 0, 1) := by decide +kernel
theorem dX6_readSemicolon_1 : decode cX6_readSemicolon 1 = .ok (.invokevirtual 40, 3) := by decide +kernel
theorem dX6_readSemicolon_4 : decode cX6_readSemicolon 4 = .ok (.aload_n 0, 1) := by decide +kernel
theorem dX6_readSemicolon_5 : decode cX6_readSemicolon 5 = .ok (.invokevirtual 43, 3) := by decide +kernel
theorem dX6_readSemicolon_8 : decode cX6_readSemicolon 8 = .ok (.bipush 59, 2) := by decide +kernel
theorem dX6_readSemicolon_10 : decode cX6_readSemicolon 10 = .ok (.if_icmp .ne 16, 3) := by decide +kernel
theorem dX6_readSemicolon_13 : decode cX6_readSemicolon 13 = .ok (.aload_n 0, 1) := by decide +kernel
theorem dX6_readSemicolon_14 : decode cX6_readSemicolon 14 = .ok (.dup, 1) := by decide +kernel
theorem dX6_readSemicolon_15 : decode cX6_readSemicolon 15 = .ok (.getfield 25, 3) := by decide +kernel
theorem dX6_readSemicolon_18 : decode cX6_readSemicolon 18 = .ok (.iconst 1, 1) := by decide +kernel
theorem dX6_readSemicolon_19 : decode cX6_readSemicolon 19 = .ok (.iadd, 1) := by decide +kernel
theorem dX6_readSemicolon_20 : decode cX6_readSemicolon 20 = .ok (.putfield 25, 3) := by decide +kernel
theorem dX6_readSemicolon_23 : decode cX6_readSemicolon 23 = .ok (.goto 12, 3) := by decide +kernel
theorem dX6_readSemicolon_26 : decode cX6_readSemicolon 26 = .ok (.aload_n 0, 1) := by decide +kernel
theorem dX6_readSemicolon_27 : decode cX6_readSemicolon 27 = .ok (.iconst 1, 1) := by decide +kernel
theorem dX6_readSemicolon_28 : decode cX6_readSemicolon 28 = .ok (.aload_n 0, 1) := by decide +kernel
theorem dX6_readSemicolon_29 : decode cX6_readSemicolon 29 = .ok (.getfield 25, 3) := by decide +kernel
theorem dX6_readSemicolon_32 : decode cX6_readSemicolon 32 = .ok (.invokevirtual 62, 3) := by decide +kernel
theorem dX6_readSemicolon_35 : decode cX6_readSemicolon 35 = .ok (.return_, 1) := by decide +kernel
set_option maxRecDepth 20000 in
theorem ggX6_skipBlanks_X6_here : GoodIn wsX6_skipBlanks wsX6_here := goodIn_r _ [6, 1, 7, 8, 9, 10, 11, 12, 13, 14] (by decide +kernel) (by decide +kernel)
set_option maxRecDepth 20000 in
theorem gX6_skipBlanks_X6_here : GoodIn wsX6_skipBlanks (wsV RX6 43 RX6 yX6_here wsX6_here) := goodIn_app (goodIn_of _ (by decide +kernel)) ggX6_skipBlanks_X6_here
theorem dX6_skipBlanks_0 : decode cX6_skipBlanks 0 = .ok (.iconst 0, 1) := by decide +kernel
theorem dX6_skipBlanks_1 : decode cX6_skipBlanks 1 = .ok (.istore_n 1, 1) := by decide +kernel
theorem dX6_skipBlanks_2 : decode cX6_skipBlanks 2 = .ok (.iload_n 1, 1) := by decide +kernel
theorem dX6_skipBlanks_3 : decode cX6_skipBlanks 3 = .ok (.sipush 240, 3) := by decide +kernel
theorem dX6_skipBlanks_6 : decode cX6_skipBlanks 6 = .ok (.if_icmp .gt 28, 3) := by decide +kernel
theorem dX6_skipBlanks_9 : decode cX6_skipBlanks 9 = .ok (.aload_n 0, 1) := by decide +kernel
theorem dX6_skipBlanks_10 : decode cX6_skipBlanks 10 = .ok (.invokevirtual 43, 3) := by decide +kernel
theorem dX6_skipBlanks_13 : decode cX6_skipBlanks 13 = .ok (.bipush 32, 2) := by decide +kernel
theorem dX6_skipBlanks_15 : decode cX6_skipBlanks 15 = .ok (.if_icmp .ne 19, 3) := by decide +kernel
theorem dX6_skipBlanks_18 : decode cX6_skipBlanks 18 = .ok (.aload_n 0, 1) := by decide +kernel
theorem dX6_skipBlanks_19 : decode cX6_skipBlanks 19 = .ok (.dup, 1) := by decide +kernel
theorem dX6_skipBlanks_20 : decode cX6_skipBlanks 20 = .ok (.getfield 25, 3) := by decide +kernel
theorem dX6_skipBlanks_23 : decode cX6_skipBlanks 23 = .ok (.iconst 1, 1) := by decide +kernel
theorem dX6_skipBlanks_24 : decode cX6_skipBlanks 24 = .ok (.iadd, 1) := by decide +kernel
theorem dX6_skipBlanks_25 : decode cX6_skipBlanks 25 = .ok (.putfield 25, 3) := by decide +kernel
theorem dX6_skipBlanks_28 : decode cX6_skipBlanks 28 = .ok (.iinc 1 1, 3) := by decide +kernel
theorem dX6_skipBlanks_31 : decode cX6_skipBlanks 31 = .ok (.goto (-29), 3) := by decide +kernel
theorem dX6_skipBlanks_34 : decode cX6_skipBlanks 34 = .ok (.return_, 1) := by decide +kernel
theorem dX6_here_0 : decode cX6_here 0 = .ok (.aload_n 0, 1) := by decide +kernel
theorem dX6_here_1 : decode cX6_here 1 = .ok (.getfield 25, 3) := by decide +kernel
theorem dX6_here_4 : decode cX6_here 4 = .ok (.aload_n 0, 1) := by decide +kernel
theorem dX6_here_5 : decode cX6_here 5 = .ok (.getfield 22, 3) := by decide +kernel
theorem dX6_here_8 : decode cX6_here 8 = .ok (.if_icmp .ge 25, 3) := by decide +kernel
theorem dX6_here_11 : decode cX6_here 11 = .ok (.aload_n 0, 1) := by decide +kernel
theorem dX6_here_12 : decode cX6_here 12 = .ok (.getfield 25, 3) := by decide +kernel
theorem dX6_here_15 : decode cX6_here 15 = .ok (.sipush 240, 3) := by decide +kernel
theorem dX6_here_18 : decode cX6_here 18 = .ok (.if_icmp .ge 15, 3) := by decide +kernel
theorem dX6_here_21 : decode cX6_here 21 = .ok (.aload_n 0, 1) := by decide +kernel
theorem dX6_here_22 : decode cX6_here 22 = .ok (.getfield 9, 3) := by decide +kernel
theorem dX6_here_25 : decode cX6_here 25 = .ok (.aload_n 0, 1) := by decide +kernel
theorem dX6_here_26 : decode cX6_here 26 = .ok (.getfield 25, 3) := by decide +kernel
theorem dX6_here_29 : decode cX6_here 29 = .ok (.iaload, 1) := by decide +kernel
theorem dX6_here_30 : decode cX6_here 30 = .ok (.goto 4, 3) := by decide +kernel
theorem dX6_here_33 : decode cX6_here 33 = .ok (.iconst (-1), 1) := by decide +kernel
theorem dX6_here_34 : decode cX6_here 34 = .ok (.ireturn, 1) := by decide +kernel
theorem dX6_isFigure_0 : decode cX6_isFigure 0 = .ok (.iload_n 1, 1) := by decide +kernel
theorem dX6_isFigure_1 : decode cX6_isFigure 1 = .ok (.bipush 48, 2) := by decide +kernel
theorem dX6_isFigure_3 : decode cX6_isFigure 3 = .ok (.if_icmp .lt 13, 3) := by decide +kernel
theorem dX6_isFigure_6 : decode cX6_isFigure 6 = .ok (.iload_n 1, 1) := by decide +kernel
theorem dX6_isFigure_7 : decode cX6_isFigure 7 = .ok (.bipush 57, 2) := by decide +kernel
theorem dX6_isFigure_9 : decode cX6_isFigure 9 = .ok (.if_icmp .gt 7, 3) := by decide +kernel
theorem dX6_isFigure_12 : decode cX6_isFigure 12 = .ok (.iconst 1, 1) := by decide +kernel
theorem dX6_isFigure_13 : decode cX6_isFigure 13 = .ok (.goto 4, 3) := by decide +kernel
theorem dX6_isFigure_16 : decode cX6_isFigure 16 = .ok (.iconst 0, 1) := by decide +kernel
theorem dX6_isFigure_17 : decode cX6_isFigure 17 = .ok (.ireturn, 1) := by decide +kernel
theorem dX6_blame_0 : decode cX6_blame 0 = .ok (.aload_n 0, 1) := by decide +kernel
theorem dX6_blame_1 : decode cX6_blame 1 = .ok (.iload_n 1, 1) := by decide +kernel
theorem dX6_blame_2 : decode cX6_blame 2 = .ok (.putfield 28, 3) := by decide +kernel
theorem dX6_blame_5 : decode cX6_blame 5 = .ok (.aload_n 0, 1) := by decide +kernel
theorem dX6_blame_6 : decode cX6_blame 6 = .ok (.iload_n 2, 1) := by decide +kernel
theorem dX6_blame_7 : decode cX6_blame 7 = .ok (.putfield 18, 3) := by decide +kernel
theorem dX6_blame_10 : decode cX6_blame 10 = .ok (.return_, 1) := by decide +kernel
end
section
/-- what holds all along a method's walk -/
def CX (p : Program) (s : State) (m : MethodId) (args : Array Value) (meth : Method) (c : Code) (cc : ByteArray) (own : String) (Ts : List Cond) (nL : Nat) (D : va_G) (tys : List (ClassId × FieldType)) (A : Nat → Prop) : Prop :=
  p.tables.exec = Jvm.exec ∧ c.code = cc ∧ c.maxLocals = nL ∧ s.vm.findClass own = some m.cls ∧ (∀ w ∈ Ts, w.before args s = true) ∧ va_K D vwCl tys s ∧ (∀ q, s.heap.size ≤ q → A q) ∧ meth.locks = false
/-- the walk from pc, with the world ws, the locals lv, the stack st -/
def WW (p : Program) (l : Launch) (e : Env) (R : Room) (s : State) (m : MethodId) (args : Array Value) (below : List Frame) (meth : Method) (c : Code) (nL : Nat) (D : va_G) (A : Nat → Prop) (k9 n9 : Nat) (Q : State → Prop) (ws : va_W) (lv : List (Nat × Value)) (pc : Nat) (st : List Value) : Prop :=
  ∀ (H : Heap) (locs : List Loc) (ls : Array Slot), va_P D vwCl ws H → va_D A ws → va_S A s.heap H locs → lv_has ls nL lv → W p l e R s m args below meth c H locs k9 n9 Q (F0 m pc ls st)
/-- the ends: an int, nothing -/
def RQi (below : List Frame) (args : Array Value) (s : State) (D : va_G) (A : Nat → Prop) (r : Int32) (w1 : va_W) : State → Prop :=
  MQ below (va_Qi (fun r' (_ : Unit) => r' = r) (fun _ t => va_P D vwCl w1 t.heap ∧ va_D A w1) A) args s 0 0 A
def RQv (below : List Frame) (args : Array Value) (s : State) (D : va_G) (A : Nat → Prop) (w1 : va_W) : State → Prop :=
  MQ below (va_Qv (fun (_ : Unit) => True) (fun _ t => va_P D vwCl w1 t.heap ∧ va_D A w1) A) args s 0 0 A
/-- a method's contract: with the arguments av and the world w0 it answers r, and the world is w1 -/
def Ci (l : Launch) (y : MethodName) (wsC : List Cond) (rm : Room) (D : va_G) (tys : List (ClassId × FieldType)) (av : List Value) (w0 : va_W) (r : Int32) (w1 : va_W) : Prop :=
  ∀ sz : Nat, Met l y wsC rm (va_Pc av (fun U => U.heap.size = sz ∧ va_P D vwCl w0 U.heap ∧ va_K D vwCl tys U ∧ va_D (fun _ => True) w0)) (va_Qi (fun r' (_ : Unit) => r' = r) (fun _ t => va_P D vwCl w1 t.heap ∧ va_D (va_A w0 sz) w1) (va_A w0 sz)) 0 0 (va_A w0 sz)
def Cv (l : Launch) (y : MethodName) (wsC : List Cond) (rm : Room) (D : va_G) (tys : List (ClassId × FieldType)) (av : List Value) (w0 : va_W) (w1 : va_W) : Prop :=
  ∀ sz : Nat, Met l y wsC rm (va_Pc av (fun U => U.heap.size = sz ∧ va_P D vwCl w0 U.heap ∧ va_K D vwCl tys U ∧ va_D (fun _ => True) w0)) (va_Qv (fun (_ : Unit) => True) (fun _ t => va_P D vwCl w1 t.heap ∧ va_D (va_A w0 sz) w1) (va_A w0 sz)) 0 0 (va_A w0 sz)
def wput (ws : va_W) : List Nat → va_W → va_W
  | i :: is, x :: xs => wput (ws.set i x) is xs
  | _, _ => ws
theorem wput_get : ∀ (is : List Nat) (ws xs : va_W) (k : Nat) (q : Nat × va_E), is.length = xs.length → (wput ws is xs)[k]? = some q → (∃ j : Nat, is[j]? = some k ∧ xs[j]? = some q) ∨ (k ∉ is ∧ ws[k]? = some q)
  | [], ws, xs, k, q, _, h => Or.inr ⟨List.not_mem_nil, by
      cases xs <;> exact h⟩
  | i :: is, ws, [], k, q, hl, _ => by simp at hl
  | i :: is, ws, x :: xs, k, q, hl, h => by
    rcases wput_get is (ws.set i x) xs k q (by simpa using hl) h with ⟨j, h1, h2⟩ | ⟨h1, h2⟩
    · exact Or.inl ⟨j + 1, by rw [List.getElem?_cons_succ]; exact h1, by rw [List.getElem?_cons_succ]; exact h2⟩
    · by_cases hk : i = k
      · subst hk
        rw [List.getElem?_set] at h2
        simp only [if_true] at h2
        split at h2
        · exact Or.inl ⟨0, rfl, h2⟩
        · cases h2
      · rw [List.getElem?_set_ne hk] at h2
        exact Or.inr ⟨fun hm => by
          rcases List.mem_cons.mp hm with e | e
          · exact hk e.symm
          · exact h1 e, h2⟩
/-- behind a call: the callee's cells at their places, the others as they were -/
theorem w_join {A : Nat → Prop} {D : va_G} {cl : List vw_C} {ws wc w1 : va_W} {H H1 : Heap} (hP : va_P D cl ws H) (hD : va_D A ws) (isC : List Nat) (hC : isC.map (fun i => ws[i]?) = wc.map some) (hadr : w1.map Prod.fst = wc.map Prod.fst)
    (hk : ∀ q : Nat, q < H.size → ¬ va_A wc H.size q → H1[q]? = H[q]?) (hP1 : va_P D cl w1 H1) : va_P D cl (wput ws isC w1) H1 ∧ va_D A (wput ws isC w1) := by
  have hl1 : isC.length = wc.length := by
    have := congrArg List.length hC
    simpa using this
  have hl2 : w1.length = wc.length := by
    have := congrArg List.length hadr
    simpa using this
  have at' : ∀ (k : Nat) (q : Nat × va_E), wc[k]? = some q → ∃ i, isC[k]? = some i ∧ ws[i]? = some q := by
    intro k q hq
    have h1 : (isC.map (fun i => ws[i]?))[k]? = some (some q) := by rw [hC, List.getElem?_map, hq]; rfl
    rw [List.getElem?_map] at h1
    cases hi : isC[k]? with
    | none => rw [hi] at h1; cases h1
    | some i => rw [hi] at h1; exact ⟨i, rfl, Option.some.inj h1⟩
  have at1 : ∀ (j : Nat) (q : Nat × va_E), w1[j]? = some q → ∃ q0, wc[j]? = some q0 ∧ q0.1 = q.1 := by
    intro j q hq
    have h1 : (w1.map Prod.fst)[j]? = some q.1 := by rw [List.getElem?_map, hq]; rfl
    rw [hadr, List.getElem?_map] at h1
    cases hi : wc[j]? with
    | none => rw [hi] at h1; cases h1
    | some q0 => rw [hi] at h1; exact ⟨q0, rfl, Option.some.inj h1⟩
  have key : ∀ (k : Nat) (q : Nat × va_E), (wput ws isC w1)[k]? = some q → ∃ q0, ws[k]? = some q0 ∧ q0.1 = q.1 := by
    intro k q hq
    rcases wput_get isC ws w1 k q (hl1.trans hl2.symm) hq with ⟨j, h1, h2⟩ | ⟨-, h2⟩
    · obtain ⟨q0, g1, g2⟩ := at1 j q h2
      obtain ⟨i, g3, g4⟩ := at' j q0 g1
      have : i = k := Option.some.inj (g3.symm.trans h1)
      subst this
      exact ⟨q0, g4, g2⟩
    · exact ⟨q, h2, rfl⟩
  refine ⟨fun k q hq => ?_, fun i j x y hi hj hxy => ?_, fun k q hq => ?_⟩
  · rcases wput_get isC ws w1 k q (hl1.trans hl2.symm) hq with ⟨j, h1, h2⟩ | ⟨h1, h2⟩
    · exact hP1 j q h2
    · refine (hP k q h2).kept (hk q.1 ((hP k q h2).lt) (fun h => ?_))
      rcases h with ⟨k2, e2, h⟩ | h
      · obtain ⟨i, g1, g2⟩ := at' k2 (q.1, e2) h
        have := hD.1 k i q (q.1, e2) h2 g2 rfl
        subst this
        exact h1 (List.mem_of_getElem? g1)
      · have := (hP k q h2).lt
        omega
  · obtain ⟨x0, h1, h2⟩ := key i x hi
    obtain ⟨y0, h3, h4⟩ := key j y hj
    exact hD.1 i j x0 y0 h1 h3 (h2.trans (hxy.trans h4.symm))
  · obtain ⟨q0, h1, h2⟩ := key k q hq
    rw [← h2]
    exact hD.2 k q0 h1
section WWrows
variable {p : Program} {l : Launch} {e : Env} {R : Room} {s : State} {m : MethodId} {args : Array Value} {below : List Frame} {meth : Method} {c : Code} {Q : State → Prop} {D : va_G} {A : Nat → Prop} {tys : List (ClassId × FieldType)} {nL k9 n9 : Nat} {cc : ByteArray} {own : String} {Ts : List Cond} {ws : va_W} {lv : List (Nat × Value)} {pc : Nat} {rest : List Value}
theorem ww_iconst (X : CX p s m args meth c cc own Ts nL D tys A) {n : Int} {v : Int32} (hdg : decode cc pc = .ok (.iconst n, 1)) (hv : Int32.ofInt n = v) (k : WW p l e R s m args below meth c nL D A k9 n9 Q ws lv (pc + 1) (.int v :: rest)) : WW p l e R s m args below meth c nL D A k9 n9 Q ws lv pc (rest) :=
  fun H locs ls hP hD hS hl => lv_iconst X.1 X.2.1 hdg hv (k H locs ls hP hD hS hl)
theorem ww_bipush (X : CX p s m args meth c cc own Ts nL D tys A) {n : Int} {v : Int32} (hdg : decode cc pc = .ok (.bipush n, 2)) (hv : (Int8.ofInt n).toInt32 = v) (k : WW p l e R s m args below meth c nL D A k9 n9 Q ws lv (pc + 2) (.int v :: rest)) : WW p l e R s m args below meth c nL D A k9 n9 Q ws lv pc (rest) :=
  fun H locs ls hP hD hS hl => lv_bipush X.1 X.2.1 hdg hv (k H locs ls hP hD hS hl)
theorem ww_sipush (X : CX p s m args meth c cc own Ts nL D tys A) {n : Int} {v : Int32} (hdg : decode cc pc = .ok (.sipush n, 3)) (hv : (Int16.ofInt n).toInt32 = v) (k : WW p l e R s m args below meth c nL D A k9 n9 Q ws lv (pc + 3) (.int v :: rest)) : WW p l e R s m args below meth c nL D A k9 n9 Q ws lv pc (rest) :=
  fun H locs ls hP hD hS hl => lv_sipush X.1 X.2.1 hdg hv (k H locs ls hP hD hS hl)
theorem ww_iadd (X : CX p s m args meth c cc own Ts nL D tys A) {x y : Int32} (hdg : decode cc pc = .ok (.iadd, 1))  (k : WW p l e R s m args below meth c nL D A k9 n9 Q ws lv (pc + 1) (.int (x + y) :: rest)) : WW p l e R s m args below meth c nL D A k9 n9 Q ws lv pc (.int y :: .int x :: rest) :=
  fun H locs ls hP hD hS hl => lv_iadd X.1 X.2.1 hdg  (k H locs ls hP hD hS hl)
theorem ww_isub (X : CX p s m args meth c cc own Ts nL D tys A) {x y : Int32} (hdg : decode cc pc = .ok (.isub, 1))  (k : WW p l e R s m args below meth c nL D A k9 n9 Q ws lv (pc + 1) (.int (x - y) :: rest)) : WW p l e R s m args below meth c nL D A k9 n9 Q ws lv pc (.int y :: .int x :: rest) :=
  fun H locs ls hP hD hS hl => lv_isub X.1 X.2.1 hdg  (k H locs ls hP hD hS hl)
theorem ww_imul (X : CX p s m args meth c cc own Ts nL D tys A) {x y : Int32} (hdg : decode cc pc = .ok (.imul, 1))  (k : WW p l e R s m args below meth c nL D A k9 n9 Q ws lv (pc + 1) (.int (x * y) :: rest)) : WW p l e R s m args below meth c nL D A k9 n9 Q ws lv pc (.int y :: .int x :: rest) :=
  fun H locs ls hP hD hS hl => lv_imul X.1 X.2.1 hdg  (k H locs ls hP hD hS hl)
theorem ww_idiv (X : CX p s m args meth c cc own Ts nL D tys A) {x y : Int32} (hdg : decode cc pc = .ok (.idiv, 1)) (hne : ¬ y = 0) (k : WW p l e R s m args below meth c nL D A k9 n9 Q ws lv (pc + 1) (.int (x / y) :: rest)) : WW p l e R s m args below meth c nL D A k9 n9 Q ws lv pc (.int y :: .int x :: rest) :=
  fun H locs ls hP hD hS hl => lv_idiv X.1 X.2.1 hdg hne (k H locs ls hP hD hS hl)
theorem ww_irem (X : CX p s m args meth c cc own Ts nL D tys A) {x y : Int32} (hdg : decode cc pc = .ok (.irem, 1)) (hne : ¬ y = 0) (k : WW p l e R s m args below meth c nL D A k9 n9 Q ws lv (pc + 1) (.int (x - x / y * y) :: rest)) : WW p l e R s m args below meth c nL D A k9 n9 Q ws lv pc (.int y :: .int x :: rest) :=
  fun H locs ls hP hD hS hl => lv_irem X.1 X.2.1 hdg hne (k H locs ls hP hD hS hl)
theorem ww_dup (X : CX p s m args meth c cc own Ts nL D tys A) {va : Value} (hdg : decode cc pc = .ok (.dup, 1)) (hva : va.category = 1) (k : WW p l e R s m args below meth c nL D A k9 n9 Q ws lv (pc + 1) (va :: va :: rest)) : WW p l e R s m args below meth c nL D A k9 n9 Q ws lv pc (va :: rest) :=
  fun H locs ls hP hD hS hl => lv_dup X.1 X.2.1 hdg hva (k H locs ls hP hD hS hl)
theorem ww_dup2_11 (X : CX p s m args meth c cc own Ts nL D tys A) {va vb : Value} (hdg : decode cc pc = .ok (.dup2, 1)) (hva : va.category = 1) (hvb : vb.category = 1) (k : WW p l e R s m args below meth c nL D A k9 n9 Q ws lv (pc + 1) (va :: vb :: va :: vb :: rest)) : WW p l e R s m args below meth c nL D A k9 n9 Q ws lv pc (va :: vb :: rest) :=
  fun H locs ls hP hD hS hl => lv_dup2_11 X.1 X.2.1 hdg hva hvb (k H locs ls hP hD hS hl)
theorem ww_pop (X : CX p s m args meth c cc own Ts nL D tys A) {va : Value} (hdg : decode cc pc = .ok (.pop, 1)) (hva : va.category = 1) (k : WW p l e R s m args below meth c nL D A k9 n9 Q ws lv (pc + 1) (rest)) : WW p l e R s m args below meth c nL D A k9 n9 Q ws lv pc (va :: rest) :=
  fun H locs ls hP hD hS hl => lv_pop X.1 X.2.1 hdg hva (k H locs ls hP hD hS hl)
theorem ww_i2l (X : CX p s m args meth c cc own Ts nL D tys A) {x : Int32} {v : Int64} (hdg : decode cc pc = .ok (.i2l, 1)) (hv : x.toInt64 = v) (k : WW p l e R s m args below meth c nL D A k9 n9 Q ws lv (pc + 1) (.long v :: rest)) : WW p l e R s m args below meth c nL D A k9 n9 Q ws lv pc (.int x :: rest) :=
  fun H locs ls hP hD hS hl => lv_i2l X.1 X.2.1 hdg hv (k H locs ls hP hD hS hl)
theorem ww_l2i (X : CX p s m args meth c cc own Ts nL D tys A) {x : Int64} {v : Int32} (hdg : decode cc pc = .ok (.l2i, 1)) (hv : x.toInt32 = v) (k : WW p l e R s m args below meth c nL D A k9 n9 Q ws lv (pc + 1) (.int v :: rest)) : WW p l e R s m args below meth c nL D A k9 n9 Q ws lv pc (.long x :: rest) :=
  fun H locs ls hP hD hS hl => lv_l2i X.1 X.2.1 hdg hv (k H locs ls hP hD hS hl)
theorem ww_i2c (X : CX p s m args meth c cc own Ts nL D tys A) {x : Int32} {v : Int32} (hdg : decode cc pc = .ok (.i2c, 1)) (hv : (x.toUInt32 % 65536).toInt32 = v) (k : WW p l e R s m args below meth c nL D A k9 n9 Q ws lv (pc + 1) (.int v :: rest)) : WW p l e R s m args below meth c nL D A k9 n9 Q ws lv pc (.int x :: rest) :=
  fun H locs ls hP hD hS hl => lv_i2c X.1 X.2.1 hdg hv (k H locs ls hP hD hS hl)
theorem ww_iand (X : CX p s m args meth c cc own Ts nL D tys A) {x y : Int32} (hdg : decode cc pc = .ok (.iand, 1)) 
     (k : WW p l e R s m args below meth c nL D A k9 n9 Q ws lv (pc + 1) (.int (x &&& y) :: rest)) : WW p l e R s m args below meth c nL D A k9 n9 Q ws lv pc (.int y :: .int x :: rest) :=
  fun H locs ls hP hD hS hl => lv_iand X.1 X.2.1 hdg (k H locs ls hP hD hS hl)
theorem ww_ior (X : CX p s m args meth c cc own Ts nL D tys A) {x y : Int32} (hdg : decode cc pc = .ok (.ior, 1)) 
     (k : WW p l e R s m args below meth c nL D A k9 n9 Q ws lv (pc + 1) (.int (x ||| y) :: rest)) : WW p l e R s m args below meth c nL D A k9 n9 Q ws lv pc (.int y :: .int x :: rest) :=
  fun H locs ls hP hD hS hl => lv_ior X.1 X.2.1 hdg (k H locs ls hP hD hS hl)
theorem ww_ishl (X : CX p s m args meth c cc own Ts nL D tys A) {x y : Int32} (hdg : decode cc pc = .ok (.ishl, 1)) 
     (k : WW p l e R s m args below meth c nL D A k9 n9 Q ws lv (pc + 1) (.int (x <<< (y &&& 31)) :: rest)) : WW p l e R s m args below meth c nL D A k9 n9 Q ws lv pc (.int y :: .int x :: rest) :=
  fun H locs ls hP hD hS hl => lv_ishl X.1 X.2.1 hdg (k H locs ls hP hD hS hl)
theorem ww_ineg (X : CX p s m args meth c cc own Ts nL D tys A) {x : Int32} (hdg : decode cc pc = .ok (.ineg, 1)) 
     (k : WW p l e R s m args below meth c nL D A k9 n9 Q ws lv (pc + 1) (.int (-x) :: rest)) : WW p l e R s m args below meth c nL D A k9 n9 Q ws lv pc (.int x :: rest) :=
  fun H locs ls hP hD hS hl => lv_ineg X.1 X.2.1 hdg (k H locs ls hP hD hS hl)
theorem ww_lmul (X : CX p s m args meth c cc own Ts nL D tys A) {x y : Int64} (hdg : decode cc pc = .ok (.lmul, 1)) 
     (k : WW p l e R s m args below meth c nL D A k9 n9 Q ws lv (pc + 1) (.long (x * y) :: rest)) : WW p l e R s m args below meth c nL D A k9 n9 Q ws lv pc (.long y :: .long x :: rest) :=
  fun H locs ls hP hD hS hl => lv_lmul X.1 X.2.1 hdg (k H locs ls hP hD hS hl)
theorem ww_ldiv (X : CX p s m args meth c cc own Ts nL D tys A) {x y : Int64} (hdg : decode cc pc = .ok (.ldiv, 1)) (hne : ¬ y = 0)
     (k : WW p l e R s m args below meth c nL D A k9 n9 Q ws lv (pc + 1) (.long (x / y) :: rest)) : WW p l e R s m args below meth c nL D A k9 n9 Q ws lv pc (.long y :: .long x :: rest) :=
  fun H locs ls hP hD hS hl => lv_ldiv X.1 X.2.1 hdg hne (k H locs ls hP hD hS hl)
theorem ww_ladd (X : CX p s m args meth c cc own Ts nL D tys A) {x y : Int64} (hdg : decode cc pc = .ok (.ladd, 1)) 
     (k : WW p l e R s m args below meth c nL D A k9 n9 Q ws lv (pc + 1) (.long (x + y) :: rest)) : WW p l e R s m args below meth c nL D A k9 n9 Q ws lv pc (.long y :: .long x :: rest) :=
  fun H locs ls hP hD hS hl => lv_ladd X.1 X.2.1 hdg (k H locs ls hP hD hS hl)
theorem ww_land (X : CX p s m args meth c cc own Ts nL D tys A) {x y : Int64} (hdg : decode cc pc = .ok (.land, 1)) 
     (k : WW p l e R s m args below meth c nL D A k9 n9 Q ws lv (pc + 1) (.long (x &&& y) :: rest)) : WW p l e R s m args below meth c nL D A k9 n9 Q ws lv pc (.long y :: .long x :: rest) :=
  fun H locs ls hP hD hS hl => lv_land X.1 X.2.1 hdg (k H locs ls hP hD hS hl)
theorem ww_ishr (X : CX p s m args meth c cc own Ts nL D tys A) {x y : Int32} (hdg : decode cc pc = .ok (.ishr, 1)) 
     (k : WW p l e R s m args below meth c nL D A k9 n9 Q ws lv (pc + 1) (.int (x >>> (y &&& 31)) :: rest)) : WW p l e R s m args below meth c nL D A k9 n9 Q ws lv pc (.int y :: .int x :: rest) :=
  fun H locs ls hP hD hS hl => lv_ishr X.1 X.2.1 hdg (k H locs ls hP hD hS hl)
theorem ww_iushr (X : CX p s m args meth c cc own Ts nL D tys A) {x y v : Int32} (hdg : decode cc pc = .ok (.iushr, 1)) (hv : (x.toUInt32 >>> (y.toUInt32 &&& Int32.toUInt32 31)).toInt32 = v)
     (k : WW p l e R s m args below meth c nL D A k9 n9 Q ws lv (pc + 1) (.int v :: rest)) : WW p l e R s m args below meth c nL D A k9 n9 Q ws lv pc (.int y :: .int x :: rest) :=
  fun H locs ls hP hD hS hl => lv_iushr X.1 X.2.1 hdg hv (k H locs ls hP hD hS hl)
theorem ww_i2b (X : CX p s m args meth c cc own Ts nL D tys A) {x : Int32} {v : Int32} (hdg : decode cc pc = .ok (.i2b, 1)) (hv : x.toInt8.toInt32 = v)
     (k : WW p l e R s m args below meth c nL D A k9 n9 Q ws lv (pc + 1) (.int v :: rest)) : WW p l e R s m args below meth c nL D A k9 n9 Q ws lv pc (.int x :: rest) :=
  fun H locs ls hP hD hS hl => lv_i2b X.1 X.2.1 hdg hv (k H locs ls hP hD hS hl)
theorem ww_iload_n (X : CX p s m args meth c cc own Ts nL D tys A) {k : Fin 4} {i : Nat} {x : Int32} (hdg : decode cc pc = .ok (.iload_n k, 1)) (j : Nat) (hi : (k : Nat) = i) (hj : lv[j]? = some (i, .int x)) (k : WW p l e R s m args below meth c nL D A k9 n9 Q ws lv (pc + 1) (.int x :: rest)) : WW p l e R s m args below meth c nL D A k9 n9 Q ws lv pc rest :=
  fun H locs ls hP hD hS hl => lv_iload_n X.1 X.2.1 hdg hi (lv_at hl j hj) (k H locs ls hP hD hS hl)
theorem ww_aload_n (X : CX p s m args meth c cc own Ts nL D tys A) {k : Fin 4} {i : Nat} {x : Nat} (hdg : decode cc pc = .ok (.aload_n k, 1)) (j : Nat) (hi : (k : Nat) = i) (hj : lv[j]? = some (i, .ref x)) (k : WW p l e R s m args below meth c nL D A k9 n9 Q ws lv (pc + 1) (.ref x :: rest)) : WW p l e R s m args below meth c nL D A k9 n9 Q ws lv pc rest :=
  fun H locs ls hP hD hS hl => lv_aload_n X.1 X.2.1 hdg hi (lv_at hl j hj) (k H locs ls hP hD hS hl)
theorem ww_lload_n (X : CX p s m args meth c cc own Ts nL D tys A) {k : Fin 4} {i : Nat} {x : Int64} (hdg : decode cc pc = .ok (.lload_n k, 1)) (j : Nat) (hi : (k : Nat) = i) (hj : lv[j]? = some (i, .long x)) (k : WW p l e R s m args below meth c nL D A k9 n9 Q ws lv (pc + 1) (.long x :: rest)) : WW p l e R s m args below meth c nL D A k9 n9 Q ws lv pc rest :=
  fun H locs ls hP hD hS hl => lv_lload_n X.1 X.2.1 hdg hi (lv_at hl j hj) (k H locs ls hP hD hS hl)
theorem ww_iload (X : CX p s m args meth c cc own Ts nL D tys A) {i : Nat} {x : Int32} (hdg : decode cc pc = .ok (.iload i, 2)) (j : Nat) (hj : lv[j]? = some (i, .int x)) (k : WW p l e R s m args below meth c nL D A k9 n9 Q ws lv (pc + 2) (.int x :: rest)) : WW p l e R s m args below meth c nL D A k9 n9 Q ws lv pc rest :=
  fun H locs ls hP hD hS hl => lv_iload X.1 X.2.1 hdg (lv_at hl j hj) (k H locs ls hP hD hS hl)
theorem ww_aload (X : CX p s m args meth c cc own Ts nL D tys A) {i : Nat} {x : Nat} (hdg : decode cc pc = .ok (.aload i, 2)) (j : Nat) (hj : lv[j]? = some (i, .ref x)) (k : WW p l e R s m args below meth c nL D A k9 n9 Q ws lv (pc + 2) (.ref x :: rest)) : WW p l e R s m args below meth c nL D A k9 n9 Q ws lv pc rest :=
  fun H locs ls hP hD hS hl => lv_aload X.1 X.2.1 hdg (lv_at hl j hj) (k H locs ls hP hD hS hl)
theorem ww_istore_n (X : CX p s m args meth c cc own Ts nL D tys A) {k : Fin 4} {i : Nat} {x : Int32} {lv' : List (Nat × Value)} (hdg : decode cc pc = .ok (.istore_n k, 1)) (hi : (k : Nat) = i) (hn : i < nL) (hl : (i, Value.int x) :: lv.filter (fun q => !(q.1 == i) && !(q.1 + 1 == i && q.2.category == 2)) = lv') (kk : WW p l e R s m args below meth c nL D A k9 n9 Q ws lv' (pc + 1) rest) : WW p l e R s m args below meth c nL D A k9 n9 Q ws lv pc (.int x :: rest) :=
  fun H locs ls hP hD hS h => lv_istore_n X.1 X.2.1 hdg hi h hn hl (fun ls' h' => kk H locs ls' hP hD hS h')
theorem ww_astore_n (X : CX p s m args meth c cc own Ts nL D tys A) {k : Fin 4} {i : Nat} {x : Nat} {lv' : List (Nat × Value)} (hdg : decode cc pc = .ok (.astore_n k, 1)) (hi : (k : Nat) = i) (hn : i < nL) (hl : (i, Value.ref x) :: lv.filter (fun q => !(q.1 == i) && !(q.1 + 1 == i && q.2.category == 2)) = lv') (kk : WW p l e R s m args below meth c nL D A k9 n9 Q ws lv' (pc + 1) rest) : WW p l e R s m args below meth c nL D A k9 n9 Q ws lv pc (.ref x :: rest) :=
  fun H locs ls hP hD hS h => lv_astore_n X.1 X.2.1 hdg hi h hn hl (fun ls' h' => kk H locs ls' hP hD hS h')
theorem ww_lstore_n (X : CX p s m args meth c cc own Ts nL D tys A) {k : Fin 4} {i : Nat} {x : Int64} {lv' : List (Nat × Value)} (hdg : decode cc pc = .ok (.lstore_n k, 1)) (hi : (k : Nat) = i) (hn : i + 1 < nL) (hl : (i, Value.long x) :: lv.filter (fun q => !(q.1 == i) && (!(q.1 == i + 1) && !(q.1 + 1 == i && q.2.category == 2))) = lv') (kk : WW p l e R s m args below meth c nL D A k9 n9 Q ws lv' (pc + 1) rest) : WW p l e R s m args below meth c nL D A k9 n9 Q ws lv pc (.long x :: rest) :=
  fun H locs ls hP hD hS h => lv_lstore_n X.1 X.2.1 hdg hi h hn hl (fun ls' h' => kk H locs ls' hP hD hS h')
theorem ww_istore (X : CX p s m args meth c cc own Ts nL D tys A) {i : Nat} {x : Int32} {lv' : List (Nat × Value)} (hdg : decode cc pc = .ok (.istore i, 2)) (hn : i < nL) (hl : (i, Value.int x) :: lv.filter (fun q => !(q.1 == i) && !(q.1 + 1 == i && q.2.category == 2)) = lv') (kk : WW p l e R s m args below meth c nL D A k9 n9 Q ws lv' (pc + 2) rest) : WW p l e R s m args below meth c nL D A k9 n9 Q ws lv pc (.int x :: rest) :=
  fun H locs ls hP hD hS h => lv_istore X.1 X.2.1 hdg h hn hl (fun ls' h' => kk H locs ls' hP hD hS h')
theorem ww_astore (X : CX p s m args meth c cc own Ts nL D tys A) {i : Nat} {x : Nat} {lv' : List (Nat × Value)} (hdg : decode cc pc = .ok (.astore i, 2)) (hn : i < nL) (hl : (i, Value.ref x) :: lv.filter (fun q => !(q.1 == i) && !(q.1 + 1 == i && q.2.category == 2)) = lv') (kk : WW p l e R s m args below meth c nL D A k9 n9 Q ws lv' (pc + 2) rest) : WW p l e R s m args below meth c nL D A k9 n9 Q ws lv pc (.ref x :: rest) :=
  fun H locs ls hP hD hS h => lv_astore X.1 X.2.1 hdg h hn hl (fun ls' h' => kk H locs ls' hP hD hS h')
theorem ww_iinc (X : CX p s m args meth c cc own Ts nL D tys A) {i k : Nat} {n : Int} {x v : Int32} {lv' : List (Nat × Value)} (hdg : decode cc pc = .ok (.iinc i n, 3)) (j : Nat) (hj : lv[j]? = some (i, .int x)) (hv : x + Int32.ofInt n = v) (hn : i < nL) (hl : (i, Value.int v) :: lv.filter (fun q => !(q.1 == i) && !(q.1 + 1 == i && q.2.category == 2)) = lv') (kk : WW p l e R s m args below meth c nL D A k9 n9 Q ws lv' (pc + 3) rest) : WW p l e R s m args below meth c nL D A k9 n9 Q ws lv pc rest :=
  fun H locs ls hP hD hS h => lv_iinc X.1 X.2.1 hdg h (k := j) hj hv hn hl (fun ls' h' => kk H locs ls' hP hD hS h')
theorem ww_if_eq (X : CX p s m args meth c cc own Ts nL D tys A) {x : Int32} {off : Int} {tgt : Nat} (hdg : decode cc pc = .ok (.ifCond .eq off, 3)) (ht : (pc : Int) + off = (tgt : Int)) (kt : x = 0 → WW p l e R s m args below meth c nL D A k9 n9 Q ws lv tgt rest) (kf : ¬ x = 0 → WW p l e R s m args below meth c nL D A k9 n9 Q ws lv (pc + 3) rest) : WW p l e R s m args below meth c nL D A k9 n9 Q ws lv pc (.int x :: rest) :=
  fun H locs ls hP hD hS hl => lv_if_eq X.1 X.2.1 hdg ht (fun q => kt q H locs ls hP hD hS hl) (fun q => kf q H locs ls hP hD hS hl)
theorem ww_if_ne (X : CX p s m args meth c cc own Ts nL D tys A) {x : Int32} {off : Int} {tgt : Nat} (hdg : decode cc pc = .ok (.ifCond .ne off, 3)) (ht : (pc : Int) + off = (tgt : Int)) (kt : ¬ x = 0 → WW p l e R s m args below meth c nL D A k9 n9 Q ws lv tgt rest) (kf : x = 0 → WW p l e R s m args below meth c nL D A k9 n9 Q ws lv (pc + 3) rest) : WW p l e R s m args below meth c nL D A k9 n9 Q ws lv pc (.int x :: rest) :=
  fun H locs ls hP hD hS hl => lv_if_ne X.1 X.2.1 hdg ht (fun q => kt q H locs ls hP hD hS hl) (fun q => kf q H locs ls hP hD hS hl)
theorem ww_if_lt (X : CX p s m args meth c cc own Ts nL D tys A) {x : Int32} {off : Int} {tgt : Nat} (hdg : decode cc pc = .ok (.ifCond .lt off, 3)) (ht : (pc : Int) + off = (tgt : Int)) (kt : x < 0 → WW p l e R s m args below meth c nL D A k9 n9 Q ws lv tgt rest) (kf : ¬ x < 0 → WW p l e R s m args below meth c nL D A k9 n9 Q ws lv (pc + 3) rest) : WW p l e R s m args below meth c nL D A k9 n9 Q ws lv pc (.int x :: rest) :=
  fun H locs ls hP hD hS hl => lv_if_lt X.1 X.2.1 hdg ht (fun q => kt q H locs ls hP hD hS hl) (fun q => kf q H locs ls hP hD hS hl)
theorem ww_if_ge (X : CX p s m args meth c cc own Ts nL D tys A) {x : Int32} {off : Int} {tgt : Nat} (hdg : decode cc pc = .ok (.ifCond .ge off, 3)) (ht : (pc : Int) + off = (tgt : Int)) (kt : 0 ≤ x → WW p l e R s m args below meth c nL D A k9 n9 Q ws lv tgt rest) (kf : ¬ 0 ≤ x → WW p l e R s m args below meth c nL D A k9 n9 Q ws lv (pc + 3) rest) : WW p l e R s m args below meth c nL D A k9 n9 Q ws lv pc (.int x :: rest) :=
  fun H locs ls hP hD hS hl => lv_if_ge X.1 X.2.1 hdg ht (fun q => kt q H locs ls hP hD hS hl) (fun q => kf q H locs ls hP hD hS hl)
theorem ww_if_gt (X : CX p s m args meth c cc own Ts nL D tys A) {x : Int32} {off : Int} {tgt : Nat} (hdg : decode cc pc = .ok (.ifCond .gt off, 3)) (ht : (pc : Int) + off = (tgt : Int)) (kt : 0 < x → WW p l e R s m args below meth c nL D A k9 n9 Q ws lv tgt rest) (kf : ¬ 0 < x → WW p l e R s m args below meth c nL D A k9 n9 Q ws lv (pc + 3) rest) : WW p l e R s m args below meth c nL D A k9 n9 Q ws lv pc (.int x :: rest) :=
  fun H locs ls hP hD hS hl => lv_if_gt X.1 X.2.1 hdg ht (fun q => kt q H locs ls hP hD hS hl) (fun q => kf q H locs ls hP hD hS hl)
theorem ww_if_le (X : CX p s m args meth c cc own Ts nL D tys A) {x : Int32} {off : Int} {tgt : Nat} (hdg : decode cc pc = .ok (.ifCond .le off, 3)) (ht : (pc : Int) + off = (tgt : Int)) (kt : x ≤ 0 → WW p l e R s m args below meth c nL D A k9 n9 Q ws lv tgt rest) (kf : ¬ x ≤ 0 → WW p l e R s m args below meth c nL D A k9 n9 Q ws lv (pc + 3) rest) : WW p l e R s m args below meth c nL D A k9 n9 Q ws lv pc (.int x :: rest) :=
  fun H locs ls hP hD hS hl => lv_if_le X.1 X.2.1 hdg ht (fun q => kt q H locs ls hP hD hS hl) (fun q => kf q H locs ls hP hD hS hl)
theorem ww_icmp_eq (X : CX p s m args meth c cc own Ts nL D tys A) {x y : Int32} {off : Int} {tgt : Nat} (hdg : decode cc pc = .ok (.if_icmp .eq off, 3)) (ht : (pc : Int) + off = (tgt : Int)) (kt : x = y → WW p l e R s m args below meth c nL D A k9 n9 Q ws lv tgt rest) (kf : ¬ x = y → WW p l e R s m args below meth c nL D A k9 n9 Q ws lv (pc + 3) rest) : WW p l e R s m args below meth c nL D A k9 n9 Q ws lv pc (.int y :: .int x :: rest) :=
  fun H locs ls hP hD hS hl => lv_icmp_eq X.1 X.2.1 hdg ht (fun q => kt q H locs ls hP hD hS hl) (fun q => kf q H locs ls hP hD hS hl)
theorem ww_icmp_ne (X : CX p s m args meth c cc own Ts nL D tys A) {x y : Int32} {off : Int} {tgt : Nat} (hdg : decode cc pc = .ok (.if_icmp .ne off, 3)) (ht : (pc : Int) + off = (tgt : Int)) (kt : ¬ x = y → WW p l e R s m args below meth c nL D A k9 n9 Q ws lv tgt rest) (kf : x = y → WW p l e R s m args below meth c nL D A k9 n9 Q ws lv (pc + 3) rest) : WW p l e R s m args below meth c nL D A k9 n9 Q ws lv pc (.int y :: .int x :: rest) :=
  fun H locs ls hP hD hS hl => lv_icmp_ne X.1 X.2.1 hdg ht (fun q => kt q H locs ls hP hD hS hl) (fun q => kf q H locs ls hP hD hS hl)
theorem ww_icmp_lt (X : CX p s m args meth c cc own Ts nL D tys A) {x y : Int32} {off : Int} {tgt : Nat} (hdg : decode cc pc = .ok (.if_icmp .lt off, 3)) (ht : (pc : Int) + off = (tgt : Int)) (kt : x < y → WW p l e R s m args below meth c nL D A k9 n9 Q ws lv tgt rest) (kf : ¬ x < y → WW p l e R s m args below meth c nL D A k9 n9 Q ws lv (pc + 3) rest) : WW p l e R s m args below meth c nL D A k9 n9 Q ws lv pc (.int y :: .int x :: rest) :=
  fun H locs ls hP hD hS hl => lv_icmp_lt X.1 X.2.1 hdg ht (fun q => kt q H locs ls hP hD hS hl) (fun q => kf q H locs ls hP hD hS hl)
theorem ww_icmp_ge (X : CX p s m args meth c cc own Ts nL D tys A) {x y : Int32} {off : Int} {tgt : Nat} (hdg : decode cc pc = .ok (.if_icmp .ge off, 3)) (ht : (pc : Int) + off = (tgt : Int)) (kt : y ≤ x → WW p l e R s m args below meth c nL D A k9 n9 Q ws lv tgt rest) (kf : ¬ y ≤ x → WW p l e R s m args below meth c nL D A k9 n9 Q ws lv (pc + 3) rest) : WW p l e R s m args below meth c nL D A k9 n9 Q ws lv pc (.int y :: .int x :: rest) :=
  fun H locs ls hP hD hS hl => lv_icmp_ge X.1 X.2.1 hdg ht (fun q => kt q H locs ls hP hD hS hl) (fun q => kf q H locs ls hP hD hS hl)
theorem ww_icmp_gt (X : CX p s m args meth c cc own Ts nL D tys A) {x y : Int32} {off : Int} {tgt : Nat} (hdg : decode cc pc = .ok (.if_icmp .gt off, 3)) (ht : (pc : Int) + off = (tgt : Int)) (kt : y < x → WW p l e R s m args below meth c nL D A k9 n9 Q ws lv tgt rest) (kf : ¬ y < x → WW p l e R s m args below meth c nL D A k9 n9 Q ws lv (pc + 3) rest) : WW p l e R s m args below meth c nL D A k9 n9 Q ws lv pc (.int y :: .int x :: rest) :=
  fun H locs ls hP hD hS hl => lv_icmp_gt X.1 X.2.1 hdg ht (fun q => kt q H locs ls hP hD hS hl) (fun q => kf q H locs ls hP hD hS hl)
theorem ww_icmp_le (X : CX p s m args meth c cc own Ts nL D tys A) {x y : Int32} {off : Int} {tgt : Nat} (hdg : decode cc pc = .ok (.if_icmp .le off, 3)) (ht : (pc : Int) + off = (tgt : Int)) (kt : x ≤ y → WW p l e R s m args below meth c nL D A k9 n9 Q ws lv tgt rest) (kf : ¬ x ≤ y → WW p l e R s m args below meth c nL D A k9 n9 Q ws lv (pc + 3) rest) : WW p l e R s m args below meth c nL D A k9 n9 Q ws lv pc (.int y :: .int x :: rest) :=
  fun H locs ls hP hD hS hl => lv_icmp_le X.1 X.2.1 hdg ht (fun q => kt q H locs ls hP hD hS hl) (fun q => kf q H locs ls hP hD hS hl)
theorem ww_goto (X : CX p s m args meth c cc own Ts nL D tys A) {off : Int} {tgt : Nat} (hdg : decode cc pc = .ok (.goto off, 3)) (ht : (pc : Int) + off = (tgt : Int)) (k : WW p l e R s m args below meth c nL D A k9 n9 Q ws lv tgt rest) : WW p l e R s m args below meth c nL D A k9 n9 Q ws lv pc rest :=
  fun H locs ls hP hD hS hl => lv_goto X.1 X.2.1 hdg ht (k H locs ls hP hD hS hl)
theorem ww_tableIn (X : CX p s m args meth c cc own Ts nL D tys A) {dflt lo hi : Int} {offs : Array Int} {len : Nat} {x : Int32} {off : Int} {tgt : Nat} (hdg : decode cc pc = .ok (.tableswitch dflt lo hi offs, len)) (h1 : ¬ x.toInt < lo) (h2 : ¬ hi < x.toInt) (ho : offs[(x.toInt - lo).toNat]? = some off) (ht : (pc : Int) + off = (tgt : Int)) (k : WW p l e R s m args below meth c nL D A k9 n9 Q ws lv tgt rest) : WW p l e R s m args below meth c nL D A k9 n9 Q ws lv pc (.int x :: rest) :=
  fun H locs ls hP hD hS hl => lv_tableIn X.1 X.2.1 hdg h1 h2 ho ht (k H locs ls hP hD hS hl)
theorem ww_tableOut (X : CX p s m args meth c cc own Ts nL D tys A) {dflt lo hi : Int} {offs : Array Int} {len : Nat} {x : Int32} {tgt : Nat} (hdg : decode cc pc = .ok (.tableswitch dflt lo hi offs, len)) (h : x.toInt < lo ∨ hi < x.toInt) (ht : (pc : Int) + dflt = (tgt : Int)) (k : WW p l e R s m args below meth c nL D A k9 n9 Q ws lv tgt rest) : WW p l e R s m args below meth c nL D A k9 n9 Q ws lv pc (.int x :: rest) :=
  fun H locs ls hP hD hS hl => lv_tableOut X.1 X.2.1 hdg h ht (k H locs ls hP hD hS hl)
theorem ww_lookup (X : CX p s m args meth c cc own Ts nL D tys A) {dflt : Int} {ps : Array (Int × Int)} {len : Nat} {x : Int32} {off : Int} {tgt : Nat} (hdg : decode cc pc = .ok (.lookupswitch dflt ps, len)) (hp : (ps.toList.zip (ps.toList.drop 1)).all (fun (a, next) => a.1 < next.1) = true) (ho : Op.lookupswitch.offset ps.toList dflt x.toInt = off) (ht : (pc : Int) + off = (tgt : Int)) (k : WW p l e R s m args below meth c nL D A k9 n9 Q ws lv tgt rest) : WW p l e R s m args below meth c nL D A k9 n9 Q ws lv pc (.int x :: rest) :=
  fun H locs ls hP hD hS hl => lv_lookup X.1 X.2.1 hdg hp ho ht (k H locs ls hP hD hS hl)
theorem ww_ldc (X : CX p s m args meth c cc own Ts nL D tys A) {index : Nat} {v : Int32} (hc : Cond.constant own index v ∈ Ts) (hdg : decode cc pc = .ok (.ldc index, 2)) (k : WW p l e R s m args below meth c nL D A k9 n9 Q ws lv (pc + 2) (.int v :: rest)) : WW p l e R s m args below meth c nL D A k9 n9 Q ws lv pc rest :=
  fun H locs ls hP hD hS hl => lv_ldc X.1 X.2.1 X.2.2.2.1 (X.2.2.2.2.1 _ hc) hdg (k H locs ls hP hD hS hl)
theorem ww_ldc2 (X : CX p s m args meth c cc own Ts nL D tys A) {index : Nat} {v : Int64} (hc : Cond.constantLong own index v ∈ Ts) (hdg : decode cc pc = .ok (.ldc2_w index, 3)) (k : WW p l e R s m args below meth c nL D A k9 n9 Q ws lv (pc + 3) (.long v :: rest)) : WW p l e R s m args below meth c nL D A k9 n9 Q ws lv pc rest :=
  fun H locs ls hP hD hS hl => lv_ldc2 X.1 X.2.1 X.2.2.2.1 (X.2.2.2.2.1 _ hc) hdg (k H locs ls hP hD hS hl)
theorem ww_get (X : CX p s m args meth c cc own Ts nL D tys A) {C : String} {T : u_T} {N ci index a : Nat} (hin : ∀ w ∈ u_ws C T N, w ∈ Ts) (q0 : Nat) {fs : List Value} (he : ws[q0]? = some (a, .inr (ci, fs))) (hc : vwCl[ci]? = some (C, T, N)) (k : Nat) (hk : k < N) (hm : Cond.fieldLink own index (T k).1 (T k).2.1 (T k).2.2.1 ∈ Ts) {v : Value} (hv : fs[k]? = some v) (hdg : decode cc pc = .ok (.getfield index, 3)) (kk : WW p l e R s m args below meth c nL D A k9 n9 Q ws lv (pc + 3) (v :: rest)) : WW p l e R s m args below meth c nL D A k9 n9 Q ws lv pc (.ref a :: rest) :=
  fun H locs ls hP hD hS hl => va_get X.1 X.2.1 X.2.2.2.2.1 hin X.2.2.2.1 X.2.2.2.2.2.1 hP q0 he hc k hk (X.2.2.2.2.1 _ hm) (fun _ h9 => h9) hv hdg (kk H locs ls hP hD hS hl)
theorem ww_put (X : CX p s m args meth c cc own Ts nL D tys A) {C : String} {T : u_T} {N ci index a : Nat} (hin : ∀ w ∈ u_ws C T N, w ∈ Ts) (ty0 : Nat → FieldType) (hty : ∀ k, k < N → parseFieldDescriptor (T k).2.2.1 = some (ty0 k)) (hnm : ∀ a, a < N → ∀ b, b < N → a ≠ b → (T a).2.1 ≠ (T b).2.1) (q0 : Nat) {fs : List Value} (he : ws[q0]? = some (a, .inr (ci, fs))) (hc : vwCl[ci]? = some (C, T, N)) (k : Nat) (hk : k < N) (hm : Cond.fieldLink own index (T k).1 (T k).2.1 (T k).2.2.1 ∈ Ts) (hfin : (T k).2.2.2 = false) {v : Value} (hn : narrow (ty0 k) v = v) (hfit : fits (ty0 k) v = true) (hl9 : k < fs.length) {ws' : va_W} (hw : ws.set q0 (a, .inr (ci, fs.set k v)) = ws') (hdg : decode cc pc = .ok (.putfield index, 3)) (kk : WW p l e R s m args below meth c nL D A k9 n9 Q ws' lv (pc + 3) rest) : WW p l e R s m args below meth c nL D A k9 n9 Q ws lv pc (v :: .ref a :: rest) :=
  fun H locs ls hP hD hS hl => va_put X.1 X.2.1 X.2.2.2.2.1 hin ty0 hty hnm X.2.2.2.1 X.2.2.2.2.2.1 hP hD hS q0 he hc k hk (X.2.2.2.2.1 _ hm) (fun _ h9 => h9) hfin (hty k hk) hn hfit hl9 hdg (fun H1 locs1 hP1 hD1 hS1 => kk H1 locs1 ls (by rw [← hw]; exact hP1) (by rw [← hw]; exact hD1) hS1 hl)
theorem ww_iald (X : CX p s m args meth c cc own Ts nL D tys A) {a : Nat} (q0 t0 : Nat) {cA : ClassId} {n : Nat} {f : Nat → Int32} (ha : ws[q0]? = some (a, .inl (cA, n, .inl f))) (ht : tys[t0]? = some (cA, .int)) {i : Int32} (hin : vp_in i n) (hdg : decode cc pc = .ok (.iaload, 1)) (kk : WW p l e R s m args below meth c nL D A k9 n9 Q ws lv (pc + 1) (.int (f i.toNatClampNeg) :: rest)) : WW p l e R s m args below meth c nL D A k9 n9 Q ws lv pc (.int i :: .ref a :: rest) :=
  fun H locs ls hP hD hS hl => va_iald X.1 X.2.1 X.2.2.2.2.2.1 hP q0 t0 ha ht hin hdg (kk H locs ls hP hD hS hl)
theorem ww_zald (X : CX p s m args meth c cc own Ts nL D tys A) {a : Nat} (q0 t0 : Nat) {cA : ClassId} {n : Nat} {f : Nat → Int32} (ha : ws[q0]? = some (a, .inl (cA, n, .inl f))) (ht : tys[t0]? = some (cA, .boolean)) {i : Int32} (hin : vp_in i n) (hdg : decode cc pc = .ok (.baload, 1)) (kk : WW p l e R s m args below meth c nL D A k9 n9 Q ws lv (pc + 1) (.int (f i.toNatClampNeg) :: rest)) : WW p l e R s m args below meth c nL D A k9 n9 Q ws lv pc (.int i :: .ref a :: rest) :=
  fun H locs ls hP hD hS hl => va_zald X.1 X.2.1 X.2.2.2.2.2.1 hP q0 t0 ha ht hin hdg (kk H locs ls hP hD hS hl)
theorem ww_iast (X : CX p s m args meth c cc own Ts nL D tys A) {a : Nat} (q0 t0 : Nat) {cA : ClassId} {n : Nat} {f : Nat → Int32} (ha : ws[q0]? = some (a, .inl (cA, n, .inl f))) (ht : tys[t0]? = some (cA, .int)) {i : Int32} {x : Int32} (hin : vp_in i n) {ws' : va_W} (hw : ws.set q0 (a, .inl (cA, n, .inl (upd f i.toNatClampNeg x))) = ws') (hdg : decode cc pc = .ok (.iastore, 1)) (kk : WW p l e R s m args below meth c nL D A k9 n9 Q ws' lv (pc + 1) rest) : WW p l e R s m args below meth c nL D A k9 n9 Q ws lv pc (.int x :: .int i :: .ref a :: rest) :=
  fun H locs ls hP hD hS hl => va_iast X.1 X.2.1 X.2.2.2.2.2.1 hP hD hS q0 t0 ha ht hin hdg (fun H1 locs1 hP1 hD1 hS1 => kk H1 locs1 ls (by rw [← hw]; exact hP1) (by rw [← hw]; exact hD1) hS1 hl)
theorem ww_zast (X : CX p s m args meth c cc own Ts nL D tys A) {a : Nat} (q0 t0 : Nat) {cA : ClassId} {n : Nat} {f : Nat → Int32} (ha : ws[q0]? = some (a, .inl (cA, n, .inl f))) (ht : tys[t0]? = some (cA, .boolean)) {i : Int32} {x : Int32} (hin : vp_in i n) (hx : vp_nar .boolean x = x) {ws' : va_W} (hw : ws.set q0 (a, .inl (cA, n, .inl (upd f i.toNatClampNeg x))) = ws') (hdg : decode cc pc = .ok (.bastore, 1)) (kk : WW p l e R s m args below meth c nL D A k9 n9 Q ws' lv (pc + 1) rest) : WW p l e R s m args below meth c nL D A k9 n9 Q ws lv pc (.int x :: .int i :: .ref a :: rest) :=
  fun H locs ls hP hD hS hl => va_zast X.1 X.2.1 X.2.2.2.2.2.1 hP hD hS q0 t0 ha ht hin hdg (fun H1 locs1 hP1 hD1 hS1 => kk H1 locs1 ls (by rw [hx] at hP1; rw [← hw]; exact hP1) (by rw [hx] at hD1; rw [← hw]; exact hD1) hS1 hl)
theorem ww_alen (X : CX p s m args meth c cc own Ts nL D tys A) {a : Nat} (q0 t0 : Nat) {cA : ClassId} {x : vp_A} (ha : ws[q0]? = some (a, .inl (cA, x))) {ty : FieldType} (ht : tys[t0]? = some (cA, ty)) {v : Int32} (hv : Int32.ofNat x.1 = v) (hdg : decode cc pc = .ok (.arraylength, 1)) (kk : WW p l e R s m args below meth c nL D A k9 n9 Q ws lv (pc + 1) (.int v :: rest)) : WW p l e R s m args below meth c nL D A k9 n9 Q ws lv pc (.ref a :: rest) :=
  fun H locs ls hP hD hS hl => va_alen X.1 X.2.1 X.2.2.2.2.2.1 hP q0 t0 ha ht hv hdg (kk H locs ls hP hD hS hl)
theorem ww_mmin (X : CX p s m args meth c cc own Ts nL D tys A) {x y : Int32} {index : Nat} (h1 : Cond.methodLink own index Lib.Math.min.name ∈ Ts) (h2 : Cond.static Lib.Math.min.name ∈ Ts) (h3 : Cond.initialized "java/lang/Math" ∈ Ts) (h4 : Cond.code Lib.Math.min.name Lib.Math.min.code 2 (some .int) ∈ Ts) (hf : 1 ≤ R.frames) (hlo : (rest.map fun v => v.category).sum + 13 ≤ R.locals) (hc : k9 ≤ R.cells) (hs : n9 ≤ R.slots) (hdg : decode cc pc = .ok (.invokestatic index, 3)) (kk : WW p l e R s m args below meth c nL D A k9 n9 Q ws lv (pc + 3) (.int (if y < x then y else x) :: rest)) : WW p l e R s m args below meth c nL D A k9 n9 Q ws lv pc (.int y :: .int x :: rest) :=
  fun H locs ls hP hD hS hl => va_mmin X.1 X.2.1 (X.2.2.1.trans hl.1.symm) X.2.2.2.1 (X.2.2.2.2.1 _ h1) (X.2.2.2.2.1 _ h2) (X.2.2.2.2.1 _ h3) (X.2.2.2.2.1 _ h4) hf hlo hc hs hdg (kk H locs ls hP hD hS hl)
theorem ww_mmax (X : CX p s m args meth c cc own Ts nL D tys A) {x y : Int32} {index : Nat} (h1 : Cond.methodLink own index Lib.Math.max.name ∈ Ts) (h2 : Cond.static Lib.Math.max.name ∈ Ts) (h3 : Cond.initialized "java/lang/Math" ∈ Ts) (h4 : Cond.code Lib.Math.max.name Lib.Math.max.code 2 (some .int) ∈ Ts) (hf : 1 ≤ R.frames) (hlo : (rest.map fun v => v.category).sum + 13 ≤ R.locals) (hc : k9 ≤ R.cells) (hs : n9 ≤ R.slots) (hdg : decode cc pc = .ok (.invokestatic index, 3)) (kk : WW p l e R s m args below meth c nL D A k9 n9 Q ws lv (pc + 3) (.int (if x < y then y else x) :: rest)) : WW p l e R s m args below meth c nL D A k9 n9 Q ws lv pc (.int y :: .int x :: rest) :=
  fun H locs ls hP hD hS hl => va_mmax X.1 X.2.1 (X.2.2.1.trans hl.1.symm) X.2.2.2.1 (X.2.2.2.2.1 _ h1) (X.2.2.2.2.1 _ h2) (X.2.2.2.2.1 _ h3) (X.2.2.2.2.1 _ h4) hf hlo hc hs hdg (kk H locs ls hP hD hS hl)
theorem ww_mabs (X : CX p s m args meth c cc own Ts nL D tys A) {x : Int32} {index : Nat} (h1 : Cond.methodLink own index Lib.Math.abs.name ∈ Ts) (h2 : Cond.static Lib.Math.abs.name ∈ Ts) (h3 : Cond.initialized "java/lang/Math" ∈ Ts) (h4 : Cond.code Lib.Math.abs.name Lib.Math.abs.code 1 (some .int) ∈ Ts) (hf : 1 ≤ R.frames) (hlo : (rest.map fun v => v.category).sum + 13 ≤ R.locals) (hc : k9 ≤ R.cells) (hs : n9 ≤ R.slots) (hdg : decode cc pc = .ok (.invokestatic index, 3)) (kk : WW p l e R s m args below meth c nL D A k9 n9 Q ws lv (pc + 3) (.int (if 0 ≤ x then x else 0 - x) :: rest)) : WW p l e R s m args below meth c nL D A k9 n9 Q ws lv pc (.int x :: rest) :=
  fun H locs ls hP hD hS hl => va_mabs X.1 X.2.1 (X.2.2.1.trans hl.1.symm) X.2.2.2.1 (X.2.2.2.2.1 _ h1) (X.2.2.2.2.1 _ h2) (X.2.2.2.2.1 _ h3) (X.2.2.2.2.1 _ h4) hf hlo hc hs hdg (kk H locs ls hP hD hS hl)
theorem ww_iret {r v : Int32} {w1 : va_W} {ty : FieldType} (X : CX p s m args meth c cc own Ts nL D tys A) (hr : meth.sig.returnType = some ty) (hn : narrow ty (.int v) = .int v) (hv : v = r) (hw : ws = w1) (hdg : decode cc pc = .ok (.ireturn, 1)) : WW p l e R s m args below meth c nL D A 0 0 (RQi below args s D A r w1) ws lv pc [.int v] :=
  fun H locs ls hP hD hS hl => W.zret X.1 X.2.1 hr hn (fun t ht hW => ⟨⟨v, (), rfl, hv, by rw [ht, ← hw]; exact hP, by rw [← hw]; exact hD⟩, hS.F ht⟩) hS.2.2 hdg X.2.2.2.2.2.2.2
theorem ww_vret {w1 : va_W} (X : CX p s m args meth c cc own Ts nL D tys A) (hr : meth.sig.returnType = none) (hw : ws = w1) (hdg : decode cc pc = .ok (.return_, 1)) : WW p l e R s m args below meth c nL D A 0 0 (RQv below args s D A w1) ws lv pc [] :=
  fun H locs ls hP hD hS hl => W.vret X.1 X.2.1 hr (fun t ht hW => ⟨⟨(), rfl, trivial, by rw [ht, ← hw]; exact hP, by rw [← hw]; exact hD⟩, hS.F ht⟩) hS.2.2 hdg X.2.2.2.2.2.2.2
end WWrows
theorem ci_of {l : Launch} {y : MethodName} {wsC ws' : List Cond} {rm : Room} {D : va_G} {tys : List (ClassId × FieldType)} {av : List Value} {w0 w1 : va_W} {r : Int32} {cc : ByteArray} {nL : Nat} {ty : FieldType} {lv0 : List (Nat × Value)}
    (hy : plainName y.cls = true) (hw : wsC = Cond.code y cc nL (some ty) :: ws') (hle : (lg_sl av).length ≤ nL) (hlv : lv_args 0 av = lv0)
    (body : ∀ (p : Program) (e : Env) (s : State) (m : MethodId) (args : Array Value) (below : List Frame) (meth : Method) (c : Code) (A : Nat → Prop), CX p s m args meth c cc y.cls wsC nL D tys A → meth.sig.returnType = some ty → WW p l e (headSpec wsC rm).room s m args below meth c nL D A 0 0 (RQi below args s D A r w1) w0 lv0 0 []) : Ci l y wsC rm D tys av w0 r w1 := by
  intro sz
  refine Met.ofW (cc := cc) (maxL := nL) (ret := some ty) hy hw ?_
  intro p e s m args below meth c s₁ B hml hv
  obtain ⟨rfl, hsz, hP, hK, hD0⟩ := hv
  subst hsz
  have hl := lv_entry av (n := nL) hle
  rw [hlv] at hl
  rw [lg_entry_eq]
  exact body p e s m _ below meth c (va_A w0 s.heap.size) ⟨B.exec, B.bytes, hml, findClass_of_methodNamed B.named, atoms_spec (ws := wsC) B.pre, hK, fun q h => Or.inr h, B.notSynchronized⟩ B.returns s.heap [] _ hP (hD0.self (sz := s.heap.size)) va_S.rf hl
theorem cv_of {l : Launch} {y : MethodName} {wsC ws' : List Cond} {rm : Room} {D : va_G} {tys : List (ClassId × FieldType)} {av : List Value} {w0 w1 : va_W} {cc : ByteArray} {nL : Nat} {lv0 : List (Nat × Value)}
    (hy : plainName y.cls = true) (hw : wsC = Cond.code y cc nL none :: ws') (hle : (lg_sl av).length ≤ nL) (hlv : lv_args 0 av = lv0)
    (body : ∀ (p : Program) (e : Env) (s : State) (m : MethodId) (args : Array Value) (below : List Frame) (meth : Method) (c : Code) (A : Nat → Prop), CX p s m args meth c cc y.cls wsC nL D tys A → meth.sig.returnType = none → WW p l e (headSpec wsC rm).room s m args below meth c nL D A 0 0 (RQv below args s D A w1) w0 lv0 0 []) : Cv l y wsC rm D tys av w0 w1 := by
  intro sz
  refine Met.ofW (cc := cc) (maxL := nL) (ret := none) hy hw ?_
  intro p e s m args below meth c s₁ B hml hv
  obtain ⟨rfl, hsz, hP, hK, hD0⟩ := hv
  subst hsz
  have hl := lv_entry av (n := nL) hle
  rw [hlv] at hl
  rw [lg_entry_eq]
  exact body p e s m _ below meth c (va_A w0 s.heap.size) ⟨B.exec, B.bytes, hml, findClass_of_methodNamed B.named, atoms_spec (ws := wsC) B.pre, hK, fun q h => Or.inr h, B.notSynchronized⟩ B.returns s.heap [] _ hP (hD0.self (sz := s.heap.size)) va_S.rf hl
section WWcalls
variable {p : Program} {l : Launch} {e : Env} {R : Room} {s : State} {m : MethodId} {args : Array Value} {below : List Frame} {meth : Method} {c : Code} {Q : State → Prop} {D : va_G} {A : Nat → Prop} {tys : List (ClassId × FieldType)} {nL k9 n9 : Nat} {cc : ByteArray} {own : String} {Ts : List Cond} {ws : va_W} {lv : List (Nat × Value)} {pc : Nat} {rest : List Value}
variable {y : MethodName} {bytes : ByteArray} {maxL index : Nat} {ret : Option FieldType} {wsC ws' : List Cond} {rm : Room} {C : String} {b : Nat} {As st : List Value} {w0 w1 wsN : va_W} {r : Int32}
theorem w_blind {D : va_G} {tys : List (ClassId × FieldType)} {av : List Value} {w0 : va_W} {sz : Nat} : FrameBlind (va_Pc av (fun U => U.heap.size = sz ∧ va_P D vwCl w0 U.heap ∧ va_K D vwCl tys U ∧ va_D (fun _ => True) w0)) :=
  fun a U g mk q => by obtain ⟨q0, q1, qP, qK, qD⟩ := q; exact ⟨q0, q1, qP, va_K.moved (u := U) (U := U.calling g mk a) (Vm.Alike.refl U.vm) qK, qD⟩
theorem w_pre {D : va_G} {tys : List (ClassId × FieldType)} {av : List Value} {w0 : va_W} {A : Nat → Prop} {s : State} {H : Heap} (hP : va_P D vwCl w0 H) (hK : va_K D vwCl tys s) (hD : va_D A w0) : ∀ U : State, U.heap = H → s.WarmedH U.vm → va_Pc av (fun U => U.heap.size = H.size ∧ va_P D vwCl w0 U.heap ∧ va_K D vwCl tys U ∧ va_D (fun _ => True) w0) av.toArray U :=
  fun U hU hW => ⟨rfl, by rw [hU], by rw [hU]; exact hP, va_K.moved hW.alike hK, hD.weaken (fun _ _ _ _ => trivial)⟩
theorem w_subP {D : va_G} {cl : List vw_C} {ws wc : va_W} {H : Heap} (hP : va_P D cl ws H) (isC : List Nat) (hC : isC.map (fun i => ws[i]?) = wc.map some) : va_P D cl wc H := by
  intro k q hq
  have h1 : (isC.map (fun i => ws[i]?))[k]? = some (some q) := by rw [hC, List.getElem?_map, hq]; rfl
  rw [List.getElem?_map] at h1
  cases hi : isC[k]? with
  | none => rw [hi] at h1; cases h1
  | some i => rw [hi] at h1; exact hP i q (Option.some.inj h1)
/-- a call of a method of an object -/
theorem ww_cVi (X : CX p s m args meth c cc own Ts nL D tys A) (hM : Ci l y wsC rm D tys (.ref b :: As) w0 r w1) (hG : GoodIn Ts (wsV own index C y wsC)) (hw : wsC = Cond.code y bytes maxL ret :: ws') (hd : y.cls = C ∧ y.cls ≠ "java/lang/invoke/MethodHandle" ∧ y.cls ≠ "java/lang/invoke/VarHandle" ∧ (parseMethodDescriptor y.desc).map (fun d => d.parameters.length) = some As.length) (isC : List Nat) (hC : isC.map (fun i => ws[i]?) = w0.map some) (hnd : va_nd isC = true) (hadr : w1.map Prod.fst = w0.map Prod.fst) (hwN : wput ws isC w1 = wsN) {ci q0 : Nat} {qc : vw_C} {fs : List Value} (hci : vwCl[ci]? = some qc) (hcn : qc.1 = C) (hrc : w0[q0]? = some (b, .inr (ci, fs))) (hst : st = As.reverse ++ .ref b :: rest) (hrm : rm.cells = 0 ∧ rm.slots = 0) (hR : rm.frames + 1 ≤ R.frames ∧ 8 + (maxL + 11) + rm.locals ≤ R.locals) (hrest : (rest.map fun v => v.category).sum ≤ 8) (hf : k9 ≤ R.cells ∧ n9 ≤ R.slots) (hdg : decode cc pc = .ok (.invokevirtual index, 3)) (kk : WW p l e R s m args below meth c nL D A k9 n9 Q wsN lv (pc + 3) (.int r :: rest)) : WW p l e R s m args below meth c nL D A k9 n9 Q ws lv pc st := by
  intro H locs ls hP hD hS hl
  have hPc := w_subP hP isC hC
  have hDc := hD.sub isC hnd hC
  have hFc := va_free (wc := w0) hD hS X.2.2.2.2.2.2.1 isC hC
  refine va_calli (va_runV (As := As) (rest := rest) (b := b) (C := C) ⟨X.1, X.2.1, X.2.2.1, X.2.2.2.1, X.2.2.2.2.1⟩ (hM H.size) (cwV As.length X.2.2.2.2.1 hG hw hrm.1 hrm.2 hd hR) ⟨w_blind, by rw [← hcn]; exact va_recv X.2.2.2.2.2.1 hPc hci hrc, w_pre hPc X.2.2.2.2.2.1 hDc⟩ rfl rfl hl.1 hst (lv_room hrest) hdg hf) hS (fun q _ h => hFc q h) hFc (fun r9 u t H1 locs1 ht hvm hw9 hB hz1 hk1 hS1 => ?_)
  obtain ⟨hP1, hD1⟩ := hB
  rw [ht] at hP1
  obtain ⟨hPn, hDn⟩ := w_join hP hD isC hC hadr hk1 hP1
  rw [hwN] at hPn hDn
  subst hw9
  exact kk H1 locs1 ls hPn hDn hS1 hl
/-- a call of a static method of the same home -/
theorem ww_cSi (X : CX p s m args meth c cc own Ts nL D tys A) (hM : Ci l y wsC rm D tys As w0 r w1) (hG : GoodIn Ts (wsS own index y wsC)) (hw : wsC = Cond.code y bytes maxL ret :: ws') (hd : y.cls = own ∧ y.cls ≠ "java/lang/invoke/MethodHandle" ∧ y.cls ≠ "java/lang/invoke/VarHandle" ∧ (parseMethodDescriptor y.desc).map (fun d => d.parameters.length) = some As.length) (isC : List Nat) (hC : isC.map (fun i => ws[i]?) = w0.map some) (hnd : va_nd isC = true) (hadr : w1.map Prod.fst = w0.map Prod.fst) (hwN : wput ws isC w1 = wsN) (hst : st = As.reverse ++ rest) (hrm : rm.cells = 0 ∧ rm.slots = 0) (hR : rm.frames + 1 ≤ R.frames ∧ 8 + (maxL + 11) + rm.locals ≤ R.locals) (hrest : (rest.map fun v => v.category).sum ≤ 8) (hf : k9 ≤ R.cells ∧ n9 ≤ R.slots) (hdg : decode cc pc = .ok (.invokestatic index, 3)) (kk : WW p l e R s m args below meth c nL D A k9 n9 Q wsN lv (pc + 3) (.int r :: rest)) : WW p l e R s m args below meth c nL D A k9 n9 Q ws lv pc st := by
  intro H locs ls hP hD hS hl
  have hPc := w_subP hP isC hC
  have hDc := hD.sub isC hnd hC
  have hFc := va_free (wc := w0) hD hS X.2.2.2.2.2.2.1 isC hC
  refine va_calli (va_runS (As := As) (rest := rest) ⟨X.1, X.2.1, X.2.2.1, X.2.2.2.1, X.2.2.2.2.1⟩ (hM H.size) (cwS As.length X.2.2.2.2.1 hG hw hrm.1 hrm.2 hd hR) ⟨w_blind, w_pre hPc X.2.2.2.2.2.1 hDc⟩ rfl rfl hl.1 hst (lv_room hrest) hdg hf) hS (fun q _ h => hFc q h) hFc (fun r9 u t H1 locs1 ht hvm hw9 hB hz1 hk1 hS1 => ?_)
  obtain ⟨hP1, hD1⟩ := hB
  rw [ht] at hP1
  obtain ⟨hPn, hDn⟩ := w_join hP hD isC hC hadr hk1 hP1
  rw [hwN] at hPn hDn
  subst hw9
  exact kk H1 locs1 ls hPn hDn hS1 hl
/-- a call of a method of an object -/
theorem ww_cVv (X : CX p s m args meth c cc own Ts nL D tys A) (hM : Cv l y wsC rm D tys (.ref b :: As) w0 w1) (hG : GoodIn Ts (wsV own index C y wsC)) (hw : wsC = Cond.code y bytes maxL ret :: ws') (hd : y.cls = C ∧ y.cls ≠ "java/lang/invoke/MethodHandle" ∧ y.cls ≠ "java/lang/invoke/VarHandle" ∧ (parseMethodDescriptor y.desc).map (fun d => d.parameters.length) = some As.length) (isC : List Nat) (hC : isC.map (fun i => ws[i]?) = w0.map some) (hnd : va_nd isC = true) (hadr : w1.map Prod.fst = w0.map Prod.fst) (hwN : wput ws isC w1 = wsN) {ci q0 : Nat} {qc : vw_C} {fs : List Value} (hci : vwCl[ci]? = some qc) (hcn : qc.1 = C) (hrc : w0[q0]? = some (b, .inr (ci, fs))) (hst : st = As.reverse ++ .ref b :: rest) (hrm : rm.cells = 0 ∧ rm.slots = 0) (hR : rm.frames + 1 ≤ R.frames ∧ 8 + (maxL + 11) + rm.locals ≤ R.locals) (hrest : (rest.map fun v => v.category).sum ≤ 8) (hf : k9 ≤ R.cells ∧ n9 ≤ R.slots) (hdg : decode cc pc = .ok (.invokevirtual index, 3)) (kk : WW p l e R s m args below meth c nL D A k9 n9 Q wsN lv (pc + 3) (rest)) : WW p l e R s m args below meth c nL D A k9 n9 Q ws lv pc st := by
  intro H locs ls hP hD hS hl
  have hPc := w_subP hP isC hC
  have hDc := hD.sub isC hnd hC
  have hFc := va_free (wc := w0) hD hS X.2.2.2.2.2.2.1 isC hC
  refine va_callv (va_runV (As := As) (rest := rest) (b := b) (C := C) ⟨X.1, X.2.1, X.2.2.1, X.2.2.2.1, X.2.2.2.2.1⟩ (hM H.size) (cwV As.length X.2.2.2.2.1 hG hw hrm.1 hrm.2 hd hR) ⟨w_blind, by rw [← hcn]; exact va_recv X.2.2.2.2.2.1 hPc hci hrc, w_pre hPc X.2.2.2.2.2.1 hDc⟩ rfl rfl hl.1 hst (lv_room hrest) hdg hf) hS (fun q _ h => hFc q h) hFc (fun u t H1 locs1 ht hvm hw9 hB hz1 hk1 hS1 => ?_)
  obtain ⟨hP1, hD1⟩ := hB
  rw [ht] at hP1
  obtain ⟨hPn, hDn⟩ := w_join hP hD isC hC hadr hk1 hP1
  rw [hwN] at hPn hDn
  exact kk H1 locs1 ls hPn hDn hS1 hl
/-- a call of a static method of the same home -/
theorem ww_cSv (X : CX p s m args meth c cc own Ts nL D tys A) (hM : Cv l y wsC rm D tys As w0 w1) (hG : GoodIn Ts (wsS own index y wsC)) (hw : wsC = Cond.code y bytes maxL ret :: ws') (hd : y.cls = own ∧ y.cls ≠ "java/lang/invoke/MethodHandle" ∧ y.cls ≠ "java/lang/invoke/VarHandle" ∧ (parseMethodDescriptor y.desc).map (fun d => d.parameters.length) = some As.length) (isC : List Nat) (hC : isC.map (fun i => ws[i]?) = w0.map some) (hnd : va_nd isC = true) (hadr : w1.map Prod.fst = w0.map Prod.fst) (hwN : wput ws isC w1 = wsN) (hst : st = As.reverse ++ rest) (hrm : rm.cells = 0 ∧ rm.slots = 0) (hR : rm.frames + 1 ≤ R.frames ∧ 8 + (maxL + 11) + rm.locals ≤ R.locals) (hrest : (rest.map fun v => v.category).sum ≤ 8) (hf : k9 ≤ R.cells ∧ n9 ≤ R.slots) (hdg : decode cc pc = .ok (.invokestatic index, 3)) (kk : WW p l e R s m args below meth c nL D A k9 n9 Q wsN lv (pc + 3) (rest)) : WW p l e R s m args below meth c nL D A k9 n9 Q ws lv pc st := by
  intro H locs ls hP hD hS hl
  have hPc := w_subP hP isC hC
  have hDc := hD.sub isC hnd hC
  have hFc := va_free (wc := w0) hD hS X.2.2.2.2.2.2.1 isC hC
  refine va_callv (va_runS (As := As) (rest := rest) ⟨X.1, X.2.1, X.2.2.1, X.2.2.2.1, X.2.2.2.2.1⟩ (hM H.size) (cwS As.length X.2.2.2.2.1 hG hw hrm.1 hrm.2 hd hR) ⟨w_blind, w_pre hPc X.2.2.2.2.2.1 hDc⟩ rfl rfl hl.1 hst (lv_room hrest) hdg hf) hS (fun q _ h => hFc q h) hFc (fun u t H1 locs1 ht hvm hw9 hB hz1 hk1 hS1 => ?_)
  obtain ⟨hP1, hD1⟩ := hB
  rw [ht] at hP1
  obtain ⟨hPn, hDn⟩ := w_join hP hD isC hC hadr hk1 hP1
  rw [hwN] at hPn hDn
  exact kk H1 locs1 ls hPn hDn hS1 hl
end WWcalls
end
section
theorem vl_in {x : Int32} {n : Nat} (h : (decide (0 ≤ x.toInt) && decide (x.toInt < (n : Int))) = true) : vp_in x n := by
  rw [Bool.and_eq_true, decide_eq_true_eq, decide_eq_true_eq] at h
  exact vp_in_iff.mpr h
theorem vn {x : Int32} {m n : Nat} (hx : x = nI m) (h : m < n) (hn : n < 2 ^ 31) : vp_in x n := by
  rw [hx]
  exact vp_in_nI h hn
theorem nat_iadd {x y : Int32} {a b : Nat} (hx : x = nI a) (hy : y = nI b) : x + y = nI (a + b) := by
  rw [hx, hy, nI_add]
theorem nat_imul {x y : Int32} {a b : Nat} (hx : x = nI a) (hy : y = nI b) : x * y = nI (a * b) := by
  rw [hx, hy, pk_mul]
theorem cl_eq {x : Int32} (h : ¬ x < 0) : x = nI x.toNatClampNeg := by
  obtain ⟨j, hj, rfl⟩ := nI_of h
  rw [nI_clamp hj]
theorem cl_lt (x : Int32) : x.toNatClampNeg < 2 ^ 31 := by
  rcases Int.lt_or_le x.toInt 0 with h | h
  · have : x.toNatClampNeg = 0 := by
      show x.toInt.toNat = 0
      omega
    omega
  · have h2 := Int32.toInt_lt x
    show x.toInt.toNat < 2 ^ 31
    omega
theorem lp_ge0 {bx : Int32} {B j : Nat} (hB : bx = nI B) (h : B ≤ j) (hj : j < 2 ^ 31) : bx ≤ nI j := by
  rw [hB]
  exact nI_le h hj
theorem lp_ge1 {bx : Int32} {B j : Nat} (hB : bx = nI B) (h : j < B) (hb : B < 2 ^ 31) : ¬ bx ≤ nI j := by
  rw [hB]
  exact nI_ge h hb
theorem lp_gt0 {bx : Int32} {b j : Nat} (hB : bx = nI b) (h : b + 1 ≤ j) (hj : j < 2 ^ 31) : bx < nI j := by
  rw [hB]
  exact nI_lt h hj
theorem lp_gt1 {bx : Int32} {b j : Nat} (hB : bx = nI b) (h : j < b + 1) (hb : b + 1 < 2 ^ 31) : ¬ bx < nI j := by
  rw [hB]
  exact nI_nlt (by omega) (by omega)
theorem lp_ge0c {bx : Int32} {j : Nat} (h : bx.toNatClampNeg ≤ j) (hj : j < 2 ^ 31) : bx ≤ nI j := by
  rw [Int32.le_iff_toInt_le, nI_toInt hj]
  have : bx.toInt.toNat ≤ j := h
  omega
theorem lp_ge1c {bx : Int32} {j : Nat} (h : j < bx.toNatClampNeg) : ¬ bx ≤ nI j := by
  have h2 : j < bx.toInt.toNat := h
  have h3 := Int32.toInt_lt bx
  rw [Int32.le_iff_toInt_le, nI_toInt (by omega)]
  omega
theorem vp_off {x c : Int32} {k n N : Nat} (h : vp_in x n) (hc : c = nI k) (hN : k + n ≤ N) (hs : N < 2 ^ 31) : vp_in (c + x) N := by
  obtain ⟨j, hj, rfl⟩ := vp_in_of h (by omega)
  rw [hc, nI_add]
  exact vp_in_nI (by omega) hs
theorem vp_mono {x : Int32} {n N : Nat} (h : vp_in x n) (hN : n ≤ N) : vp_in x N := fun q => h (q.elim Or.inl (fun q => Or.inr (Nat.le_trans hN q)))
theorem vin_lt {x N : Int32} {n : Nat} (h0 : ¬ x < 0) (h : x < N) (hN : N = nI n) : vp_in x n := by
  obtain ⟨j, hj, rfl⟩ := nI_of h0
  intro q
  rcases q with q | q
  · exact h0 q
  · rw [nI_clamp hj] at q
    rw [hN] at h
    exact nI_nlt q hj h
theorem vin_nge {x N : Int32} {n : Nat} (h0 : ¬ x < 0) (h : ¬ N ≤ x) (hN : N = nI n) : vp_in x n := vin_lt h0 (Int32.not_le.mp h) hN
theorem vin_ne {x N : Int32} {n : Nat} (h0 : ¬ x < 0) (h1 : x ≤ N) (h : ¬ x = N) (hN : N = nI n) : vp_in x n := by
  refine vin_lt h0 ?_ hN
  rw [Int32.lt_iff_toInt_lt]
  rw [Int32.le_iff_toInt_le] at h1
  have : x.toInt ≠ N.toInt := fun e => h (Int32.toInt_inj.mp e)
  omega
theorem ne_nle {x : Int32} (h : ¬ x ≤ 0) : ¬ x = 0 := fun e => h (by rw [e]; decide)
theorem aq {i : Int32} {k b n : Nat} {r : Nat → Nat} (h : i = nI k) (hk : k < n) (hn : n < 2 ^ 31 := by decide) : (fun z => if z < n then some (r (b + z)) else none) i.toNatClampNeg = some (r (b + k)) := by
  subst h
  simp only [nI_clamp (show k < 2 ^ 31 by omega), if_pos hk]
theorem c2_ {P : Nat → Prop} (h0 : P 0) (h1 : P 1) {k : Nat} (hk : k < 2) : P k := by
  rcases (show k = 0 ∨ k = 1 by omega) with rfl | rfl
  · exact h0
  · exact h1
theorem c6_ {P : Nat → Prop} (h0 : P 0) (h1 : P 1) (h2 : P 2) (h3 : P 3) (h4 : P 4) (h5 : P 5) {k : Nat} (hk : k < 6) : P k := by
  rcases (show k = 0 ∨ k = 1 ∨ k = 2 ∨ k = 3 ∨ k = 4 ∨ k = 5 by omega) with rfl | rfl | rfl | rfl | rfl | rfl
  · exact h0
  · exact h1
  · exact h2
  · exact h3
  · exact h4
  · exact h5
theorem c20_ {P : Nat → Prop} (h0 : P 0) (h1 : P 1) (h2 : P 2) (h3 : P 3) (h4 : P 4) (h5 : P 5) (h6 : P 6) (h7 : P 7) (h8 : P 8) (h9 : P 9) (h10 : P 10) (h11 : P 11) (h12 : P 12) (h13 : P 13) (h14 : P 14) (h15 : P 15) (h16 : P 16) (h17 : P 17) (h18 : P 18) (h19 : P 19) {k : Nat} (hk : k < 20) : P k := by
  rcases (show k = 0 ∨ k = 1 ∨ k = 2 ∨ k = 3 ∨ k = 4 ∨ k = 5 ∨ k = 6 ∨ k = 7 ∨ k = 8 ∨ k = 9 ∨ k = 10 ∨ k = 11 ∨ k = 12 ∨ k = 13 ∨ k = 14 ∨ k = 15 ∨ k = 16 ∨ k = 17 ∨ k = 18 ∨ k = 19 by omega) with rfl | rfl | rfl | rfl | rfl | rfl | rfl | rfl | rfl | rfl | rfl | rfl | rfl | rfl | rfl | rfl | rfl | rfl | rfl | rfl
  · exact h0
  · exact h1
  · exact h2
  · exact h3
  · exact h4
  · exact h5
  · exact h6
  · exact h7
  · exact h8
  · exact h9
  · exact h10
  · exact h11
  · exact h12
  · exact h13
  · exact h14
  · exact h15
  · exact h16
  · exact h17
  · exact h18
  · exact h19
theorem clb {x : Int32} {n : Nat} (h : vp_in x n) : x.toNatClampNeg < n := Nat.not_le.mp fun q => h (Or.inr q)
theorem cl_of {x : Int32} {n : Nat} (h : vp_in x n) : x = nI x.toNatClampNeg := cl_eq (fun q => h (Or.inl q))
section WWmore
variable {p : Program} {l : Launch} {e : Env} {R : Room} {s : State} {m : MethodId} {args : Array Value} {below : List Frame} {meth : Method} {c : Code} {Q : State → Prop} {D : va_G} {A : Nat → Prop} {nL k9 n9 : Nat} {ws ws' : va_W} {lv lv' : List (Nat × Value)} {pc : Nat} {st : List Value}
theorem ww_lsub (ks : List Nat) (hl : lv_pick lv ks = lv') (k : WW p l e R s m args below meth c nL D A k9 n9 Q ws lv' pc st) : WW p l e R s m args below meth c nL D A k9 n9 Q ws lv pc st :=
  fun H locs ls hP hD hS h => k H locs ls hP hD hS (lv_sub h ks hl)
theorem ww_cast (hw : ws = ws') (hl : lv = lv') (k : WW p l e R s m args below meth c nL D A k9 n9 Q ws lv pc st) : WW p l e R s m args below meth c nL D A k9 n9 Q ws' lv' pc st := by
  subst hw
  subst hl
  exact k
theorem ww_aald {cc : ByteArray} {own : String} {Ts : List Cond} {tys : List (ClassId × FieldType)} {rest : List Value} (X : CX p s m args meth c cc own Ts nL D tys A) {a : Nat} (q0 t0 : Nat) {cA : ClassId} {ty : FieldType} {n q : Nat} {f : Nat → Option Nat} (ha : ws[q0]? = some (a, .inl (cA, n, .inr (.inr (.inr (.inr f)))))) (ht : tys[t0]? = some (cA, .array ty)) {i : Int32} (hin : vp_in i n) (hq : f i.toNatClampNeg = some q) (hdg : decode cc pc = .ok (.aaload, 1)) (kk : WW p l e R s m args below meth c nL D A k9 n9 Q ws lv (pc + 1) (.ref q :: rest)) : WW p l e R s m args below meth c nL D A k9 n9 Q ws lv pc (.int i :: .ref a :: rest) := by
  intro H locs ls hP hD hS hl
  have hlt : i.toNatClampNeg < n := Nat.not_le.mp fun z => hin (Or.inr z)
  refine W.aald (v := .ref q) (ty := .array ty) X.1 X.2.1 (hP q0 _ ha) ((X.2.2.2.2.2.1.2 t0 _ ht).1 n (fun j => va_rf (f j))) rfl (fun z => by cases z) (by show ¬ (i < 0 ∨ (arrV _ _ _).slots.size ≤ _); rw [arrV_size]; exact hin) (by show (arrV _ _ _).slots[_]? = _; rw [arrV_read _ _ hlt, hq]; rfl) rfl rfl hdg (kk H locs ls hP hD hS hl)
end WWmore
end
